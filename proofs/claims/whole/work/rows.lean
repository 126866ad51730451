section
-- ===== PART A: goes FIRST, ahead of the names: the tables' words, and 'selects' of the private methods out of them =====
/-- a private method of a class that the tables say can be made, by its rows of tables_1 -/
def lw_okq (q : MethodName × Nat) : Prop := (q.1.cls ≠ "java/lang/invoke/MethodHandle" ∧ q.1.cls ≠ "java/lang/invoke/VarHandle") ∧ Cond.instantiable q.1.cls q.2 ∈ tables_1 ∧ Cond.privateMethod q.1 ∈ tables_1 ∧ Cond.instanceMethod q.1 ∈ tables_1
theorem lw_p0 : lw_okq (⟨"HeroSheet", "refused", "(I)I"⟩, 16) := ⟨⟨by decide +kernel, by decide +kernel⟩, List.mem_of_getElem? (i := 19) (by decide +kernel), List.mem_of_getElem? (i := 288) (by decide +kernel), List.mem_of_getElem? (i := 289) (by decide +kernel)⟩
theorem lw_p1 : lw_okq (⟨"HeroSheet$Reckoning", "plannedWith", "(LHeroSheet$State;II)I"⟩, 15) := ⟨⟨by decide +kernel, by decide +kernel⟩, List.mem_of_getElem? (i := 116) (by decide +kernel), List.mem_of_getElem? (i := 310) (by decide +kernel), List.mem_of_getElem? (i := 311) (by decide +kernel)⟩
theorem lw_p2 : lw_okq (⟨"HeroSheet", "done", "(I)I"⟩, 16) := ⟨⟨by decide +kernel, by decide +kernel⟩, List.mem_of_getElem? (i := 19) (by decide +kernel), List.mem_of_getElem? (i := 314) (by decide +kernel), List.mem_of_getElem? (i := 315) (by decide +kernel)⟩
theorem lw_p3 : lw_okq (⟨"HeroSheet", "isValue", "(I)Z"⟩, 16) := ⟨⟨by decide +kernel, by decide +kernel⟩, List.mem_of_getElem? (i := 19) (by decide +kernel), List.mem_of_getElem? (i := 336) (by decide +kernel), List.mem_of_getElem? (i := 337) (by decide +kernel)⟩
theorem lw_p4 : lw_okq (⟨"HeroSheet", "canBeRule", "(IIIII)Z"⟩, 16) := ⟨⟨by decide +kernel, by decide +kernel⟩, List.mem_of_getElem? (i := 19) (by decide +kernel), List.mem_of_getElem? (i := 344) (by decide +kernel), List.mem_of_getElem? (i := 345) (by decide +kernel)⟩
theorem lw_p5 : lw_okq (⟨"HeroSheet", "ruleOrNull", "(I)LHeroSheet$Rule;"⟩, 16) := ⟨⟨by decide +kernel, by decide +kernel⟩, List.mem_of_getElem? (i := 19) (by decide +kernel), List.mem_of_getElem? (i := 348) (by decide +kernel), List.mem_of_getElem? (i := 349) (by decide +kernel)⟩
theorem lw_p6 : lw_okq (⟨"HeroSheet", "isFactorOfValue", "(I)Z"⟩, 16) := ⟨⟨by decide +kernel, by decide +kernel⟩, List.mem_of_getElem? (i := 19) (by decide +kernel), List.mem_of_getElem? (i := 356) (by decide +kernel), List.mem_of_getElem? (i := 357) (by decide +kernel)⟩
theorem lw_p7 : lw_okq (⟨"HeroSheet", "ruleOf", "(IIIII)LHeroSheet$Rule;"⟩, 16) := ⟨⟨by decide +kernel, by decide +kernel⟩, List.mem_of_getElem? (i := 19) (by decide +kernel), List.mem_of_getElem? (i := 360) (by decide +kernel), List.mem_of_getElem? (i := 361) (by decide +kernel)⟩
theorem lw_p8 : lw_okq (⟨"HeroSheet", "entered", "(LHeroSheet$Rule;)I"⟩, 16) := ⟨⟨by decide +kernel, by decide +kernel⟩, List.mem_of_getElem? (i := 19) (by decide +kernel), List.mem_of_getElem? (i := 514) (by decide +kernel), List.mem_of_getElem? (i := 515) (by decide +kernel)⟩
theorem lw_p9 : lw_okq (⟨"HeroSheet", "closesRing", "(II)Z"⟩, 16) := ⟨⟨by decide +kernel, by decide +kernel⟩, List.mem_of_getElem? (i := 19) (by decide +kernel), List.mem_of_getElem? (i := 530) (by decide +kernel), List.mem_of_getElem? (i := 531) (by decide +kernel)⟩
theorem lw_p10 : lw_okq (⟨"HeroSheet", "keepRing", "(III)V"⟩, 16) := ⟨⟨by decide +kernel, by decide +kernel⟩, List.mem_of_getElem? (i := 19) (by decide +kernel), List.mem_of_getElem? (i := 534) (by decide +kernel), List.mem_of_getElem? (i := 535) (by decide +kernel)⟩
theorem lw_p11 : lw_okq (⟨"HeroSheet$State", "addNeeds", "(II)V"⟩, 17) := ⟨⟨by decide +kernel, by decide +kernel⟩, List.mem_of_getElem? (i := 27) (by decide +kernel), List.mem_of_getElem? (i := 553) (by decide +kernel), List.mem_of_getElem? (i := 554) (by decide +kernel)⟩
theorem lw_p12 : lw_okq (⟨"HeroSheet", "isOfKind", "(II)Z"⟩, 16) := ⟨⟨by decide +kernel, by decide +kernel⟩, List.mem_of_getElem? (i := 19) (by decide +kernel), List.mem_of_getElem? (i := 616) (by decide +kernel), List.mem_of_getElem? (i := 617) (by decide +kernel)⟩
theorem lw_p13 : lw_okq (⟨"HeroSheet", "numberNow", "(I)J"⟩, 16) := ⟨⟨by decide +kernel, by decide +kernel⟩, List.mem_of_getElem? (i := 19) (by decide +kernel), List.mem_of_getElem? (i := 620) (by decide +kernel), List.mem_of_getElem? (i := 621) (by decide +kernel)⟩
theorem lw_p14 : lw_okq (⟨"HeroSheet$Book", "write", "(I)V"⟩, 10) := ⟨⟨by decide +kernel, by decide +kernel⟩, List.mem_of_getElem? (i := 110) (by decide +kernel), List.mem_of_getElem? (i := 628) (by decide +kernel), List.mem_of_getElem? (i := 629) (by decide +kernel)⟩
theorem lw_p15 : lw_okq (⟨"HeroSheet$Reckoning", "thereOn", "(LHeroSheet$State;I)I"⟩, 15) := ⟨⟨by decide +kernel, by decide +kernel⟩, List.mem_of_getElem? (i := 116) (by decide +kernel), List.mem_of_getElem? (i := 636) (by decide +kernel), List.mem_of_getElem? (i := 637) (by decide +kernel)⟩
def lw_privs_1 : List (MethodName × Nat) := [(⟨"HeroSheet", "refused", "(I)I"⟩, 16), (⟨"HeroSheet$Reckoning", "plannedWith", "(LHeroSheet$State;II)I"⟩, 15), (⟨"HeroSheet", "done", "(I)I"⟩, 16), (⟨"HeroSheet", "isValue", "(I)Z"⟩, 16), (⟨"HeroSheet", "canBeRule", "(IIIII)Z"⟩, 16), (⟨"HeroSheet", "ruleOrNull", "(I)LHeroSheet$Rule;"⟩, 16), (⟨"HeroSheet", "isFactorOfValue", "(I)Z"⟩, 16), (⟨"HeroSheet", "ruleOf", "(IIIII)LHeroSheet$Rule;"⟩, 16), (⟨"HeroSheet", "entered", "(LHeroSheet$Rule;)I"⟩, 16), (⟨"HeroSheet", "closesRing", "(II)Z"⟩, 16), (⟨"HeroSheet", "keepRing", "(III)V"⟩, 16), (⟨"HeroSheet$State", "addNeeds", "(II)V"⟩, 17), (⟨"HeroSheet", "isOfKind", "(II)Z"⟩, 16), (⟨"HeroSheet", "numberNow", "(I)J"⟩, 16), (⟨"HeroSheet$Book", "write", "(I)V"⟩, 10), (⟨"HeroSheet$Reckoning", "thereOn", "(LHeroSheet$State;I)I"⟩, 15)]
theorem lw_r1 : ∀ q ∈ lw_privs_1, lw_okq q := List.forall_mem_cons.mpr ⟨lw_p0, List.forall_mem_cons.mpr ⟨lw_p1, List.forall_mem_cons.mpr ⟨lw_p2, List.forall_mem_cons.mpr ⟨lw_p3, List.forall_mem_cons.mpr ⟨lw_p4, List.forall_mem_cons.mpr ⟨lw_p5, List.forall_mem_cons.mpr ⟨lw_p6, List.forall_mem_cons.mpr ⟨lw_p7, List.forall_mem_cons.mpr ⟨lw_p8, List.forall_mem_cons.mpr ⟨lw_p9, List.forall_mem_cons.mpr ⟨lw_p10, List.forall_mem_cons.mpr ⟨lw_p11, List.forall_mem_cons.mpr ⟨lw_p12, List.forall_mem_cons.mpr ⟨lw_p13, List.forall_mem_cons.mpr ⟨lw_p14, List.forall_mem_cons.mpr ⟨lw_p15, fun _ h => absurd h List.not_mem_nil⟩⟩⟩⟩⟩⟩⟩⟩⟩⟩⟩⟩⟩⟩⟩⟩
theorem lw_p16 : lw_okq (⟨"HeroSheet$Reckoning", "gather", "(LHeroSheet$State;III)V"⟩, 15) := ⟨⟨by decide +kernel, by decide +kernel⟩, List.mem_of_getElem? (i := 116) (by decide +kernel), List.mem_of_getElem? (i := 645) (by decide +kernel), List.mem_of_getElem? (i := 646) (by decide +kernel)⟩
theorem lw_p17 : lw_okq (⟨"HeroSheet$Reckoning", "baseOrSet", "(LHeroSheet$State;I)J"⟩, 15) := ⟨⟨by decide +kernel, by decide +kernel⟩, List.mem_of_getElem? (i := 116) (by decide +kernel), List.mem_of_getElem? (i := 661) (by decide +kernel), List.mem_of_getElem? (i := 662) (by decide +kernel)⟩
theorem lw_p18 : lw_okq (⟨"HeroSheet$Reckoning", "beat", "(III)V"⟩, 15) := ⟨⟨by decide +kernel, by decide +kernel⟩, List.mem_of_getElem? (i := 116) (by decide +kernel), List.mem_of_getElem? (i := 665) (by decide +kernel), List.mem_of_getElem? (i := 666) (by decide +kernel)⟩
theorem lw_p19 : lw_okq (⟨"HeroSheet$Reckoning", "markTwice", "()V"⟩, 15) := ⟨⟨by decide +kernel, by decide +kernel⟩, List.mem_of_getElem? (i := 116) (by decide +kernel), List.mem_of_getElem? (i := 669) (by decide +kernel), List.mem_of_getElem? (i := 670) (by decide +kernel)⟩
theorem lw_p20 : lw_okq (⟨"HeroSheet$Reckoning", "beatTyped", "(LHeroSheet$State;)V"⟩, 15) := ⟨⟨by decide +kernel, by decide +kernel⟩, List.mem_of_getElem? (i := 116) (by decide +kernel), List.mem_of_getElem? (i := 676) (by decide +kernel), List.mem_of_getElem? (i := 677) (by decide +kernel)⟩
theorem lw_p21 : lw_okq (⟨"HeroSheet$Reckoning", "compare", "(LHeroSheet$Typed;)V"⟩, 15) := ⟨⟨by decide +kernel, by decide +kernel⟩, List.mem_of_getElem? (i := 116) (by decide +kernel), List.mem_of_getElem? (i := 681) (by decide +kernel), List.mem_of_getElem? (i := 682) (by decide +kernel)⟩
theorem lw_p22 : lw_okq (⟨"HeroSheet$Reckoning", "bestLike", "(LHeroSheet$Typed;)I"⟩, 15) := ⟨⟨by decide +kernel, by decide +kernel⟩, List.mem_of_getElem? (i := 116) (by decide +kernel), List.mem_of_getElem? (i := 685) (by decide +kernel), List.mem_of_getElem? (i := 686) (by decide +kernel)⟩
theorem lw_p23 : lw_okq (⟨"HeroSheet$Reckoning", "boons", "()J"⟩, 15) := ⟨⟨by decide +kernel, by decide +kernel⟩, List.mem_of_getElem? (i := 116) (by decide +kernel), List.mem_of_getElem? (i := 689) (by decide +kernel), List.mem_of_getElem? (i := 690) (by decide +kernel)⟩
theorem lw_p24 : lw_okq (⟨"HeroSheet$Reckoning", "capped", "(J)J"⟩, 15) := ⟨⟨by decide +kernel, by decide +kernel⟩, List.mem_of_getElem? (i := 116) (by decide +kernel), List.mem_of_getElem? (i := 697) (by decide +kernel), List.mem_of_getElem? (i := 698) (by decide +kernel)⟩
theorem lw_p25 : lw_okq (⟨"HeroSheet$Reckoning", "openedOn", "(LHeroSheet$State;I)I"⟩, 15) := ⟨⟨by decide +kernel, by decide +kernel⟩, List.mem_of_getElem? (i := 116) (by decide +kernel), List.mem_of_getElem? (i := 708) (by decide +kernel), List.mem_of_getElem? (i := 709) (by decide +kernel)⟩
theorem lw_p26 : lw_okq (⟨"HeroSheet", "reckonedNow", "()LHeroSheet$Reckoning;"⟩, 16) := ⟨⟨by decide +kernel, by decide +kernel⟩, List.mem_of_getElem? (i := 19) (by decide +kernel), List.mem_of_getElem? (i := 745) (by decide +kernel), List.mem_of_getElem? (i := 746) (by decide +kernel)⟩
theorem lw_p27 : lw_okq (⟨"HeroSheet", "madeOr", "(I)I"⟩, 16) := ⟨⟨by decide +kernel, by decide +kernel⟩, List.mem_of_getElem? (i := 19) (by decide +kernel), List.mem_of_getElem? (i := 764) (by decide +kernel), List.mem_of_getElem? (i := 765) (by decide +kernel)⟩
theorem lw_p28 : lw_okq (⟨"HeroSheet$Book", "joinFront", "(JJ)V"⟩, 10) := ⟨⟨by decide +kernel, by decide +kernel⟩, List.mem_of_getElem? (i := 110) (by decide +kernel), List.mem_of_getElem? (i := 838) (by decide +kernel), List.mem_of_getElem? (i := 839) (by decide +kernel)⟩
theorem lw_p29 : lw_okq (⟨"HeroSheet$Book", "leastStep", "(II)I"⟩, 10) := ⟨⟨by decide +kernel, by decide +kernel⟩, List.mem_of_getElem? (i := 110) (by decide +kernel), List.mem_of_getElem? (i := 850) (by decide +kernel), List.mem_of_getElem? (i := 851) (by decide +kernel)⟩
theorem lw_p30 : lw_okq (⟨"HeroSheet", "countWays", "(II)J"⟩, 16) := ⟨⟨by decide +kernel, by decide +kernel⟩, List.mem_of_getElem? (i := 19) (by decide +kernel), List.mem_of_getElem? (i := 867) (by decide +kernel), List.mem_of_getElem? (i := 868) (by decide +kernel)⟩
theorem lw_p31 : lw_okq (⟨"HeroSheet", "waysOfOneMore", "(II)J"⟩, 16) := ⟨⟨by decide +kernel, by decide +kernel⟩, List.mem_of_getElem? (i := 19) (by decide +kernel), List.mem_of_getElem? (i := 874) (by decide +kernel), List.mem_of_getElem? (i := 875) (by decide +kernel)⟩
def lw_privs_2 : List (MethodName × Nat) := [(⟨"HeroSheet$Reckoning", "gather", "(LHeroSheet$State;III)V"⟩, 15), (⟨"HeroSheet$Reckoning", "baseOrSet", "(LHeroSheet$State;I)J"⟩, 15), (⟨"HeroSheet$Reckoning", "beat", "(III)V"⟩, 15), (⟨"HeroSheet$Reckoning", "markTwice", "()V"⟩, 15), (⟨"HeroSheet$Reckoning", "beatTyped", "(LHeroSheet$State;)V"⟩, 15), (⟨"HeroSheet$Reckoning", "compare", "(LHeroSheet$Typed;)V"⟩, 15), (⟨"HeroSheet$Reckoning", "bestLike", "(LHeroSheet$Typed;)I"⟩, 15), (⟨"HeroSheet$Reckoning", "boons", "()J"⟩, 15), (⟨"HeroSheet$Reckoning", "capped", "(J)J"⟩, 15), (⟨"HeroSheet$Reckoning", "openedOn", "(LHeroSheet$State;I)I"⟩, 15), (⟨"HeroSheet", "reckonedNow", "()LHeroSheet$Reckoning;"⟩, 16), (⟨"HeroSheet", "madeOr", "(I)I"⟩, 16), (⟨"HeroSheet$Book", "joinFront", "(JJ)V"⟩, 10), (⟨"HeroSheet$Book", "leastStep", "(II)I"⟩, 10), (⟨"HeroSheet", "countWays", "(II)J"⟩, 16), (⟨"HeroSheet", "waysOfOneMore", "(II)J"⟩, 16)]
theorem lw_r2 : ∀ q ∈ lw_privs_2, lw_okq q := List.forall_mem_cons.mpr ⟨lw_p16, List.forall_mem_cons.mpr ⟨lw_p17, List.forall_mem_cons.mpr ⟨lw_p18, List.forall_mem_cons.mpr ⟨lw_p19, List.forall_mem_cons.mpr ⟨lw_p20, List.forall_mem_cons.mpr ⟨lw_p21, List.forall_mem_cons.mpr ⟨lw_p22, List.forall_mem_cons.mpr ⟨lw_p23, List.forall_mem_cons.mpr ⟨lw_p24, List.forall_mem_cons.mpr ⟨lw_p25, List.forall_mem_cons.mpr ⟨lw_p26, List.forall_mem_cons.mpr ⟨lw_p27, List.forall_mem_cons.mpr ⟨lw_p28, List.forall_mem_cons.mpr ⟨lw_p29, List.forall_mem_cons.mpr ⟨lw_p30, List.forall_mem_cons.mpr ⟨lw_p31, fun _ h => absurd h List.not_mem_nil⟩⟩⟩⟩⟩⟩⟩⟩⟩⟩⟩⟩⟩⟩⟩⟩
theorem lw_p32 : lw_okq (⟨"HeroSheet", "waysToReach", "(IJ)J"⟩, 16) := ⟨⟨by decide +kernel, by decide +kernel⟩, List.mem_of_getElem? (i := 19) (by decide +kernel), List.mem_of_getElem? (i := 878) (by decide +kernel), List.mem_of_getElem? (i := 879) (by decide +kernel)⟩
theorem lw_p33 : lw_okq (⟨"HeroSheet", "takenForKind", "(LHeroSheet$Rule;I)I"⟩, 16) := ⟨⟨by decide +kernel, by decide +kernel⟩, List.mem_of_getElem? (i := 19) (by decide +kernel), List.mem_of_getElem? (i := 1018) (by decide +kernel), List.mem_of_getElem? (i := 1019) (by decide +kernel)⟩
theorem lw_p34 : lw_okq (⟨"HeroSheet", "readFromShorts", "(II)I"⟩, 16) := ⟨⟨by decide +kernel, by decide +kernel⟩, List.mem_of_getElem? (i := 19) (by decide +kernel), List.mem_of_getElem? (i := 1022) (by decide +kernel), List.mem_of_getElem? (i := 1023) (by decide +kernel)⟩
theorem lw_p35 : lw_okq (⟨"HeroSheet", "copiedFromBytes", "(II)I"⟩, 16) := ⟨⟨by decide +kernel, by decide +kernel⟩, List.mem_of_getElem? (i := 19) (by decide +kernel), List.mem_of_getElem? (i := 1026) (by decide +kernel), List.mem_of_getElem? (i := 1027) (by decide +kernel)⟩
theorem lw_p36 : lw_okq (⟨"HeroSheet", "putAmongOpens", "(LHeroSheet$Rule;)I"⟩, 16) := ⟨⟨by decide +kernel, by decide +kernel⟩, List.mem_of_getElem? (i := 19) (by decide +kernel), List.mem_of_getElem? (i := 1030) (by decide +kernel), List.mem_of_getElem? (i := 1031) (by decide +kernel)⟩
theorem lw_p37 : lw_okq (⟨"HeroSheetModel", "refused", "(I)I"⟩, 51) := ⟨⟨by decide +kernel, by decide +kernel⟩, List.mem_of_getElem? (i := 1038) (by decide +kernel), List.mem_of_getElem? (i := 1211) (by decide +kernel), List.mem_of_getElem? (i := 1212) (by decide +kernel)⟩
theorem lw_p38 : lw_okq (⟨"HeroSheetModel", "done", "(I)I"⟩, 51) := ⟨⟨by decide +kernel, by decide +kernel⟩, List.mem_of_getElem? (i := 1038) (by decide +kernel), List.mem_of_getElem? (i := 1215) (by decide +kernel), List.mem_of_getElem? (i := 1216) (by decide +kernel)⟩
theorem lw_p39 : lw_okq (⟨"HeroSheetModel", "isValue", "(I)Z"⟩, 51) := ⟨⟨by decide +kernel, by decide +kernel⟩, List.mem_of_getElem? (i := 1038) (by decide +kernel), List.mem_of_getElem? (i := 1234) (by decide +kernel), List.mem_of_getElem? (i := 1235) (by decide +kernel)⟩
theorem lw_p40 : lw_okq (⟨"HeroSheetModel", "adds", "(IIIIIII)I"⟩, 51) := ⟨⟨by decide +kernel, by decide +kernel⟩, List.mem_of_getElem? (i := 1038) (by decide +kernel), List.mem_of_getElem? (i := 1245) (by decide +kernel), List.mem_of_getElem? (i := 1246) (by decide +kernel)⟩
theorem lw_p41 : lw_okq (⟨"HeroSheetModel", "isRule", "(I)Z"⟩, 51) := ⟨⟨by decide +kernel, by decide +kernel⟩, List.mem_of_getElem? (i := 1038) (by decide +kernel), List.mem_of_getElem? (i := 1251) (by decide +kernel), List.mem_of_getElem? (i := 1252) (by decide +kernel)⟩
theorem lw_p42 : lw_okq (⟨"HeroSheetModel", "isRing", "(II)Z"⟩, 51) := ⟨⟨by decide +kernel, by decide +kernel⟩, List.mem_of_getElem? (i := 1038) (by decide +kernel), List.mem_of_getElem? (i := 1255) (by decide +kernel), List.mem_of_getElem? (i := 1256) (by decide +kernel)⟩
theorem lw_p43 : lw_okq (⟨"HeroSheetModel", "findNeeds", "()V"⟩, 51) := ⟨⟨by decide +kernel, by decide +kernel⟩, List.mem_of_getElem? (i := 1038) (by decide +kernel), List.mem_of_getElem? (i := 1259) (by decide +kernel), List.mem_of_getElem? (i := 1260) (by decide +kernel)⟩
theorem lw_p44 : lw_okq (⟨"HeroSheetModel", "lay", "()V"⟩, 51) := ⟨⟨by decide +kernel, by decide +kernel⟩, List.mem_of_getElem? (i := 1038) (by decide +kernel), List.mem_of_getElem? (i := 1299) (by decide +kernel), List.mem_of_getElem? (i := 1300) (by decide +kernel)⟩
theorem lw_p45 : lw_okq (⟨"HeroSheetModel", "lays", "(I)V"⟩, 51) := ⟨⟨by decide +kernel, by decide +kernel⟩, List.mem_of_getElem? (i := 1038) (by decide +kernel), List.mem_of_getElem? (i := 1303) (by decide +kernel), List.mem_of_getElem? (i := 1304) (by decide +kernel)⟩
theorem lw_p46 : lw_okq (⟨"HeroSheetModel", "findThere", "()V"⟩, 51) := ⟨⟨by decide +kernel, by decide +kernel⟩, List.mem_of_getElem? (i := 1038) (by decide +kernel), List.mem_of_getElem? (i := 1307) (by decide +kernel), List.mem_of_getElem? (i := 1308) (by decide +kernel)⟩
theorem lw_p47 : lw_okq (⟨"HeroSheetModel", "isThere", "(I)Z"⟩, 51) := ⟨⟨by decide +kernel, by decide +kernel⟩, List.mem_of_getElem? (i := 1038) (by decide +kernel), List.mem_of_getElem? (i := 1311) (by decide +kernel), List.mem_of_getElem? (i := 1312) (by decide +kernel)⟩
def lw_privs_3 : List (MethodName × Nat) := [(⟨"HeroSheet", "waysToReach", "(IJ)J"⟩, 16), (⟨"HeroSheet", "takenForKind", "(LHeroSheet$Rule;I)I"⟩, 16), (⟨"HeroSheet", "readFromShorts", "(II)I"⟩, 16), (⟨"HeroSheet", "copiedFromBytes", "(II)I"⟩, 16), (⟨"HeroSheet", "putAmongOpens", "(LHeroSheet$Rule;)I"⟩, 16), (⟨"HeroSheetModel", "refused", "(I)I"⟩, 51), (⟨"HeroSheetModel", "done", "(I)I"⟩, 51), (⟨"HeroSheetModel", "isValue", "(I)Z"⟩, 51), (⟨"HeroSheetModel", "adds", "(IIIIIII)I"⟩, 51), (⟨"HeroSheetModel", "isRule", "(I)Z"⟩, 51), (⟨"HeroSheetModel", "isRing", "(II)Z"⟩, 51), (⟨"HeroSheetModel", "findNeeds", "()V"⟩, 51), (⟨"HeroSheetModel", "lay", "()V"⟩, 51), (⟨"HeroSheetModel", "lays", "(I)V"⟩, 51), (⟨"HeroSheetModel", "findThere", "()V"⟩, 51), (⟨"HeroSheetModel", "isThere", "(I)Z"⟩, 51)]
theorem lw_r3 : ∀ q ∈ lw_privs_3, lw_okq q := List.forall_mem_cons.mpr ⟨lw_p32, List.forall_mem_cons.mpr ⟨lw_p33, List.forall_mem_cons.mpr ⟨lw_p34, List.forall_mem_cons.mpr ⟨lw_p35, List.forall_mem_cons.mpr ⟨lw_p36, List.forall_mem_cons.mpr ⟨lw_p37, List.forall_mem_cons.mpr ⟨lw_p38, List.forall_mem_cons.mpr ⟨lw_p39, List.forall_mem_cons.mpr ⟨lw_p40, List.forall_mem_cons.mpr ⟨lw_p41, List.forall_mem_cons.mpr ⟨lw_p42, List.forall_mem_cons.mpr ⟨lw_p43, List.forall_mem_cons.mpr ⟨lw_p44, List.forall_mem_cons.mpr ⟨lw_p45, List.forall_mem_cons.mpr ⟨lw_p46, List.forall_mem_cons.mpr ⟨lw_p47, fun _ h => absurd h List.not_mem_nil⟩⟩⟩⟩⟩⟩⟩⟩⟩⟩⟩⟩⟩⟩⟩⟩
theorem lw_p48 : lw_okq (⟨"HeroSheetModel", "holds", "(I)Z"⟩, 51) := ⟨⟨by decide +kernel, by decide +kernel⟩, List.mem_of_getElem? (i := 1038) (by decide +kernel), List.mem_of_getElem? (i := 1315) (by decide +kernel), List.mem_of_getElem? (i := 1316) (by decide +kernel)⟩
theorem lw_p49 : lw_okq (⟨"HeroSheetModel", "work", "(I)V"⟩, 51) := ⟨⟨by decide +kernel, by decide +kernel⟩, List.mem_of_getElem? (i := 1038) (by decide +kernel), List.mem_of_getElem? (i := 1319) (by decide +kernel), List.mem_of_getElem? (i := 1320) (by decide +kernel)⟩
theorem lw_p50 : lw_okq (⟨"HeroSheetModel", "based", "(I)J"⟩, 51) := ⟨⟨by decide +kernel, by decide +kernel⟩, List.mem_of_getElem? (i := 1038) (by decide +kernel), List.mem_of_getElem? (i := 1323) (by decide +kernel), List.mem_of_getElem? (i := 1324) (by decide +kernel)⟩
theorem lw_p51 : lw_okq (⟨"HeroSheetModel", "works", "(III)Z"⟩, 51) := ⟨⟨by decide +kernel, by decide +kernel⟩, List.mem_of_getElem? (i := 1038) (by decide +kernel), List.mem_of_getElem? (i := 1327) (by decide +kernel), List.mem_of_getElem? (i := 1328) (by decide +kernel)⟩
theorem lw_p52 : lw_okq (⟨"HeroSheetModel", "amountOf", "(I)J"⟩, 51) := ⟨⟨by decide +kernel, by decide +kernel⟩, List.mem_of_getElem? (i := 1038) (by decide +kernel), List.mem_of_getElem? (i := 1331) (by decide +kernel), List.mem_of_getElem? (i := 1332) (by decide +kernel)⟩
theorem lw_p53 : lw_okq (⟨"HeroSheetModel", "added", "(I)J"⟩, 51) := ⟨⟨by decide +kernel, by decide +kernel⟩, List.mem_of_getElem? (i := 1038) (by decide +kernel), List.mem_of_getElem? (i := 1335) (by decide +kernel), List.mem_of_getElem? (i := 1336) (by decide +kernel)⟩
theorem lw_p54 : lw_okq (⟨"HeroSheetModel", "adds", "(II)Z"⟩, 51) := ⟨⟨by decide +kernel, by decide +kernel⟩, List.mem_of_getElem? (i := 1038) (by decide +kernel), List.mem_of_getElem? (i := 1339) (by decide +kernel), List.mem_of_getElem? (i := 1340) (by decide +kernel)⟩
theorem lw_p55 : lw_okq (⟨"HeroSheetModel", "firstOf", "(II)I"⟩, 51) := ⟨⟨by decide +kernel, by decide +kernel⟩, List.mem_of_getElem? (i := 1038) (by decide +kernel), List.mem_of_getElem? (i := 1343) (by decide +kernel), List.mem_of_getElem? (i := 1344) (by decide +kernel)⟩
theorem lw_p56 : lw_okq (⟨"HeroSheetModel", "bestOf", "(III)I"⟩, 51) := ⟨⟨by decide +kernel, by decide +kernel⟩, List.mem_of_getElem? (i := 1038) (by decide +kernel), List.mem_of_getElem? (i := 1347) (by decide +kernel), List.mem_of_getElem? (i := 1348) (by decide +kernel)⟩
theorem lw_p57 : lw_okq (⟨"HeroSheetModel", "counts", "(II)Z"⟩, 51) := ⟨⟨by decide +kernel, by decide +kernel⟩, List.mem_of_getElem? (i := 1038) (by decide +kernel), List.mem_of_getElem? (i := 1351) (by decide +kernel), List.mem_of_getElem? (i := 1352) (by decide +kernel)⟩
theorem lw_p58 : lw_okq (⟨"HeroSheetModel", "capped", "(IJ)J"⟩, 51) := ⟨⟨by decide +kernel, by decide +kernel⟩, List.mem_of_getElem? (i := 1038) (by decide +kernel), List.mem_of_getElem? (i := 1355) (by decide +kernel), List.mem_of_getElem? (i := 1356) (by decide +kernel)⟩
theorem lw_p59 : lw_okq (⟨"HeroSheetModel", "opens", "(I)Z"⟩, 51) := ⟨⟨by decide +kernel, by decide +kernel⟩, List.mem_of_getElem? (i := 1038) (by decide +kernel), List.mem_of_getElem? (i := 1359) (by decide +kernel), List.mem_of_getElem? (i := 1360) (by decide +kernel)⟩
theorem lw_p60 : lw_okq (⟨"HeroSheetModel", "movesAll", "(Z)V"⟩, 51) := ⟨⟨by decide +kernel, by decide +kernel⟩, List.mem_of_getElem? (i := 1038) (by decide +kernel), List.mem_of_getElem? (i := 1371) (by decide +kernel), List.mem_of_getElem? (i := 1372) (by decide +kernel)⟩
theorem lw_p61 : lw_okq (⟨"HeroSheetModel", "moves", "([IIZ)V"⟩, 51) := ⟨⟨by decide +kernel, by decide +kernel⟩, List.mem_of_getElem? (i := 1038) (by decide +kernel), List.mem_of_getElem? (i := 1375) (by decide +kernel), List.mem_of_getElem? (i := 1376) (by decide +kernel)⟩
theorem lw_p62 : lw_okq (⟨"HeroSheetModel", "layNow", "()V"⟩, 51) := ⟨⟨by decide +kernel, by decide +kernel⟩, List.mem_of_getElem? (i := 1038) (by decide +kernel), List.mem_of_getElem? (i := 1387) (by decide +kernel), List.mem_of_getElem? (i := 1388) (by decide +kernel)⟩
theorem lw_p63 : lw_okq (⟨"HeroSheetModel", "isSet", "(I)Z"⟩, 51) := ⟨⟨by decide +kernel, by decide +kernel⟩, List.mem_of_getElem? (i := 1038) (by decide +kernel), List.mem_of_getElem? (i := 1395) (by decide +kernel), List.mem_of_getElem? (i := 1396) (by decide +kernel)⟩
def lw_privs_4 : List (MethodName × Nat) := [(⟨"HeroSheetModel", "holds", "(I)Z"⟩, 51), (⟨"HeroSheetModel", "work", "(I)V"⟩, 51), (⟨"HeroSheetModel", "based", "(I)J"⟩, 51), (⟨"HeroSheetModel", "works", "(III)Z"⟩, 51), (⟨"HeroSheetModel", "amountOf", "(I)J"⟩, 51), (⟨"HeroSheetModel", "added", "(I)J"⟩, 51), (⟨"HeroSheetModel", "adds", "(II)Z"⟩, 51), (⟨"HeroSheetModel", "firstOf", "(II)I"⟩, 51), (⟨"HeroSheetModel", "bestOf", "(III)I"⟩, 51), (⟨"HeroSheetModel", "counts", "(II)Z"⟩, 51), (⟨"HeroSheetModel", "capped", "(IJ)J"⟩, 51), (⟨"HeroSheetModel", "opens", "(I)Z"⟩, 51), (⟨"HeroSheetModel", "movesAll", "(Z)V"⟩, 51), (⟨"HeroSheetModel", "moves", "([IIZ)V"⟩, 51), (⟨"HeroSheetModel", "layNow", "()V"⟩, 51), (⟨"HeroSheetModel", "isSet", "(I)Z"⟩, 51)]
theorem lw_r4 : ∀ q ∈ lw_privs_4, lw_okq q := List.forall_mem_cons.mpr ⟨lw_p48, List.forall_mem_cons.mpr ⟨lw_p49, List.forall_mem_cons.mpr ⟨lw_p50, List.forall_mem_cons.mpr ⟨lw_p51, List.forall_mem_cons.mpr ⟨lw_p52, List.forall_mem_cons.mpr ⟨lw_p53, List.forall_mem_cons.mpr ⟨lw_p54, List.forall_mem_cons.mpr ⟨lw_p55, List.forall_mem_cons.mpr ⟨lw_p56, List.forall_mem_cons.mpr ⟨lw_p57, List.forall_mem_cons.mpr ⟨lw_p58, List.forall_mem_cons.mpr ⟨lw_p59, List.forall_mem_cons.mpr ⟨lw_p60, List.forall_mem_cons.mpr ⟨lw_p61, List.forall_mem_cons.mpr ⟨lw_p62, List.forall_mem_cons.mpr ⟨lw_p63, fun _ h => absurd h List.not_mem_nil⟩⟩⟩⟩⟩⟩⟩⟩⟩⟩⟩⟩⟩⟩⟩⟩
theorem lw_p64 : lw_okq (⟨"HeroSheetModel", "best", "(IIIZ)I"⟩, 51) := ⟨⟨by decide +kernel, by decide +kernel⟩, List.mem_of_getElem? (i := 1038) (by decide +kernel), List.mem_of_getElem? (i := 1425) (by decide +kernel), List.mem_of_getElem? (i := 1426) (by decide +kernel)⟩
theorem lw_p65 : lw_okq (⟨"HeroSheetModel", "give", "(II)I"⟩, 51) := ⟨⟨by decide +kernel, by decide +kernel⟩, List.mem_of_getElem? (i := 1038) (by decide +kernel), List.mem_of_getElem? (i := 1461) (by decide +kernel), List.mem_of_getElem? (i := 1462) (by decide +kernel)⟩
theorem lw_p66 : lw_okq (⟨"HeroSheetModel", "notes", "(I)V"⟩, 51) := ⟨⟨by decide +kernel, by decide +kernel⟩, List.mem_of_getElem? (i := 1038) (by decide +kernel), List.mem_of_getElem? (i := 1465) (by decide +kernel), List.mem_of_getElem? (i := 1466) (by decide +kernel)⟩
theorem lw_p67 : lw_okq (⟨"HeroSheetModel", "plainGive", "(II)I"⟩, 51) := ⟨⟨by decide +kernel, by decide +kernel⟩, List.mem_of_getElem? (i := 1038) (by decide +kernel), List.mem_of_getElem? (i := 1469) (by decide +kernel), List.mem_of_getElem? (i := 1470) (by decide +kernel)⟩
theorem lw_p68 : lw_okq (⟨"HeroSheetModel", "fit", "(II)I"⟩, 51) := ⟨⟨by decide +kernel, by decide +kernel⟩, List.mem_of_getElem? (i := 1038) (by decide +kernel), List.mem_of_getElem? (i := 1473) (by decide +kernel), List.mem_of_getElem? (i := 1474) (by decide +kernel)⟩
theorem lw_p69 : lw_okq (⟨"HeroSheetModel", "plainFit", "(II)I"⟩, 51) := ⟨⟨by decide +kernel, by decide +kernel⟩, List.mem_of_getElem? (i := 1038) (by decide +kernel), List.mem_of_getElem? (i := 1477) (by decide +kernel), List.mem_of_getElem? (i := 1478) (by decide +kernel)⟩
theorem lw_p70 : lw_okq (⟨"HeroSheetModel", "openFit", "(II)I"⟩, 51) := ⟨⟨by decide +kernel, by decide +kernel⟩, List.mem_of_getElem? (i := 1038) (by decide +kernel), List.mem_of_getElem? (i := 1481) (by decide +kernel), List.mem_of_getElem? (i := 1482) (by decide +kernel)⟩
theorem lw_p71 : lw_okq (⟨"HeroSheetModel", "open", "(II)I"⟩, 51) := ⟨⟨by decide +kernel, by decide +kernel⟩, List.mem_of_getElem? (i := 1038) (by decide +kernel), List.mem_of_getElem? (i := 1485) (by decide +kernel), List.mem_of_getElem? (i := 1486) (by decide +kernel)⟩
theorem lw_p72 : lw_okq (⟨"HeroSheetModel", "plainOpen", "(II)I"⟩, 51) := ⟨⟨by decide +kernel, by decide +kernel⟩, List.mem_of_getElem? (i := 1038) (by decide +kernel), List.mem_of_getElem? (i := 1489) (by decide +kernel), List.mem_of_getElem? (i := 1490) (by decide +kernel)⟩
theorem lw_p73 : lw_okq (⟨"HeroSheetModel", "tell", "(II)I"⟩, 51) := ⟨⟨by decide +kernel, by decide +kernel⟩, List.mem_of_getElem? (i := 1038) (by decide +kernel), List.mem_of_getElem? (i := 1493) (by decide +kernel), List.mem_of_getElem? (i := 1494) (by decide +kernel)⟩
theorem lw_p74 : lw_okq (⟨"HeroSheetModel", "plainTell", "(II)I"⟩, 51) := ⟨⟨by decide +kernel, by decide +kernel⟩, List.mem_of_getElem? (i := 1038) (by decide +kernel), List.mem_of_getElem? (i := 1497) (by decide +kernel), List.mem_of_getElem? (i := 1498) (by decide +kernel)⟩
theorem lw_p75 : lw_okq (⟨"HeroSheetModel", "copied", "(II)I"⟩, 51) := ⟨⟨by decide +kernel, by decide +kernel⟩, List.mem_of_getElem? (i := 1038) (by decide +kernel), List.mem_of_getElem? (i := 1532) (by decide +kernel), List.mem_of_getElem? (i := 1533) (by decide +kernel)⟩
def lw_privs_5 : List (MethodName × Nat) := [(⟨"HeroSheetModel", "best", "(IIIZ)I"⟩, 51), (⟨"HeroSheetModel", "give", "(II)I"⟩, 51), (⟨"HeroSheetModel", "notes", "(I)V"⟩, 51), (⟨"HeroSheetModel", "plainGive", "(II)I"⟩, 51), (⟨"HeroSheetModel", "fit", "(II)I"⟩, 51), (⟨"HeroSheetModel", "plainFit", "(II)I"⟩, 51), (⟨"HeroSheetModel", "openFit", "(II)I"⟩, 51), (⟨"HeroSheetModel", "open", "(II)I"⟩, 51), (⟨"HeroSheetModel", "plainOpen", "(II)I"⟩, 51), (⟨"HeroSheetModel", "tell", "(II)I"⟩, 51), (⟨"HeroSheetModel", "plainTell", "(II)I"⟩, 51), (⟨"HeroSheetModel", "copied", "(II)I"⟩, 51)]
theorem lw_r5 : ∀ q ∈ lw_privs_5, lw_okq q := List.forall_mem_cons.mpr ⟨lw_p64, List.forall_mem_cons.mpr ⟨lw_p65, List.forall_mem_cons.mpr ⟨lw_p66, List.forall_mem_cons.mpr ⟨lw_p67, List.forall_mem_cons.mpr ⟨lw_p68, List.forall_mem_cons.mpr ⟨lw_p69, List.forall_mem_cons.mpr ⟨lw_p70, List.forall_mem_cons.mpr ⟨lw_p71, List.forall_mem_cons.mpr ⟨lw_p72, List.forall_mem_cons.mpr ⟨lw_p73, List.forall_mem_cons.mpr ⟨lw_p74, List.forall_mem_cons.mpr ⟨lw_p75, fun _ h => absurd h List.not_mem_nil⟩⟩⟩⟩⟩⟩⟩⟩⟩⟩⟩⟩
def lw_privs : List (MethodName × Nat) := lw_privs_1 ++ (lw_privs_2 ++ (lw_privs_3 ++ (lw_privs_4 ++ (lw_privs_5))))
def lw_tbl : List Cond := k2_sels lw_privs ++ tables_1
theorem lw_privs_ok : ∀ q ∈ lw_privs, lw_okq q := by
  show ∀ q ∈ lw_privs_1 ++ (lw_privs_2 ++ (lw_privs_3 ++ (lw_privs_4 ++ (lw_privs_5)))), lw_okq q
  exact List.forall_mem_append.mpr ⟨lw_r1, List.forall_mem_append.mpr ⟨lw_r2, List.forall_mem_append.mpr ⟨lw_r3, List.forall_mem_append.mpr ⟨lw_r4, lw_r5⟩⟩⟩⟩
end
section
def RX0 : String := "HeroSheet$Bars"
def TX0 : u_T := fun k => match k with
  | 0 => ("HeroSheet$Rule", "kind", "I", true)
  | 1 => ("HeroSheet$Rule", "number", "I", true)
  | 2 => ("HeroSheet$Rule", "test", "LHeroSheet$Test;", true)
  | 3 => ("HeroSheet$Rule", "aim", "I", true)
  | 4 => ("HeroSheet$Rule", "rank", "I", true)
  | 5 => ("HeroSheet$Rule", "source", "I", true)
  | 6 => ("HeroSheet$Rule", "writes", "I", true)
  | 7 => ("HeroSheet$Rule", "told", "I", true)
  | 8 => ("HeroSheet$Rule", "by", "I", true)
  | _ => ("HeroSheet$Rule", "factor", "I", true)
def tyX0 : Nat → FieldType := fun k => match k with
  | 0 => .int
  | 1 => .int
  | 2 => .object "HeroSheet$Test"
  | 3 => .int
  | 4 => .int
  | 5 => .int
  | 6 => .int
  | 7 => .int
  | 8 => .int
  | _ => .int
abbrev wsX00 : List Cond := u_ws RX0 TX0 10
theorem nmX0 : ∀ a, a < 10 → ∀ b, b < 10 → a ≠ b → (TX0 a).2.1 ≠ (TX0 b).2.1 := by decide +kernel
theorem tyX0_ok : ∀ k, k < 10 → parseFieldDescriptor (TX0 k).2.2.1 = some (tyX0 k) := by decide +kernel
abbrev cX0_init : ByteArray := prog_2_method_1_code
def yX0_init : MethodName := ⟨RX0, "<init>", "(ILHeroSheet$Test;II)V"⟩
abbrev cX0_give : ByteArray := prog_2_method_2_code
def yX0_give : MethodName := ⟨RX0, "give", "(I[I)I"⟩
abbrev cX0_fit : ByteArray := prog_2_method_3_code
def yX0_fit : MethodName := ⟨RX0, "fit", "(I[I)I"⟩
def RX1 : String := "HeroSheet$Book"
def TX1 : u_T := fun k => match k with
  | 0 => ("HeroSheet$Book", "state", "LHeroSheet$State;", true)
  | 1 => ("HeroSheet$Book", "reckoning", "LHeroSheet$Reckoning;", true)
  | 2 => ("HeroSheet$Book", "edition", "I", false)
  | 3 => ("HeroSheet$Book", "editions", "[I", true)
  | 4 => ("HeroSheet$Book", "opened", "[I", true)
  | 5 => ("HeroSheet$Book", "numbers", "[J", true)
  | 6 => ("HeroSheet$Book", "frontFirsts", "[J", true)
  | 7 => ("HeroSheet$Book", "frontSeconds", "[J", true)
  | 8 => ("HeroSheet$Book", "frontSize", "I", false)
  | _ => ("HeroSheet$Book", "leading", "[Z", true)
def tyX1 : Nat → FieldType := fun k => match k with
  | 0 => .object "HeroSheet$State"
  | 1 => .object "HeroSheet$Reckoning"
  | 2 => .int
  | 3 => .array .int
  | 4 => .array .int
  | 5 => .array .long
  | 6 => .array .long
  | 7 => .array .long
  | 8 => .int
  | _ => .array .boolean
abbrev wsX10 : List Cond := u_ws RX1 TX1 10
theorem nmX1 : ∀ a, a < 10 → ∀ b, b < 10 → a ≠ b → (TX1 a).2.1 ≠ (TX1 b).2.1 := by decide +kernel
theorem tyX1_ok : ∀ k, k < 10 → parseFieldDescriptor (TX1 k).2.2.1 = some (tyX1 k) := by decide +kernel
abbrev cX1_init : ByteArray := prog_3_method_1_code
def yX1_init : MethodName := ⟨RX1, "<init>", "(LHeroSheet$State;)V"⟩
abbrev cX1_forget : ByteArray := prog_3_method_2_code
def yX1_forget : MethodName := ⟨RX1, "forget", "()V"⟩
abbrev cX1_write : ByteArray := prog_3_method_3_code
def yX1_write : MethodName := ⟨RX1, "write", "(I)V"⟩
abbrev cX1_numberOn : ByteArray := prog_3_method_4_code
def yX1_numberOn : MethodName := ⟨RX1, "numberOn", "(II)J"⟩
abbrev cX1_isOpen : ByteArray := prog_3_method_5_code
def yX1_isOpen : MethodName := ⟨RX1, "isOpen", "(II)Z"⟩
abbrev cX1_isLawful : ByteArray := prog_3_method_6_code
def yX1_isLawful : MethodName := ⟨RX1, "isLawful", "(I)Z"⟩
abbrev cX1_lawfulSheets : ByteArray := prog_3_method_7_code
def yX1_lawfulSheets : MethodName := ⟨RX1, "lawfulSheets", "()I"⟩
abbrev cX1_mended : ByteArray := prog_3_method_8_code
def yX1_mended : MethodName := ⟨RX1, "mended", "(I)I"⟩
abbrev cX1_bestSheet : ByteArray := prog_3_method_9_code
def yX1_bestSheet : MethodName := ⟨RX1, "bestSheet", "(IIIZ)I"⟩
abbrev cX1_isBetter : ByteArray := prog_3_method_10_code
def yX1_isBetter : MethodName := ⟨RX1, "isBetter", "(JJZ)Z"⟩
abbrev cX1_unbettered : ByteArray := prog_3_method_11_code
def yX1_unbettered : MethodName := ⟨RX1, "unbettered", "(II)I"⟩
abbrev cX1_joinFront : ByteArray := prog_3_method_12_code
def yX1_joinFront : MethodName := ⟨RX1, "joinFront", "(JJ)V"⟩
abbrev cX1_markLeading : ByteArray := prog_3_method_13_code
def yX1_markLeading : MethodName := ⟨RX1, "markLeading", "(I)V"⟩
abbrev cX1_leastStep : ByteArray := prog_3_method_14_code
def yX1_leastStep : MethodName := ⟨RX1, "leastStep", "(II)I"⟩
abbrev cX1_stepOfWay : ByteArray := prog_3_method_15_code
def yX1_stepOfWay : MethodName := ⟨RX1, "stepOfWay", "(II)I"⟩
def RX2 : String := "HeroSheet$Cap"
def TX2 : u_T := fun k => match k with
  | 0 => ("HeroSheet$Rule", "kind", "I", true)
  | 1 => ("HeroSheet$Rule", "number", "I", true)
  | 2 => ("HeroSheet$Rule", "test", "LHeroSheet$Test;", true)
  | 3 => ("HeroSheet$Rule", "aim", "I", true)
  | 4 => ("HeroSheet$Rule", "rank", "I", true)
  | 5 => ("HeroSheet$Rule", "source", "I", true)
  | 6 => ("HeroSheet$Rule", "writes", "I", true)
  | 7 => ("HeroSheet$Rule", "told", "I", true)
  | 8 => ("HeroSheet$Rule", "by", "I", true)
  | 9 => ("HeroSheet$Rule", "factor", "I", true)
  | _ => ("HeroSheet$Cap", "atMost", "Z", true)
def tyX2 : Nat → FieldType := fun k => match k with
  | 0 => .int
  | 1 => .int
  | 2 => .object "HeroSheet$Test"
  | 3 => .int
  | 4 => .int
  | 5 => .int
  | 6 => .int
  | 7 => .int
  | 8 => .int
  | 9 => .int
  | _ => .boolean
abbrev wsX20 : List Cond := u_ws RX2 TX2 11
theorem nmX2 : ∀ a, a < 11 → ∀ b, b < 11 → a ≠ b → (TX2 a).2.1 ≠ (TX2 b).2.1 := by decide +kernel
theorem tyX2_ok : ∀ k, k < 11 → parseFieldDescriptor (TX2 k).2.2.1 = some (tyX2 k) := by decide +kernel
abbrev cX2_init : ByteArray := prog_4_method_1_code
def yX2_init : MethodName := ⟨RX2, "<init>", "(ILHeroSheet$Test;ZIIII)V"⟩
abbrev cX2_tell : ByteArray := prog_4_method_2_code
def yX2_tell : MethodName := ⟨RX2, "tell", "(I[I)I"⟩
def RX3 : String := "HeroSheet$Instead"
def TX3 : u_T := fun k => match k with
  | 0 => ("HeroSheet$Rule", "kind", "I", true)
  | 1 => ("HeroSheet$Rule", "number", "I", true)
  | 2 => ("HeroSheet$Rule", "test", "LHeroSheet$Test;", true)
  | 3 => ("HeroSheet$Rule", "aim", "I", true)
  | 4 => ("HeroSheet$Rule", "rank", "I", true)
  | 5 => ("HeroSheet$Rule", "source", "I", true)
  | 6 => ("HeroSheet$Rule", "writes", "I", true)
  | 7 => ("HeroSheet$Rule", "told", "I", true)
  | 8 => ("HeroSheet$Rule", "by", "I", true)
  | _ => ("HeroSheet$Rule", "factor", "I", true)
def tyX3 : Nat → FieldType := fun k => match k with
  | 0 => .int
  | 1 => .int
  | 2 => .object "HeroSheet$Test"
  | 3 => .int
  | 4 => .int
  | 5 => .int
  | 6 => .int
  | 7 => .int
  | 8 => .int
  | _ => .int
abbrev wsX30 : List Cond := u_ws RX3 TX3 10
theorem nmX3 : ∀ a, a < 10 → ∀ b, b < 10 → a ≠ b → (TX3 a).2.1 ≠ (TX3 b).2.1 := by decide +kernel
theorem tyX3_ok : ∀ k, k < 10 → parseFieldDescriptor (TX3 k).2.2.1 = some (tyX3 k) := by decide +kernel
abbrev cX3_init : ByteArray := prog_5_method_1_code
def yX3_init : MethodName := ⟨RX3, "<init>", "(ILHeroSheet$Test;II)V"⟩
abbrev cX3_open : ByteArray := prog_5_method_2_code
def yX3_open : MethodName := ⟨RX3, "open", "(I[I)I"⟩
def RX4 : String := "HeroSheet$Opens"
def TX4 : u_T := fun k => match k with
  | 0 => ("HeroSheet$Rule", "kind", "I", true)
  | 1 => ("HeroSheet$Rule", "number", "I", true)
  | 2 => ("HeroSheet$Rule", "test", "LHeroSheet$Test;", true)
  | 3 => ("HeroSheet$Rule", "aim", "I", true)
  | 4 => ("HeroSheet$Rule", "rank", "I", true)
  | 5 => ("HeroSheet$Rule", "source", "I", true)
  | 6 => ("HeroSheet$Rule", "writes", "I", true)
  | 7 => ("HeroSheet$Rule", "told", "I", true)
  | 8 => ("HeroSheet$Rule", "by", "I", true)
  | _ => ("HeroSheet$Rule", "factor", "I", true)
def tyX4 : Nat → FieldType := fun k => match k with
  | 0 => .int
  | 1 => .int
  | 2 => .object "HeroSheet$Test"
  | 3 => .int
  | 4 => .int
  | 5 => .int
  | 6 => .int
  | 7 => .int
  | 8 => .int
  | _ => .int
abbrev wsX40 : List Cond := u_ws RX4 TX4 10
theorem nmX4 : ∀ a, a < 10 → ∀ b, b < 10 → a ≠ b → (TX4 a).2.1 ≠ (TX4 b).2.1 := by decide +kernel
theorem tyX4_ok : ∀ k, k < 10 → parseFieldDescriptor (TX4 k).2.2.1 = some (tyX4 k) := by decide +kernel
abbrev cX4_init : ByteArray := prog_6_method_1_code
def yX4_init : MethodName := ⟨RX4, "<init>", "(IILHeroSheet$Test;II)V"⟩
abbrev cX4_open : ByteArray := prog_6_method_2_code
def yX4_open : MethodName := ⟨RX4, "open", "(I[I)I"⟩
abbrev cX4_fit : ByteArray := prog_6_method_3_code
def yX4_fit : MethodName := ⟨RX4, "fit", "(I[I)I"⟩
def RX5 : String := "HeroSheet$Reckoning"
def TX5 : u_T := fun k => match k with
  | 0 => ("HeroSheet$Reckoning", "numbers", "[J", true)
  | 1 => ("HeroSheet$Reckoning", "amounts", "[J", true)
  | 2 => ("HeroSheet$Reckoning", "hows", "[I", true)
  | 3 => ("HeroSheet$Reckoning", "beaters", "[I", true)
  | 4 => ("HeroSheet$Reckoning", "there", "I", false)
  | 5 => ("HeroSheet$Reckoning", "quarrels", "I", false)
  | 6 => ("HeroSheet$Reckoning", "opened", "I", false)
  | 7 => ("HeroSheet$Reckoning", "order", "[I", true)
  | 8 => ("HeroSheet$Reckoning", "plan", "[I", true)
  | 9 => ("HeroSheet$Reckoning", "planStarts", "[I", true)
  | 10 => ("HeroSheet$Reckoning", "holding", "[LHeroSheet$Rule;", true)
  | 11 => ("HeroSheet$Reckoning", "held", "I", false)
  | 12 => ("HeroSheet$Reckoning", "firstOfSource", "[I", true)
  | 13 => ("HeroSheet$Reckoning", "highOfType", "[I", true)
  | _ => ("HeroSheet$Reckoning", "lowOfType", "[I", true)
def tyX5 : Nat → FieldType := fun k => match k with
  | 0 => .array .long
  | 1 => .array .long
  | 2 => .array .int
  | 3 => .array .int
  | 4 => .int
  | 5 => .int
  | 6 => .int
  | 7 => .array .int
  | 8 => .array .int
  | 9 => .array .int
  | 10 => .array (.object "HeroSheet$Rule")
  | 11 => .int
  | 12 => .array .int
  | 13 => .array .int
  | _ => .array .int
abbrev wsX50 : List Cond := u_ws RX5 TX5 15
theorem nmX5 : ∀ a, a < 15 → ∀ b, b < 15 → a ≠ b → (TX5 a).2.1 ≠ (TX5 b).2.1 := by decide +kernel
theorem tyX5_ok : ∀ k, k < 15 → parseFieldDescriptor (TX5 k).2.2.1 = some (tyX5 k) := by decide +kernel
abbrev cX5_init : ByteArray := prog_7_method_1_code
def yX5_init : MethodName := ⟨RX5, "<init>", "()V"⟩
abbrev cX5_arrange : ByteArray := prog_7_method_2_code
def yX5_arrange : MethodName := ⟨RX5, "arrange", "(LHeroSheet$State;)V"⟩
abbrev cX5_plannedWith : ByteArray := prog_7_method_3_code
def yX5_plannedWith : MethodName := ⟨RX5, "plannedWith", "(LHeroSheet$State;II)I"⟩
abbrev cX5_reckon : ByteArray := prog_7_method_4_code
def yX5_reckon : MethodName := ⟨RX5, "reckon", "(LHeroSheet$State;I)V"⟩
abbrev cX5_thereOn : ByteArray := prog_7_method_5_code
def yX5_thereOn : MethodName := ⟨RX5, "thereOn", "(LHeroSheet$State;I)I"⟩
abbrev cX5_gather : ByteArray := prog_7_method_6_code
def yX5_gather : MethodName := ⟨RX5, "gather", "(LHeroSheet$State;III)V"⟩
abbrev cX5_beat : ByteArray := prog_7_method_7_code
def yX5_beat : MethodName := ⟨RX5, "beat", "(III)V"⟩
abbrev cX5_baseOrSet : ByteArray := prog_7_method_8_code
def yX5_baseOrSet : MethodName := ⟨RX5, "baseOrSet", "(LHeroSheet$State;I)J"⟩
abbrev cX5_markTwice : ByteArray := prog_7_method_9_code
def yX5_markTwice : MethodName := ⟨RX5, "markTwice", "()V"⟩
abbrev cX5_beatTyped : ByteArray := prog_7_method_10_code
def yX5_beatTyped : MethodName := ⟨RX5, "beatTyped", "(LHeroSheet$State;)V"⟩
abbrev cX5_compare : ByteArray := prog_7_method_11_code
def yX5_compare : MethodName := ⟨RX5, "compare", "(LHeroSheet$Typed;)V"⟩
abbrev cX5_bestLike : ByteArray := prog_7_method_12_code
def yX5_bestLike : MethodName := ⟨RX5, "bestLike", "(LHeroSheet$Typed;)I"⟩
abbrev cX5_boons : ByteArray := prog_7_method_13_code
def yX5_boons : MethodName := ⟨RX5, "boons", "()J"⟩
abbrev cX5_capped : ByteArray := prog_7_method_14_code
def yX5_capped : MethodName := ⟨RX5, "capped", "(J)J"⟩
abbrev cX5_openedOn : ByteArray := prog_7_method_15_code
def yX5_openedOn : MethodName := ⟨RX5, "openedOn", "(LHeroSheet$State;I)I"⟩
def RX6 : String := "HeroSheet$Rule"
def TX6 : u_T := fun k => match k with
  | 0 => ("HeroSheet$Rule", "kind", "I", true)
  | 1 => ("HeroSheet$Rule", "number", "I", true)
  | 2 => ("HeroSheet$Rule", "test", "LHeroSheet$Test;", true)
  | 3 => ("HeroSheet$Rule", "aim", "I", true)
  | 4 => ("HeroSheet$Rule", "rank", "I", true)
  | 5 => ("HeroSheet$Rule", "source", "I", true)
  | 6 => ("HeroSheet$Rule", "writes", "I", true)
  | 7 => ("HeroSheet$Rule", "told", "I", true)
  | 8 => ("HeroSheet$Rule", "by", "I", true)
  | _ => ("HeroSheet$Rule", "factor", "I", true)
def tyX6 : Nat → FieldType := fun k => match k with
  | 0 => .int
  | 1 => .int
  | 2 => .object "HeroSheet$Test"
  | 3 => .int
  | 4 => .int
  | 5 => .int
  | 6 => .int
  | 7 => .int
  | 8 => .int
  | _ => .int
abbrev wsX60 : List Cond := u_ws RX6 TX6 10
theorem nmX6 : ∀ a, a < 10 → ∀ b, b < 10 → a ≠ b → (TX6 a).2.1 ≠ (TX6 b).2.1 := by decide +kernel
theorem tyX6_ok : ∀ k, k < 10 → parseFieldDescriptor (TX6 k).2.2.1 = some (tyX6 k) := by decide +kernel
abbrev cX6_init : ByteArray := prog_8_method_1_code
def yX6_init : MethodName := ⟨RX6, "<init>", "(IILHeroSheet$Test;IIII)V"⟩
abbrev cX6_readBits : ByteArray := prog_8_method_2_code
def yX6_readBits : MethodName := ⟨RX6, "readBits", "()I"⟩
abbrev cX6_amountBy : ByteArray := prog_8_method_3_code
def yX6_amountBy : MethodName := ⟨RX6, "amountBy", "([J)J"⟩
abbrev cX6_begin : ByteArray := prog_8_method_4_code
def yX6_begin : MethodName := ⟨RX6, "begin", "(I[I)V"⟩
abbrev cX6_give : ByteArray := prog_8_method_5_code
def yX6_give : MethodName := ⟨RX6, "give", "(I[I)I"⟩
abbrev cX6_fit : ByteArray := prog_8_method_6_code
def yX6_fit : MethodName := ⟨RX6, "fit", "(I[I)I"⟩
abbrev cX6_open : ByteArray := prog_8_method_7_code
def yX6_open : MethodName := ⟨RX6, "open", "(I[I)I"⟩
abbrev cX6_tell : ByteArray := prog_8_method_8_code
def yX6_tell : MethodName := ⟨RX6, "tell", "(I[I)I"⟩
def RX7 : String := "HeroSheet$Sets"
def TX7 : u_T := fun k => match k with
  | 0 => ("HeroSheet$Rule", "kind", "I", true)
  | 1 => ("HeroSheet$Rule", "number", "I", true)
  | 2 => ("HeroSheet$Rule", "test", "LHeroSheet$Test;", true)
  | 3 => ("HeroSheet$Rule", "aim", "I", true)
  | 4 => ("HeroSheet$Rule", "rank", "I", true)
  | 5 => ("HeroSheet$Rule", "source", "I", true)
  | 6 => ("HeroSheet$Rule", "writes", "I", true)
  | 7 => ("HeroSheet$Rule", "told", "I", true)
  | 8 => ("HeroSheet$Rule", "by", "I", true)
  | _ => ("HeroSheet$Rule", "factor", "I", true)
def tyX7 : Nat → FieldType := fun k => match k with
  | 0 => .int
  | 1 => .int
  | 2 => .object "HeroSheet$Test"
  | 3 => .int
  | 4 => .int
  | 5 => .int
  | 6 => .int
  | 7 => .int
  | 8 => .int
  | _ => .int
abbrev wsX70 : List Cond := u_ws RX7 TX7 10
theorem nmX7 : ∀ a, a < 10 → ∀ b, b < 10 → a ≠ b → (TX7 a).2.1 ≠ (TX7 b).2.1 := by decide +kernel
theorem tyX7_ok : ∀ k, k < 10 → parseFieldDescriptor (TX7 k).2.2.1 = some (tyX7 k) := by decide +kernel
abbrev cX7_init : ByteArray := prog_9_method_1_code
def yX7_init : MethodName := ⟨RX7, "<init>", "(ILHeroSheet$Test;IIII)V"⟩
abbrev cX7_fit : ByteArray := prog_9_method_2_code
def yX7_fit : MethodName := ⟨RX7, "fit", "(I[I)I"⟩
def RX8 : String := "HeroSheet$State"
def TX8 : u_T := fun k => match k with
  | 0 => ("HeroSheet$State", "values", "I", false)
  | 1 => ("HeroSheet$State", "kinds", "[I", true)
  | 2 => ("HeroSheet$State", "bases", "[I", true)
  | 3 => ("HeroSheet$State", "spent", "[I", true)
  | 4 => ("HeroSheet$State", "dicePacked", "[I", true)
  | 5 => ("HeroSheet$State", "needsItself", "[I", true)
  | 6 => ("HeroSheet$State", "needsThrough", "[I", true)
  | 7 => ("HeroSheet$State", "rules", "I", false)
  | 8 => ("HeroSheet$State", "ruleList", "[LHeroSheet$Rule;", true)
  | 9 => ("HeroSheet$State", "spells", "I", false)
  | 10 => ("HeroSheet$State", "spellValues", "[I", true)
  | 11 => ("HeroSheet$State", "spellNumbers", "[I", true)
  | 12 => ("HeroSheet$State", "spellEnds", "[I", true)
  | 13 => ("HeroSheet$State", "turn", "I", false)
  | 14 => ("HeroSheet$State", "made", "I", false)
  | 15 => ("HeroSheet$State", "free", "I", false)
  | _ => ("HeroSheet$State", "stacking", "I", false)
def tyX8 : Nat → FieldType := fun k => match k with
  | 0 => .int
  | 1 => .array .int
  | 2 => .array .int
  | 3 => .array .int
  | 4 => .array .int
  | 5 => .array .int
  | 6 => .array .int
  | 7 => .int
  | 8 => .array (.object "HeroSheet$Rule")
  | 9 => .int
  | 10 => .array .int
  | 11 => .array .int
  | 12 => .array .int
  | 13 => .int
  | 14 => .int
  | 15 => .int
  | _ => .int
abbrev wsX80 : List Cond := u_ws RX8 TX8 17
theorem nmX8 : ∀ a, a < 17 → ∀ b, b < 17 → a ≠ b → (TX8 a).2.1 ≠ (TX8 b).2.1 := by decide +kernel
theorem tyX8_ok : ∀ k, k < 17 → parseFieldDescriptor (TX8 k).2.2.1 = some (tyX8 k) := by decide +kernel
abbrev cX8_init : ByteArray := prog_10_method_1_code
def yX8_init : MethodName := ⟨RX8, "<init>", "()V"⟩
abbrev cX8_copyOf : ByteArray := prog_10_method_2_code
def yX8_copyOf : MethodName := ⟨RX8, "copyOf", "(LHeroSheet$State;)V"⟩
abbrev cX8_addValue : ByteArray := prog_10_method_3_code
def yX8_addValue : MethodName := ⟨RX8, "addValue", "(III)V"⟩
abbrev cX8_diceCount : ByteArray := prog_10_method_4_code
def yX8_diceCount : MethodName := ⟨RX8, "diceCount", "(I)I"⟩
abbrev cX8_diceSides : ByteArray := prog_10_method_5_code
def yX8_diceSides : MethodName := ⟨RX8, "diceSides", "(I)I"⟩
abbrev cX8_addRule : ByteArray := prog_10_method_6_code
def yX8_addRule : MethodName := ⟨RX8, "addRule", "(LHeroSheet$Rule;)V"⟩
abbrev cX8_addNeeds : ByteArray := prog_10_method_7_code
def yX8_addNeeds : MethodName := ⟨RX8, "addNeeds", "(II)V"⟩
abbrev cX8_needing : ByteArray := prog_10_method_8_code
def yX8_needing : MethodName := ⟨RX8, "needing", "(I)I"⟩
abbrev cX8_addSpell : ByteArray := prog_10_method_9_code
def yX8_addSpell : MethodName := ⟨RX8, "addSpell", "(III)V"⟩
abbrev cX8_lastingSpells : ByteArray := prog_10_method_10_code
def yX8_lastingSpells : MethodName := ⟨RX8, "lastingSpells", "()I"⟩
abbrev cX8_spellsOn : ByteArray := prog_10_method_11_code
def yX8_spellsOn : MethodName := ⟨RX8, "spellsOn", "(I)J"⟩
def RX9 : String := "HeroSheet$Test"
def TX9 : u_T := fun k => match k with
  | 0 => ("HeroSheet$Test", "how", "I", true)
  | 1 => ("HeroSheet$Test", "of", "I", true)
  | _ => ("HeroSheet$Test", "limit", "I", true)
def tyX9 : Nat → FieldType := fun k => match k with
  | 0 => .int
  | 1 => .int
  | _ => .int
abbrev wsX90 : List Cond := u_ws RX9 TX9 3
theorem nmX9 : ∀ a, a < 3 → ∀ b, b < 3 → a ≠ b → (TX9 a).2.1 ≠ (TX9 b).2.1 := by decide +kernel
theorem tyX9_ok : ∀ k, k < 3 → parseFieldDescriptor (TX9 k).2.2.1 = some (tyX9 k) := by decide +kernel
abbrev cX9_init : ByteArray := prog_11_method_1_code
def yX9_init : MethodName := ⟨RX9, "<init>", "(III)V"⟩
abbrev cX9_holds : ByteArray := prog_11_method_2_code
def yX9_holds : MethodName := ⟨RX9, "holds", "(I[J)Z"⟩
abbrev cX9_readBits : ByteArray := prog_11_method_3_code
def yX9_readBits : MethodName := ⟨RX9, "readBits", "()I"⟩
def RX10 : String := "HeroSheet$Typed"
def TX10 : u_T := fun k => match k with
  | 0 => ("HeroSheet$Rule", "kind", "I", true)
  | 1 => ("HeroSheet$Rule", "number", "I", true)
  | 2 => ("HeroSheet$Rule", "test", "LHeroSheet$Test;", true)
  | 3 => ("HeroSheet$Rule", "aim", "I", true)
  | 4 => ("HeroSheet$Rule", "rank", "I", true)
  | 5 => ("HeroSheet$Rule", "source", "I", true)
  | 6 => ("HeroSheet$Rule", "writes", "I", true)
  | 7 => ("HeroSheet$Rule", "told", "I", true)
  | 8 => ("HeroSheet$Rule", "by", "I", true)
  | 9 => ("HeroSheet$Rule", "factor", "I", true)
  | _ => ("HeroSheet$Typed", "type", "I", true)
def tyX10 : Nat → FieldType := fun k => match k with
  | 0 => .int
  | 1 => .int
  | 2 => .object "HeroSheet$Test"
  | 3 => .int
  | 4 => .int
  | 5 => .int
  | 6 => .int
  | 7 => .int
  | 8 => .int
  | 9 => .int
  | _ => .int
abbrev wsX100 : List Cond := u_ws RX10 TX10 11
theorem nmX10 : ∀ a, a < 11 → ∀ b, b < 11 → a ≠ b → (TX10 a).2.1 ≠ (TX10 b).2.1 := by decide +kernel
theorem tyX10_ok : ∀ k, k < 11 → parseFieldDescriptor (TX10 k).2.2.1 = some (tyX10 k) := by decide +kernel
abbrev cX10_init : ByteArray := prog_12_method_1_code
def yX10_init : MethodName := ⟨RX10, "<init>", "(ILHeroSheet$Test;IIIII)V"⟩
abbrev cX10_give : ByteArray := prog_12_method_2_code
def yX10_give : MethodName := ⟨RX10, "give", "(I[I)I"⟩
def RX11 : String := "HeroSheet"
def TX11 : u_T := fun k => match k with
  | 0 => ("HeroSheet", "now", "LHeroSheet$State;", true)
  | 1 => ("HeroSheet", "kept", "LHeroSheet$State;", true)
  | 2 => ("HeroSheet", "book", "LHeroSheet$Book;", true)
  | 3 => ("HeroSheet", "hasImage", "Z", false)
  | 4 => ("HeroSheet", "backs", "I", false)
  | 5 => ("HeroSheet", "latestStatus", "I", false)
  | 6 => ("HeroSheet", "always", "LHeroSheet$Test;", true)
  | 7 => ("HeroSheet", "comingTest", "LHeroSheet$Test;", false)
  | 8 => ("HeroSheet", "ringValues", "[I", true)
  | 9 => ("HeroSheet", "ringLayers", "[I", true)
  | 10 => ("HeroSheet", "ringSize", "I", false)
  | 11 => ("HeroSheet", "traced", "[I", true)
  | 12 => ("HeroSheet", "rows", "[[I", true)
  | 13 => ("HeroSheet", "rowSorts", "[I", true)
  | 14 => ("HeroSheet", "rowSizes", "[I", true)
  | _ => ("HeroSheet", "waysToRoll", "[J", true)
def tyX11 : Nat → FieldType := fun k => match k with
  | 0 => .object "HeroSheet$State"
  | 1 => .object "HeroSheet$State"
  | 2 => .object "HeroSheet$Book"
  | 3 => .boolean
  | 4 => .int
  | 5 => .int
  | 6 => .object "HeroSheet$Test"
  | 7 => .object "HeroSheet$Test"
  | 8 => .array .int
  | 9 => .array .int
  | 10 => .int
  | 11 => .array .int
  | 12 => .array (.array .int)
  | 13 => .array .int
  | 14 => .array .int
  | _ => .array .long
abbrev wsX110 : List Cond := u_ws RX11 TX11 16
theorem nmX11 : ∀ a, a < 16 → ∀ b, b < 16 → a ≠ b → (TX11 a).2.1 ≠ (TX11 b).2.1 := by decide +kernel
theorem tyX11_ok : ∀ k, k < 16 → parseFieldDescriptor (TX11 k).2.2.1 = some (tyX11 k) := by decide +kernel
abbrev cX11_init : ByteArray := prog_1_method_1_code
def yX11_init : MethodName := ⟨RX11, "<init>", "()V"⟩
abbrev cX11_value : ByteArray := prog_1_method_2_code
def yX11_value : MethodName := ⟨RX11, "value", "(III)I"⟩
abbrev cX11_free : ByteArray := prog_1_method_3_code
def yX11_free : MethodName := ⟨RX11, "free", "(IZ)I"⟩
abbrev cX11_test : ByteArray := prog_1_method_4_code
def yX11_test : MethodName := ⟨RX11, "test", "(II)I"⟩
abbrev cX11_testValue : ByteArray := prog_1_method_5_code
def yX11_testValue : MethodName := ⟨RX11, "testValue", "(IZI)I"⟩
abbrev cX11_rule : ByteArray := prog_1_method_6_code
def yX11_rule : MethodName := ⟨RX11, "rule", "(IIIII)I"⟩
abbrev cX11_typed : ByteArray := prog_1_method_7_code
def yX11_typed : MethodName := ⟨RX11, "typed", "(IIIII)I"⟩
abbrev cX11_stack : ByteArray := prog_1_method_8_code
def yX11_stack : MethodName := ⟨RX11, "stack", "(IZ)I"⟩
abbrev cX11_make : ByteArray := prog_1_method_9_code
def yX11_make : MethodName := ⟨RX11, "make", "(IZ)I"⟩
abbrev cX11_spell : ByteArray := prog_1_method_10_code
def yX11_spell : MethodName := ⟨RX11, "spell", "(III)I"⟩
abbrev cX11_turn : ByteArray := prog_1_method_11_code
def yX11_turn : MethodName := ⟨RX11, "turn", "()I"⟩
abbrev cX11_spend : ByteArray := prog_1_method_12_code
def yX11_spend : MethodName := ⟨RX11, "spend", "(II)I"⟩
abbrev cX11_rest : ByteArray := prog_1_method_13_code
def yX11_rest : MethodName := ⟨RX11, "rest", "()I"⟩
abbrev cX11_image : ByteArray := prog_1_method_14_code
def yX11_image : MethodName := ⟨RX11, "image", "()I"⟩
abbrev cX11_back : ByteArray := prog_1_method_15_code
def yX11_back : MethodName := ⟨RX11, "back", "()I"⟩
abbrev cX11_valueTold : ByteArray := prog_1_method_16_code
def yX11_valueTold : MethodName := ⟨RX11, "valueTold", "(II)I"⟩
abbrev cX11_number : ByteArray := prog_1_method_17_code
def yX11_number : MethodName := ⟨RX11, "number", "(II)J"⟩
abbrev cX11_ruleTold : ByteArray := prog_1_method_18_code
def yX11_ruleTold : MethodName := ⟨RX11, "ruleTold", "(II)I"⟩
abbrev cX11_amount : ByteArray := prog_1_method_19_code
def yX11_amount : MethodName := ⟨RX11, "amount", "(I)J"⟩
abbrev cX11_ring : ByteArray := prog_1_method_20_code
def yX11_ring : MethodName := ⟨RX11, "ring", "(I)I"⟩
abbrev cX11_needs : ByteArray := prog_1_method_21_code
def yX11_needs : MethodName := ⟨RX11, "needs", "(II)I"⟩
abbrev cX11_choice : ByteArray := prog_1_method_22_code
def yX11_choice : MethodName := ⟨RX11, "choice", "(II)I"⟩
abbrev cX11_lawful : ByteArray := prog_1_method_23_code
def yX11_lawful : MethodName := ⟨RX11, "lawful", "(I)I"⟩
abbrev cX11_mend : ByteArray := prog_1_method_24_code
def yX11_mend : MethodName := ⟨RX11, "mend", "()I"⟩
abbrev cX11_most : ByteArray := prog_1_method_25_code
def yX11_most : MethodName := ⟨RX11, "most", "(IIIZ)J"⟩
abbrev cX11_seek : ByteArray := prog_1_method_26_code
def yX11_seek : MethodName := ⟨RX11, "seek", "(IIIZ)I"⟩
abbrev cX11_both : ByteArray := prog_1_method_27_code
def yX11_both : MethodName := ⟨RX11, "both", "(II)I"⟩
abbrev cX11_way : ByteArray := prog_1_method_28_code
def yX11_way : MethodName := ⟨RX11, "way", "(II)I"⟩
abbrev cX11_dice : ByteArray := prog_1_method_29_code
def yX11_dice : MethodName := ⟨RX11, "dice", "(II)J"⟩
abbrev cX11_chance : ByteArray := prog_1_method_30_code
def yX11_chance : MethodName := ⟨RX11, "chance", "(IIZI)J"⟩
abbrev cX11_count : ByteArray := prog_1_method_31_code
def yX11_count : MethodName := ⟨RX11, "count", "(I)I"⟩
abbrev cX11_act : ByteArray := prog_1_method_32_code
def yX11_act : MethodName := ⟨RX11, "act", "(III)I"⟩
abbrev cX11_trace : ByteArray := prog_1_method_33_code
def yX11_trace : MethodName := ⟨RX11, "trace", "(I)I"⟩
abbrev cX11_sheet : ByteArray := prog_1_method_34_code
def yX11_sheet : MethodName := ⟨RX11, "sheet", "(III)I"⟩
abbrev cX11_cell : ByteArray := prog_1_method_35_code
def yX11_cell : MethodName := ⟨RX11, "cell", "(III)I"⟩
abbrev cX11_row : ByteArray := prog_1_method_36_code
def yX11_row : MethodName := ⟨RX11, "row", "(III)I"⟩
abbrev cX11_forge : ByteArray := prog_1_method_37_code
def yX11_forge : MethodName := ⟨RX11, "forge", "(III)I"⟩
abbrev cX11_status : ByteArray := prog_1_method_38_code
def yX11_status : MethodName := ⟨RX11, "status", "()I"⟩
abbrev cX11_done : ByteArray := prog_1_method_39_code
def yX11_done : MethodName := ⟨RX11, "done", "(I)I"⟩
abbrev cX11_refused : ByteArray := prog_1_method_40_code
def yX11_refused : MethodName := ⟨RX11, "refused", "(I)I"⟩
abbrev cX11_isWithin : ByteArray := prog_1_method_41_code
def yX11_isWithin : MethodName := ⟨RX11, "isWithin", "(II)Z"⟩
abbrev cX11_isChoice : ByteArray := prog_1_method_42_code
def yX11_isChoice : MethodName := ⟨RX11, "isChoice", "(I)Z"⟩
abbrev cX11_isSet : ByteArray := prog_1_method_43_code
def yX11_isSet : MethodName := ⟨RX11, "isSet", "(I)Z"⟩
abbrev cX11_isSetOrMade : ByteArray := prog_1_method_44_code
def yX11_isSetOrMade : MethodName := ⟨RX11, "isSetOrMade", "(I)Z"⟩
abbrev cX11_madeOr : ByteArray := prog_1_method_45_code
def yX11_madeOr : MethodName := ⟨RX11, "madeOr", "(I)I"⟩
abbrev cX11_isType : ByteArray := prog_1_method_46_code
def yX11_isType : MethodName := ⟨RX11, "isType", "(I)Z"⟩
abbrev cX11_isRow : ByteArray := prog_1_method_47_code
def yX11_isRow : MethodName := ⟨RX11, "isRow", "(I)Z"⟩
abbrev cX11_isSort : ByteArray := prog_1_method_48_code
def yX11_isSort : MethodName := ⟨RX11, "isSort", "(I)Z"⟩
abbrev cX11_areDice : ByteArray := prog_1_method_49_code
def yX11_areDice : MethodName := ⟨RX11, "areDice", "(I)Z"⟩
abbrev cX11_isValue : ByteArray := prog_1_method_50_code
def yX11_isValue : MethodName := ⟨RX11, "isValue", "(I)Z"⟩
abbrev cX11_isOfKind : ByteArray := prog_1_method_51_code
def yX11_isOfKind : MethodName := ⟨RX11, "isOfKind", "(II)Z"⟩
abbrev cX11_ruleOrNull : ByteArray := prog_1_method_52_code
def yX11_ruleOrNull : MethodName := ⟨RX11, "ruleOrNull", "(I)LHeroSheet$Rule;"⟩
abbrev cX11_hasBit : ByteArray := prog_1_method_53_code
def yX11_hasBit : MethodName := ⟨RX11, "hasBit", "(II)Z"⟩
abbrev cX11_withBit : ByteArray := prog_1_method_54_code
def yX11_withBit : MethodName := ⟨RX11, "withBit", "(IIZ)I"⟩
abbrev cX11_bit : ByteArray := prog_1_method_55_code
def yX11_bit : MethodName := ⟨RX11, "bit", "(Z)I"⟩
abbrev cX11_canBeRule : ByteArray := prog_1_method_56_code
def yX11_canBeRule : MethodName := ⟨RX11, "canBeRule", "(IIIII)Z"⟩
abbrev cX11_isFactorOfValue : ByteArray := prog_1_method_57_code
def yX11_isFactorOfValue : MethodName := ⟨RX11, "isFactorOfValue", "(I)Z"⟩
abbrev cX11_ruleOf : ByteArray := prog_1_method_58_code
def yX11_ruleOf : MethodName := ⟨RX11, "ruleOf", "(IIIII)LHeroSheet$Rule;"⟩
abbrev cX11_entered : ByteArray := prog_1_method_59_code
def yX11_entered : MethodName := ⟨RX11, "entered", "(LHeroSheet$Rule;)I"⟩
abbrev cX11_closesRing : ByteArray := prog_1_method_60_code
def yX11_closesRing : MethodName := ⟨RX11, "closesRing", "(II)Z"⟩
abbrev cX11_keepRing : ByteArray := prog_1_method_61_code
def yX11_keepRing : MethodName := ⟨RX11, "keepRing", "(III)V"⟩
abbrev cX11_leastOf : ByteArray := prog_1_method_62_code
def yX11_leastOf : MethodName := ⟨RX11, "leastOf", "(I)I"⟩
abbrev cX11_reckonedNow : ByteArray := prog_1_method_63_code
def yX11_reckonedNow : MethodName := ⟨RX11, "reckonedNow", "()LHeroSheet$Reckoning;"⟩
abbrev cX11_numberNow : ByteArray := prog_1_method_64_code
def yX11_numberNow : MethodName := ⟨RX11, "numberNow", "(I)J"⟩
abbrev cX11_countWays : ByteArray := prog_1_method_65_code
def yX11_countWays : MethodName := ⟨RX11, "countWays", "(II)J"⟩
abbrev cX11_waysOfOneMore : ByteArray := prog_1_method_66_code
def yX11_waysOfOneMore : MethodName := ⟨RX11, "waysOfOneMore", "(II)J"⟩
abbrev cX11_waysToReach : ByteArray := prog_1_method_67_code
def yX11_waysToReach : MethodName := ⟨RX11, "waysToReach", "(IJ)J"⟩
abbrev cX11_commonDivisor : ByteArray := prog_1_method_68_code
def yX11_commonDivisor : MethodName := ⟨RX11, "commonDivisor", "(JJ)J"⟩
abbrev cX11_takenForKind : ByteArray := prog_1_method_69_code
def yX11_takenForKind : MethodName := ⟨RX11, "takenForKind", "(LHeroSheet$Rule;I)I"⟩
abbrev cX11_readFromShorts : ByteArray := prog_1_method_70_code
def yX11_readFromShorts : MethodName := ⟨RX11, "readFromShorts", "(II)I"⟩
abbrev cX11_copiedFromBytes : ByteArray := prog_1_method_71_code
def yX11_copiedFromBytes : MethodName := ⟨RX11, "copiedFromBytes", "(II)I"⟩
abbrev cX11_putAmongOpens : ByteArray := prog_1_method_72_code
def yX11_putAmongOpens : MethodName := ⟨RX11, "putAmongOpens", "(LHeroSheet$Rule;)I"⟩
def RX12 : String := "HeroSheetModel"
def TX12 : u_T := fun k => match k with
  | 0 => ("HeroSheetModel", "vKind", "[I", true)
  | 1 => ("HeroSheetModel", "vBase", "[I", true)
  | 2 => ("HeroSheetModel", "vCount", "[I", true)
  | 3 => ("HeroSheetModel", "vSides", "[I", true)
  | 4 => ("HeroSheetModel", "vSpent", "[I", true)
  | 5 => ("HeroSheetModel", "rKind", "[I", true)
  | 6 => ("HeroSheetModel", "rAim", "[I", true)
  | 7 => ("HeroSheetModel", "rRank", "[I", true)
  | 8 => ("HeroSheetModel", "rSource", "[I", true)
  | 9 => ("HeroSheetModel", "rType", "[I", true)
  | 10 => ("HeroSheetModel", "rLeast", "[I", true)
  | 11 => ("HeroSheetModel", "rAmount", "[I", true)
  | 12 => ("HeroSheetModel", "rBy", "[I", true)
  | 13 => ("HeroSheetModel", "rFactor", "[I", true)
  | 14 => ("HeroSheetModel", "rHow", "[I", true)
  | 15 => ("HeroSheetModel", "rOf", "[I", true)
  | 16 => ("HeroSheetModel", "rNumber", "[I", true)
  | 17 => ("HeroSheetModel", "sValue", "[I", true)
  | 18 => ("HeroSheetModel", "sNumber", "[I", true)
  | 19 => ("HeroSheetModel", "sEnd", "[I", true)
  | 20 => ("HeroSheetModel", "all", "[I", true)
  | 21 => ("HeroSheetModel", "image", "[I", true)
  | 22 => ("HeroSheetModel", "hasImage", "Z", false)
  | 23 => ("HeroSheetModel", "backs", "I", false)
  | 24 => ("HeroSheetModel", "status", "I", false)
  | 25 => ("HeroSheetModel", "testHow", "I", false)
  | 26 => ("HeroSheetModel", "testOf", "I", false)
  | 27 => ("HeroSheetModel", "testNumber", "I", false)
  | 28 => ("HeroSheetModel", "needed", "[I", true)
  | 29 => ("HeroSheetModel", "far", "[I", true)
  | 30 => ("HeroSheetModel", "ring", "[I", true)
  | 31 => ("HeroSheetModel", "ringSize", "I", false)
  | 32 => ("HeroSheetModel", "imageAt", "I", false)
  | 33 => ("HeroSheetModel", "numbers", "[J", true)
  | 34 => ("HeroSheetModel", "there", "[I", true)
  | 35 => ("HeroSheetModel", "open", "[I", true)
  | 36 => ("HeroSheetModel", "lawful", "[Z", true)
  | 37 => ("HeroSheetModel", "isLaid", "Z", false)
  | 38 => ("HeroSheetModel", "sheet", "I", false)
  | 39 => ("HeroSheetModel", "known", "I", false)
  | 40 => ("HeroSheetModel", "how", "[I", true)
  | 41 => ("HeroSheetModel", "beater", "[I", true)
  | 42 => ("HeroSheetModel", "quarrels", "[Z", true)
  | 43 => ("HeroSheetModel", "leads", "[Z", true)
  | 44 => ("HeroSheetModel", "rolls", "[J", true)
  | 45 => ("HeroSheetModel", "then", "[J", true)
  | 46 => ("HeroSheetModel", "trace", "[I", true)
  | 47 => ("HeroSheetModel", "traces", "I", false)
  | 48 => ("HeroSheetModel", "sort", "[I", true)
  | 49 => ("HeroSheetModel", "size", "[I", true)
  | _ => ("HeroSheetModel", "cells", "[I", true)
def tyX12 : Nat → FieldType := fun k => match k with
  | 0 => .array .int
  | 1 => .array .int
  | 2 => .array .int
  | 3 => .array .int
  | 4 => .array .int
  | 5 => .array .int
  | 6 => .array .int
  | 7 => .array .int
  | 8 => .array .int
  | 9 => .array .int
  | 10 => .array .int
  | 11 => .array .int
  | 12 => .array .int
  | 13 => .array .int
  | 14 => .array .int
  | 15 => .array .int
  | 16 => .array .int
  | 17 => .array .int
  | 18 => .array .int
  | 19 => .array .int
  | 20 => .array .int
  | 21 => .array .int
  | 22 => .boolean
  | 23 => .int
  | 24 => .int
  | 25 => .int
  | 26 => .int
  | 27 => .int
  | 28 => .array .int
  | 29 => .array .int
  | 30 => .array .int
  | 31 => .int
  | 32 => .int
  | 33 => .array .long
  | 34 => .array .int
  | 35 => .array .int
  | 36 => .array .boolean
  | 37 => .boolean
  | 38 => .int
  | 39 => .int
  | 40 => .array .int
  | 41 => .array .int
  | 42 => .array .boolean
  | 43 => .array .boolean
  | 44 => .array .long
  | 45 => .array .long
  | 46 => .array .int
  | 47 => .int
  | 48 => .array .int
  | 49 => .array .int
  | _ => .array .int
abbrev wsX120 : List Cond := u_ws RX12 TX12 51
theorem nmX12 : ∀ a, a < 51 → ∀ b, b < 51 → a ≠ b → (TX12 a).2.1 ≠ (TX12 b).2.1 := by decide +kernel
theorem tyX12_ok : ∀ k, k < 51 → parseFieldDescriptor (TX12 k).2.2.1 = some (tyX12 k) := by decide +kernel
abbrev cX12_init : ByteArray := prog_14_method_1_code
def yX12_init : MethodName := ⟨RX12, "<init>", "()V"⟩
abbrev cX12_isIn : ByteArray := prog_14_method_2_code
def yX12_isIn : MethodName := ⟨RX12, "isIn", "(JJJ)Z"⟩
abbrev cX12_refused : ByteArray := prog_14_method_3_code
def yX12_refused : MethodName := ⟨RX12, "refused", "(I)I"⟩
abbrev cX12_done : ByteArray := prog_14_method_4_code
def yX12_done : MethodName := ⟨RX12, "done", "(I)I"⟩
abbrev cX12_isValue : ByteArray := prog_14_method_5_code
def yX12_isValue : MethodName := ⟨RX12, "isValue", "(I)Z"⟩
abbrev cX12_isRule : ByteArray := prog_14_method_6_code
def yX12_isRule : MethodName := ⟨RX12, "isRule", "(I)Z"⟩
abbrev cX12_isChoice : ByteArray := prog_14_method_7_code
def yX12_isChoice : MethodName := ⟨RX12, "isChoice", "(I)Z"⟩
abbrev cX12_value : ByteArray := prog_14_method_8_code
def yX12_value : MethodName := ⟨RX12, "value", "(III)I"⟩
abbrev cX12_free : ByteArray := prog_14_method_9_code
def yX12_free : MethodName := ⟨RX12, "free", "(IZ)I"⟩
abbrev cX12_test : ByteArray := prog_14_method_10_code
def yX12_test : MethodName := ⟨RX12, "test", "(II)I"⟩
abbrev cX12_testValue : ByteArray := prog_14_method_11_code
def yX12_testValue : MethodName := ⟨RX12, "testValue", "(IZI)I"⟩
abbrev cX12_rule : ByteArray := prog_14_method_12_code
def yX12_rule : MethodName := ⟨RX12, "rule", "(IIIII)I"⟩
abbrev cX12_typed : ByteArray := prog_14_method_13_code
def yX12_typed : MethodName := ⟨RX12, "typed", "(IIIII)I"⟩
abbrev cX12_adds : ByteArray := prog_14_method_14_code
def yX12_adds : MethodName := ⟨RX12, "adds", "(IIIIIII)I"⟩
abbrev cX12_findNeeds : ByteArray := prog_14_method_15_code
def yX12_findNeeds : MethodName := ⟨RX12, "findNeeds", "()V"⟩
abbrev cX12_isRing : ByteArray := prog_14_method_16_code
def yX12_isRing : MethodName := ⟨RX12, "isRing", "(II)Z"⟩
abbrev cX12_ring : ByteArray := prog_14_method_17_code
def yX12_ring : MethodName := ⟨RX12, "ring", "(I)I"⟩
abbrev cX12_needs : ByteArray := prog_14_method_18_code
def yX12_needs : MethodName := ⟨RX12, "needs", "(II)I"⟩
abbrev cX12_stack : ByteArray := prog_14_method_19_code
def yX12_stack : MethodName := ⟨RX12, "stack", "(IZ)I"⟩
abbrev cX12_bits : ByteArray := prog_14_method_20_code
def yX12_bits : MethodName := ⟨RX12, "bits", "(I)I"⟩
abbrev cX12_make : ByteArray := prog_14_method_21_code
def yX12_make : MethodName := ⟨RX12, "make", "(IZ)I"⟩
abbrev cX12_spell : ByteArray := prog_14_method_22_code
def yX12_spell : MethodName := ⟨RX12, "spell", "(III)I"⟩
abbrev cX12_turn : ByteArray := prog_14_method_23_code
def yX12_turn : MethodName := ⟨RX12, "turn", "()I"⟩
abbrev cX12_spend : ByteArray := prog_14_method_24_code
def yX12_spend : MethodName := ⟨RX12, "spend", "(II)I"⟩
abbrev cX12_rest : ByteArray := prog_14_method_25_code
def yX12_rest : MethodName := ⟨RX12, "rest", "()I"⟩
abbrev cX12_moves : ByteArray := prog_14_method_26_code
def yX12_moves : MethodName := ⟨RX12, "moves", "([IIZ)V"⟩
abbrev cX12_movesAll : ByteArray := prog_14_method_27_code
def yX12_movesAll : MethodName := ⟨RX12, "movesAll", "(Z)V"⟩
abbrev cX12_image : ByteArray := prog_14_method_28_code
def yX12_image : MethodName := ⟨RX12, "image", "()I"⟩
abbrev cX12_back : ByteArray := prog_14_method_29_code
def yX12_back : MethodName := ⟨RX12, "back", "()I"⟩
abbrev cX12_holds : ByteArray := prog_14_method_30_code
def yX12_holds : MethodName := ⟨RX12, "holds", "(I)Z"⟩
abbrev cX12_isThere : ByteArray := prog_14_method_31_code
def yX12_isThere : MethodName := ⟨RX12, "isThere", "(I)Z"⟩
abbrev cX12_findThere : ByteArray := prog_14_method_32_code
def yX12_findThere : MethodName := ⟨RX12, "findThere", "()V"⟩
abbrev cX12_amountOf : ByteArray := prog_14_method_33_code
def yX12_amountOf : MethodName := ⟨RX12, "amountOf", "(I)J"⟩
abbrev cX12_works : ByteArray := prog_14_method_34_code
def yX12_works : MethodName := ⟨RX12, "works", "(III)Z"⟩
abbrev cX12_based : ByteArray := prog_14_method_35_code
def yX12_based : MethodName := ⟨RX12, "based", "(I)J"⟩
abbrev cX12_adds_ : ByteArray := prog_14_method_36_code
def yX12_adds_ : MethodName := ⟨RX12, "adds", "(II)Z"⟩
abbrev cX12_firstOf : ByteArray := prog_14_method_37_code
def yX12_firstOf : MethodName := ⟨RX12, "firstOf", "(II)I"⟩
abbrev cX12_counts : ByteArray := prog_14_method_38_code
def yX12_counts : MethodName := ⟨RX12, "counts", "(II)Z"⟩
abbrev cX12_bestOf : ByteArray := prog_14_method_39_code
def yX12_bestOf : MethodName := ⟨RX12, "bestOf", "(III)I"⟩
abbrev cX12_added : ByteArray := prog_14_method_40_code
def yX12_added : MethodName := ⟨RX12, "added", "(I)J"⟩
abbrev cX12_capped : ByteArray := prog_14_method_41_code
def yX12_capped : MethodName := ⟨RX12, "capped", "(IJ)J"⟩
abbrev cX12_work : ByteArray := prog_14_method_42_code
def yX12_work : MethodName := ⟨RX12, "work", "(I)V"⟩
abbrev cX12_lays : ByteArray := prog_14_method_43_code
def yX12_lays : MethodName := ⟨RX12, "lays", "(I)V"⟩
abbrev cX12_opens : ByteArray := prog_14_method_44_code
def yX12_opens : MethodName := ⟨RX12, "opens", "(I)Z"⟩
abbrev cX12_lay : ByteArray := prog_14_method_45_code
def yX12_lay : MethodName := ⟨RX12, "lay", "()V"⟩
abbrev cX12_layNow : ByteArray := prog_14_method_46_code
def yX12_layNow : MethodName := ⟨RX12, "layNow", "()V"⟩
abbrev cX12_valueTold : ByteArray := prog_14_method_47_code
def yX12_valueTold : MethodName := ⟨RX12, "valueTold", "(II)I"⟩
abbrev cX12_isSet : ByteArray := prog_14_method_48_code
def yX12_isSet : MethodName := ⟨RX12, "isSet", "(I)Z"⟩
abbrev cX12_number : ByteArray := prog_14_method_49_code
def yX12_number : MethodName := ⟨RX12, "number", "(II)J"⟩
abbrev cX12_ruleTold : ByteArray := prog_14_method_50_code
def yX12_ruleTold : MethodName := ⟨RX12, "ruleTold", "(II)I"⟩
abbrev cX12_amount : ByteArray := prog_14_method_51_code
def yX12_amount : MethodName := ⟨RX12, "amount", "(I)J"⟩
abbrev cX12_choice : ByteArray := prog_14_method_52_code
def yX12_choice : MethodName := ⟨RX12, "choice", "(II)I"⟩
abbrev cX12_lawful : ByteArray := prog_14_method_53_code
def yX12_lawful : MethodName := ⟨RX12, "lawful", "(I)I"⟩
abbrev cX12_mend : ByteArray := prog_14_method_54_code
def yX12_mend : MethodName := ⟨RX12, "mend", "()I"⟩
abbrev cX12_best : ByteArray := prog_14_method_55_code
def yX12_best : MethodName := ⟨RX12, "best", "(IIIZ)I"⟩
abbrev cX12_most : ByteArray := prog_14_method_56_code
def yX12_most : MethodName := ⟨RX12, "most", "(IIIZ)J"⟩
abbrev cX12_seek : ByteArray := prog_14_method_57_code
def yX12_seek : MethodName := ⟨RX12, "seek", "(IIIZ)I"⟩
abbrev cX12_both : ByteArray := prog_14_method_58_code
def yX12_both : MethodName := ⟨RX12, "both", "(II)I"⟩
abbrev cX12_way : ByteArray := prog_14_method_59_code
def yX12_way : MethodName := ⟨RX12, "way", "(II)I"⟩
abbrev cX12_divisor : ByteArray := prog_14_method_60_code
def yX12_divisor : MethodName := ⟨RX12, "divisor", "(JJ)J"⟩
abbrev cX12_dice : ByteArray := prog_14_method_61_code
def yX12_dice : MethodName := ⟨RX12, "dice", "(II)J"⟩
abbrev cX12_chance : ByteArray := prog_14_method_62_code
def yX12_chance : MethodName := ⟨RX12, "chance", "(IIZI)J"⟩
abbrev cX12_count : ByteArray := prog_14_method_63_code
def yX12_count : MethodName := ⟨RX12, "count", "(I)I"⟩
abbrev cX12_notes : ByteArray := prog_14_method_64_code
def yX12_notes : MethodName := ⟨RX12, "notes", "(I)V"⟩
abbrev cX12_plainGive : ByteArray := prog_14_method_65_code
def yX12_plainGive : MethodName := ⟨RX12, "plainGive", "(II)I"⟩
abbrev cX12_give : ByteArray := prog_14_method_66_code
def yX12_give : MethodName := ⟨RX12, "give", "(II)I"⟩
abbrev cX12_plainOpen : ByteArray := prog_14_method_67_code
def yX12_plainOpen : MethodName := ⟨RX12, "plainOpen", "(II)I"⟩
abbrev cX12_open : ByteArray := prog_14_method_68_code
def yX12_open : MethodName := ⟨RX12, "open", "(II)I"⟩
abbrev cX12_plainFit : ByteArray := prog_14_method_69_code
def yX12_plainFit : MethodName := ⟨RX12, "plainFit", "(II)I"⟩
abbrev cX12_openFit : ByteArray := prog_14_method_70_code
def yX12_openFit : MethodName := ⟨RX12, "openFit", "(II)I"⟩
abbrev cX12_fit : ByteArray := prog_14_method_71_code
def yX12_fit : MethodName := ⟨RX12, "fit", "(II)I"⟩
abbrev cX12_plainTell : ByteArray := prog_14_method_72_code
def yX12_plainTell : MethodName := ⟨RX12, "plainTell", "(II)I"⟩
abbrev cX12_tell : ByteArray := prog_14_method_73_code
def yX12_tell : MethodName := ⟨RX12, "tell", "(II)I"⟩
abbrev cX12_act : ByteArray := prog_14_method_74_code
def yX12_act : MethodName := ⟨RX12, "act", "(III)I"⟩
abbrev cX12_trace : ByteArray := prog_14_method_75_code
def yX12_trace : MethodName := ⟨RX12, "trace", "(I)I"⟩
abbrev cX12_sheet : ByteArray := prog_14_method_76_code
def yX12_sheet : MethodName := ⟨RX12, "sheet", "(III)I"⟩
abbrev cX12_byteOf : ByteArray := prog_14_method_77_code
def yX12_byteOf : MethodName := ⟨RX12, "byteOf", "(I)I"⟩
abbrev cX12_cell : ByteArray := prog_14_method_78_code
def yX12_cell : MethodName := ⟨RX12, "cell", "(III)I"⟩
abbrev cX12_row : ByteArray := prog_14_method_79_code
def yX12_row : MethodName := ⟨RX12, "row", "(III)I"⟩
abbrev cX12_modulo : ByteArray := prog_14_method_80_code
def yX12_modulo : MethodName := ⟨RX12, "modulo", "(II)I"⟩
abbrev cX12_forge : ByteArray := prog_14_method_81_code
def yX12_forge : MethodName := ⟨RX12, "forge", "(III)I"⟩
abbrev cX12_copied : ByteArray := prog_14_method_82_code
def yX12_copied : MethodName := ⟨RX12, "copied", "(II)I"⟩
abbrev cX12_status : ByteArray := prog_14_method_83_code
def yX12_status : MethodName := ⟨RX12, "status", "()I"⟩
def RJ6 : String := "java/lang/Integer"
abbrev cJ6_bitCount_0f7a4 : ByteArray := prog_15_method_49_code
def yJ6_bitCount_0f7a4 : MethodName := ⟨RJ6, "bitCount", "(I)I"⟩
def RJ9 : String := "java/lang/Math"
abbrev cJ9_floorMod_7cf53 : ByteArray := prog_16_method_50_code
def yJ9_floorMod_7cf53 : MethodName := ⟨RJ9, "floorMod", "(II)I"⟩
abbrev cJ9_max_f86c9 : ByteArray := prog_16_method_66_code
def yJ9_max_f86c9 : MethodName := ⟨RJ9, "max", "(JJ)J"⟩
abbrev cJ9_min_f86c9 : ByteArray := prog_16_method_70_code
def yJ9_min_f86c9 : MethodName := ⟨RJ9, "min", "(JJ)J"⟩
def RJ10 : String := "java/lang/System"
def RJ7 : String := "java/util/Arrays"
abbrev cJ7_fill_d0a16 : ByteArray := prog_18_method_101_code
def yJ7_fill_d0a16 : MethodName := ⟨RJ7, "fill", "([JJ)V"⟩
abbrev cJ7_fill_53178 : ByteArray := prog_18_method_103_code
def yJ7_fill_53178 : MethodName := ⟨RJ7, "fill", "([II)V"⟩
def RL : String := "HeroSheetLaw"
abbrev cL_law : ByteArray := code
def yL_law : MethodName := ⟨RL, "law", "([I)Z"⟩
end
section
def lw_pv (w : Cond) : Bool := match w with
  | .privateMethod _ => true
  | _ => false
def lw_u : List Cond := lw_tbl.filter (fun w => !lw_pv w)
theorem lw_uo {w : Cond} (h : w ∈ lw_tbl) (hp : lw_pv w = false) : w ∈ lw_u := List.mem_filter.mpr ⟨h, by rw [hp]; rfl⟩
theorem tb_1 (i : Nat) {w : Cond} (h : tables_1_1[i]? = some w) (hp : lw_pv w = false := by rfl) : w ∈ lw_u := lw_uo (List.mem_append_right _ (List.mem_append_left _ (List.mem_of_getElem? h))) hp
theorem tb_2 (i : Nat) {w : Cond} (h : tables_1_2[i]? = some w) (hp : lw_pv w = false := by rfl) : w ∈ lw_u := lw_uo (List.mem_append_right _ (List.mem_append_right _ (List.mem_append_left _ (List.mem_of_getElem? h)))) hp
theorem tb_3 (i : Nat) {w : Cond} (h : tables_1_3[i]? = some w) (hp : lw_pv w = false := by rfl) : w ∈ lw_u := lw_uo (List.mem_append_right _ (List.mem_append_right _ (List.mem_append_right _ (List.mem_append_left _ (List.mem_of_getElem? h))))) hp
theorem tb_4 (i : Nat) {w : Cond} (h : tables_1_4[i]? = some w) (hp : lw_pv w = false := by rfl) : w ∈ lw_u := lw_uo (List.mem_append_right _ (List.mem_append_right _ (List.mem_append_right _ (List.mem_append_right _ (List.mem_append_left _ (List.mem_of_getElem? h)))))) hp
theorem tb_5 (i : Nat) {w : Cond} (h : tables_1_5[i]? = some w) (hp : lw_pv w = false := by rfl) : w ∈ lw_u := lw_uo (List.mem_append_right _ (List.mem_append_right _ (List.mem_append_right _ (List.mem_append_right _ (List.mem_append_right _ (List.mem_append_left _ (List.mem_of_getElem? h))))))) hp
theorem tb_6 (i : Nat) {w : Cond} (h : tables_1_6[i]? = some w) (hp : lw_pv w = false := by rfl) : w ∈ lw_u := lw_uo (List.mem_append_right _ (List.mem_append_right _ (List.mem_append_right _ (List.mem_append_right _ (List.mem_append_right _ (List.mem_append_right _ (List.mem_append_left _ (List.mem_of_getElem? h)))))))) hp
theorem tb_7 (i : Nat) {w : Cond} (h : tables_1_7[i]? = some w) (hp : lw_pv w = false := by rfl) : w ∈ lw_u := lw_uo (List.mem_append_right _ (List.mem_append_right _ (List.mem_append_right _ (List.mem_append_right _ (List.mem_append_right _ (List.mem_append_right _ (List.mem_append_right _ (List.mem_of_getElem? h)))))))) hp
theorem tb_pr (i : Nat) {w : Cond} (h : (k2_sels lw_privs)[i]? = some w) (hp : lw_pv w = false := by rfl) : w ∈ lw_u := lw_uo (List.mem_append_left _ (List.mem_of_getElem? h)) hp
theorem in_L : Cond.initialized RL ∈ lw_u := tb_1 0 rfl
theorem in_X11 : Cond.initialized RX11 ∈ lw_u := tb_1 1 rfl
theorem in_X8 : Cond.initialized RX8 ∈ lw_u := tb_1 2 rfl
theorem in_X1 : Cond.initialized RX1 ∈ lw_u := tb_1 3 rfl
theorem in_X5 : Cond.initialized RX5 ∈ lw_u := tb_1 4 rfl
theorem in_X9 : Cond.initialized RX9 ∈ lw_u := tb_1 5 rfl
theorem in_X12 : Cond.initialized RX12 ∈ lw_u := tb_1 6 rfl
theorem in_J6 : Cond.initialized RJ6 ∈ lw_u := tb_1 7 rfl
theorem in_X6 : Cond.initialized RX6 ∈ lw_u := tb_1 8 rfl
theorem in_X7 : Cond.initialized RX7 ∈ lw_u := tb_1 9 rfl
theorem in_X2 : Cond.initialized RX2 ∈ lw_u := tb_1 10 rfl
theorem in_X3 : Cond.initialized RX3 ∈ lw_u := tb_1 11 rfl
theorem in_X4 : Cond.initialized RX4 ∈ lw_u := tb_1 12 rfl
theorem in_X0 : Cond.initialized RX0 ∈ lw_u := tb_1 13 rfl
theorem in_X10 : Cond.initialized RX10 ∈ lw_u := tb_1 14 rfl
theorem in_J7 : Cond.initialized RJ7 ∈ lw_u := tb_1 15 rfl
theorem in_J9 : Cond.initialized RJ9 ∈ lw_u := tb_1 16 rfl
theorem in_J10 : Cond.initialized RJ10 ∈ lw_u := tb_1 17 rfl
theorem cl_L_7 : Cond.classLink RL 7 RX11 ∈ lw_u := tb_1 18 rfl
theorem ib_X11 : Cond.instantiable RX11 16 ∈ lw_u := tb_1 19 rfl
theorem ml_L_9 : Cond.methodLink RL 9 yX11_init ∈ lw_u := tb_1 20 rfl
theorem im_X11_init : Cond.instanceMethod yX11_init ∈ lw_u := tb_1 21 rfl
theorem ml_X11_1 : Cond.methodLink RX11 1 objectInit ∈ lw_u := tb_1 23 rfl
theorem im_Obj_init : Cond.instanceMethod objectInit ∈ lw_u := tb_1 24 rfl
theorem co_Obj_init : Cond.code objectInit ⟨#[0xb1]⟩ 1 none ∈ lw_u := tb_1 25 rfl
theorem cl_X11_7 : Cond.classLink RX11 7 RX8 ∈ lw_u := tb_1 26 rfl
theorem ib_X8 : Cond.instantiable RX8 17 ∈ lw_u := tb_1 27 rfl
theorem mn_X11_9 : Cond.methodLinkNest RX11 9 yX8_init RX11 ∈ lw_u := tb_1 28 rfl
theorem im_X8_init : Cond.instanceMethod yX8_init ∈ lw_u := tb_1 29 rfl
theorem ml_X8_3 : Cond.methodLink RX8 3 objectInit ∈ lw_u := tb_1 31 rfl
theorem cl_X8_37 : Cond.classLink RX8 37 RX6 ∈ lw_u := tb_1 32 rfl
theorem ao_Rule : Cond.arrayOver (.object "HeroSheet$Rule") ∈ lw_u := tb_1 33 rfl
theorem fl_X8_9 : Cond.fieldLink RX8 9 "HeroSheet$State" "values" "I" ∈ lw_u := tb_1 34 rfl
theorem fl_X5_62 : Cond.fieldLink RX5 62 "HeroSheet$State" "values" "I" ∈ lw_u := tb_1 35 rfl
theorem fl_X11_91 : Cond.fieldLink RX11 91 "HeroSheet$State" "values" "I" ∈ lw_u := tb_1 36 rfl
theorem fl_X8_15 : Cond.fieldLink RX8 15 "HeroSheet$State" "kinds" "[I" ∈ lw_u := tb_1 37 rfl
theorem fl_X5_120 : Cond.fieldLink RX5 120 "HeroSheet$State" "kinds" "[I" ∈ lw_u := tb_1 38 rfl
theorem fl_X11_179 : Cond.fieldLink RX11 179 "HeroSheet$State" "kinds" "[I" ∈ lw_u := tb_1 39 rfl
theorem fl_X8_19 : Cond.fieldLink RX8 19 "HeroSheet$State" "bases" "[I" ∈ lw_u := tb_1 40 rfl
theorem fl_X5_156 : Cond.fieldLink RX5 156 "HeroSheet$State" "bases" "[I" ∈ lw_u := tb_1 41 rfl
theorem fl_X11_182 : Cond.fieldLink RX11 182 "HeroSheet$State" "bases" "[I" ∈ lw_u := tb_1 42 rfl
theorem fl_X8_22 : Cond.fieldLink RX8 22 "HeroSheet$State" "spent" "[I" ∈ lw_u := tb_1 43 rfl
theorem fl_X5_123 : Cond.fieldLink RX5 123 "HeroSheet$State" "spent" "[I" ∈ lw_u := tb_1 44 rfl
theorem fl_X11_173 : Cond.fieldLink RX11 173 "HeroSheet$State" "spent" "[I" ∈ lw_u := tb_1 45 rfl
theorem fl_X8_25 : Cond.fieldLink RX8 25 "HeroSheet$State" "dicePacked" "[I" ∈ lw_u := tb_1 46 rfl
theorem fl_X8_28 : Cond.fieldLink RX8 28 "HeroSheet$State" "needsItself" "[I" ∈ lw_u := tb_1 47 rfl
theorem fl_X11_407 : Cond.fieldLink RX11 407 "HeroSheet$State" "needsItself" "[I" ∈ lw_u := tb_1 48 rfl
theorem fl_X8_31 : Cond.fieldLink RX8 31 "HeroSheet$State" "needsThrough" "[I" ∈ lw_u := tb_1 49 rfl
theorem fl_X5_67 : Cond.fieldLink RX5 67 "HeroSheet$State" "needsThrough" "[I" ∈ lw_u := tb_1 50 rfl
theorem fl_X11_262 : Cond.fieldLink RX11 262 "HeroSheet$State" "needsThrough" "[I" ∈ lw_u := tb_1 51 rfl
theorem fl_X8_34 : Cond.fieldLink RX8 34 "HeroSheet$State" "rules" "I" ∈ lw_u := tb_1 52 rfl
theorem fl_X5_80 : Cond.fieldLink RX5 80 "HeroSheet$State" "rules" "I" ∈ lw_u := tb_1 53 rfl
theorem fl_X11_133 : Cond.fieldLink RX11 133 "HeroSheet$State" "rules" "I" ∈ lw_u := tb_1 54 rfl
theorem fl_X8_39 : Cond.fieldLink RX8 39 "HeroSheet$State" "ruleList" "[LHeroSheet$Rule;" ∈ lw_u := tb_1 55 rfl
theorem fl_X5_83 : Cond.fieldLink RX5 83 "HeroSheet$State" "ruleList" "[LHeroSheet$Rule;" ∈ lw_u := tb_1 56 rfl
theorem fl_X11_354 : Cond.fieldLink RX11 354 "HeroSheet$State" "ruleList" "[LHeroSheet$Rule;" ∈ lw_u := tb_1 57 rfl
theorem fl_X8_43 : Cond.fieldLink RX8 43 "HeroSheet$State" "spells" "I" ∈ lw_u := tb_1 58 rfl
theorem fl_X11_153 : Cond.fieldLink RX11 153 "HeroSheet$State" "spells" "I" ∈ lw_u := tb_1 59 rfl
theorem fl_X8_46 : Cond.fieldLink RX8 46 "HeroSheet$State" "spellValues" "[I" ∈ lw_u := tb_1 60 rfl
theorem fl_X8_49 : Cond.fieldLink RX8 49 "HeroSheet$State" "spellNumbers" "[I" ∈ lw_u := tb_1 61 rfl
theorem fl_X8_52 : Cond.fieldLink RX8 52 "HeroSheet$State" "spellEnds" "[I" ∈ lw_u := tb_1 62 rfl
theorem fl_X8_55 : Cond.fieldLink RX8 55 "HeroSheet$State" "turn" "I" ∈ lw_u := tb_1 63 rfl
theorem fl_X11_156 : Cond.fieldLink RX11 156 "HeroSheet$State" "turn" "I" ∈ lw_u := tb_1 64 rfl
theorem fl_X8_58 : Cond.fieldLink RX8 58 "HeroSheet$State" "made" "I" ∈ lw_u := tb_1 65 rfl
theorem fl_X11_142 : Cond.fieldLink RX11 142 "HeroSheet$State" "made" "I" ∈ lw_u := tb_1 66 rfl
theorem fl_X8_61 : Cond.fieldLink RX8 61 "HeroSheet$State" "free" "I" ∈ lw_u := tb_1 67 rfl
theorem fl_X11_106 : Cond.fieldLink RX11 106 "HeroSheet$State" "free" "I" ∈ lw_u := tb_1 68 rfl
theorem fl_X5_208 : Cond.fieldLink RX5 208 "HeroSheet$State" "free" "I" ∈ lw_u := tb_1 69 rfl
theorem fl_X8_64 : Cond.fieldLink RX8 64 "HeroSheet$State" "stacking" "I" ∈ lw_u := tb_1 70 rfl
theorem fl_X11_139 : Cond.fieldLink RX11 139 "HeroSheet$State" "stacking" "I" ∈ lw_u := tb_1 71 rfl
theorem fl_X5_182 : Cond.fieldLink RX5 182 "HeroSheet$State" "stacking" "I" ∈ lw_u := tb_1 72 rfl
theorem su_X8 : Cond.superclass RX8 "java/lang/Object" ∈ lw_u := tb_1 107 rfl
theorem ac_int : Cond.arrayClass .int ∈ lw_u := tb_1 108 rfl
theorem cl_X11_19 : Cond.classLink RX11 19 RX1 ∈ lw_u := tb_1 109 rfl
theorem ib_X1 : Cond.instantiable RX1 10 ∈ lw_u := tb_1 110 rfl
theorem ml_X11_21 : Cond.methodLink RX11 21 yX1_init ∈ lw_u := tb_1 111 rfl
theorem im_X1_init : Cond.instanceMethod yX1_init ∈ lw_u := tb_1 112 rfl
theorem ml_X1_3 : Cond.methodLink RX1 3 objectInit ∈ lw_u := tb_1 114 rfl
theorem cl_X1_9 : Cond.classLink RX1 9 RX5 ∈ lw_u := tb_1 115 rfl
theorem ib_X5 : Cond.instantiable RX5 15 ∈ lw_u := tb_1 116 rfl
theorem mn_X1_11 : Cond.methodLinkNest RX1 11 yX5_init RX11 ∈ lw_u := tb_1 117 rfl
theorem im_X5_init : Cond.instanceMethod yX5_init ∈ lw_u := tb_1 118 rfl
theorem ml_X5_3 : Cond.methodLink RX5 3 objectInit ∈ lw_u := tb_1 120 rfl
theorem cl_X5_44 : Cond.classLink RX5 44 RX6 ∈ lw_u := tb_1 121 rfl
theorem fl_X5_9 : Cond.fieldLink RX5 9 "HeroSheet$Reckoning" "numbers" "[J" ∈ lw_u := tb_1 122 rfl
theorem fl_X1_60 : Cond.fieldLink RX1 60 "HeroSheet$Reckoning" "numbers" "[J" ∈ lw_u := tb_1 123 rfl
theorem fl_X11_243 : Cond.fieldLink RX11 243 "HeroSheet$Reckoning" "numbers" "[J" ∈ lw_u := tb_1 124 rfl
theorem fl_X5_15 : Cond.fieldLink RX5 15 "HeroSheet$Reckoning" "amounts" "[J" ∈ lw_u := tb_1 125 rfl
theorem fl_X11_259 : Cond.fieldLink RX11 259 "HeroSheet$Reckoning" "amounts" "[J" ∈ lw_u := tb_1 126 rfl
theorem fl_X5_18 : Cond.fieldLink RX5 18 "HeroSheet$Reckoning" "hows" "[I" ∈ lw_u := tb_1 127 rfl
theorem fl_X11_253 : Cond.fieldLink RX11 253 "HeroSheet$Reckoning" "hows" "[I" ∈ lw_u := tb_1 128 rfl
theorem fl_X5_22 : Cond.fieldLink RX5 22 "HeroSheet$Reckoning" "beaters" "[I" ∈ lw_u := tb_1 129 rfl
theorem fl_X11_256 : Cond.fieldLink RX11 256 "HeroSheet$Reckoning" "beaters" "[I" ∈ lw_u := tb_1 130 rfl
theorem fl_X5_25 : Cond.fieldLink RX5 25 "HeroSheet$Reckoning" "there" "I" ∈ lw_u := tb_1 131 rfl
theorem fl_X11_237 : Cond.fieldLink RX11 237 "HeroSheet$Reckoning" "there" "I" ∈ lw_u := tb_1 132 rfl
theorem fl_X5_29 : Cond.fieldLink RX5 29 "HeroSheet$Reckoning" "quarrels" "I" ∈ lw_u := tb_1 133 rfl
theorem fl_X11_195 : Cond.fieldLink RX11 195 "HeroSheet$Reckoning" "quarrels" "I" ∈ lw_u := tb_1 134 rfl
theorem fl_X5_32 : Cond.fieldLink RX5 32 "HeroSheet$Reckoning" "opened" "I" ∈ lw_u := tb_1 135 rfl
theorem fl_X1_58 : Cond.fieldLink RX1 58 "HeroSheet$Reckoning" "opened" "I" ∈ lw_u := tb_1 136 rfl
theorem fl_X5_35 : Cond.fieldLink RX5 35 "HeroSheet$Reckoning" "order" "[I" ∈ lw_u := tb_1 137 rfl
theorem fl_X5_38 : Cond.fieldLink RX5 38 "HeroSheet$Reckoning" "plan" "[I" ∈ lw_u := tb_1 138 rfl
theorem fl_X5_41 : Cond.fieldLink RX5 41 "HeroSheet$Reckoning" "planStarts" "[I" ∈ lw_u := tb_1 139 rfl
theorem fl_X5_46 : Cond.fieldLink RX5 46 "HeroSheet$Reckoning" "holding" "[LHeroSheet$Rule;" ∈ lw_u := tb_1 140 rfl
theorem fl_X5_50 : Cond.fieldLink RX5 50 "HeroSheet$Reckoning" "held" "I" ∈ lw_u := tb_1 141 rfl
theorem fl_X5_53 : Cond.fieldLink RX5 53 "HeroSheet$Reckoning" "firstOfSource" "[I" ∈ lw_u := tb_1 142 rfl
theorem fl_X5_56 : Cond.fieldLink RX5 56 "HeroSheet$Reckoning" "highOfType" "[I" ∈ lw_u := tb_1 143 rfl
theorem fl_X5_59 : Cond.fieldLink RX5 59 "HeroSheet$Reckoning" "lowOfType" "[I" ∈ lw_u := tb_1 144 rfl
theorem su_X5 : Cond.superclass RX5 "java/lang/Object" ∈ lw_u := tb_1 175 rfl
theorem ac_long : Cond.arrayClass .long ∈ lw_u := tb_1 176 rfl
theorem fl_X1_46 : Cond.fieldLink RX1 46 "HeroSheet$Book" "state" "LHeroSheet$State;" ∈ lw_u := tb_1 177 rfl
theorem fl_X1_12 : Cond.fieldLink RX1 12 "HeroSheet$Book" "reckoning" "LHeroSheet$Reckoning;" ∈ lw_u := tb_1 178 rfl
theorem fl_X11_410 : Cond.fieldLink RX11 410 "HeroSheet$Book" "reckoning" "LHeroSheet$Reckoning;" ∈ lw_u := tb_1 179 rfl
theorem fl_X1_18 : Cond.fieldLink RX1 18 "HeroSheet$Book" "edition" "I" ∈ lw_u := tb_1 180 rfl
theorem fl_X1_22 : Cond.fieldLink RX1 22 "HeroSheet$Book" "editions" "[I" ∈ lw_u := tb_1 181 rfl
theorem fl_X1_26 : Cond.fieldLink RX1 26 "HeroSheet$Book" "opened" "[I" ∈ lw_u := tb_1 182 rfl
theorem fl_X1_29 : Cond.fieldLink RX1 29 "HeroSheet$Book" "numbers" "[J" ∈ lw_u := tb_1 183 rfl
theorem fl_X1_33 : Cond.fieldLink RX1 33 "HeroSheet$Book" "frontFirsts" "[J" ∈ lw_u := tb_1 184 rfl
theorem fl_X1_36 : Cond.fieldLink RX1 36 "HeroSheet$Book" "frontSeconds" "[J" ∈ lw_u := tb_1 185 rfl
theorem fl_X1_39 : Cond.fieldLink RX1 39 "HeroSheet$Book" "frontSize" "I" ∈ lw_u := tb_1 186 rfl
theorem fl_X1_42 : Cond.fieldLink RX1 42 "HeroSheet$Book" "leading" "[Z" ∈ lw_u := tb_1 187 rfl
theorem su_X1 : Cond.superclass RX1 "java/lang/Object" ∈ lw_u := tb_1 208 rfl
theorem ac_boolean : Cond.arrayClass .boolean ∈ lw_u := tb_1 209 rfl
theorem cl_X11_39 : Cond.classLink RX11 39 RX9 ∈ lw_u := tb_1 210 rfl
theorem ib_X9 : Cond.instantiable RX9 3 ∈ lw_u := tb_1 211 rfl
theorem ml_X11_41 : Cond.methodLink RX11 41 yX9_init ∈ lw_u := tb_1 212 rfl
theorem im_X9_init : Cond.instanceMethod yX9_init ∈ lw_u := tb_1 213 rfl
theorem ml_X9_3 : Cond.methodLink RX9 3 objectInit ∈ lw_u := tb_1 215 rfl
theorem fl_X9_9 : Cond.fieldLink RX9 9 "HeroSheet$Test" "how" "I" ∈ lw_u := tb_1 216 rfl
theorem fl_X9_15 : Cond.fieldLink RX9 15 "HeroSheet$Test" "of" "I" ∈ lw_u := tb_1 217 rfl
theorem fl_X9_18 : Cond.fieldLink RX9 18 "HeroSheet$Test" "limit" "I" ∈ lw_u := tb_1 218 rfl
theorem su_X9 : Cond.superclass RX9 "java/lang/Object" ∈ lw_u := tb_1 225 rfl
theorem cl_X11_64 : Cond.classLink RX11 64 "[[I" ∈ lw_u := tb_1 226 rfl
theorem ao_I : Cond.arrayOver (.array .int) ∈ lw_u := tb_1 227 rfl
theorem fl_X11_10 : Cond.fieldLink RX11 10 "HeroSheet" "now" "LHeroSheet$State;" ∈ lw_u := tb_1 228 rfl
theorem fl_X11_16 : Cond.fieldLink RX11 16 "HeroSheet" "kept" "LHeroSheet$State;" ∈ lw_u := tb_1 229 rfl
theorem fl_X11_24 : Cond.fieldLink RX11 24 "HeroSheet" "book" "LHeroSheet$Book;" ∈ lw_u := tb_1 230 rfl
theorem fl_X11_28 : Cond.fieldLink RX11 28 "HeroSheet" "hasImage" "Z" ∈ lw_u := tb_1 231 rfl
theorem fl_X11_32 : Cond.fieldLink RX11 32 "HeroSheet" "backs" "I" ∈ lw_u := tb_1 232 rfl
theorem fl_X11_36 : Cond.fieldLink RX11 36 "HeroSheet" "latestStatus" "I" ∈ lw_u := tb_1 233 rfl
theorem fl_X11_44 : Cond.fieldLink RX11 44 "HeroSheet" "always" "LHeroSheet$Test;" ∈ lw_u := tb_1 234 rfl
theorem fl_X11_48 : Cond.fieldLink RX11 48 "HeroSheet" "comingTest" "LHeroSheet$Test;" ∈ lw_u := tb_1 235 rfl
theorem fl_X11_51 : Cond.fieldLink RX11 51 "HeroSheet" "ringValues" "[I" ∈ lw_u := tb_1 236 rfl
theorem fl_X11_55 : Cond.fieldLink RX11 55 "HeroSheet" "ringLayers" "[I" ∈ lw_u := tb_1 237 rfl
theorem fl_X11_58 : Cond.fieldLink RX11 58 "HeroSheet" "ringSize" "I" ∈ lw_u := tb_1 238 rfl
theorem fl_X11_61 : Cond.fieldLink RX11 61 "HeroSheet" "traced" "[I" ∈ lw_u := tb_1 239 rfl
theorem fl_X11_66 : Cond.fieldLink RX11 66 "HeroSheet" "rows" "[[I" ∈ lw_u := tb_2 0 rfl
theorem fl_X11_69 : Cond.fieldLink RX11 69 "HeroSheet" "rowSorts" "[I" ∈ lw_u := tb_2 1 rfl
theorem fl_X11_72 : Cond.fieldLink RX11 72 "HeroSheet" "rowSizes" "[I" ∈ lw_u := tb_2 2 rfl
theorem fl_X11_75 : Cond.fieldLink RX11 75 "HeroSheet" "waysToRoll" "[J" ∈ lw_u := tb_2 3 rfl
theorem su_X11 : Cond.superclass RX11 "java/lang/Object" ∈ lw_u := tb_2 36 rfl
theorem ml_L_13 : Cond.methodLink RL 13 yX11_value ∈ lw_u := tb_2 37 rfl
theorem im_X11_value : Cond.instanceMethod yX11_value ∈ lw_u := tb_2 38 rfl
theorem se_X11_X11_X11_value : Cond.selects RX11 yX11_value yX11_value ∈ lw_u := tb_2 39 rfl
theorem ml_X11_79 : Cond.methodLink RX11 79 yX11_isWithin ∈ lw_u := tb_2 41 rfl
theorem sm_X11_isWithin : Cond.static yX11_isWithin ∈ lw_u := tb_2 42 rfl
theorem ml_X11_83 : Cond.methodLink RX11 83 yX11_areDice ∈ lw_u := tb_2 44 rfl
theorem sm_X11_areDice : Cond.static yX11_areDice ∈ lw_u := tb_2 45 rfl
theorem ml_X11_87 : Cond.methodLink RX11 87 yX11_refused ∈ lw_u := tb_2 47 rfl
theorem im_X11_refused : Cond.instanceMethod yX11_refused ∈ lw_u := tb_2 49 rfl
theorem ml_X11_94 : Cond.methodLink RX11 94 yX8_addValue ∈ lw_u := tb_2 51 rfl
theorem im_X8_addValue : Cond.instanceMethod yX8_addValue ∈ lw_u := tb_2 52 rfl
theorem se_X8_X8_X8_addValue : Cond.selects RX8 yX8_addValue yX8_addValue ∈ lw_u := tb_2 53 rfl
theorem ml_X11_97 : Cond.methodLink RX11 97 yX1_forget ∈ lw_u := tb_2 55 rfl
theorem im_X1_forget : Cond.instanceMethod yX1_forget ∈ lw_u := tb_2 56 rfl
theorem se_X1_X1_X1_forget : Cond.selects RX1 yX1_forget yX1_forget ∈ lw_u := tb_2 57 rfl
theorem ml_X1_50 : Cond.methodLink RX1 50 yX5_arrange ∈ lw_u := tb_2 59 rfl
theorem im_X5_arrange : Cond.instanceMethod yX5_arrange ∈ lw_u := tb_2 60 rfl
theorem se_X5_X5_X5_arrange : Cond.selects RX5 yX5_arrange yX5_arrange ∈ lw_u := tb_2 61 rfl
theorem ml_X5_70 : Cond.methodLink RX5 70 yJ6_bitCount_0f7a4 ∈ lw_u := tb_2 63 rfl
theorem sm_J6_bitCount_0f7a4 : Cond.static yJ6_bitCount_0f7a4 ∈ lw_u := tb_2 64 rfl
theorem ki_J6_265 : Cond.constant RJ6 265 (1431655765) ∈ lw_u := tb_2 66 rfl
theorem ki_J6_266 : Cond.constant RJ6 266 (858993459) ∈ lw_u := tb_2 67 rfl
theorem ki_J6_267 : Cond.constant RJ6 267 (252645135) ∈ lw_u := tb_2 68 rfl
theorem ml_X5_76 : Cond.methodLink RX5 76 yX5_plannedWith ∈ lw_u := tb_2 69 rfl
theorem im_X5_plannedWith : Cond.instanceMethod yX5_plannedWith ∈ lw_u := tb_2 71 rfl
theorem ml_X11_100 : Cond.methodLink RX11 100 yX11_done ∈ lw_u := tb_2 73 rfl
theorem im_X11_done : Cond.instanceMethod yX11_done ∈ lw_u := tb_2 75 rfl
theorem ml_L_18 : Cond.methodLink RL 18 yX11_free ∈ lw_u := tb_2 77 rfl
theorem im_X11_free : Cond.instanceMethod yX11_free ∈ lw_u := tb_2 78 rfl
theorem se_X11_X11_X11_free : Cond.selects RX11 yX11_free yX11_free ∈ lw_u := tb_2 79 rfl
theorem ml_X11_103 : Cond.methodLink RX11 103 yX11_isChoice ∈ lw_u := tb_2 81 rfl
theorem sm_X11_isChoice : Cond.static yX11_isChoice ∈ lw_u := tb_2 82 rfl
theorem ml_X11_109 : Cond.methodLink RX11 109 yX11_withBit ∈ lw_u := tb_2 84 rfl
theorem sm_X11_withBit : Cond.static yX11_withBit ∈ lw_u := tb_2 85 rfl
theorem ml_L_23 : Cond.methodLink RL 23 yX11_test ∈ lw_u := tb_2 87 rfl
theorem im_X11_test : Cond.instanceMethod yX11_test ∈ lw_u := tb_2 88 rfl
theorem se_X11_X11_X11_test : Cond.selects RX11 yX11_test yX11_test ∈ lw_u := tb_2 89 rfl
theorem ml_L_28 : Cond.methodLink RL 28 yX11_testValue ∈ lw_u := tb_2 91 rfl
theorem im_X11_testValue : Cond.instanceMethod yX11_testValue ∈ lw_u := tb_2 92 rfl
theorem se_X11_X11_X11_testValue : Cond.selects RX11 yX11_testValue yX11_testValue ∈ lw_u := tb_2 93 rfl
theorem ml_X11_113 : Cond.methodLink RX11 113 yX11_isValue ∈ lw_u := tb_2 95 rfl
theorem im_X11_isValue : Cond.instanceMethod yX11_isValue ∈ lw_u := tb_2 97 rfl
theorem ml_L_33 : Cond.methodLink RL 33 yX11_rule ∈ lw_u := tb_2 99 rfl
theorem im_X11_rule : Cond.instanceMethod yX11_rule ∈ lw_u := tb_2 100 rfl
theorem se_X11_X11_X11_rule : Cond.selects RX11 yX11_rule yX11_rule ∈ lw_u := tb_2 101 rfl
theorem ml_X11_116 : Cond.methodLink RX11 116 yX11_canBeRule ∈ lw_u := tb_2 103 rfl
theorem im_X11_canBeRule : Cond.instanceMethod yX11_canBeRule ∈ lw_u := tb_2 105 rfl
theorem ml_X11_216 : Cond.methodLink RX11 216 yX11_ruleOrNull ∈ lw_u := tb_2 107 rfl
theorem im_X11_ruleOrNull : Cond.instanceMethod yX11_ruleOrNull ∈ lw_u := tb_2 109 rfl
theorem ml_X11_358 : Cond.methodLink RX11 358 yX9_readBits ∈ lw_u := tb_2 111 rfl
theorem im_X9_readBits : Cond.instanceMethod yX9_readBits ∈ lw_u := tb_2 112 rfl
theorem se_X9_X9_X9_readBits : Cond.selects RX9 yX9_readBits yX9_readBits ∈ lw_u := tb_2 113 rfl
theorem ml_X11_361 : Cond.methodLink RX11 361 yX11_isFactorOfValue ∈ lw_u := tb_2 115 rfl
theorem im_X11_isFactorOfValue : Cond.instanceMethod yX11_isFactorOfValue ∈ lw_u := tb_2 117 rfl
theorem ml_X11_120 : Cond.methodLink RX11 120 yX11_ruleOf ∈ lw_u := tb_2 119 rfl
theorem im_X11_ruleOf : Cond.instanceMethod yX11_ruleOf ∈ lw_u := tb_2 121 rfl
theorem cl_X11_364 : Cond.classLink RX11 364 RX7 ∈ lw_u := tb_2 123 rfl
theorem ib_X7 : Cond.instantiable RX7 10 ∈ lw_u := tb_2 124 rfl
theorem ml_X11_366 : Cond.methodLink RX11 366 yX7_init ∈ lw_u := tb_2 125 rfl
theorem im_X7_init : Cond.instanceMethod yX7_init ∈ lw_u := tb_2 126 rfl
theorem ml_X7_3 : Cond.methodLink RX7 3 yX6_init ∈ lw_u := tb_2 128 rfl
theorem im_X6_init : Cond.instanceMethod yX6_init ∈ lw_u := tb_2 129 rfl
theorem ml_X6_3 : Cond.methodLink RX6 3 objectInit ∈ lw_u := tb_2 131 rfl
theorem fl_X6_9 : Cond.fieldLink RX6 9 "HeroSheet$Rule" "kind" "I" ∈ lw_u := tb_2 132 rfl
theorem fl_X5_129 : Cond.fieldLink RX5 129 "HeroSheet$Rule" "kind" "I" ∈ lw_u := tb_2 133 rfl
theorem fl_X11_220 : Cond.fieldLink RX11 220 "HeroSheet$Rule" "kind" "I" ∈ lw_u := tb_2 134 rfl
theorem fl_X6_15 : Cond.fieldLink RX6 15 "HeroSheet$Rule" "number" "I" ∈ lw_u := tb_2 135 rfl
theorem fl_X10_23 : Cond.fieldLink RX10 23 "HeroSheet$Typed" "number" "I" ∈ lw_u := tb_2 136 rfl
theorem sf_X10_number : Cond.sameField "HeroSheet$Typed" "HeroSheet$Rule" "number" "I" ∈ lw_u := tb_2 137 rfl
theorem fl_X5_159 : Cond.fieldLink RX5 159 "HeroSheet$Rule" "number" "I" ∈ lw_u := tb_2 138 rfl
theorem fl_X5_177 : Cond.fieldLink RX5 177 "HeroSheet$Typed" "number" "I" ∈ lw_u := tb_2 139 rfl
theorem fl_X5_198 : Cond.fieldLink RX5 198 "HeroSheet$Cap" "number" "I" ∈ lw_u := tb_2 140 rfl
theorem sf_X2_number : Cond.sameField "HeroSheet$Cap" "HeroSheet$Rule" "number" "I" ∈ lw_u := tb_2 141 rfl
theorem fl_X11_395 : Cond.fieldLink RX11 395 "HeroSheet$Rule" "number" "I" ∈ lw_u := tb_2 142 rfl
theorem fl_X6_18 : Cond.fieldLink RX6 18 "HeroSheet$Rule" "test" "LHeroSheet$Test;" ∈ lw_u := tb_2 143 rfl
theorem fl_X5_136 : Cond.fieldLink RX5 136 "HeroSheet$Rule" "test" "LHeroSheet$Test;" ∈ lw_u := tb_2 144 rfl
theorem fl_X11_240 : Cond.fieldLink RX11 240 "HeroSheet$Rule" "test" "LHeroSheet$Test;" ∈ lw_u := tb_2 145 rfl
theorem fl_X6_22 : Cond.fieldLink RX6 22 "HeroSheet$Rule" "aim" "I" ∈ lw_u := tb_2 146 rfl
theorem fl_X5_146 : Cond.fieldLink RX5 146 "HeroSheet$Rule" "aim" "I" ∈ lw_u := tb_2 147 rfl
theorem fl_X11_225 : Cond.fieldLink RX11 225 "HeroSheet$Rule" "aim" "I" ∈ lw_u := tb_2 148 rfl
theorem fl_X6_25 : Cond.fieldLink RX6 25 "HeroSheet$Rule" "rank" "I" ∈ lw_u := tb_2 149 rfl
theorem fl_X4_19 : Cond.fieldLink RX4 19 "HeroSheet$Opens" "rank" "I" ∈ lw_u := tb_2 150 rfl
theorem sf_X4_rank : Cond.sameField "HeroSheet$Opens" "HeroSheet$Rule" "rank" "I" ∈ lw_u := tb_2 151 rfl
theorem fl_X5_153 : Cond.fieldLink RX5 153 "HeroSheet$Rule" "rank" "I" ∈ lw_u := tb_2 152 rfl
theorem fl_X11_228 : Cond.fieldLink RX11 228 "HeroSheet$Rule" "rank" "I" ∈ lw_u := tb_2 153 rfl
theorem fl_X6_28 : Cond.fieldLink RX6 28 "HeroSheet$Rule" "source" "I" ∈ lw_u := tb_2 154 rfl
theorem fl_X4_23 : Cond.fieldLink RX4 23 "HeroSheet$Opens" "source" "I" ∈ lw_u := tb_2 155 rfl
theorem sf_X4_source : Cond.sameField "HeroSheet$Opens" "HeroSheet$Rule" "source" "I" ∈ lw_u := tb_2 156 rfl
theorem fl_X5_172 : Cond.fieldLink RX5 172 "HeroSheet$Rule" "source" "I" ∈ lw_u := tb_2 157 rfl
theorem fl_X11_231 : Cond.fieldLink RX11 231 "HeroSheet$Rule" "source" "I" ∈ lw_u := tb_2 158 rfl
theorem fl_X6_31 : Cond.fieldLink RX6 31 "HeroSheet$Rule" "writes" "I" ∈ lw_u := tb_2 159 rfl
theorem fl_X5_86 : Cond.fieldLink RX5 86 "HeroSheet$Rule" "writes" "I" ∈ lw_u := tb_2 160 rfl
theorem fl_X8_73 : Cond.fieldLink RX8 73 "HeroSheet$Rule" "writes" "I" ∈ lw_u := tb_2 161 rfl
theorem fl_X11_250 : Cond.fieldLink RX11 250 "HeroSheet$Rule" "writes" "I" ∈ lw_u := tb_2 162 rfl
theorem fl_X6_34 : Cond.fieldLink RX6 34 "HeroSheet$Rule" "told" "I" ∈ lw_u := tb_2 163 rfl
theorem fl_X6_37 : Cond.fieldLink RX6 37 "HeroSheet$Rule" "by" "I" ∈ lw_u := tb_2 164 rfl
theorem fl_X6_40 : Cond.fieldLink RX6 40 "HeroSheet$Rule" "factor" "I" ∈ lw_u := tb_2 165 rfl
theorem su_X7 : Cond.superclass RX7 RX6 ∈ lw_u := tb_2 186 rfl
theorem cl_X11_369 : Cond.classLink RX11 369 RX2 ∈ lw_u := tb_2 187 rfl
theorem ib_X2 : Cond.instantiable RX2 11 ∈ lw_u := tb_2 188 rfl
theorem ml_X11_371 : Cond.methodLink RX11 371 yX2_init ∈ lw_u := tb_2 189 rfl
theorem im_X2_init : Cond.instanceMethod yX2_init ∈ lw_u := tb_2 190 rfl
theorem ml_X2_3 : Cond.methodLink RX2 3 yX6_init ∈ lw_u := tb_2 192 rfl
theorem fl_X2_9 : Cond.fieldLink RX2 9 "HeroSheet$Cap" "atMost" "Z" ∈ lw_u := tb_2 193 rfl
theorem fl_X5_194 : Cond.fieldLink RX5 194 "HeroSheet$Cap" "atMost" "Z" ∈ lw_u := tb_2 194 rfl
theorem su_X2 : Cond.superclass RX2 RX6 ∈ lw_u := tb_2 207 rfl
theorem cl_X11_374 : Cond.classLink RX11 374 RX3 ∈ lw_u := tb_2 208 rfl
theorem ib_X3 : Cond.instantiable RX3 10 ∈ lw_u := tb_2 209 rfl
theorem ml_X11_376 : Cond.methodLink RX11 376 yX3_init ∈ lw_u := tb_2 210 rfl
theorem im_X3_init : Cond.instanceMethod yX3_init ∈ lw_u := tb_2 211 rfl
theorem ml_X3_3 : Cond.methodLink RX3 3 yX6_init ∈ lw_u := tb_2 213 rfl
theorem su_X3 : Cond.superclass RX3 RX6 ∈ lw_u := tb_2 224 rfl
theorem cl_X11_379 : Cond.classLink RX11 379 RX4 ∈ lw_u := tb_2 225 rfl
theorem ib_X4 : Cond.instantiable RX4 10 ∈ lw_u := tb_2 226 rfl
theorem ml_X11_381 : Cond.methodLink RX11 381 yX4_init ∈ lw_u := tb_2 227 rfl
theorem im_X4_init : Cond.instanceMethod yX4_init ∈ lw_u := tb_2 228 rfl
theorem ml_X4_3 : Cond.methodLink RX4 3 yX6_init ∈ lw_u := tb_2 230 rfl
theorem su_X4 : Cond.superclass RX4 RX6 ∈ lw_u := tb_3 1 rfl
theorem cl_X11_384 : Cond.classLink RX11 384 RX0 ∈ lw_u := tb_3 2 rfl
theorem ib_X0 : Cond.instantiable RX0 10 ∈ lw_u := tb_3 3 rfl
theorem ml_X11_386 : Cond.methodLink RX11 386 yX0_init ∈ lw_u := tb_3 4 rfl
theorem im_X0_init : Cond.instanceMethod yX0_init ∈ lw_u := tb_3 5 rfl
theorem ml_X0_3 : Cond.methodLink RX0 3 yX4_init ∈ lw_u := tb_3 7 rfl
theorem su_X0 : Cond.superclass RX0 RX4 ∈ lw_u := tb_3 18 rfl
theorem cl_X11_221 : Cond.classLink RX11 221 RX6 ∈ lw_u := tb_3 19 rfl
theorem ib_X6 : Cond.instantiable RX6 10 ∈ lw_u := tb_3 20 rfl
theorem ml_X11_333 : Cond.methodLink RX11 333 yX6_init ∈ lw_u := tb_3 21 rfl
theorem su_X6 : Cond.superclass RX6 "java/lang/Object" ∈ lw_u := tb_3 32 rfl
theorem ml_X11_124 : Cond.methodLink RX11 124 yX11_entered ∈ lw_u := tb_3 33 rfl
theorem im_X11_entered : Cond.instanceMethod yX11_entered ∈ lw_u := tb_3 35 rfl
theorem ml_X11_387 : Cond.methodLink RX11 387 yX6_readBits ∈ lw_u := tb_3 37 rfl
theorem im_X6_readBits : Cond.instanceMethod yX6_readBits ∈ lw_u := tb_3 38 rfl
theorem se_X6_X6_X6_readBits : Cond.selects RX6 yX6_readBits yX6_readBits ∈ lw_u := tb_3 39 rfl
theorem sw_X6_X6_readBits : Cond.sameMethod "HeroSheet$Rule" "HeroSheet$Rule" "readBits" "()I" ∈ lw_u := tb_3 40 rfl
theorem se_X0_X6_X6_readBits : Cond.selects RX0 yX6_readBits yX6_readBits ∈ lw_u := tb_3 41 rfl
theorem se_X2_X6_X6_readBits : Cond.selects RX2 yX6_readBits yX6_readBits ∈ lw_u := tb_3 42 rfl
theorem se_X3_X6_X6_readBits : Cond.selects RX3 yX6_readBits yX6_readBits ∈ lw_u := tb_3 43 rfl
theorem se_X4_X6_X6_readBits : Cond.selects RX4 yX6_readBits yX6_readBits ∈ lw_u := tb_3 44 rfl
theorem se_X7_X6_X6_readBits : Cond.selects RX7 yX6_readBits yX6_readBits ∈ lw_u := tb_3 45 rfl
theorem se_X10_X6_X6_readBits : Cond.selects RX10 yX6_readBits yX6_readBits ∈ lw_u := tb_3 46 rfl
theorem ml_X6_43 : Cond.methodLink RX6 43 yX9_readBits ∈ lw_u := tb_3 48 rfl
theorem ml_X11_388 : Cond.methodLink RX11 388 yX11_closesRing ∈ lw_u := tb_3 49 rfl
theorem im_X11_closesRing : Cond.instanceMethod yX11_closesRing ∈ lw_u := tb_3 51 rfl
theorem ml_X11_398 : Cond.methodLink RX11 398 yX11_keepRing ∈ lw_u := tb_3 53 rfl
theorem im_X11_keepRing : Cond.instanceMethod yX11_keepRing ∈ lw_u := tb_3 55 rfl
theorem ml_X11_404 : Cond.methodLink RX11 404 yX11_leastOf ∈ lw_u := tb_3 57 rfl
theorem sm_X11_leastOf : Cond.static yX11_leastOf ∈ lw_u := tb_3 58 rfl
theorem ml_X11_145 : Cond.methodLink RX11 145 yX11_hasBit ∈ lw_u := tb_3 60 rfl
theorem sm_X11_hasBit : Cond.static yX11_hasBit ∈ lw_u := tb_3 61 rfl
theorem ml_X11_401 : Cond.methodLink RX11 401 yX8_needing ∈ lw_u := tb_3 63 rfl
theorem im_X8_needing : Cond.instanceMethod yX8_needing ∈ lw_u := tb_3 64 rfl
theorem se_X8_X8_X8_needing : Cond.selects RX8 yX8_needing yX8_needing ∈ lw_u := tb_3 65 rfl
theorem ml_X11_391 : Cond.methodLink RX11 391 yX8_addRule ∈ lw_u := tb_3 67 rfl
theorem im_X8_addRule : Cond.instanceMethod yX8_addRule ∈ lw_u := tb_3 68 rfl
theorem se_X8_X8_X8_addRule : Cond.selects RX8 yX8_addRule yX8_addRule ∈ lw_u := tb_3 69 rfl
theorem ml_X8_76 : Cond.methodLink RX8 76 yX6_readBits ∈ lw_u := tb_3 71 rfl
theorem ml_X8_80 : Cond.methodLink RX8 80 yX8_addNeeds ∈ lw_u := tb_3 72 rfl
theorem im_X8_addNeeds : Cond.instanceMethod yX8_addNeeds ∈ lw_u := tb_3 74 rfl
theorem mn_X8_84 : Cond.methodLinkNest RX8 84 yX11_hasBit RX11 ∈ lw_u := tb_3 76 rfl
theorem ml_L_38 : Cond.methodLink RL 38 yX11_typed ∈ lw_u := tb_3 77 rfl
theorem im_X11_typed : Cond.instanceMethod yX11_typed ∈ lw_u := tb_3 78 rfl
theorem se_X11_X11_X11_typed : Cond.selects RX11 yX11_typed yX11_typed ∈ lw_u := tb_3 79 rfl
theorem ml_X11_128 : Cond.methodLink RX11 128 yX11_isType ∈ lw_u := tb_3 81 rfl
theorem sm_X11_isType : Cond.static yX11_isType ∈ lw_u := tb_3 82 rfl
theorem cl_X11_131 : Cond.classLink RX11 131 RX10 ∈ lw_u := tb_3 84 rfl
theorem ib_X10 : Cond.instantiable RX10 11 ∈ lw_u := tb_3 85 rfl
theorem ml_X11_136 : Cond.methodLink RX11 136 yX10_init ∈ lw_u := tb_3 86 rfl
theorem im_X10_init : Cond.instanceMethod yX10_init ∈ lw_u := tb_3 87 rfl
theorem ml_X10_3 : Cond.methodLink RX10 3 yX6_init ∈ lw_u := tb_3 89 rfl
theorem fl_X10_9 : Cond.fieldLink RX10 9 "HeroSheet$Typed" "type" "I" ∈ lw_u := tb_3 90 rfl
theorem fl_X5_185 : Cond.fieldLink RX5 185 "HeroSheet$Typed" "type" "I" ∈ lw_u := tb_3 91 rfl
theorem fl_X11_234 : Cond.fieldLink RX11 234 "HeroSheet$Typed" "type" "I" ∈ lw_u := tb_3 92 rfl
theorem su_X10 : Cond.superclass RX10 RX6 ∈ lw_u := tb_3 105 rfl
theorem ml_L_42 : Cond.methodLink RL 42 yX11_stack ∈ lw_u := tb_3 106 rfl
theorem im_X11_stack : Cond.instanceMethod yX11_stack ∈ lw_u := tb_3 107 rfl
theorem se_X11_X11_X11_stack : Cond.selects RX11 yX11_stack yX11_stack ∈ lw_u := tb_3 108 rfl
theorem ml_L_46 : Cond.methodLink RL 46 yX11_make ∈ lw_u := tb_3 110 rfl
theorem im_X11_make : Cond.instanceMethod yX11_make ∈ lw_u := tb_3 111 rfl
theorem se_X11_X11_X11_make : Cond.selects RX11 yX11_make yX11_make ∈ lw_u := tb_3 112 rfl
theorem ml_X11_148 : Cond.methodLink RX11 148 yJ6_bitCount_0f7a4 ∈ lw_u := tb_3 114 rfl
theorem ml_L_50 : Cond.methodLink RL 50 yX11_spell ∈ lw_u := tb_3 115 rfl
theorem im_X11_spell : Cond.instanceMethod yX11_spell ∈ lw_u := tb_3 116 rfl
theorem se_X11_X11_X11_spell : Cond.selects RX11 yX11_spell yX11_spell ∈ lw_u := tb_3 117 rfl
theorem ml_X11_159 : Cond.methodLink RX11 159 yX8_addSpell ∈ lw_u := tb_3 119 rfl
theorem im_X8_addSpell : Cond.instanceMethod yX8_addSpell ∈ lw_u := tb_3 120 rfl
theorem se_X8_X8_X8_addSpell : Cond.selects RX8 yX8_addSpell yX8_addSpell ∈ lw_u := tb_3 121 rfl
theorem ml_L_54 : Cond.methodLink RL 54 yX11_turn ∈ lw_u := tb_3 123 rfl
theorem im_X11_turn : Cond.instanceMethod yX11_turn ∈ lw_u := tb_3 124 rfl
theorem se_X11_X11_X11_turn : Cond.selects RX11 yX11_turn yX11_turn ∈ lw_u := tb_3 125 rfl
theorem ml_X11_162 : Cond.methodLink RX11 162 yX8_lastingSpells ∈ lw_u := tb_3 127 rfl
theorem im_X8_lastingSpells : Cond.instanceMethod yX8_lastingSpells ∈ lw_u := tb_3 128 rfl
theorem se_X8_X8_X8_lastingSpells : Cond.selects RX8 yX8_lastingSpells yX8_lastingSpells ∈ lw_u := tb_3 129 rfl
theorem ml_L_59 : Cond.methodLink RL 59 yX11_spend ∈ lw_u := tb_3 131 rfl
theorem im_X11_spend : Cond.instanceMethod yX11_spend ∈ lw_u := tb_3 132 rfl
theorem se_X11_X11_X11_spend : Cond.selects RX11 yX11_spend yX11_spend ∈ lw_u := tb_3 133 rfl
theorem ml_X11_166 : Cond.methodLink RX11 166 yX11_isOfKind ∈ lw_u := tb_3 135 rfl
theorem im_X11_isOfKind : Cond.instanceMethod yX11_isOfKind ∈ lw_u := tb_3 137 rfl
theorem ml_X11_169 : Cond.methodLink RX11 169 yX11_numberNow ∈ lw_u := tb_3 139 rfl
theorem im_X11_numberNow : Cond.instanceMethod yX11_numberNow ∈ lw_u := tb_3 141 rfl
theorem ml_X11_212 : Cond.methodLink RX11 212 yX1_numberOn ∈ lw_u := tb_3 143 rfl
theorem im_X1_numberOn : Cond.instanceMethod yX1_numberOn ∈ lw_u := tb_3 144 rfl
theorem se_X1_X1_X1_numberOn : Cond.selects RX1 yX1_numberOn yX1_numberOn ∈ lw_u := tb_3 145 rfl
theorem ml_X1_67 : Cond.methodLink RX1 67 yX1_write ∈ lw_u := tb_3 147 rfl
theorem im_X1_write : Cond.instanceMethod yX1_write ∈ lw_u := tb_3 149 rfl
theorem ml_X1_54 : Cond.methodLink RX1 54 yX5_reckon ∈ lw_u := tb_3 151 rfl
theorem im_X5_reckon : Cond.instanceMethod yX5_reckon ∈ lw_u := tb_3 152 rfl
theorem se_X5_X5_X5_reckon : Cond.selects RX5 yX5_reckon yX5_reckon ∈ lw_u := tb_3 153 rfl
theorem ml_X5_89 : Cond.methodLink RX5 89 yX5_thereOn ∈ lw_u := tb_3 155 rfl
theorem im_X5_thereOn : Cond.instanceMethod yX5_thereOn ∈ lw_u := tb_3 157 rfl
theorem mn_X5_132 : Cond.methodLinkNest RX5 132 yX11_hasBit RX11 ∈ lw_u := tb_3 159 rfl
theorem ml_X5_140 : Cond.methodLink RX5 140 yX9_holds ∈ lw_u := tb_3 160 rfl
theorem im_X9_holds : Cond.instanceMethod yX9_holds ∈ lw_u := tb_3 161 rfl
theorem se_X9_X9_X9_holds : Cond.selects RX9 yX9_holds yX9_holds ∈ lw_u := tb_3 162 rfl
theorem ml_X5_93 : Cond.methodLink RX5 93 yX5_gather ∈ lw_u := tb_3 164 rfl
theorem im_X5_gather : Cond.instanceMethod yX5_gather ∈ lw_u := tb_3 166 rfl
theorem ml_X5_149 : Cond.methodLink RX5 149 yX6_amountBy ∈ lw_u := tb_3 168 rfl
theorem im_X6_amountBy : Cond.instanceMethod yX6_amountBy ∈ lw_u := tb_3 169 rfl
theorem se_X6_X6_X6_amountBy : Cond.selects RX6 yX6_amountBy yX6_amountBy ∈ lw_u := tb_3 170 rfl
theorem sw_X6_X6_amountBy : Cond.sameMethod "HeroSheet$Rule" "HeroSheet$Rule" "amountBy" "([J)J" ∈ lw_u := tb_3 171 rfl
theorem se_X0_X6_X6_amountBy : Cond.selects RX0 yX6_amountBy yX6_amountBy ∈ lw_u := tb_3 172 rfl
theorem se_X2_X6_X6_amountBy : Cond.selects RX2 yX6_amountBy yX6_amountBy ∈ lw_u := tb_3 173 rfl
theorem se_X3_X6_X6_amountBy : Cond.selects RX3 yX6_amountBy yX6_amountBy ∈ lw_u := tb_3 174 rfl
theorem se_X4_X6_X6_amountBy : Cond.selects RX4 yX6_amountBy yX6_amountBy ∈ lw_u := tb_3 175 rfl
theorem se_X7_X6_X6_amountBy : Cond.selects RX7 yX6_amountBy yX6_amountBy ∈ lw_u := tb_3 176 rfl
theorem se_X10_X6_X6_amountBy : Cond.selects RX10 yX6_amountBy yX6_amountBy ∈ lw_u := tb_3 177 rfl
theorem kl_X6_49 : Cond.constantLong RX6 49 (2) ∈ lw_u := tb_3 179 rfl
theorem ml_X5_97 : Cond.methodLink RX5 97 yX5_baseOrSet ∈ lw_u := tb_3 180 rfl
theorem im_X5_baseOrSet : Cond.instanceMethod yX5_baseOrSet ∈ lw_u := tb_3 182 rfl
theorem ml_X5_162 : Cond.methodLink RX5 162 yX5_beat ∈ lw_u := tb_3 184 rfl
theorem im_X5_beat : Cond.instanceMethod yX5_beat ∈ lw_u := tb_3 186 rfl
theorem ml_X5_101 : Cond.methodLink RX5 101 yX5_markTwice ∈ lw_u := tb_3 188 rfl
theorem im_X5_markTwice : Cond.instanceMethod yX5_markTwice ∈ lw_u := tb_3 190 rfl
theorem ml_X5_166 : Cond.methodLink RX5 166 yJ7_fill_53178 ∈ lw_u := tb_3 192 rfl
theorem sm_J7_fill_53178 : Cond.static yJ7_fill_53178 ∈ lw_u := tb_3 193 rfl
theorem ml_X5_104 : Cond.methodLink RX5 104 yX5_beatTyped ∈ lw_u := tb_3 195 rfl
theorem im_X5_beatTyped : Cond.instanceMethod yX5_beatTyped ∈ lw_u := tb_3 197 rfl
theorem cl_X5_175 : Cond.classLink RX5 175 RX10 ∈ lw_u := tb_3 199 rfl
theorem ml_X5_178 : Cond.methodLink RX5 178 yX5_compare ∈ lw_u := tb_3 200 rfl
theorem im_X5_compare : Cond.instanceMethod yX5_compare ∈ lw_u := tb_3 202 rfl
theorem ml_X5_188 : Cond.methodLink RX5 188 yX5_bestLike ∈ lw_u := tb_3 204 rfl
theorem im_X5_bestLike : Cond.instanceMethod yX5_bestLike ∈ lw_u := tb_3 206 rfl
theorem ml_X5_108 : Cond.methodLink RX5 108 yX5_boons ∈ lw_u := tb_3 208 rfl
theorem im_X5_boons : Cond.instanceMethod yX5_boons ∈ lw_u := tb_3 210 rfl
theorem ml_X5_112 : Cond.methodLink RX5 112 yX8_spellsOn ∈ lw_u := tb_3 212 rfl
theorem im_X8_spellsOn : Cond.instanceMethod yX8_spellsOn ∈ lw_u := tb_3 213 rfl
theorem se_X8_X8_X8_spellsOn : Cond.selects RX8 yX8_spellsOn yX8_spellsOn ∈ lw_u := tb_3 214 rfl
theorem ml_X5_116 : Cond.methodLink RX5 116 yX5_capped ∈ lw_u := tb_3 216 rfl
theorem im_X5_capped : Cond.instanceMethod yX5_capped ∈ lw_u := tb_3 218 rfl
theorem cl_X5_192 : Cond.classLink RX5 192 RX2 ∈ lw_u := tb_3 220 rfl
theorem ml_X5_199 : Cond.methodLink RX5 199 yJ9_max_f86c9 ∈ lw_u := tb_3 221 rfl
theorem sm_J9_max_f86c9 : Cond.static yJ9_max_f86c9 ∈ lw_u := tb_3 222 rfl
theorem ml_X5_205 : Cond.methodLink RX5 205 yJ9_min_f86c9 ∈ lw_u := tb_3 224 rfl
theorem sm_J9_min_f86c9 : Cond.static yJ9_min_f86c9 ∈ lw_u := tb_3 225 rfl
theorem ml_X5_126 : Cond.methodLink RX5 126 yX5_openedOn ∈ lw_u := tb_3 227 rfl
theorem im_X5_openedOn : Cond.instanceMethod yX5_openedOn ∈ lw_u := tb_3 229 rfl
theorem cl_X5_211 : Cond.classLink RX5 211 RX4 ∈ lw_u := tb_3 231 rfl
theorem ml_X1_61 : Cond.methodLink RX1 61 arraycopyName ∈ lw_u := tb_3 232 rfl
theorem sm_arraycopy : Cond.static arraycopyName ∈ lw_u := tb_3 233 rfl
theorem nt_arraycopy : Cond.native arraycopyName ∈ lw_u := tb_3 234 rfl
theorem ml_L_63 : Cond.methodLink RL 63 yX11_rest ∈ lw_u := tb_3 235 rfl
theorem im_X11_rest : Cond.instanceMethod yX11_rest ∈ lw_u := tb_3 236 rfl
theorem se_X11_X11_X11_rest : Cond.selects RX11 yX11_rest yX11_rest ∈ lw_u := tb_3 237 rfl
theorem ml_L_67 : Cond.methodLink RL 67 yX11_image ∈ lw_u := tb_3 239 rfl
theorem im_X11_image : Cond.instanceMethod yX11_image ∈ lw_u := tb_4 0 rfl
theorem se_X11_X11_X11_image : Cond.selects RX11 yX11_image yX11_image ∈ lw_u := tb_4 1 rfl
theorem ml_X11_176 : Cond.methodLink RX11 176 yX8_copyOf ∈ lw_u := tb_4 3 rfl
theorem im_X8_copyOf : Cond.instanceMethod yX8_copyOf ∈ lw_u := tb_4 4 rfl
theorem se_X8_X8_X8_copyOf : Cond.selects RX8 yX8_copyOf yX8_copyOf ∈ lw_u := tb_4 5 rfl
theorem ml_X8_67 : Cond.methodLink RX8 67 arraycopyName ∈ lw_u := tb_4 7 rfl
theorem ml_L_71 : Cond.methodLink RL 71 yX11_back ∈ lw_u := tb_4 8 rfl
theorem im_X11_back : Cond.instanceMethod yX11_back ∈ lw_u := tb_4 9 rfl
theorem se_X11_X11_X11_back : Cond.selects RX11 yX11_back yX11_back ∈ lw_u := tb_4 10 rfl
theorem ml_L_75 : Cond.methodLink RL 75 yX11_valueTold ∈ lw_u := tb_4 12 rfl
theorem im_X11_valueTold : Cond.instanceMethod yX11_valueTold ∈ lw_u := tb_4 13 rfl
theorem se_X11_X11_X11_valueTold : Cond.selects RX11 yX11_valueTold yX11_valueTold ∈ lw_u := tb_4 14 rfl
theorem ml_X11_185 : Cond.methodLink RX11 185 yX8_diceCount ∈ lw_u := tb_4 16 rfl
theorem im_X8_diceCount : Cond.instanceMethod yX8_diceCount ∈ lw_u := tb_4 17 rfl
theorem se_X8_X8_X8_diceCount : Cond.selects RX8 yX8_diceCount yX8_diceCount ∈ lw_u := tb_4 18 rfl
theorem ml_X11_188 : Cond.methodLink RX11 188 yX8_diceSides ∈ lw_u := tb_4 20 rfl
theorem im_X8_diceSides : Cond.instanceMethod yX8_diceSides ∈ lw_u := tb_4 21 rfl
theorem se_X8_X8_X8_diceSides : Cond.selects RX8 yX8_diceSides yX8_diceSides ∈ lw_u := tb_4 22 rfl
theorem ml_X11_191 : Cond.methodLink RX11 191 yX11_reckonedNow ∈ lw_u := tb_4 24 rfl
theorem im_X11_reckonedNow : Cond.instanceMethod yX11_reckonedNow ∈ lw_u := tb_4 26 rfl
theorem ml_X11_414 : Cond.methodLink RX11 414 yX5_reckon ∈ lw_u := tb_4 28 rfl
theorem ml_X11_200 : Cond.methodLink RX11 200 yX11_bit ∈ lw_u := tb_4 29 rfl
theorem sm_X11_bit : Cond.static yX11_bit ∈ lw_u := tb_4 30 rfl
theorem ml_L_79 : Cond.methodLink RL 79 yX11_number ∈ lw_u := tb_4 32 rfl
theorem im_X11_number : Cond.instanceMethod yX11_number ∈ lw_u := tb_4 33 rfl
theorem se_X11_X11_X11_number : Cond.selects RX11 yX11_number yX11_number ∈ lw_u := tb_4 34 rfl
theorem ml_X11_204 : Cond.methodLink RX11 204 yX11_isSetOrMade ∈ lw_u := tb_4 36 rfl
theorem sm_X11_isSetOrMade : Cond.static yX11_isSetOrMade ∈ lw_u := tb_4 37 rfl
theorem ml_X11_282 : Cond.methodLink RX11 282 yX11_isSet ∈ lw_u := tb_4 39 rfl
theorem sm_X11_isSet : Cond.static yX11_isSet ∈ lw_u := tb_4 40 rfl
theorem kl_X11_207 : Cond.constantLong RX11 207 (-1000000000000) ∈ lw_u := tb_4 42 rfl
theorem ml_X11_209 : Cond.methodLink RX11 209 yX11_madeOr ∈ lw_u := tb_4 43 rfl
theorem im_X11_madeOr : Cond.instanceMethod yX11_madeOr ∈ lw_u := tb_4 45 rfl
theorem ml_L_84 : Cond.methodLink RL 84 yX11_ruleTold ∈ lw_u := tb_4 47 rfl
theorem im_X11_ruleTold : Cond.instanceMethod yX11_ruleTold ∈ lw_u := tb_4 48 rfl
theorem se_X11_X11_X11_ruleTold : Cond.selects RX11 yX11_ruleTold yX11_ruleTold ∈ lw_u := tb_4 49 rfl
theorem ml_X11_246 : Cond.methodLink RX11 246 yX9_holds ∈ lw_u := tb_4 51 rfl
theorem ml_L_88 : Cond.methodLink RL 88 yX11_amount ∈ lw_u := tb_4 52 rfl
theorem im_X11_amount : Cond.instanceMethod yX11_amount ∈ lw_u := tb_4 53 rfl
theorem se_X11_X11_X11_amount : Cond.selects RX11 yX11_amount yX11_amount ∈ lw_u := tb_4 54 rfl
theorem ml_L_93 : Cond.methodLink RL 93 yX11_ring ∈ lw_u := tb_4 56 rfl
theorem im_X11_ring : Cond.instanceMethod yX11_ring ∈ lw_u := tb_4 57 rfl
theorem se_X11_X11_X11_ring : Cond.selects RX11 yX11_ring yX11_ring ∈ lw_u := tb_4 58 rfl
theorem ml_L_98 : Cond.methodLink RL 98 yX11_needs ∈ lw_u := tb_4 60 rfl
theorem im_X11_needs : Cond.instanceMethod yX11_needs ∈ lw_u := tb_4 61 rfl
theorem se_X11_X11_X11_needs : Cond.selects RX11 yX11_needs yX11_needs ∈ lw_u := tb_4 62 rfl
theorem ml_L_102 : Cond.methodLink RL 102 yX11_choice ∈ lw_u := tb_4 64 rfl
theorem im_X11_choice : Cond.instanceMethod yX11_choice ∈ lw_u := tb_4 65 rfl
theorem se_X11_X11_X11_choice : Cond.selects RX11 yX11_choice yX11_choice ∈ lw_u := tb_4 66 rfl
theorem ml_X11_265 : Cond.methodLink RX11 265 yX1_isOpen ∈ lw_u := tb_4 68 rfl
theorem im_X1_isOpen : Cond.instanceMethod yX1_isOpen ∈ lw_u := tb_4 69 rfl
theorem se_X1_X1_X1_isOpen : Cond.selects RX1 yX1_isOpen yX1_isOpen ∈ lw_u := tb_4 70 rfl
theorem mn_X1_71 : Cond.methodLinkNest RX1 71 yX11_withBit RX11 ∈ lw_u := tb_4 72 rfl
theorem mn_X1_75 : Cond.methodLinkNest RX1 75 yX11_hasBit RX11 ∈ lw_u := tb_4 73 rfl
theorem ml_L_106 : Cond.methodLink RL 106 yX11_lawful ∈ lw_u := tb_4 74 rfl
theorem im_X11_lawful : Cond.instanceMethod yX11_lawful ∈ lw_u := tb_4 75 rfl
theorem se_X11_X11_X11_lawful : Cond.selects RX11 yX11_lawful yX11_lawful ∈ lw_u := tb_4 76 rfl
theorem ml_X11_268 : Cond.methodLink RX11 268 yX1_isLawful ∈ lw_u := tb_4 78 rfl
theorem im_X1_isLawful : Cond.instanceMethod yX1_isLawful ∈ lw_u := tb_4 79 rfl
theorem se_X1_X1_X1_isLawful : Cond.selects RX1 yX1_isLawful yX1_isLawful ∈ lw_u := tb_4 80 rfl
theorem ml_L_110 : Cond.methodLink RL 110 yX11_mend ∈ lw_u := tb_4 82 rfl
theorem im_X11_mend : Cond.instanceMethod yX11_mend ∈ lw_u := tb_4 83 rfl
theorem se_X11_X11_X11_mend : Cond.selects RX11 yX11_mend yX11_mend ∈ lw_u := tb_4 84 rfl
theorem ml_X11_271 : Cond.methodLink RX11 271 yX1_mended ∈ lw_u := tb_4 86 rfl
theorem im_X1_mended : Cond.instanceMethod yX1_mended ∈ lw_u := tb_4 87 rfl
theorem se_X1_X1_X1_mended : Cond.selects RX1 yX1_mended yX1_mended ∈ lw_u := tb_4 88 rfl
theorem ml_X1_83 : Cond.methodLink RX1 83 yJ6_bitCount_0f7a4 ∈ lw_u := tb_4 90 rfl
theorem ml_X1_79 : Cond.methodLink RX1 79 yX1_isLawful ∈ lw_u := tb_4 91 rfl
theorem ml_L_114 : Cond.methodLink RL 114 yX11_most ∈ lw_u := tb_4 92 rfl
theorem im_X11_most : Cond.instanceMethod yX11_most ∈ lw_u := tb_4 93 rfl
theorem se_X11_X11_X11_most : Cond.selects RX11 yX11_most yX11_most ∈ lw_u := tb_4 94 rfl
theorem ml_X11_274 : Cond.methodLink RX11 274 yX1_bestSheet ∈ lw_u := tb_4 96 rfl
theorem im_X1_bestSheet : Cond.instanceMethod yX1_bestSheet ∈ lw_u := tb_4 97 rfl
theorem se_X1_X1_X1_bestSheet : Cond.selects RX1 yX1_bestSheet yX1_bestSheet ∈ lw_u := tb_4 98 rfl
theorem mn_X1_89 : Cond.methodLinkNest RX1 89 yX11_isSet RX11 ∈ lw_u := tb_4 100 rfl
theorem ml_X1_92 : Cond.methodLink RX1 92 yX1_numberOn ∈ lw_u := tb_4 101 rfl
theorem ml_X1_96 : Cond.methodLink RX1 96 yX1_isBetter ∈ lw_u := tb_4 102 rfl
theorem sm_X1_isBetter : Cond.static yX1_isBetter ∈ lw_u := tb_4 103 rfl
theorem ml_L_119 : Cond.methodLink RL 119 yX11_seek ∈ lw_u := tb_4 105 rfl
theorem im_X11_seek : Cond.instanceMethod yX11_seek ∈ lw_u := tb_4 106 rfl
theorem se_X11_X11_X11_seek : Cond.selects RX11 yX11_seek yX11_seek ∈ lw_u := tb_4 107 rfl
theorem ml_L_124 : Cond.methodLink RL 124 yX11_both ∈ lw_u := tb_4 109 rfl
theorem im_X11_both : Cond.instanceMethod yX11_both ∈ lw_u := tb_4 110 rfl
theorem se_X11_X11_X11_both : Cond.selects RX11 yX11_both yX11_both ∈ lw_u := tb_4 111 rfl
theorem ml_X11_278 : Cond.methodLink RX11 278 yX1_unbettered ∈ lw_u := tb_4 113 rfl
theorem im_X1_unbettered : Cond.instanceMethod yX1_unbettered ∈ lw_u := tb_4 114 rfl
theorem se_X1_X1_X1_unbettered : Cond.selects RX1 yX1_unbettered yX1_unbettered ∈ lw_u := tb_4 115 rfl
theorem ml_X1_100 : Cond.methodLink RX1 100 yX1_joinFront ∈ lw_u := tb_4 117 rfl
theorem im_X1_joinFront : Cond.instanceMethod yX1_joinFront ∈ lw_u := tb_4 119 rfl
theorem ml_L_128 : Cond.methodLink RL 128 yX11_way ∈ lw_u := tb_4 121 rfl
theorem im_X11_way : Cond.instanceMethod yX11_way ∈ lw_u := tb_4 122 rfl
theorem se_X11_X11_X11_way : Cond.selects RX11 yX11_way yX11_way ∈ lw_u := tb_4 123 rfl
theorem ml_X11_285 : Cond.methodLink RX11 285 yX1_markLeading ∈ lw_u := tb_4 125 rfl
theorem im_X1_markLeading : Cond.instanceMethod yX1_markLeading ∈ lw_u := tb_4 126 rfl
theorem se_X1_X1_X1_markLeading : Cond.selects RX1 yX1_markLeading yX1_markLeading ∈ lw_u := tb_4 127 rfl
theorem ml_X1_104 : Cond.methodLink RX1 104 yX1_leastStep ∈ lw_u := tb_4 129 rfl
theorem im_X1_leastStep : Cond.instanceMethod yX1_leastStep ∈ lw_u := tb_4 131 rfl
theorem ml_X11_289 : Cond.methodLink RX11 289 yX1_stepOfWay ∈ lw_u := tb_4 133 rfl
theorem im_X1_stepOfWay : Cond.instanceMethod yX1_stepOfWay ∈ lw_u := tb_4 134 rfl
theorem se_X1_X1_X1_stepOfWay : Cond.selects RX1 yX1_stepOfWay yX1_stepOfWay ∈ lw_u := tb_4 135 rfl
theorem ml_L_132 : Cond.methodLink RL 132 yX11_dice ∈ lw_u := tb_4 137 rfl
theorem im_X11_dice : Cond.instanceMethod yX11_dice ∈ lw_u := tb_4 138 rfl
theorem se_X11_X11_X11_dice : Cond.selects RX11 yX11_dice yX11_dice ∈ lw_u := tb_4 139 rfl
theorem kl_X11_292 : Cond.constantLong RX11 292 (2) ∈ lw_u := tb_4 141 rfl
theorem ml_L_136 : Cond.methodLink RL 136 yX11_chance ∈ lw_u := tb_4 142 rfl
theorem im_X11_chance : Cond.instanceMethod yX11_chance ∈ lw_u := tb_4 143 rfl
theorem se_X11_X11_X11_chance : Cond.selects RX11 yX11_chance yX11_chance ∈ lw_u := tb_4 144 rfl
theorem ml_X11_294 : Cond.methodLink RX11 294 yX11_countWays ∈ lw_u := tb_4 146 rfl
theorem im_X11_countWays : Cond.instanceMethod yX11_countWays ∈ lw_u := tb_4 148 rfl
theorem ml_X11_418 : Cond.methodLink RX11 418 yJ7_fill_d0a16 ∈ lw_u := tb_4 150 rfl
theorem sm_J7_fill_d0a16 : Cond.static yJ7_fill_d0a16 ∈ lw_u := tb_4 151 rfl
theorem ml_X11_421 : Cond.methodLink RX11 421 yX11_waysOfOneMore ∈ lw_u := tb_4 153 rfl
theorem im_X11_waysOfOneMore : Cond.instanceMethod yX11_waysOfOneMore ∈ lw_u := tb_4 155 rfl
theorem ml_X11_297 : Cond.methodLink RX11 297 yX11_waysToReach ∈ lw_u := tb_4 157 rfl
theorem im_X11_waysToReach : Cond.instanceMethod yX11_waysToReach ∈ lw_u := tb_4 159 rfl
theorem ml_X11_301 : Cond.methodLink RX11 301 yX11_commonDivisor ∈ lw_u := tb_4 161 rfl
theorem sm_X11_commonDivisor : Cond.static yX11_commonDivisor ∈ lw_u := tb_4 162 rfl
theorem ml_L_141 : Cond.methodLink RL 141 yX11_count ∈ lw_u := tb_4 164 rfl
theorem im_X11_count : Cond.instanceMethod yX11_count ∈ lw_u := tb_4 165 rfl
theorem se_X11_X11_X11_count : Cond.selects RX11 yX11_count yX11_count ∈ lw_u := tb_4 166 rfl
theorem ml_X11_305 : Cond.methodLink RX11 305 yX1_lawfulSheets ∈ lw_u := tb_4 168 rfl
theorem im_X1_lawfulSheets : Cond.instanceMethod yX1_lawfulSheets ∈ lw_u := tb_4 169 rfl
theorem se_X1_X1_X1_lawfulSheets : Cond.selects RX1 yX1_lawfulSheets yX1_lawfulSheets ∈ lw_u := tb_4 170 rfl
theorem ml_L_145 : Cond.methodLink RL 145 yX11_act ∈ lw_u := tb_4 172 rfl
theorem im_X11_act : Cond.instanceMethod yX11_act ∈ lw_u := tb_4 173 rfl
theorem se_X11_X11_X11_act : Cond.selects RX11 yX11_act yX11_act ∈ lw_u := tb_4 174 rfl
theorem ml_X11_308 : Cond.methodLink RX11 308 yX6_give ∈ lw_u := tb_4 176 rfl
theorem im_X6_give : Cond.instanceMethod yX6_give ∈ lw_u := tb_4 177 rfl
theorem se_X6_X6_X6_give : Cond.selects RX6 yX6_give yX6_give ∈ lw_u := tb_4 178 rfl
theorem sw_X6_X6_give : Cond.sameMethod "HeroSheet$Rule" "HeroSheet$Rule" "give" "(I[I)I" ∈ lw_u := tb_4 179 rfl
theorem se_X0_X6_X0_give : Cond.selects RX0 yX6_give yX0_give ∈ lw_u := tb_4 180 rfl
theorem im_X0_give : Cond.instanceMethod yX0_give ∈ lw_u := tb_4 181 rfl
theorem ml_X0_9 : Cond.methodLink RX0 9 ⟨RX0, "begin", "(I[I)V"⟩ ∈ lw_u := tb_4 183 rfl
theorem sw_X0_X6_begin : Cond.sameMethod "HeroSheet$Bars" "HeroSheet$Rule" "begin" "(I[I)V" ∈ lw_u := tb_4 184 rfl
theorem sm_X6_begin : Cond.static yX6_begin ∈ lw_u := tb_4 185 rfl
theorem ml_X0_15 : Cond.methodLink RX0 15 ⟨RX4, "give", "(I[I)I"⟩ ∈ lw_u := tb_4 187 rfl
theorem sw_X4_X6_give : Cond.sameMethod "HeroSheet$Opens" "HeroSheet$Rule" "give" "(I[I)I" ∈ lw_u := tb_4 188 rfl
theorem se_X2_X6_X6_give : Cond.selects RX2 yX6_give yX6_give ∈ lw_u := tb_4 190 rfl
theorem se_X3_X6_X6_give : Cond.selects RX3 yX6_give yX6_give ∈ lw_u := tb_4 191 rfl
theorem se_X4_X6_X6_give : Cond.selects RX4 yX6_give yX6_give ∈ lw_u := tb_4 192 rfl
theorem se_X7_X6_X6_give : Cond.selects RX7 yX6_give yX6_give ∈ lw_u := tb_4 193 rfl
theorem se_X10_X6_X10_give : Cond.selects RX10 yX6_give yX10_give ∈ lw_u := tb_4 194 rfl
theorem im_X10_give : Cond.instanceMethod yX10_give ∈ lw_u := tb_4 195 rfl
theorem ml_X10_15 : Cond.methodLink RX10 15 ⟨RX10, "begin", "(I[I)V"⟩ ∈ lw_u := tb_4 197 rfl
theorem sw_X10_X6_begin : Cond.sameMethod "HeroSheet$Typed" "HeroSheet$Rule" "begin" "(I[I)V" ∈ lw_u := tb_4 198 rfl
theorem ml_X10_19 : Cond.methodLink RX10 19 yX6_give ∈ lw_u := tb_4 199 rfl
theorem ml_X6_51 : Cond.methodLink RX6 51 yX6_begin ∈ lw_u := tb_4 201 rfl
theorem ml_X11_312 : Cond.methodLink RX11 312 yX6_fit ∈ lw_u := tb_4 202 rfl
theorem im_X6_fit : Cond.instanceMethod yX6_fit ∈ lw_u := tb_4 203 rfl
theorem se_X6_X6_X6_fit : Cond.selects RX6 yX6_fit yX6_fit ∈ lw_u := tb_4 204 rfl
theorem sw_X6_X6_fit : Cond.sameMethod "HeroSheet$Rule" "HeroSheet$Rule" "fit" "(I[I)I" ∈ lw_u := tb_4 205 rfl
theorem se_X0_X6_X0_fit : Cond.selects RX0 yX6_fit yX0_fit ∈ lw_u := tb_4 206 rfl
theorem im_X0_fit : Cond.instanceMethod yX0_fit ∈ lw_u := tb_4 207 rfl
theorem ml_X0_19 : Cond.methodLink RX0 19 yX4_fit ∈ lw_u := tb_4 209 rfl
theorem im_X4_fit : Cond.instanceMethod yX4_fit ∈ lw_u := tb_4 210 rfl
theorem ml_X4_9 : Cond.methodLink RX4 9 ⟨RX4, "begin", "(I[I)V"⟩ ∈ lw_u := tb_4 212 rfl
theorem sw_X4_X6_begin : Cond.sameMethod "HeroSheet$Opens" "HeroSheet$Rule" "begin" "(I[I)V" ∈ lw_u := tb_4 213 rfl
theorem ml_X4_26 : Cond.methodLink RX4 26 yX6_fit ∈ lw_u := tb_4 214 rfl
theorem ml_X0_22 : Cond.methodLink RX0 22 ⟨RX0, "open", "(I[I)I"⟩ ∈ lw_u := tb_4 215 rfl
theorem sw_X0_X4_open : Cond.sameMethod "HeroSheet$Bars" "HeroSheet$Opens" "open" "(I[I)I" ∈ lw_u := tb_4 216 rfl
theorem se_X0_X0_X4_open : Cond.selects RX0 ⟨RX0, "open", "(I[I)I"⟩ yX4_open ∈ lw_u := tb_4 218 rfl
theorem im_X4_open : Cond.instanceMethod yX4_open ∈ lw_u := tb_4 219 rfl
theorem ml_X4_15 : Cond.methodLink RX4 15 yX6_open ∈ lw_u := tb_4 221 rfl
theorem im_X6_open : Cond.instanceMethod yX6_open ∈ lw_u := tb_4 222 rfl
theorem se_X2_X6_X6_fit : Cond.selects RX2 yX6_fit yX6_fit ∈ lw_u := tb_4 224 rfl
theorem se_X3_X6_X6_fit : Cond.selects RX3 yX6_fit yX6_fit ∈ lw_u := tb_4 225 rfl
theorem se_X4_X6_X4_fit : Cond.selects RX4 yX6_fit yX4_fit ∈ lw_u := tb_4 226 rfl
theorem se_X7_X6_X7_fit : Cond.selects RX7 yX6_fit yX7_fit ∈ lw_u := tb_4 227 rfl
theorem im_X7_fit : Cond.instanceMethod yX7_fit ∈ lw_u := tb_4 228 rfl
theorem ml_X7_9 : Cond.methodLink RX7 9 ⟨RX7, "begin", "(I[I)V"⟩ ∈ lw_u := tb_4 230 rfl
theorem sw_X7_X6_begin : Cond.sameMethod "HeroSheet$Sets" "HeroSheet$Rule" "begin" "(I[I)V" ∈ lw_u := tb_4 231 rfl
theorem ml_X7_15 : Cond.methodLink RX7 15 yX6_fit ∈ lw_u := tb_4 232 rfl
theorem ml_X7_19 : Cond.methodLink RX7 19 ⟨RX7, "give", "(I[I)I"⟩ ∈ lw_u := tb_4 233 rfl
theorem sw_X7_X6_give : Cond.sameMethod "HeroSheet$Sets" "HeroSheet$Rule" "give" "(I[I)I" ∈ lw_u := tb_4 234 rfl
theorem se_X7_X7_X6_give : Cond.selects RX7 ⟨RX7, "give", "(I[I)I"⟩ yX6_give ∈ lw_u := tb_4 235 rfl
theorem se_X10_X6_X6_fit : Cond.selects RX10 yX6_fit yX6_fit ∈ lw_u := tb_4 236 rfl
theorem ml_X6_55 : Cond.methodLink RX6 55 yX6_give ∈ lw_u := tb_4 238 rfl
theorem ml_X11_315 : Cond.methodLink RX11 315 yX6_open ∈ lw_u := tb_4 239 rfl
theorem im_X3_open : Cond.instanceMethod yX3_open ∈ lw_u := tb_5 0 rfl
theorem ml_X3_9 : Cond.methodLink RX3 9 ⟨RX3, "begin", "(I[I)V"⟩ ∈ lw_u := tb_5 2 rfl
theorem sw_X3_X6_begin : Cond.sameMethod "HeroSheet$Instead" "HeroSheet$Rule" "begin" "(I[I)V" ∈ lw_u := tb_5 3 rfl
theorem ml_X3_15 : Cond.methodLink RX3 15 yX6_open ∈ lw_u := tb_5 4 rfl
theorem ml_X11_318 : Cond.methodLink RX11 318 yX6_tell ∈ lw_u := tb_5 5 rfl
theorem im_X6_tell : Cond.instanceMethod yX6_tell ∈ lw_u := tb_5 6 rfl
theorem se_X6_X6_X6_tell : Cond.selects RX6 yX6_tell yX6_tell ∈ lw_u := tb_5 7 rfl
theorem sw_X6_X6_tell : Cond.sameMethod "HeroSheet$Rule" "HeroSheet$Rule" "tell" "(I[I)I" ∈ lw_u := tb_5 8 rfl
theorem se_X0_X6_X6_tell : Cond.selects RX0 yX6_tell yX6_tell ∈ lw_u := tb_5 9 rfl
theorem se_X2_X6_X2_tell : Cond.selects RX2 yX6_tell yX2_tell ∈ lw_u := tb_5 10 rfl
theorem im_X2_tell : Cond.instanceMethod yX2_tell ∈ lw_u := tb_5 11 rfl
theorem ml_X2_15 : Cond.methodLink RX2 15 ⟨RX2, "begin", "(I[I)V"⟩ ∈ lw_u := tb_5 13 rfl
theorem sw_X2_X6_begin : Cond.sameMethod "HeroSheet$Cap" "HeroSheet$Rule" "begin" "(I[I)V" ∈ lw_u := tb_5 14 rfl
theorem ml_X2_19 : Cond.methodLink RX2 19 ⟨RX2, "open", "(I[I)I"⟩ ∈ lw_u := tb_5 15 rfl
theorem sw_X2_X6_open : Cond.sameMethod "HeroSheet$Cap" "HeroSheet$Rule" "open" "(I[I)I" ∈ lw_u := tb_5 16 rfl
theorem se_X2_X2_X6_open : Cond.selects RX2 ⟨RX2, "open", "(I[I)I"⟩ yX6_open ∈ lw_u := tb_5 18 rfl
theorem ml_X2_23 : Cond.methodLink RX2 23 yX6_tell ∈ lw_u := tb_5 19 rfl
theorem se_X3_X6_X6_tell : Cond.selects RX3 yX6_tell yX6_tell ∈ lw_u := tb_5 20 rfl
theorem se_X4_X6_X6_tell : Cond.selects RX4 yX6_tell yX6_tell ∈ lw_u := tb_5 21 rfl
theorem se_X7_X6_X6_tell : Cond.selects RX7 yX6_tell yX6_tell ∈ lw_u := tb_5 22 rfl
theorem se_X10_X6_X6_tell : Cond.selects RX10 yX6_tell yX6_tell ∈ lw_u := tb_5 23 rfl
theorem ml_X6_59 : Cond.methodLink RX6 59 yX6_fit ∈ lw_u := tb_5 25 rfl
theorem ml_X6_62 : Cond.methodLink RX6 62 yX6_open ∈ lw_u := tb_5 26 rfl
theorem ml_L_149 : Cond.methodLink RL 149 yX11_trace ∈ lw_u := tb_5 27 rfl
theorem im_X11_trace : Cond.instanceMethod yX11_trace ∈ lw_u := tb_5 28 rfl
theorem se_X11_X11_X11_trace : Cond.selects RX11 yX11_trace yX11_trace ∈ lw_u := tb_5 29 rfl
theorem ml_L_153 : Cond.methodLink RL 153 yX11_sheet ∈ lw_u := tb_5 31 rfl
theorem im_X11_sheet : Cond.instanceMethod yX11_sheet ∈ lw_u := tb_5 32 rfl
theorem se_X11_X11_X11_sheet : Cond.selects RX11 yX11_sheet yX11_sheet ∈ lw_u := tb_5 33 rfl
theorem ml_X11_321 : Cond.methodLink RX11 321 yX11_isRow ∈ lw_u := tb_5 35 rfl
theorem sm_X11_isRow : Cond.static yX11_isRow ∈ lw_u := tb_5 36 rfl
theorem ml_X11_324 : Cond.methodLink RX11 324 yX11_isSort ∈ lw_u := tb_5 38 rfl
theorem sm_X11_isSort : Cond.static yX11_isSort ∈ lw_u := tb_5 39 rfl
theorem ml_X11_327 : Cond.methodLink RX11 327 yJ7_fill_53178 ∈ lw_u := tb_5 41 rfl
theorem ml_L_157 : Cond.methodLink RL 157 yX11_cell ∈ lw_u := tb_5 42 rfl
theorem im_X11_cell : Cond.instanceMethod yX11_cell ∈ lw_u := tb_5 43 rfl
theorem se_X11_X11_X11_cell : Cond.selects RX11 yX11_cell yX11_cell ∈ lw_u := tb_5 44 rfl
theorem ml_L_161 : Cond.methodLink RL 161 yX11_row ∈ lw_u := tb_5 46 rfl
theorem im_X11_row : Cond.instanceMethod yX11_row ∈ lw_u := tb_5 47 rfl
theorem se_X11_X11_X11_row : Cond.selects RX11 yX11_row yX11_row ∈ lw_u := tb_5 48 rfl
theorem ml_L_165 : Cond.methodLink RL 165 yX11_forge ∈ lw_u := tb_5 50 rfl
theorem im_X11_forge : Cond.instanceMethod yX11_forge ∈ lw_u := tb_5 51 rfl
theorem se_X11_X11_X11_forge : Cond.selects RX11 yX11_forge yX11_forge ∈ lw_u := tb_5 52 rfl
theorem ml_X11_336 : Cond.methodLink RX11 336 yJ9_floorMod_7cf53 ∈ lw_u := tb_5 54 rfl
theorem sm_J9_floorMod_7cf53 : Cond.static yJ9_floorMod_7cf53 ∈ lw_u := tb_5 55 rfl
theorem ml_X11_341 : Cond.methodLink RX11 341 yX11_takenForKind ∈ lw_u := tb_5 57 rfl
theorem im_X11_takenForKind : Cond.instanceMethod yX11_takenForKind ∈ lw_u := tb_5 59 rfl
theorem ml_X11_345 : Cond.methodLink RX11 345 yX11_readFromShorts ∈ lw_u := tb_5 61 rfl
theorem im_X11_readFromShorts : Cond.instanceMethod yX11_readFromShorts ∈ lw_u := tb_5 63 rfl
theorem ml_X11_348 : Cond.methodLink RX11 348 yX11_copiedFromBytes ∈ lw_u := tb_5 65 rfl
theorem im_X11_copiedFromBytes : Cond.instanceMethod yX11_copiedFromBytes ∈ lw_u := tb_5 67 rfl
theorem ml_X11_351 : Cond.methodLink RX11 351 yX11_putAmongOpens ∈ lw_u := tb_5 69 rfl
theorem im_X11_putAmongOpens : Cond.instanceMethod yX11_putAmongOpens ∈ lw_u := tb_5 71 rfl
theorem ml_L_169 : Cond.methodLink RL 169 yX11_status ∈ lw_u := tb_5 73 rfl
theorem im_X11_status : Cond.instanceMethod yX11_status ∈ lw_u := tb_5 74 rfl
theorem se_X11_X11_X11_status : Cond.selects RX11 yX11_status yX11_status ∈ lw_u := tb_5 75 rfl
theorem cl_L_10 : Cond.classLink RL 10 RX12 ∈ lw_u := tb_5 77 rfl
theorem ib_X12 : Cond.instantiable RX12 51 ∈ lw_u := tb_5 78 rfl
theorem ml_L_12 : Cond.methodLink RL 12 yX12_init ∈ lw_u := tb_5 79 rfl
theorem im_X12_init : Cond.instanceMethod yX12_init ∈ lw_u := tb_5 80 rfl
theorem ml_X12_1 : Cond.methodLink RX12 1 objectInit ∈ lw_u := tb_5 82 rfl
theorem fl_X12_7 : Cond.fieldLink RX12 7 "HeroSheetModel" "vKind" "[I" ∈ lw_u := tb_5 83 rfl
theorem fl_X12_13 : Cond.fieldLink RX12 13 "HeroSheetModel" "vBase" "[I" ∈ lw_u := tb_5 84 rfl
theorem fl_X12_16 : Cond.fieldLink RX12 16 "HeroSheetModel" "vCount" "[I" ∈ lw_u := tb_5 85 rfl
theorem fl_X12_19 : Cond.fieldLink RX12 19 "HeroSheetModel" "vSides" "[I" ∈ lw_u := tb_5 86 rfl
theorem fl_X12_22 : Cond.fieldLink RX12 22 "HeroSheetModel" "vSpent" "[I" ∈ lw_u := tb_5 87 rfl
theorem fl_X12_25 : Cond.fieldLink RX12 25 "HeroSheetModel" "rKind" "[I" ∈ lw_u := tb_5 88 rfl
theorem fl_X12_28 : Cond.fieldLink RX12 28 "HeroSheetModel" "rAim" "[I" ∈ lw_u := tb_5 89 rfl
theorem fl_X12_31 : Cond.fieldLink RX12 31 "HeroSheetModel" "rRank" "[I" ∈ lw_u := tb_5 90 rfl
theorem fl_X12_34 : Cond.fieldLink RX12 34 "HeroSheetModel" "rSource" "[I" ∈ lw_u := tb_5 91 rfl
theorem fl_X12_37 : Cond.fieldLink RX12 37 "HeroSheetModel" "rType" "[I" ∈ lw_u := tb_5 92 rfl
theorem fl_X12_40 : Cond.fieldLink RX12 40 "HeroSheetModel" "rLeast" "[I" ∈ lw_u := tb_5 93 rfl
theorem fl_X12_43 : Cond.fieldLink RX12 43 "HeroSheetModel" "rAmount" "[I" ∈ lw_u := tb_5 94 rfl
theorem fl_X12_46 : Cond.fieldLink RX12 46 "HeroSheetModel" "rBy" "[I" ∈ lw_u := tb_5 95 rfl
theorem fl_X12_49 : Cond.fieldLink RX12 49 "HeroSheetModel" "rFactor" "[I" ∈ lw_u := tb_5 96 rfl
theorem fl_X12_52 : Cond.fieldLink RX12 52 "HeroSheetModel" "rHow" "[I" ∈ lw_u := tb_5 97 rfl
theorem fl_X12_55 : Cond.fieldLink RX12 55 "HeroSheetModel" "rOf" "[I" ∈ lw_u := tb_5 98 rfl
theorem fl_X12_58 : Cond.fieldLink RX12 58 "HeroSheetModel" "rNumber" "[I" ∈ lw_u := tb_5 99 rfl
theorem fl_X12_61 : Cond.fieldLink RX12 61 "HeroSheetModel" "sValue" "[I" ∈ lw_u := tb_5 100 rfl
theorem fl_X12_64 : Cond.fieldLink RX12 64 "HeroSheetModel" "sNumber" "[I" ∈ lw_u := tb_5 101 rfl
theorem fl_X12_67 : Cond.fieldLink RX12 67 "HeroSheetModel" "sEnd" "[I" ∈ lw_u := tb_5 102 rfl
theorem fl_X12_70 : Cond.fieldLink RX12 70 "HeroSheetModel" "all" "[I" ∈ lw_u := tb_5 103 rfl
theorem fl_X12_73 : Cond.fieldLink RX12 73 "HeroSheetModel" "image" "[I" ∈ lw_u := tb_5 104 rfl
theorem fl_X12_222 : Cond.fieldLink RX12 222 "HeroSheetModel" "hasImage" "Z" ∈ lw_u := tb_5 105 rfl
theorem fl_X12_225 : Cond.fieldLink RX12 225 "HeroSheetModel" "backs" "I" ∈ lw_u := tb_5 106 rfl
theorem fl_X12_129 : Cond.fieldLink RX12 129 "HeroSheetModel" "status" "I" ∈ lw_u := tb_5 107 rfl
theorem fl_X12_164 : Cond.fieldLink RX12 164 "HeroSheetModel" "testHow" "I" ∈ lw_u := tb_5 108 rfl
theorem fl_X12_167 : Cond.fieldLink RX12 167 "HeroSheetModel" "testOf" "I" ∈ lw_u := tb_5 109 rfl
theorem fl_X12_177 : Cond.fieldLink RX12 177 "HeroSheetModel" "testNumber" "I" ∈ lw_u := tb_5 110 rfl
theorem fl_X12_76 : Cond.fieldLink RX12 76 "HeroSheetModel" "needed" "[I" ∈ lw_u := tb_5 111 rfl
theorem fl_X12_79 : Cond.fieldLink RX12 79 "HeroSheetModel" "far" "[I" ∈ lw_u := tb_5 112 rfl
theorem fl_X12_82 : Cond.fieldLink RX12 82 "HeroSheetModel" "ring" "[I" ∈ lw_u := tb_5 113 rfl
theorem fl_X12_200 : Cond.fieldLink RX12 200 "HeroSheetModel" "ringSize" "I" ∈ lw_u := tb_5 114 rfl
theorem fl_X12_211 : Cond.fieldLink RX12 211 "HeroSheetModel" "imageAt" "I" ∈ lw_u := tb_5 115 rfl
theorem fl_X12_85 : Cond.fieldLink RX12 85 "HeroSheetModel" "numbers" "[J" ∈ lw_u := tb_5 116 rfl
theorem fl_X12_89 : Cond.fieldLink RX12 89 "HeroSheetModel" "there" "[I" ∈ lw_u := tb_5 117 rfl
theorem fl_X12_92 : Cond.fieldLink RX12 92 "HeroSheetModel" "open" "[I" ∈ lw_u := tb_5 118 rfl
theorem fl_X12_95 : Cond.fieldLink RX12 95 "HeroSheetModel" "lawful" "[Z" ∈ lw_u := tb_5 119 rfl
theorem fl_X12_153 : Cond.fieldLink RX12 153 "HeroSheetModel" "isLaid" "Z" ∈ lw_u := tb_5 120 rfl
theorem fl_X12_228 : Cond.fieldLink RX12 228 "HeroSheetModel" "sheet" "I" ∈ lw_u := tb_5 121 rfl
theorem fl_X12_271 : Cond.fieldLink RX12 271 "HeroSheetModel" "known" "I" ∈ lw_u := tb_5 122 rfl
theorem fl_X12_99 : Cond.fieldLink RX12 99 "HeroSheetModel" "how" "[I" ∈ lw_u := tb_5 123 rfl
theorem fl_X12_102 : Cond.fieldLink RX12 102 "HeroSheetModel" "beater" "[I" ∈ lw_u := tb_5 124 rfl
theorem fl_X12_105 : Cond.fieldLink RX12 105 "HeroSheetModel" "quarrels" "[Z" ∈ lw_u := tb_5 125 rfl
theorem fl_X12_108 : Cond.fieldLink RX12 108 "HeroSheetModel" "leads" "[Z" ∈ lw_u := tb_5 126 rfl
theorem fl_X12_111 : Cond.fieldLink RX12 111 "HeroSheetModel" "rolls" "[J" ∈ lw_u := tb_5 127 rfl
theorem fl_X12_114 : Cond.fieldLink RX12 114 "HeroSheetModel" "then" "[J" ∈ lw_u := tb_5 128 rfl
theorem fl_X12_117 : Cond.fieldLink RX12 117 "HeroSheetModel" "trace" "[I" ∈ lw_u := tb_5 129 rfl
theorem fl_X12_304 : Cond.fieldLink RX12 304 "HeroSheetModel" "traces" "I" ∈ lw_u := tb_5 130 rfl
theorem fl_X12_120 : Cond.fieldLink RX12 120 "HeroSheetModel" "sort" "[I" ∈ lw_u := tb_5 131 rfl
theorem fl_X12_123 : Cond.fieldLink RX12 123 "HeroSheetModel" "size" "[I" ∈ lw_u := tb_5 132 rfl
theorem fl_X12_126 : Cond.fieldLink RX12 126 "HeroSheetModel" "cells" "[I" ∈ lw_u := tb_5 133 rfl
theorem su_X12 : Cond.superclass RX12 "java/lang/Object" ∈ lw_u := tb_5 236 rfl
theorem ml_L_17 : Cond.methodLink RL 17 yX12_value ∈ lw_u := tb_5 237 rfl
theorem im_X12_value : Cond.instanceMethod yX12_value ∈ lw_u := tb_5 238 rfl
theorem se_X12_X12_X12_value : Cond.selects RX12 yX12_value yX12_value ∈ lw_u := tb_5 239 rfl
theorem kl_X12_133 : Cond.constantLong RX12 133 (4) ∈ lw_u := tb_6 1 rfl
theorem ml_X12_135 : Cond.methodLink RX12 135 yX12_isIn ∈ lw_u := tb_6 2 rfl
theorem sm_X12_isIn : Cond.static yX12_isIn ∈ lw_u := tb_6 3 rfl
theorem kl_X12_139 : Cond.constantLong RX12 139 (-99) ∈ lw_u := tb_6 5 rfl
theorem kl_X12_141 : Cond.constantLong RX12 141 (99) ∈ lw_u := tb_6 6 rfl
theorem kl_X12_143 : Cond.constantLong RX12 143 (5) ∈ lw_u := tb_6 7 rfl
theorem kl_X12_145 : Cond.constantLong RX12 145 (2) ∈ lw_u := tb_6 8 rfl
theorem kl_X12_147 : Cond.constantLong RX12 147 (12) ∈ lw_u := tb_6 9 rfl
theorem ml_X12_149 : Cond.methodLink RX12 149 yX12_refused ∈ lw_u := tb_6 10 rfl
theorem im_X12_refused : Cond.instanceMethod yX12_refused ∈ lw_u := tb_6 12 rfl
theorem ml_X12_157 : Cond.methodLink RX12 157 yX12_done ∈ lw_u := tb_6 14 rfl
theorem im_X12_done : Cond.instanceMethod yX12_done ∈ lw_u := tb_6 16 rfl
theorem ml_L_22 : Cond.methodLink RL 22 yX12_free ∈ lw_u := tb_6 18 rfl
theorem im_X12_free : Cond.instanceMethod yX12_free ∈ lw_u := tb_6 19 rfl
theorem se_X12_X12_X12_free : Cond.selects RX12 yX12_free yX12_free ∈ lw_u := tb_6 20 rfl
theorem ml_X12_160 : Cond.methodLink RX12 160 yX12_isChoice ∈ lw_u := tb_6 22 rfl
theorem sm_X12_isChoice : Cond.static yX12_isChoice ∈ lw_u := tb_6 23 rfl
theorem ml_L_27 : Cond.methodLink RL 27 yX12_test ∈ lw_u := tb_6 25 rfl
theorem im_X12_test : Cond.instanceMethod yX12_test ∈ lw_u := tb_6 26 rfl
theorem se_X12_X12_X12_test : Cond.selects RX12 yX12_test yX12_test ∈ lw_u := tb_6 27 rfl
theorem ml_L_32 : Cond.methodLink RL 32 yX12_testValue ∈ lw_u := tb_6 29 rfl
theorem im_X12_testValue : Cond.instanceMethod yX12_testValue ∈ lw_u := tb_6 30 rfl
theorem se_X12_X12_X12_testValue : Cond.selects RX12 yX12_testValue yX12_testValue ∈ lw_u := tb_6 31 rfl
theorem ml_X12_170 : Cond.methodLink RX12 170 yX12_isValue ∈ lw_u := tb_6 33 rfl
theorem im_X12_isValue : Cond.instanceMethod yX12_isValue ∈ lw_u := tb_6 35 rfl
theorem kl_X12_173 : Cond.constantLong RX12 173 (-1000) ∈ lw_u := tb_6 37 rfl
theorem kl_X12_175 : Cond.constantLong RX12 175 (1000) ∈ lw_u := tb_6 38 rfl
theorem ml_L_37 : Cond.methodLink RL 37 yX12_rule ∈ lw_u := tb_6 39 rfl
theorem im_X12_rule : Cond.instanceMethod yX12_rule ∈ lw_u := tb_6 40 rfl
theorem se_X12_X12_X12_rule : Cond.selects RX12 yX12_rule yX12_rule ∈ lw_u := tb_6 41 rfl
theorem kl_X12_180 : Cond.constantLong RX12 180 (7) ∈ lw_u := tb_6 43 rfl
theorem ml_X12_182 : Cond.methodLink RX12 182 yX12_adds ∈ lw_u := tb_6 44 rfl
theorem im_X12_adds : Cond.instanceMethod yX12_adds ∈ lw_u := tb_6 46 rfl
theorem kl_X12_186 : Cond.constantLong RX12 186 (9) ∈ lw_u := tb_6 48 rfl
theorem kl_X12_188 : Cond.constantLong RX12 188 (20) ∈ lw_u := tb_6 49 rfl
theorem ml_X12_190 : Cond.methodLink RX12 190 yX12_isRule ∈ lw_u := tb_6 50 rfl
theorem im_X12_isRule : Cond.instanceMethod yX12_isRule ∈ lw_u := tb_6 52 rfl
theorem ml_X12_193 : Cond.methodLink RX12 193 yX12_isRing ∈ lw_u := tb_6 54 rfl
theorem im_X12_isRing : Cond.instanceMethod yX12_isRing ∈ lw_u := tb_6 56 rfl
theorem ml_X12_197 : Cond.methodLink RX12 197 yX12_findNeeds ∈ lw_u := tb_6 58 rfl
theorem im_X12_findNeeds : Cond.instanceMethod yX12_findNeeds ∈ lw_u := tb_6 60 rfl
theorem ml_L_41 : Cond.methodLink RL 41 yX12_typed ∈ lw_u := tb_6 62 rfl
theorem im_X12_typed : Cond.instanceMethod yX12_typed ∈ lw_u := tb_6 63 rfl
theorem se_X12_X12_X12_typed : Cond.selects RX12 yX12_typed yX12_typed ∈ lw_u := tb_6 64 rfl
theorem ml_L_97 : Cond.methodLink RL 97 yX12_ring ∈ lw_u := tb_6 66 rfl
theorem im_X12_ring : Cond.instanceMethod yX12_ring ∈ lw_u := tb_6 67 rfl
theorem se_X12_X12_X12_ring : Cond.selects RX12 yX12_ring yX12_ring ∈ lw_u := tb_6 68 rfl
theorem ml_L_101 : Cond.methodLink RL 101 yX12_needs ∈ lw_u := tb_6 70 rfl
theorem im_X12_needs : Cond.instanceMethod yX12_needs ∈ lw_u := tb_6 71 rfl
theorem se_X12_X12_X12_needs : Cond.selects RX12 yX12_needs yX12_needs ∈ lw_u := tb_6 72 rfl
theorem ml_L_45 : Cond.methodLink RL 45 yX12_stack ∈ lw_u := tb_6 74 rfl
theorem im_X12_stack : Cond.instanceMethod yX12_stack ∈ lw_u := tb_6 75 rfl
theorem se_X12_X12_X12_stack : Cond.selects RX12 yX12_stack yX12_stack ∈ lw_u := tb_6 76 rfl
theorem ml_L_49 : Cond.methodLink RL 49 yX12_make ∈ lw_u := tb_6 78 rfl
theorem im_X12_make : Cond.instanceMethod yX12_make ∈ lw_u := tb_6 79 rfl
theorem se_X12_X12_X12_make : Cond.selects RX12 yX12_make yX12_make ∈ lw_u := tb_6 80 rfl
theorem ml_X12_203 : Cond.methodLink RX12 203 yX12_bits ∈ lw_u := tb_6 82 rfl
theorem sm_X12_bits : Cond.static yX12_bits ∈ lw_u := tb_6 83 rfl
theorem ml_L_53 : Cond.methodLink RL 53 yX12_spell ∈ lw_u := tb_6 85 rfl
theorem im_X12_spell : Cond.instanceMethod yX12_spell ∈ lw_u := tb_6 86 rfl
theorem se_X12_X12_X12_spell : Cond.selects RX12 yX12_spell yX12_spell ∈ lw_u := tb_6 87 rfl
theorem kl_X12_206 : Cond.constantLong RX12 206 (-20) ∈ lw_u := tb_6 89 rfl
theorem ml_L_58 : Cond.methodLink RL 58 yX12_turn ∈ lw_u := tb_6 90 rfl
theorem im_X12_turn : Cond.instanceMethod yX12_turn ∈ lw_u := tb_6 91 rfl
theorem se_X12_X12_X12_turn : Cond.selects RX12 yX12_turn yX12_turn ∈ lw_u := tb_6 92 rfl
theorem ml_L_62 : Cond.methodLink RL 62 yX12_spend ∈ lw_u := tb_6 94 rfl
theorem im_X12_spend : Cond.instanceMethod yX12_spend ∈ lw_u := tb_6 95 rfl
theorem se_X12_X12_X12_spend : Cond.selects RX12 yX12_spend yX12_spend ∈ lw_u := tb_6 96 rfl
theorem ml_X12_208 : Cond.methodLink RX12 208 yX12_lay ∈ lw_u := tb_6 98 rfl
theorem im_X12_lay : Cond.instanceMethod yX12_lay ∈ lw_u := tb_6 100 rfl
theorem ml_X12_281 : Cond.methodLink RX12 281 yX12_lays ∈ lw_u := tb_6 102 rfl
theorem im_X12_lays : Cond.instanceMethod yX12_lays ∈ lw_u := tb_6 104 rfl
theorem ml_X12_268 : Cond.methodLink RX12 268 yX12_findThere ∈ lw_u := tb_6 106 rfl
theorem im_X12_findThere : Cond.instanceMethod yX12_findThere ∈ lw_u := tb_6 108 rfl
theorem ml_X12_231 : Cond.methodLink RX12 231 yX12_isThere ∈ lw_u := tb_6 110 rfl
theorem im_X12_isThere : Cond.instanceMethod yX12_isThere ∈ lw_u := tb_6 112 rfl
theorem ml_X12_234 : Cond.methodLink RX12 234 yX12_holds ∈ lw_u := tb_6 114 rfl
theorem im_X12_holds : Cond.instanceMethod yX12_holds ∈ lw_u := tb_6 116 rfl
theorem ml_X12_274 : Cond.methodLink RX12 274 yX12_work ∈ lw_u := tb_6 118 rfl
theorem im_X12_work : Cond.instanceMethod yX12_work ∈ lw_u := tb_6 120 rfl
theorem ml_X12_258 : Cond.methodLink RX12 258 yX12_based ∈ lw_u := tb_6 122 rfl
theorem im_X12_based : Cond.instanceMethod yX12_based ∈ lw_u := tb_6 124 rfl
theorem ml_X12_237 : Cond.methodLink RX12 237 yX12_works ∈ lw_u := tb_6 126 rfl
theorem im_X12_works : Cond.instanceMethod yX12_works ∈ lw_u := tb_6 128 rfl
theorem ml_X12_241 : Cond.methodLink RX12 241 yX12_amountOf ∈ lw_u := tb_6 130 rfl
theorem im_X12_amountOf : Cond.instanceMethod yX12_amountOf ∈ lw_u := tb_6 132 rfl
theorem ml_X12_261 : Cond.methodLink RX12 261 yX12_added ∈ lw_u := tb_6 134 rfl
theorem im_X12_added : Cond.instanceMethod yX12_added ∈ lw_u := tb_6 136 rfl
theorem ml_X12_245 : Cond.methodLink RX12 245 yX12_adds_ ∈ lw_u := tb_6 138 rfl
theorem im_X12_adds_ : Cond.instanceMethod yX12_adds_ ∈ lw_u := tb_6 140 rfl
theorem ml_X12_247 : Cond.methodLink RX12 247 yX12_firstOf ∈ lw_u := tb_6 142 rfl
theorem im_X12_firstOf : Cond.instanceMethod yX12_firstOf ∈ lw_u := tb_6 144 rfl
theorem ml_X12_254 : Cond.methodLink RX12 254 yX12_bestOf ∈ lw_u := tb_6 146 rfl
theorem im_X12_bestOf : Cond.instanceMethod yX12_bestOf ∈ lw_u := tb_6 148 rfl
theorem ml_X12_251 : Cond.methodLink RX12 251 yX12_counts ∈ lw_u := tb_6 150 rfl
theorem im_X12_counts : Cond.instanceMethod yX12_counts ∈ lw_u := tb_6 152 rfl
theorem ml_X12_264 : Cond.methodLink RX12 264 yX12_capped ∈ lw_u := tb_6 154 rfl
theorem im_X12_capped : Cond.instanceMethod yX12_capped ∈ lw_u := tb_6 156 rfl
theorem ml_X12_278 : Cond.methodLink RX12 278 yX12_opens ∈ lw_u := tb_6 158 rfl
theorem im_X12_opens : Cond.instanceMethod yX12_opens ∈ lw_u := tb_6 160 rfl
theorem ml_L_66 : Cond.methodLink RL 66 yX12_rest ∈ lw_u := tb_6 162 rfl
theorem im_X12_rest : Cond.instanceMethod yX12_rest ∈ lw_u := tb_6 163 rfl
theorem se_X12_X12_X12_rest : Cond.selects RX12 yX12_rest yX12_rest ∈ lw_u := tb_6 164 rfl
theorem ml_L_70 : Cond.methodLink RL 70 yX12_image ∈ lw_u := tb_6 166 rfl
theorem im_X12_image : Cond.instanceMethod yX12_image ∈ lw_u := tb_6 167 rfl
theorem se_X12_X12_X12_image : Cond.selects RX12 yX12_image yX12_image ∈ lw_u := tb_6 168 rfl
theorem ml_X12_218 : Cond.methodLink RX12 218 yX12_movesAll ∈ lw_u := tb_6 170 rfl
theorem im_X12_movesAll : Cond.instanceMethod yX12_movesAll ∈ lw_u := tb_6 172 rfl
theorem ml_X12_214 : Cond.methodLink RX12 214 yX12_moves ∈ lw_u := tb_6 174 rfl
theorem im_X12_moves : Cond.instanceMethod yX12_moves ∈ lw_u := tb_6 176 rfl
theorem ml_L_74 : Cond.methodLink RL 74 yX12_back ∈ lw_u := tb_6 178 rfl
theorem im_X12_back : Cond.instanceMethod yX12_back ∈ lw_u := tb_6 179 rfl
theorem se_X12_X12_X12_back : Cond.selects RX12 yX12_back yX12_back ∈ lw_u := tb_6 180 rfl
theorem ml_L_78 : Cond.methodLink RL 78 yX12_valueTold ∈ lw_u := tb_6 182 rfl
theorem im_X12_valueTold : Cond.instanceMethod yX12_valueTold ∈ lw_u := tb_6 183 rfl
theorem se_X12_X12_X12_valueTold : Cond.selects RX12 yX12_valueTold yX12_valueTold ∈ lw_u := tb_6 184 rfl
theorem ml_X12_284 : Cond.methodLink RX12 284 yX12_layNow ∈ lw_u := tb_6 186 rfl
theorem im_X12_layNow : Cond.instanceMethod yX12_layNow ∈ lw_u := tb_6 188 rfl
theorem ml_L_83 : Cond.methodLink RL 83 yX12_number ∈ lw_u := tb_6 190 rfl
theorem im_X12_number : Cond.instanceMethod yX12_number ∈ lw_u := tb_6 191 rfl
theorem se_X12_X12_X12_number : Cond.selects RX12 yX12_number yX12_number ∈ lw_u := tb_6 192 rfl
theorem ml_X12_287 : Cond.methodLink RX12 287 yX12_isSet ∈ lw_u := tb_6 194 rfl
theorem im_X12_isSet : Cond.instanceMethod yX12_isSet ∈ lw_u := tb_6 196 rfl
theorem kl_X12_290 : Cond.constantLong RX12 290 (-1000000000000) ∈ lw_u := tb_6 198 rfl
theorem ml_L_87 : Cond.methodLink RL 87 yX12_ruleTold ∈ lw_u := tb_6 199 rfl
theorem im_X12_ruleTold : Cond.instanceMethod yX12_ruleTold ∈ lw_u := tb_6 200 rfl
theorem se_X12_X12_X12_ruleTold : Cond.selects RX12 yX12_ruleTold yX12_ruleTold ∈ lw_u := tb_6 201 rfl
theorem kl_X12_292 : Cond.constantLong RX12 292 (8) ∈ lw_u := tb_6 203 rfl
theorem ml_L_92 : Cond.methodLink RL 92 yX12_amount ∈ lw_u := tb_6 204 rfl
theorem im_X12_amount : Cond.instanceMethod yX12_amount ∈ lw_u := tb_6 205 rfl
theorem se_X12_X12_X12_amount : Cond.selects RX12 yX12_amount yX12_amount ∈ lw_u := tb_6 206 rfl
theorem ml_L_105 : Cond.methodLink RL 105 yX12_choice ∈ lw_u := tb_6 208 rfl
theorem im_X12_choice : Cond.instanceMethod yX12_choice ∈ lw_u := tb_6 209 rfl
theorem se_X12_X12_X12_choice : Cond.selects RX12 yX12_choice yX12_choice ∈ lw_u := tb_6 210 rfl
theorem ml_L_109 : Cond.methodLink RL 109 yX12_lawful ∈ lw_u := tb_6 212 rfl
theorem im_X12_lawful : Cond.instanceMethod yX12_lawful ∈ lw_u := tb_6 213 rfl
theorem se_X12_X12_X12_lawful : Cond.selects RX12 yX12_lawful yX12_lawful ∈ lw_u := tb_6 214 rfl
theorem ml_L_113 : Cond.methodLink RL 113 yX12_mend ∈ lw_u := tb_6 216 rfl
theorem im_X12_mend : Cond.instanceMethod yX12_mend ∈ lw_u := tb_6 217 rfl
theorem se_X12_X12_X12_mend : Cond.selects RX12 yX12_mend yX12_mend ∈ lw_u := tb_6 218 rfl
theorem ml_L_118 : Cond.methodLink RL 118 yX12_most ∈ lw_u := tb_6 220 rfl
theorem im_X12_most : Cond.instanceMethod yX12_most ∈ lw_u := tb_6 221 rfl
theorem se_X12_X12_X12_most : Cond.selects RX12 yX12_most yX12_most ∈ lw_u := tb_6 222 rfl
theorem ml_X12_294 : Cond.methodLink RX12 294 yX12_best ∈ lw_u := tb_6 224 rfl
theorem im_X12_best : Cond.instanceMethod yX12_best ∈ lw_u := tb_6 226 rfl
theorem ml_L_123 : Cond.methodLink RL 123 yX12_seek ∈ lw_u := tb_6 228 rfl
theorem im_X12_seek : Cond.instanceMethod yX12_seek ∈ lw_u := tb_6 229 rfl
theorem se_X12_X12_X12_seek : Cond.selects RX12 yX12_seek yX12_seek ∈ lw_u := tb_6 230 rfl
theorem ml_L_127 : Cond.methodLink RL 127 yX12_both ∈ lw_u := tb_6 232 rfl
theorem im_X12_both : Cond.instanceMethod yX12_both ∈ lw_u := tb_6 233 rfl
theorem se_X12_X12_X12_both : Cond.selects RX12 yX12_both yX12_both ∈ lw_u := tb_6 234 rfl
theorem ml_L_131 : Cond.methodLink RL 131 yX12_way ∈ lw_u := tb_6 236 rfl
theorem im_X12_way : Cond.instanceMethod yX12_way ∈ lw_u := tb_6 237 rfl
theorem se_X12_X12_X12_way : Cond.selects RX12 yX12_way yX12_way ∈ lw_u := tb_6 238 rfl
theorem ml_L_135 : Cond.methodLink RL 135 yX12_dice ∈ lw_u := tb_7 0 rfl
theorem im_X12_dice : Cond.instanceMethod yX12_dice ∈ lw_u := tb_7 1 rfl
theorem se_X12_X12_X12_dice : Cond.selects RX12 yX12_dice yX12_dice ∈ lw_u := tb_7 2 rfl
theorem kl_X12_298 : Cond.constantLong RX12 298 (3) ∈ lw_u := tb_7 4 rfl
theorem ml_L_140 : Cond.methodLink RL 140 yX12_chance ∈ lw_u := tb_7 5 rfl
theorem im_X12_chance : Cond.instanceMethod yX12_chance ∈ lw_u := tb_7 6 rfl
theorem se_X12_X12_X12_chance : Cond.selects RX12 yX12_chance yX12_chance ∈ lw_u := tb_7 7 rfl
theorem ml_X12_300 : Cond.methodLink RX12 300 yX12_divisor ∈ lw_u := tb_7 9 rfl
theorem sm_X12_divisor : Cond.static yX12_divisor ∈ lw_u := tb_7 10 rfl
theorem ml_L_144 : Cond.methodLink RL 144 yX12_count ∈ lw_u := tb_7 12 rfl
theorem im_X12_count : Cond.instanceMethod yX12_count ∈ lw_u := tb_7 13 rfl
theorem se_X12_X12_X12_count : Cond.selects RX12 yX12_count yX12_count ∈ lw_u := tb_7 14 rfl
theorem ml_L_148 : Cond.methodLink RL 148 yX12_act ∈ lw_u := tb_7 16 rfl
theorem im_X12_act : Cond.instanceMethod yX12_act ∈ lw_u := tb_7 17 rfl
theorem se_X12_X12_X12_act : Cond.selects RX12 yX12_act yX12_act ∈ lw_u := tb_7 18 rfl
theorem ml_X12_316 : Cond.methodLink RX12 316 yX12_give ∈ lw_u := tb_7 20 rfl
theorem im_X12_give : Cond.instanceMethod yX12_give ∈ lw_u := tb_7 22 rfl
theorem ml_X12_307 : Cond.methodLink RX12 307 yX12_notes ∈ lw_u := tb_7 24 rfl
theorem im_X12_notes : Cond.instanceMethod yX12_notes ∈ lw_u := tb_7 26 rfl
theorem ml_X12_310 : Cond.methodLink RX12 310 yX12_plainGive ∈ lw_u := tb_7 28 rfl
theorem im_X12_plainGive : Cond.instanceMethod yX12_plainGive ∈ lw_u := tb_7 30 rfl
theorem ml_X12_327 : Cond.methodLink RX12 327 yX12_fit ∈ lw_u := tb_7 32 rfl
theorem im_X12_fit : Cond.instanceMethod yX12_fit ∈ lw_u := tb_7 34 rfl
theorem ml_X12_319 : Cond.methodLink RX12 319 yX12_plainFit ∈ lw_u := tb_7 36 rfl
theorem im_X12_plainFit : Cond.instanceMethod yX12_plainFit ∈ lw_u := tb_7 38 rfl
theorem ml_X12_322 : Cond.methodLink RX12 322 yX12_openFit ∈ lw_u := tb_7 40 rfl
theorem im_X12_openFit : Cond.instanceMethod yX12_openFit ∈ lw_u := tb_7 42 rfl
theorem ml_X12_325 : Cond.methodLink RX12 325 yX12_open ∈ lw_u := tb_7 44 rfl
theorem im_X12_open : Cond.instanceMethod yX12_open ∈ lw_u := tb_7 46 rfl
theorem ml_X12_313 : Cond.methodLink RX12 313 yX12_plainOpen ∈ lw_u := tb_7 48 rfl
theorem im_X12_plainOpen : Cond.instanceMethod yX12_plainOpen ∈ lw_u := tb_7 50 rfl
theorem ml_X12_333 : Cond.methodLink RX12 333 yX12_tell ∈ lw_u := tb_7 52 rfl
theorem im_X12_tell : Cond.instanceMethod yX12_tell ∈ lw_u := tb_7 54 rfl
theorem ml_X12_330 : Cond.methodLink RX12 330 yX12_plainTell ∈ lw_u := tb_7 56 rfl
theorem im_X12_plainTell : Cond.instanceMethod yX12_plainTell ∈ lw_u := tb_7 58 rfl
theorem ml_L_152 : Cond.methodLink RL 152 yX12_trace ∈ lw_u := tb_7 60 rfl
theorem im_X12_trace : Cond.instanceMethod yX12_trace ∈ lw_u := tb_7 61 rfl
theorem se_X12_X12_X12_trace : Cond.selects RX12 yX12_trace yX12_trace ∈ lw_u := tb_7 62 rfl
theorem ml_L_156 : Cond.methodLink RL 156 yX12_sheet ∈ lw_u := tb_7 64 rfl
theorem im_X12_sheet : Cond.instanceMethod yX12_sheet ∈ lw_u := tb_7 65 rfl
theorem se_X12_X12_X12_sheet : Cond.selects RX12 yX12_sheet yX12_sheet ∈ lw_u := tb_7 66 rfl
theorem kl_X12_336 : Cond.constantLong RX12 336 (-1) ∈ lw_u := tb_7 68 rfl
theorem kl_X12_338 : Cond.constantLong RX12 338 (40) ∈ lw_u := tb_7 69 rfl
theorem ml_L_160 : Cond.methodLink RL 160 yX12_cell ∈ lw_u := tb_7 70 rfl
theorem im_X12_cell : Cond.instanceMethod yX12_cell ∈ lw_u := tb_7 71 rfl
theorem se_X12_X12_X12_cell : Cond.selects RX12 yX12_cell yX12_cell ∈ lw_u := tb_7 72 rfl
theorem ml_X12_340 : Cond.methodLink RX12 340 yX12_byteOf ∈ lw_u := tb_7 74 rfl
theorem sm_X12_byteOf : Cond.static yX12_byteOf ∈ lw_u := tb_7 75 rfl
theorem ml_L_164 : Cond.methodLink RL 164 yX12_row ∈ lw_u := tb_7 77 rfl
theorem im_X12_row : Cond.instanceMethod yX12_row ∈ lw_u := tb_7 78 rfl
theorem se_X12_X12_X12_row : Cond.selects RX12 yX12_row yX12_row ∈ lw_u := tb_7 79 rfl
theorem ml_L_168 : Cond.methodLink RL 168 yX12_forge ∈ lw_u := tb_7 81 rfl
theorem im_X12_forge : Cond.instanceMethod yX12_forge ∈ lw_u := tb_7 82 rfl
theorem se_X12_X12_X12_forge : Cond.selects RX12 yX12_forge yX12_forge ∈ lw_u := tb_7 83 rfl
theorem kl_X12_343 : Cond.constantLong RX12 343 (6) ∈ lw_u := tb_7 85 rfl
theorem kl_X12_345 : Cond.constantLong RX12 345 (-100) ∈ lw_u := tb_7 86 rfl
theorem kl_X12_347 : Cond.constantLong RX12 347 (100) ∈ lw_u := tb_7 87 rfl
theorem ml_X12_349 : Cond.methodLink RX12 349 yX12_modulo ∈ lw_u := tb_7 88 rfl
theorem sm_X12_modulo : Cond.static yX12_modulo ∈ lw_u := tb_7 89 rfl
theorem ml_X12_352 : Cond.methodLink RX12 352 yX12_copied ∈ lw_u := tb_7 91 rfl
theorem im_X12_copied : Cond.instanceMethod yX12_copied ∈ lw_u := tb_7 93 rfl
theorem ml_L_172 : Cond.methodLink RL 172 yX12_status ∈ lw_u := tb_7 95 rfl
theorem im_X12_status : Cond.instanceMethod yX12_status ∈ lw_u := tb_7 96 rfl
theorem se_X12_X12_X12_status : Cond.selects RX12 yX12_status yX12_status ∈ lw_u := tb_7 97 rfl
theorem sw_X4_X4_fit : Cond.sameMethod "HeroSheet$Opens" "HeroSheet$Opens" "fit" "(I[I)I" ∈ lw_u := tb_7 99 rfl
theorem sw_X6_X6_open : Cond.sameMethod "HeroSheet$Rule" "HeroSheet$Rule" "open" "(I[I)I" ∈ lw_u := tb_7 100 rfl
theorem se_X0_X6_X4_open : Cond.selects RX0 yX6_open yX4_open ∈ lw_u := tb_7 101 rfl
theorem se_X2_X6_X6_open : Cond.selects RX2 yX6_open yX6_open ∈ lw_u := tb_7 102 rfl
theorem se_X3_X6_X3_open : Cond.selects RX3 yX6_open yX3_open ∈ lw_u := tb_7 103 rfl
theorem se_X4_X6_X4_open : Cond.selects RX4 yX6_open yX4_open ∈ lw_u := tb_7 104 rfl
theorem se_X6_X6_X6_open : Cond.selects RX6 yX6_open yX6_open ∈ lw_u := tb_7 105 rfl
theorem se_X7_X6_X6_open : Cond.selects RX7 yX6_open yX6_open ∈ lw_u := tb_7 106 rfl
theorem se_X10_X6_X6_open : Cond.selects RX10 yX6_open yX6_open ∈ lw_u := tb_7 107 rfl
theorem ct_X0_X4 : Cond.castable RX0 RX4 ∈ lw_u := tb_7 108 rfl
theorem ct_X7_X6 : Cond.castable RX7 RX6 ∈ lw_u := tb_7 109 rfl
theorem ct_X2_X6 : Cond.castable RX2 RX6 ∈ lw_u := tb_7 110 rfl
theorem ct_X3_X6 : Cond.castable RX3 RX6 ∈ lw_u := tb_7 111 rfl
theorem ct_X4_X6 : Cond.castable RX4 RX6 ∈ lw_u := tb_7 112 rfl
theorem ct_X0_X6 : Cond.castable RX0 RX6 ∈ lw_u := tb_7 113 rfl
theorem ct_X10_X6 : Cond.castable RX10 RX6 ∈ lw_u := tb_7 114 rfl
theorem se_X11_X11_X11_refused : Cond.selects RX11 yX11_refused yX11_refused ∈ lw_u := tb_pr 0 rfl
theorem se_X5_X5_X5_plannedWith : Cond.selects RX5 yX5_plannedWith yX5_plannedWith ∈ lw_u := tb_pr 1 rfl
theorem se_X11_X11_X11_done : Cond.selects RX11 yX11_done yX11_done ∈ lw_u := tb_pr 2 rfl
theorem se_X11_X11_X11_isValue : Cond.selects RX11 yX11_isValue yX11_isValue ∈ lw_u := tb_pr 3 rfl
theorem se_X11_X11_X11_canBeRule : Cond.selects RX11 yX11_canBeRule yX11_canBeRule ∈ lw_u := tb_pr 4 rfl
theorem se_X11_X11_X11_ruleOrNull : Cond.selects RX11 yX11_ruleOrNull yX11_ruleOrNull ∈ lw_u := tb_pr 5 rfl
theorem se_X11_X11_X11_isFactorOfValue : Cond.selects RX11 yX11_isFactorOfValue yX11_isFactorOfValue ∈ lw_u := tb_pr 6 rfl
theorem se_X11_X11_X11_ruleOf : Cond.selects RX11 yX11_ruleOf yX11_ruleOf ∈ lw_u := tb_pr 7 rfl
theorem se_X11_X11_X11_entered : Cond.selects RX11 yX11_entered yX11_entered ∈ lw_u := tb_pr 8 rfl
theorem se_X11_X11_X11_closesRing : Cond.selects RX11 yX11_closesRing yX11_closesRing ∈ lw_u := tb_pr 9 rfl
theorem se_X11_X11_X11_keepRing : Cond.selects RX11 yX11_keepRing yX11_keepRing ∈ lw_u := tb_pr 10 rfl
theorem se_X8_X8_X8_addNeeds : Cond.selects RX8 yX8_addNeeds yX8_addNeeds ∈ lw_u := tb_pr 11 rfl
theorem se_X11_X11_X11_isOfKind : Cond.selects RX11 yX11_isOfKind yX11_isOfKind ∈ lw_u := tb_pr 12 rfl
theorem se_X11_X11_X11_numberNow : Cond.selects RX11 yX11_numberNow yX11_numberNow ∈ lw_u := tb_pr 13 rfl
theorem se_X1_X1_X1_write : Cond.selects RX1 yX1_write yX1_write ∈ lw_u := tb_pr 14 rfl
theorem se_X5_X5_X5_thereOn : Cond.selects RX5 yX5_thereOn yX5_thereOn ∈ lw_u := tb_pr 15 rfl
theorem se_X5_X5_X5_gather : Cond.selects RX5 yX5_gather yX5_gather ∈ lw_u := tb_pr 16 rfl
theorem se_X5_X5_X5_baseOrSet : Cond.selects RX5 yX5_baseOrSet yX5_baseOrSet ∈ lw_u := tb_pr 17 rfl
theorem se_X5_X5_X5_beat : Cond.selects RX5 yX5_beat yX5_beat ∈ lw_u := tb_pr 18 rfl
theorem se_X5_X5_X5_markTwice : Cond.selects RX5 yX5_markTwice yX5_markTwice ∈ lw_u := tb_pr 19 rfl
theorem se_X5_X5_X5_beatTyped : Cond.selects RX5 yX5_beatTyped yX5_beatTyped ∈ lw_u := tb_pr 20 rfl
theorem se_X5_X5_X5_compare : Cond.selects RX5 yX5_compare yX5_compare ∈ lw_u := tb_pr 21 rfl
theorem se_X5_X5_X5_bestLike : Cond.selects RX5 yX5_bestLike yX5_bestLike ∈ lw_u := tb_pr 22 rfl
theorem se_X5_X5_X5_boons : Cond.selects RX5 yX5_boons yX5_boons ∈ lw_u := tb_pr 23 rfl
theorem se_X5_X5_X5_capped : Cond.selects RX5 yX5_capped yX5_capped ∈ lw_u := tb_pr 24 rfl
theorem se_X5_X5_X5_openedOn : Cond.selects RX5 yX5_openedOn yX5_openedOn ∈ lw_u := tb_pr 25 rfl
theorem se_X11_X11_X11_reckonedNow : Cond.selects RX11 yX11_reckonedNow yX11_reckonedNow ∈ lw_u := tb_pr 26 rfl
theorem se_X11_X11_X11_madeOr : Cond.selects RX11 yX11_madeOr yX11_madeOr ∈ lw_u := tb_pr 27 rfl
theorem se_X1_X1_X1_joinFront : Cond.selects RX1 yX1_joinFront yX1_joinFront ∈ lw_u := tb_pr 28 rfl
theorem se_X1_X1_X1_leastStep : Cond.selects RX1 yX1_leastStep yX1_leastStep ∈ lw_u := tb_pr 29 rfl
theorem se_X11_X11_X11_countWays : Cond.selects RX11 yX11_countWays yX11_countWays ∈ lw_u := tb_pr 30 rfl
theorem se_X11_X11_X11_waysOfOneMore : Cond.selects RX11 yX11_waysOfOneMore yX11_waysOfOneMore ∈ lw_u := tb_pr 31 rfl
theorem se_X11_X11_X11_waysToReach : Cond.selects RX11 yX11_waysToReach yX11_waysToReach ∈ lw_u := tb_pr 32 rfl
theorem se_X11_X11_X11_takenForKind : Cond.selects RX11 yX11_takenForKind yX11_takenForKind ∈ lw_u := tb_pr 33 rfl
theorem se_X11_X11_X11_readFromShorts : Cond.selects RX11 yX11_readFromShorts yX11_readFromShorts ∈ lw_u := tb_pr 34 rfl
theorem se_X11_X11_X11_copiedFromBytes : Cond.selects RX11 yX11_copiedFromBytes yX11_copiedFromBytes ∈ lw_u := tb_pr 35 rfl
theorem se_X11_X11_X11_putAmongOpens : Cond.selects RX11 yX11_putAmongOpens yX11_putAmongOpens ∈ lw_u := tb_pr 36 rfl
theorem se_X12_X12_X12_refused : Cond.selects RX12 yX12_refused yX12_refused ∈ lw_u := tb_pr 37 rfl
theorem se_X12_X12_X12_done : Cond.selects RX12 yX12_done yX12_done ∈ lw_u := tb_pr 38 rfl
theorem se_X12_X12_X12_isValue : Cond.selects RX12 yX12_isValue yX12_isValue ∈ lw_u := tb_pr 39 rfl
theorem se_X12_X12_X12_adds : Cond.selects RX12 yX12_adds yX12_adds ∈ lw_u := tb_pr 40 rfl
theorem se_X12_X12_X12_isRule : Cond.selects RX12 yX12_isRule yX12_isRule ∈ lw_u := tb_pr 41 rfl
theorem se_X12_X12_X12_isRing : Cond.selects RX12 yX12_isRing yX12_isRing ∈ lw_u := tb_pr 42 rfl
theorem se_X12_X12_X12_findNeeds : Cond.selects RX12 yX12_findNeeds yX12_findNeeds ∈ lw_u := tb_pr 43 rfl
theorem se_X12_X12_X12_lay : Cond.selects RX12 yX12_lay yX12_lay ∈ lw_u := tb_pr 44 rfl
theorem se_X12_X12_X12_lays : Cond.selects RX12 yX12_lays yX12_lays ∈ lw_u := tb_pr 45 rfl
theorem se_X12_X12_X12_findThere : Cond.selects RX12 yX12_findThere yX12_findThere ∈ lw_u := tb_pr 46 rfl
theorem se_X12_X12_X12_isThere : Cond.selects RX12 yX12_isThere yX12_isThere ∈ lw_u := tb_pr 47 rfl
theorem se_X12_X12_X12_holds : Cond.selects RX12 yX12_holds yX12_holds ∈ lw_u := tb_pr 48 rfl
theorem se_X12_X12_X12_work : Cond.selects RX12 yX12_work yX12_work ∈ lw_u := tb_pr 49 rfl
theorem se_X12_X12_X12_based : Cond.selects RX12 yX12_based yX12_based ∈ lw_u := tb_pr 50 rfl
theorem se_X12_X12_X12_works : Cond.selects RX12 yX12_works yX12_works ∈ lw_u := tb_pr 51 rfl
theorem se_X12_X12_X12_amountOf : Cond.selects RX12 yX12_amountOf yX12_amountOf ∈ lw_u := tb_pr 52 rfl
theorem se_X12_X12_X12_added : Cond.selects RX12 yX12_added yX12_added ∈ lw_u := tb_pr 53 rfl
theorem se_X12_X12_X12_adds_ : Cond.selects RX12 yX12_adds_ yX12_adds_ ∈ lw_u := tb_pr 54 rfl
theorem se_X12_X12_X12_firstOf : Cond.selects RX12 yX12_firstOf yX12_firstOf ∈ lw_u := tb_pr 55 rfl
theorem se_X12_X12_X12_bestOf : Cond.selects RX12 yX12_bestOf yX12_bestOf ∈ lw_u := tb_pr 56 rfl
theorem se_X12_X12_X12_counts : Cond.selects RX12 yX12_counts yX12_counts ∈ lw_u := tb_pr 57 rfl
theorem se_X12_X12_X12_capped : Cond.selects RX12 yX12_capped yX12_capped ∈ lw_u := tb_pr 58 rfl
theorem se_X12_X12_X12_opens : Cond.selects RX12 yX12_opens yX12_opens ∈ lw_u := tb_pr 59 rfl
theorem se_X12_X12_X12_movesAll : Cond.selects RX12 yX12_movesAll yX12_movesAll ∈ lw_u := tb_pr 60 rfl
theorem se_X12_X12_X12_moves : Cond.selects RX12 yX12_moves yX12_moves ∈ lw_u := tb_pr 61 rfl
theorem se_X12_X12_X12_layNow : Cond.selects RX12 yX12_layNow yX12_layNow ∈ lw_u := tb_pr 62 rfl
theorem se_X12_X12_X12_isSet : Cond.selects RX12 yX12_isSet yX12_isSet ∈ lw_u := tb_pr 63 rfl
theorem se_X12_X12_X12_best : Cond.selects RX12 yX12_best yX12_best ∈ lw_u := tb_pr 64 rfl
theorem se_X12_X12_X12_give : Cond.selects RX12 yX12_give yX12_give ∈ lw_u := tb_pr 65 rfl
theorem se_X12_X12_X12_notes : Cond.selects RX12 yX12_notes yX12_notes ∈ lw_u := tb_pr 66 rfl
theorem se_X12_X12_X12_plainGive : Cond.selects RX12 yX12_plainGive yX12_plainGive ∈ lw_u := tb_pr 67 rfl
theorem se_X12_X12_X12_fit : Cond.selects RX12 yX12_fit yX12_fit ∈ lw_u := tb_pr 68 rfl
theorem se_X12_X12_X12_plainFit : Cond.selects RX12 yX12_plainFit yX12_plainFit ∈ lw_u := tb_pr 69 rfl
theorem se_X12_X12_X12_openFit : Cond.selects RX12 yX12_openFit yX12_openFit ∈ lw_u := tb_pr 70 rfl
theorem se_X12_X12_X12_open : Cond.selects RX12 yX12_open yX12_open ∈ lw_u := tb_pr 71 rfl
theorem se_X12_X12_X12_plainOpen : Cond.selects RX12 yX12_plainOpen yX12_plainOpen ∈ lw_u := tb_pr 72 rfl
theorem se_X12_X12_X12_tell : Cond.selects RX12 yX12_tell yX12_tell ∈ lw_u := tb_pr 73 rfl
theorem se_X12_X12_X12_plainTell : Cond.selects RX12 yX12_plainTell yX12_plainTell ∈ lw_u := tb_pr 74 rfl
theorem se_X12_X12_X12_copied : Cond.selects RX12 yX12_copied yX12_copied ∈ lw_u := tb_pr 75 rfl
abbrev MD : Type := MethodName × ByteArray × Nat × Option FieldType × Nat × Nat × Nat
def MOK (M : MD) (np : Nat) : Prop := Cond.code M.1 M.2.1 M.2.2.1 M.2.2.2.1 ∈ lw_u ∧ Cond.initialized M.1.cls ∈ lw_u ∧ (M.1.cls ≠ "java/lang/invoke/MethodHandle" ∧ M.1.cls ≠ "java/lang/invoke/VarHandle" ∧ (parseMethodDescriptor M.1.desc).map (fun d => d.parameters.length) = some np) ∧ (plainName M.1.cls = true ∨ plainFor M.1 = true)
abbrev M_X0_init : MD := (yX0_init, cX0_init, 5, none, 3, 0, 0)
theorem mk_X0_init : MOK M_X0_init 4 := ⟨tb_3 6 rfl, in_X0, by decide +kernel, Or.inl rfl⟩
abbrev M_X0_give : MD := (yX0_give, cX0_give, 3, some .int, 2, 0, 0)
theorem mk_X0_give : MOK M_X0_give 2 := ⟨tb_4 182 rfl, in_X0, by decide +kernel, Or.inl rfl⟩
abbrev M_X0_fit : MD := (yX0_fit, cX0_fit, 3, some .int, 5, 0, 0)
theorem mk_X0_fit : MOK M_X0_fit 2 := ⟨tb_4 208 rfl, in_X0, by decide +kernel, Or.inl rfl⟩
abbrev M_X1_init : MD := (yX1_init, cX1_init, 2, none, 2, 18, 4069)
theorem mk_X1_init : MOK M_X1_init 1 := ⟨tb_1 113 rfl, in_X1, by decide +kernel, Or.inl rfl⟩
abbrev M_X1_forget : MD := (yX1_forget, cX1_forget, 1, none, 2, 0, 0)
theorem mk_X1_forget : MOK M_X1_forget 0 := ⟨tb_2 58 rfl, in_X1, by decide +kernel, Or.inl rfl⟩
abbrev M_X1_write : MD := (yX1_write, cX1_write, 2, none, 3, 0, 0)
theorem mk_X1_write : MOK M_X1_write 1 := ⟨tb_3 150 rfl, in_X1, by decide +kernel, Or.inl rfl⟩
abbrev M_X1_numberOn : MD := (yX1_numberOn, cX1_numberOn, 3, some .long, 4, 0, 0)
theorem mk_X1_numberOn : MOK M_X1_numberOn 2 := ⟨tb_3 146 rfl, in_X1, by decide +kernel, Or.inl rfl⟩
abbrev M_X1_isOpen : MD := (yX1_isOpen, cX1_isOpen, 4, some .boolean, 4, 0, 0)
theorem mk_X1_isOpen : MOK M_X1_isOpen 2 := ⟨tb_4 71 rfl, in_X1, by decide +kernel, Or.inl rfl⟩
abbrev M_X1_isLawful : MD := (yX1_isLawful, cX1_isLawful, 4, some .boolean, 4, 0, 0)
theorem mk_X1_isLawful : MOK M_X1_isLawful 1 := ⟨tb_4 81 rfl, in_X1, by decide +kernel, Or.inl rfl⟩
abbrev M_X1_lawfulSheets : MD := (yX1_lawfulSheets, cX1_lawfulSheets, 3, some .int, 5, 0, 0)
theorem mk_X1_lawfulSheets : MOK M_X1_lawfulSheets 0 := ⟨tb_4 171 rfl, in_X1, by decide +kernel, Or.inl rfl⟩
abbrev M_X1_mended : MD := (yX1_mended, cX1_mended, 5, some .int, 5, 0, 0)
theorem mk_X1_mended : MOK M_X1_mended 1 := ⟨tb_4 89 rfl, in_X1, by decide +kernel, Or.inl rfl⟩
abbrev M_X1_bestSheet : MD := (yX1_bestSheet, cX1_bestSheet, 7, some .int, 5, 0, 0)
theorem mk_X1_bestSheet : MOK M_X1_bestSheet 4 := ⟨tb_4 99 rfl, in_X1, by decide +kernel, Or.inl rfl⟩
abbrev M_X1_isBetter : MD := (yX1_isBetter, cX1_isBetter, 5, some .boolean, 0, 0, 0)
theorem mk_X1_isBetter : MOK M_X1_isBetter 3 := ⟨tb_4 104 rfl, in_X1, by decide +kernel, Or.inl rfl⟩
abbrev M_X1_unbettered : MD := (yX1_unbettered, cX1_unbettered, 4, some .int, 5, 0, 0)
theorem mk_X1_unbettered : MOK M_X1_unbettered 2 := ⟨tb_4 116 rfl, in_X1, by decide +kernel, Or.inl rfl⟩
abbrev M_X1_joinFront : MD := (yX1_joinFront, cX1_joinFront, 7, none, 0, 0, 0)
theorem mk_X1_joinFront : MOK M_X1_joinFront 2 := ⟨tb_4 120 rfl, in_X1, by decide +kernel, Or.inl rfl⟩
abbrev M_X1_markLeading : MD := (yX1_markLeading, cX1_markLeading, 4, none, 5, 0, 0)
theorem mk_X1_markLeading : MOK M_X1_markLeading 1 := ⟨tb_4 128 rfl, in_X1, by decide +kernel, Or.inl rfl⟩
abbrev M_X1_leastStep : MD := (yX1_leastStep, cX1_leastStep, 4, some .int, 1, 0, 0)
theorem mk_X1_leastStep : MOK M_X1_leastStep 2 := ⟨tb_4 132 rfl, in_X1, by decide +kernel, Or.inl rfl⟩
abbrev M_X1_stepOfWay : MD := (yX1_stepOfWay, cX1_stepOfWay, 6, some .int, 2, 0, 0)
theorem mk_X1_stepOfWay : MOK M_X1_stepOfWay 2 := ⟨tb_4 136 rfl, in_X1, by decide +kernel, Or.inl rfl⟩
abbrev M_X2_init : MD := (yX2_init, cX2_init, 8, none, 2, 0, 0)
theorem mk_X2_init : MOK M_X2_init 7 := ⟨tb_2 191 rfl, in_X2, by decide +kernel, Or.inl rfl⟩
abbrev M_X2_tell : MD := (yX2_tell, cX2_tell, 3, some .int, 7, 0, 0)
theorem mk_X2_tell : MOK M_X2_tell 2 := ⟨tb_5 12 rfl, in_X2, by decide +kernel, Or.inl rfl⟩
abbrev M_X3_init : MD := (yX3_init, cX3_init, 5, none, 2, 0, 0)
theorem mk_X3_init : MOK M_X3_init 4 := ⟨tb_2 212 rfl, in_X3, by decide +kernel, Or.inl rfl⟩
abbrev M_X3_open : MD := (yX3_open, cX3_open, 3, some .int, 2, 0, 0)
theorem mk_X3_open : MOK M_X3_open 2 := ⟨tb_5 1 rfl, in_X3, by decide +kernel, Or.inl rfl⟩
abbrev M_X4_init : MD := (yX4_init, cX4_init, 6, none, 2, 0, 0)
theorem mk_X4_init : MOK M_X4_init 5 := ⟨tb_2 229 rfl, in_X4, by decide +kernel, Or.inl rfl⟩
abbrev M_X4_open : MD := (yX4_open, cX4_open, 3, some .int, 2, 0, 0)
theorem mk_X4_open : MOK M_X4_open 2 := ⟨tb_4 220 rfl, in_X4, by decide +kernel, Or.inl rfl⟩
abbrev M_X4_fit : MD := (yX4_fit, cX4_fit, 3, some .int, 4, 0, 0)
theorem mk_X4_fit : MOK M_X4_fit 2 := ⟨tb_4 211 rfl, in_X4, by decide +kernel, Or.inl rfl⟩
abbrev M_X5_init : MD := (yX5_init, cX5_init, 1, none, 1, 11, 214)
theorem mk_X5_init : MOK M_X5_init 0 := ⟨tb_1 119 rfl, in_X5, by decide +kernel, Or.inl rfl⟩
abbrev M_X5_arrange : MD := (yX5_arrange, cX5_arrange, 6, none, 1, 0, 0)
theorem mk_X5_arrange : MOK M_X5_arrange 1 := ⟨tb_2 62 rfl, in_X5, by decide +kernel, Or.inl rfl⟩
abbrev M_X5_plannedWith : MD := (yX5_plannedWith, cX5_plannedWith, 6, some .int, 0, 0, 0)
theorem mk_X5_plannedWith : MOK M_X5_plannedWith 3 := ⟨tb_2 72 rfl, in_X5, by decide +kernel, Or.inl rfl⟩
abbrev M_X5_reckon : MD := (yX5_reckon, cX5_reckon, 7, none, 2, 0, 0)
theorem mk_X5_reckon : MOK M_X5_reckon 2 := ⟨tb_3 154 rfl, in_X5, by decide +kernel, Or.inl rfl⟩
abbrev M_X5_thereOn : MD := (yX5_thereOn, cX5_thereOn, 6, some .int, 1, 0, 0)
theorem mk_X5_thereOn : MOK M_X5_thereOn 2 := ⟨tb_3 158 rfl, in_X5, by decide +kernel, Or.inl rfl⟩
abbrev M_X5_gather : MD := (yX5_gather, cX5_gather, 8, none, 1, 0, 0)
theorem mk_X5_gather : MOK M_X5_gather 4 := ⟨tb_3 167 rfl, in_X5, by decide +kernel, Or.inl rfl⟩
abbrev M_X5_beat : MD := (yX5_beat, cX5_beat, 4, none, 0, 0, 0)
theorem mk_X5_beat : MOK M_X5_beat 3 := ⟨tb_3 187 rfl, in_X5, by decide +kernel, Or.inl rfl⟩
abbrev M_X5_baseOrSet : MD := (yX5_baseOrSet, cX5_baseOrSet, 6, some .long, 1, 0, 0)
theorem mk_X5_baseOrSet : MOK M_X5_baseOrSet 2 := ⟨tb_3 183 rfl, in_X5, by decide +kernel, Or.inl rfl⟩
abbrev M_X5_markTwice : MD := (yX5_markTwice, cX5_markTwice, 3, none, 1, 0, 0)
theorem mk_X5_markTwice : MOK M_X5_markTwice 0 := ⟨tb_3 191 rfl, in_X5, by decide +kernel, Or.inl rfl⟩
abbrev M_X5_beatTyped : MD := (yX5_beatTyped, cX5_beatTyped, 5, none, 1, 0, 0)
theorem mk_X5_beatTyped : MOK M_X5_beatTyped 1 := ⟨tb_3 198 rfl, in_X5, by decide +kernel, Or.inl rfl⟩
abbrev M_X5_compare : MD := (yX5_compare, cX5_compare, 6, none, 0, 0, 0)
theorem mk_X5_compare : MOK M_X5_compare 1 := ⟨tb_3 203 rfl, in_X5, by decide +kernel, Or.inl rfl⟩
abbrev M_X5_bestLike : MD := (yX5_bestLike, cX5_bestLike, 4, some .int, 0, 0, 0)
theorem mk_X5_bestLike : MOK M_X5_bestLike 1 := ⟨tb_3 207 rfl, in_X5, by decide +kernel, Or.inl rfl⟩
abbrev M_X5_boons : MD := (yX5_boons, cX5_boons, 5, some .long, 0, 0, 0)
theorem mk_X5_boons : MOK M_X5_boons 0 := ⟨tb_3 211 rfl, in_X5, by decide +kernel, Or.inl rfl⟩
abbrev M_X5_capped : MD := (yX5_capped, cX5_capped, 8, some .long, 1, 0, 0)
theorem mk_X5_capped : MOK M_X5_capped 1 := ⟨tb_3 219 rfl, in_X5, by decide +kernel, Or.inl rfl⟩
abbrev M_X5_openedOn : MD := (yX5_openedOn, cX5_openedOn, 7, some .int, 1, 0, 0)
theorem mk_X5_openedOn : MOK M_X5_openedOn 2 := ⟨tb_3 230 rfl, in_X5, by decide +kernel, Or.inl rfl⟩
abbrev M_X6_init : MD := (yX6_init, cX6_init, 8, none, 1, 0, 0)
theorem mk_X6_init : MOK M_X6_init 7 := ⟨tb_2 130 rfl, in_X6, by decide +kernel, Or.inl rfl⟩
abbrev M_X6_readBits : MD := (yX6_readBits, cX6_readBits, 1, some .int, 1, 0, 0)
theorem mk_X6_readBits : MOK M_X6_readBits 0 := ⟨tb_3 47 rfl, in_X6, by decide +kernel, Or.inl rfl⟩
abbrev M_X6_amountBy : MD := (yX6_amountBy, cX6_amountBy, 2, some .long, 0, 0, 0)
theorem mk_X6_amountBy : MOK M_X6_amountBy 1 := ⟨tb_3 178 rfl, in_X6, by decide +kernel, Or.inl rfl⟩
abbrev M_X6_begin : MD := (yX6_begin, cX6_begin, 2, none, 0, 0, 0)
theorem mk_X6_begin : MOK M_X6_begin 2 := ⟨tb_4 186 rfl, in_X6, by decide +kernel, Or.inl rfl⟩
abbrev M_X6_give : MD := (yX6_give, cX6_give, 3, some .int, 1, 0, 0)
theorem mk_X6_give : MOK M_X6_give 2 := ⟨tb_4 200 rfl, in_X6, by decide +kernel, Or.inl rfl⟩
abbrev M_X6_fit : MD := (yX6_fit, cX6_fit, 3, some .int, 3, 0, 0)
theorem mk_X6_fit : MOK M_X6_fit 2 := ⟨tb_4 237 rfl, in_X6, by decide +kernel, Or.inl rfl⟩
abbrev M_X6_open : MD := (yX6_open, cX6_open, 3, some .int, 1, 0, 0)
theorem mk_X6_open : MOK M_X6_open 2 := ⟨tb_4 223 rfl, in_X6, by decide +kernel, Or.inl rfl⟩
abbrev M_X6_tell : MD := (yX6_tell, cX6_tell, 3, some .int, 6, 0, 0)
theorem mk_X6_tell : MOK M_X6_tell 2 := ⟨tb_5 24 rfl, in_X6, by decide +kernel, Or.inl rfl⟩
abbrev M_X7_init : MD := (yX7_init, cX7_init, 7, none, 2, 0, 0)
theorem mk_X7_init : MOK M_X7_init 6 := ⟨tb_2 127 rfl, in_X7, by decide +kernel, Or.inl rfl⟩
abbrev M_X7_fit : MD := (yX7_fit, cX7_fit, 3, some .int, 4, 0, 0)
theorem mk_X7_fit : MOK M_X7_fit 2 := ⟨tb_4 229 rfl, in_X7, by decide +kernel, Or.inl rfl⟩
abbrev M_X8_init : MD := (yX8_init, cX8_init, 1, none, 1, 10, 120)
theorem mk_X8_init : MOK M_X8_init 0 := ⟨tb_1 30 rfl, in_X8, by decide +kernel, Or.inl rfl⟩
abbrev M_X8_copyOf : MD := (yX8_copyOf, cX8_copyOf, 3, none, 1, 0, 0)
theorem mk_X8_copyOf : MOK M_X8_copyOf 1 := ⟨tb_4 6 rfl, in_X8, by decide +kernel, Or.inl rfl⟩
abbrev M_X8_addValue : MD := (yX8_addValue, cX8_addValue, 4, none, 0, 0, 0)
theorem mk_X8_addValue : MOK M_X8_addValue 3 := ⟨tb_2 54 rfl, in_X8, by decide +kernel, Or.inl rfl⟩
abbrev M_X8_diceCount : MD := (yX8_diceCount, cX8_diceCount, 2, some .int, 0, 0, 0)
theorem mk_X8_diceCount : MOK M_X8_diceCount 1 := ⟨tb_4 19 rfl, in_X8, by decide +kernel, Or.inl rfl⟩
abbrev M_X8_diceSides : MD := (yX8_diceSides, cX8_diceSides, 2, some .int, 0, 0, 0)
theorem mk_X8_diceSides : MOK M_X8_diceSides 1 := ⟨tb_4 23 rfl, in_X8, by decide +kernel, Or.inl rfl⟩
abbrev M_X8_addRule : MD := (yX8_addRule, cX8_addRule, 2, none, 2, 0, 0)
theorem mk_X8_addRule : MOK M_X8_addRule 1 := ⟨tb_3 70 rfl, in_X8, by decide +kernel, Or.inl rfl⟩
abbrev M_X8_addNeeds : MD := (yX8_addNeeds, cX8_addNeeds, 5, none, 1, 0, 0)
theorem mk_X8_addNeeds : MOK M_X8_addNeeds 2 := ⟨tb_3 75 rfl, in_X8, by decide +kernel, Or.inl rfl⟩
abbrev M_X8_needing : MD := (yX8_needing, cX8_needing, 4, some .int, 0, 0, 0)
theorem mk_X8_needing : MOK M_X8_needing 1 := ⟨tb_3 66 rfl, in_X8, by decide +kernel, Or.inl rfl⟩
abbrev M_X8_addSpell : MD := (yX8_addSpell, cX8_addSpell, 4, none, 0, 0, 0)
theorem mk_X8_addSpell : MOK M_X8_addSpell 3 := ⟨tb_3 122 rfl, in_X8, by decide +kernel, Or.inl rfl⟩
abbrev M_X8_lastingSpells : MD := (yX8_lastingSpells, cX8_lastingSpells, 3, some .int, 0, 0, 0)
theorem mk_X8_lastingSpells : MOK M_X8_lastingSpells 0 := ⟨tb_3 130 rfl, in_X8, by decide +kernel, Or.inl rfl⟩
abbrev M_X8_spellsOn : MD := (yX8_spellsOn, cX8_spellsOn, 5, some .long, 0, 0, 0)
theorem mk_X8_spellsOn : MOK M_X8_spellsOn 1 := ⟨tb_3 215 rfl, in_X8, by decide +kernel, Or.inl rfl⟩
abbrev M_X9_init : MD := (yX9_init, cX9_init, 4, none, 1, 0, 0)
theorem mk_X9_init : MOK M_X9_init 3 := ⟨tb_1 214 rfl, in_X9, by decide +kernel, Or.inl rfl⟩
abbrev M_X9_holds : MD := (yX9_holds, cX9_holds, 3, some .boolean, 0, 0, 0)
theorem mk_X9_holds : MOK M_X9_holds 2 := ⟨tb_3 163 rfl, in_X9, by decide +kernel, Or.inl rfl⟩
abbrev M_X9_readBits : MD := (yX9_readBits, cX9_readBits, 1, some .int, 0, 0, 0)
theorem mk_X9_readBits : MOK M_X9_readBits 0 := ⟨tb_2 114 rfl, in_X9, by decide +kernel, Or.inl rfl⟩
abbrev M_X10_init : MD := (yX10_init, cX10_init, 8, none, 2, 0, 0)
theorem mk_X10_init : MOK M_X10_init 7 := ⟨tb_3 88 rfl, in_X10, by decide +kernel, Or.inl rfl⟩
abbrev M_X10_give : MD := (yX10_give, cX10_give, 3, some .int, 2, 0, 0)
theorem mk_X10_give : MOK M_X10_give 2 := ⟨tb_4 196 rfl, in_X10, by decide +kernel, Or.inl rfl⟩
abbrev M_X11_init : MD := (yX11_init, cX11_init, 1, none, 3, 53, 4660)
theorem mk_X11_init : MOK M_X11_init 0 := ⟨tb_1 22 rfl, in_X11, by decide +kernel, Or.inl rfl⟩
abbrev M_X11_value : MD := (yX11_value, cX11_value, 5, some .int, 3, 0, 0)
theorem mk_X11_value : MOK M_X11_value 3 := ⟨tb_2 40 rfl, in_X11, by decide +kernel, Or.inl rfl⟩
abbrev M_X11_free : MD := (yX11_free, cX11_free, 4, some .int, 3, 0, 0)
theorem mk_X11_free : MOK M_X11_free 2 := ⟨tb_2 80 rfl, in_X11, by decide +kernel, Or.inl rfl⟩
abbrev M_X11_test : MD := (yX11_test, cX11_test, 3, some .int, 2, 1, 3)
theorem mk_X11_test : MOK M_X11_test 2 := ⟨tb_2 90 rfl, in_X11, by decide +kernel, Or.inl rfl⟩
abbrev M_X11_testValue : MD := (yX11_testValue, cX11_testValue, 4, some .int, 2, 1, 3)
theorem mk_X11_testValue : MOK M_X11_testValue 3 := ⟨tb_2 94 rfl, in_X11, by decide +kernel, Or.inl rfl⟩
abbrev M_X11_rule : MD := (yX11_rule, cX11_rule, 6, some .int, 5, 1, 11)
theorem mk_X11_rule : MOK M_X11_rule 5 := ⟨tb_2 102 rfl, in_X11, by decide +kernel, Or.inl rfl⟩
abbrev M_X11_typed : MD := (yX11_typed, cX11_typed, 6, some .int, 5, 1, 11)
theorem mk_X11_typed : MOK M_X11_typed 5 := ⟨tb_3 80 rfl, in_X11, by decide +kernel, Or.inl rfl⟩
abbrev M_X11_stack : MD := (yX11_stack, cX11_stack, 4, some .int, 3, 0, 0)
theorem mk_X11_stack : MOK M_X11_stack 2 := ⟨tb_3 109 rfl, in_X11, by decide +kernel, Or.inl rfl⟩
abbrev M_X11_make : MD := (yX11_make, cX11_make, 3, some .int, 1, 0, 0)
theorem mk_X11_make : MOK M_X11_make 2 := ⟨tb_3 113 rfl, in_X11, by decide +kernel, Or.inl rfl⟩
abbrev M_X11_spell : MD := (yX11_spell, cX11_spell, 4, some .int, 3, 0, 0)
theorem mk_X11_spell : MOK M_X11_spell 3 := ⟨tb_3 118 rfl, in_X11, by decide +kernel, Or.inl rfl⟩
abbrev M_X11_turn : MD := (yX11_turn, cX11_turn, 2, some .int, 3, 0, 0)
theorem mk_X11_turn : MOK M_X11_turn 0 := ⟨tb_3 126 rfl, in_X11, by decide +kernel, Or.inl rfl⟩
abbrev M_X11_spend : MD := (yX11_spend, cX11_spend, 5, some .int, 6, 0, 0)
theorem mk_X11_spend : MOK M_X11_spend 2 := ⟨tb_3 134 rfl, in_X11, by decide +kernel, Or.inl rfl⟩
abbrev M_X11_rest : MD := (yX11_rest, cX11_rest, 3, some .int, 3, 0, 0)
theorem mk_X11_rest : MOK M_X11_rest 0 := ⟨tb_3 238 rfl, in_X11, by decide +kernel, Or.inl rfl⟩
abbrev M_X11_image : MD := (yX11_image, cX11_image, 1, some .int, 2, 0, 0)
theorem mk_X11_image : MOK M_X11_image 0 := ⟨tb_4 2 rfl, in_X11, by decide +kernel, Or.inl rfl⟩
abbrev M_X11_back : MD := (yX11_back, cX11_back, 1, some .int, 3, 0, 0)
theorem mk_X11_back : MOK M_X11_back 0 := ⟨tb_4 11 rfl, in_X11, by decide +kernel, Or.inl rfl⟩
abbrev M_X11_valueTold : MD := (yX11_valueTold, cX11_valueTold, 3, some .int, 4, 0, 0)
theorem mk_X11_valueTold : MOK M_X11_valueTold 2 := ⟨tb_4 15 rfl, in_X11, by decide +kernel, Or.inl rfl⟩
abbrev M_X11_number : MD := (yX11_number, cX11_number, 3, some .long, 5, 0, 0)
theorem mk_X11_number : MOK M_X11_number 2 := ⟨tb_4 35 rfl, in_X11, by decide +kernel, Or.inl rfl⟩
abbrev M_X11_ruleTold : MD := (yX11_ruleTold, cX11_ruleTold, 5, some .int, 4, 0, 0)
theorem mk_X11_ruleTold : MOK M_X11_ruleTold 2 := ⟨tb_4 50 rfl, in_X11, by decide +kernel, Or.inl rfl⟩
abbrev M_X11_amount : MD := (yX11_amount, cX11_amount, 3, some .long, 4, 0, 0)
theorem mk_X11_amount : MOK M_X11_amount 1 := ⟨tb_4 55 rfl, in_X11, by decide +kernel, Or.inl rfl⟩
abbrev M_X11_ring : MD := (yX11_ring, cX11_ring, 2, some .int, 0, 0, 0)
theorem mk_X11_ring : MOK M_X11_ring 1 := ⟨tb_4 59 rfl, in_X11, by decide +kernel, Or.inl rfl⟩
abbrev M_X11_needs : MD := (yX11_needs, cX11_needs, 3, some .int, 1, 0, 0)
theorem mk_X11_needs : MOK M_X11_needs 2 := ⟨tb_4 63 rfl, in_X11, by decide +kernel, Or.inl rfl⟩
abbrev M_X11_choice : MD := (yX11_choice, cX11_choice, 3, some .int, 5, 0, 0)
theorem mk_X11_choice : MOK M_X11_choice 2 := ⟨tb_4 67 rfl, in_X11, by decide +kernel, Or.inl rfl⟩
abbrev M_X11_lawful : MD := (yX11_lawful, cX11_lawful, 2, some .int, 5, 0, 0)
theorem mk_X11_lawful : MOK M_X11_lawful 1 := ⟨tb_4 77 rfl, in_X11, by decide +kernel, Or.inl rfl⟩
abbrev M_X11_mend : MD := (yX11_mend, cX11_mend, 1, some .int, 6, 0, 0)
theorem mk_X11_mend : MOK M_X11_mend 0 := ⟨tb_4 85 rfl, in_X11, by decide +kernel, Or.inl rfl⟩
abbrev M_X11_most : MD := (yX11_most, cX11_most, 6, some .long, 6, 0, 0)
theorem mk_X11_most : MOK M_X11_most 4 := ⟨tb_4 95 rfl, in_X11, by decide +kernel, Or.inl rfl⟩
abbrev M_X11_seek : MD := (yX11_seek, cX11_seek, 5, some .int, 6, 0, 0)
theorem mk_X11_seek : MOK M_X11_seek 4 := ⟨tb_4 108 rfl, in_X11, by decide +kernel, Or.inl rfl⟩
abbrev M_X11_both : MD := (yX11_both, cX11_both, 3, some .int, 6, 0, 0)
theorem mk_X11_both : MOK M_X11_both 2 := ⟨tb_4 112 rfl, in_X11, by decide +kernel, Or.inl rfl⟩
abbrev M_X11_way : MD := (yX11_way, cX11_way, 3, some .int, 6, 0, 0)
theorem mk_X11_way : MOK M_X11_way 2 := ⟨tb_4 124 rfl, in_X11, by decide +kernel, Or.inl rfl⟩
abbrev M_X11_dice : MD := (yX11_dice, cX11_dice, 9, some .long, 6, 0, 0)
theorem mk_X11_dice : MOK M_X11_dice 2 := ⟨tb_4 140 rfl, in_X11, by decide +kernel, Or.inl rfl⟩
abbrev M_X11_chance : MD := (yX11_chance, cX11_chance, 15, some .long, 6, 0, 0)
theorem mk_X11_chance : MOK M_X11_chance 4 := ⟨tb_4 145 rfl, in_X11, by decide +kernel, Or.inl rfl⟩
abbrev M_X11_count : MD := (yX11_count, cX11_count, 2, some .int, 6, 0, 0)
theorem mk_X11_count : MOK M_X11_count 1 := ⟨tb_4 167 rfl, in_X11, by decide +kernel, Or.inl rfl⟩
abbrev M_X11_act : MD := (yX11_act, cX11_act, 5, some .int, 8, 0, 0)
theorem mk_X11_act : MOK M_X11_act 3 := ⟨tb_4 175 rfl, in_X11, by decide +kernel, Or.inl rfl⟩
abbrev M_X11_trace : MD := (yX11_trace, cX11_trace, 2, some .int, 0, 0, 0)
theorem mk_X11_trace : MOK M_X11_trace 1 := ⟨tb_5 30 rfl, in_X11, by decide +kernel, Or.inl rfl⟩
abbrev M_X11_sheet : MD := (yX11_sheet, cX11_sheet, 5, some .int, 1, 0, 0)
theorem mk_X11_sheet : MOK M_X11_sheet 3 := ⟨tb_5 34 rfl, in_X11, by decide +kernel, Or.inl rfl⟩
abbrev M_X11_cell : MD := (yX11_cell, cX11_cell, 4, some .int, 1, 0, 0)
theorem mk_X11_cell : MOK M_X11_cell 3 := ⟨tb_5 45 rfl, in_X11, by decide +kernel, Or.inl rfl⟩
abbrev M_X11_row : MD := (yX11_row, cX11_row, 7, some .int, 5, 1, 10)
theorem mk_X11_row : MOK M_X11_row 3 := ⟨tb_5 49 rfl, in_X11, by decide +kernel, Or.inl rfl⟩
abbrev M_X11_forge : MD := (yX11_forge, cX11_forge, 6, some .int, 2, 0, 0)
theorem mk_X11_forge : MOK M_X11_forge 3 := ⟨tb_5 53 rfl, in_X11, by decide +kernel, Or.inl rfl⟩
abbrev M_X11_status : MD := (yX11_status, cX11_status, 1, some .int, 0, 0, 0)
theorem mk_X11_status : MOK M_X11_status 0 := ⟨tb_5 76 rfl, in_X11, by decide +kernel, Or.inl rfl⟩
abbrev M_X11_done : MD := (yX11_done, cX11_done, 2, some .int, 0, 0, 0)
theorem mk_X11_done : MOK M_X11_done 1 := ⟨tb_2 76 rfl, in_X11, by decide +kernel, Or.inl rfl⟩
abbrev M_X11_refused : MD := (yX11_refused, cX11_refused, 2, some .int, 0, 0, 0)
theorem mk_X11_refused : MOK M_X11_refused 1 := ⟨tb_2 50 rfl, in_X11, by decide +kernel, Or.inl rfl⟩
abbrev M_X11_isWithin : MD := (yX11_isWithin, cX11_isWithin, 2, some .boolean, 0, 0, 0)
theorem mk_X11_isWithin : MOK M_X11_isWithin 2 := ⟨tb_2 43 rfl, in_X11, by decide +kernel, Or.inl rfl⟩
abbrev M_X11_isChoice : MD := (yX11_isChoice, cX11_isChoice, 1, some .boolean, 0, 0, 0)
theorem mk_X11_isChoice : MOK M_X11_isChoice 1 := ⟨tb_2 83 rfl, in_X11, by decide +kernel, Or.inl rfl⟩
abbrev M_X11_isSet : MD := (yX11_isSet, cX11_isSet, 1, some .boolean, 0, 0, 0)
theorem mk_X11_isSet : MOK M_X11_isSet 1 := ⟨tb_4 41 rfl, in_X11, by decide +kernel, Or.inl rfl⟩
abbrev M_X11_isSetOrMade : MD := (yX11_isSetOrMade, cX11_isSetOrMade, 1, some .boolean, 1, 0, 0)
theorem mk_X11_isSetOrMade : MOK M_X11_isSetOrMade 1 := ⟨tb_4 38 rfl, in_X11, by decide +kernel, Or.inl rfl⟩
abbrev M_X11_madeOr : MD := (yX11_madeOr, cX11_madeOr, 2, some .int, 0, 0, 0)
theorem mk_X11_madeOr : MOK M_X11_madeOr 1 := ⟨tb_4 46 rfl, in_X11, by decide +kernel, Or.inl rfl⟩
abbrev M_X11_isType : MD := (yX11_isType, cX11_isType, 1, some .boolean, 0, 0, 0)
theorem mk_X11_isType : MOK M_X11_isType 1 := ⟨tb_3 83 rfl, in_X11, by decide +kernel, Or.inl rfl⟩
abbrev M_X11_isRow : MD := (yX11_isRow, cX11_isRow, 1, some .boolean, 0, 0, 0)
theorem mk_X11_isRow : MOK M_X11_isRow 1 := ⟨tb_5 37 rfl, in_X11, by decide +kernel, Or.inl rfl⟩
abbrev M_X11_isSort : MD := (yX11_isSort, cX11_isSort, 1, some .boolean, 0, 0, 0)
theorem mk_X11_isSort : MOK M_X11_isSort 1 := ⟨tb_5 40 rfl, in_X11, by decide +kernel, Or.inl rfl⟩
abbrev M_X11_areDice : MD := (yX11_areDice, cX11_areDice, 3, some .boolean, 0, 0, 0)
theorem mk_X11_areDice : MOK M_X11_areDice 1 := ⟨tb_2 46 rfl, in_X11, by decide +kernel, Or.inl rfl⟩
abbrev M_X11_isValue : MD := (yX11_isValue, cX11_isValue, 2, some .boolean, 0, 0, 0)
theorem mk_X11_isValue : MOK M_X11_isValue 1 := ⟨tb_2 98 rfl, in_X11, by decide +kernel, Or.inl rfl⟩
abbrev M_X11_isOfKind : MD := (yX11_isOfKind, cX11_isOfKind, 3, some .boolean, 1, 0, 0)
theorem mk_X11_isOfKind : MOK M_X11_isOfKind 2 := ⟨tb_3 138 rfl, in_X11, by decide +kernel, Or.inl rfl⟩
abbrev M_X11_ruleOrNull : MD := (yX11_ruleOrNull, cX11_ruleOrNull, 2, some (.object "HeroSheet$Rule"), 0, 0, 0)
theorem mk_X11_ruleOrNull : MOK M_X11_ruleOrNull 1 := ⟨tb_2 110 rfl, in_X11, by decide +kernel, Or.inl rfl⟩
abbrev M_X11_hasBit : MD := (yX11_hasBit, cX11_hasBit, 2, some .boolean, 0, 0, 0)
theorem mk_X11_hasBit : MOK M_X11_hasBit 2 := ⟨tb_3 62 rfl, in_X11, by decide +kernel, Or.inl rfl⟩
abbrev M_X11_withBit : MD := (yX11_withBit, cX11_withBit, 3, some .int, 0, 0, 0)
theorem mk_X11_withBit : MOK M_X11_withBit 3 := ⟨tb_2 86 rfl, in_X11, by decide +kernel, Or.inl rfl⟩
abbrev M_X11_bit : MD := (yX11_bit, cX11_bit, 1, some .int, 0, 0, 0)
theorem mk_X11_bit : MOK M_X11_bit 1 := ⟨tb_4 31 rfl, in_X11, by decide +kernel, Or.inl rfl⟩
abbrev M_X11_canBeRule : MD := (yX11_canBeRule, cX11_canBeRule, 6, some .boolean, 2, 0, 0)
theorem mk_X11_canBeRule : MOK M_X11_canBeRule 5 := ⟨tb_2 106 rfl, in_X11, by decide +kernel, Or.inl rfl⟩
abbrev M_X11_isFactorOfValue : MD := (yX11_isFactorOfValue, cX11_isFactorOfValue, 3, some .boolean, 1, 0, 0)
theorem mk_X11_isFactorOfValue : MOK M_X11_isFactorOfValue 1 := ⟨tb_2 118 rfl, in_X11, by decide +kernel, Or.inl rfl⟩
abbrev M_X11_ruleOf : MD := (yX11_ruleOf, cX11_ruleOf, 7, some (.object "HeroSheet$Rule"), 4, 1, 11)
theorem mk_X11_ruleOf : MOK M_X11_ruleOf 5 := ⟨tb_2 122 rfl, in_X11, by decide +kernel, Or.inl rfl⟩
abbrev M_X11_entered : MD := (yX11_entered, cX11_entered, 2, some .int, 4, 0, 0)
theorem mk_X11_entered : MOK M_X11_entered 1 := ⟨tb_3 36 rfl, in_X11, by decide +kernel, Or.inl rfl⟩
abbrev M_X11_closesRing : MD := (yX11_closesRing, cX11_closesRing, 6, some .boolean, 3, 0, 0)
theorem mk_X11_closesRing : MOK M_X11_closesRing 2 := ⟨tb_3 52 rfl, in_X11, by decide +kernel, Or.inl rfl⟩
abbrev M_X11_keepRing : MD := (yX11_keepRing, cX11_keepRing, 7, none, 2, 0, 0)
theorem mk_X11_keepRing : MOK M_X11_keepRing 3 := ⟨tb_3 56 rfl, in_X11, by decide +kernel, Or.inl rfl⟩
abbrev M_X11_leastOf : MD := (yX11_leastOf, cX11_leastOf, 2, some .int, 1, 0, 0)
theorem mk_X11_leastOf : MOK M_X11_leastOf 1 := ⟨tb_3 59 rfl, in_X11, by decide +kernel, Or.inl rfl⟩
abbrev M_X11_reckonedNow : MD := (yX11_reckonedNow, cX11_reckonedNow, 1, some (.object "HeroSheet$Reckoning"), 3, 0, 0)
theorem mk_X11_reckonedNow : MOK M_X11_reckonedNow 0 := ⟨tb_4 27 rfl, in_X11, by decide +kernel, Or.inl rfl⟩
abbrev M_X11_numberNow : MD := (yX11_numberNow, cX11_numberNow, 2, some .long, 5, 0, 0)
theorem mk_X11_numberNow : MOK M_X11_numberNow 1 := ⟨tb_3 142 rfl, in_X11, by decide +kernel, Or.inl rfl⟩
abbrev M_X11_countWays : MD := (yX11_countWays, cX11_countWays, 7, some .long, 1, 0, 0)
theorem mk_X11_countWays : MOK M_X11_countWays 2 := ⟨tb_4 149 rfl, in_X11, by decide +kernel, Or.inl rfl⟩
abbrev M_X11_waysOfOneMore : MD := (yX11_waysOfOneMore, cX11_waysOfOneMore, 6, some .long, 0, 0, 0)
theorem mk_X11_waysOfOneMore : MOK M_X11_waysOfOneMore 2 := ⟨tb_4 156 rfl, in_X11, by decide +kernel, Or.inl rfl⟩
abbrev M_X11_waysToReach : MD := (yX11_waysToReach, cX11_waysToReach, 7, some .long, 0, 0, 0)
theorem mk_X11_waysToReach : MOK M_X11_waysToReach 2 := ⟨tb_4 160 rfl, in_X11, by decide +kernel, Or.inl rfl⟩
abbrev M_X11_commonDivisor : MD := (yX11_commonDivisor, cX11_commonDivisor, 11, some .long, 0, 0, 0)
theorem mk_X11_commonDivisor : MOK M_X11_commonDivisor 2 := ⟨tb_4 163 rfl, in_X11, by decide +kernel, Or.inl rfl⟩
abbrev M_X11_takenForKind : MD := (yX11_takenForKind, cX11_takenForKind, 4, some .int, 1, 0, 0)
theorem mk_X11_takenForKind : MOK M_X11_takenForKind 2 := ⟨tb_5 60 rfl, in_X11, by decide +kernel, Or.inl rfl⟩
abbrev M_X11_readFromShorts : MD := (yX11_readFromShorts, cX11_readFromShorts, 3, some .int, 1, 0, 0)
theorem mk_X11_readFromShorts : MOK M_X11_readFromShorts 2 := ⟨tb_5 64 rfl, in_X11, by decide +kernel, Or.inl rfl⟩
abbrev M_X11_copiedFromBytes : MD := (yX11_copiedFromBytes, cX11_copiedFromBytes, 5, some .int, 1, 0, 0)
theorem mk_X11_copiedFromBytes : MOK M_X11_copiedFromBytes 2 := ⟨tb_5 68 rfl, in_X11, by decide +kernel, Or.inl rfl⟩
abbrev M_X11_putAmongOpens : MD := (yX11_putAmongOpens, cX11_putAmongOpens, 2, some .int, 1, 0, 0)
theorem mk_X11_putAmongOpens : MOK M_X11_putAmongOpens 1 := ⟨tb_5 72 rfl, in_X11, by decide +kernel, Or.inl rfl⟩
abbrev M_X12_init : MD := (yX12_init, cX12_init, 1, none, 1, 39, 4927)
theorem mk_X12_init : MOK M_X12_init 0 := ⟨tb_5 81 rfl, in_X12, by decide +kernel, Or.inl rfl⟩
abbrev M_X12_isIn : MD := (yX12_isIn, cX12_isIn, 6, some .boolean, 0, 0, 0)
theorem mk_X12_isIn : MOK M_X12_isIn 3 := ⟨tb_6 4 rfl, in_X12, by decide +kernel, Or.inl rfl⟩
abbrev M_X12_refused : MD := (yX12_refused, cX12_refused, 2, some .int, 0, 0, 0)
theorem mk_X12_refused : MOK M_X12_refused 1 := ⟨tb_6 13 rfl, in_X12, by decide +kernel, Or.inl rfl⟩
abbrev M_X12_done : MD := (yX12_done, cX12_done, 2, some .int, 0, 0, 0)
theorem mk_X12_done : MOK M_X12_done 1 := ⟨tb_6 17 rfl, in_X12, by decide +kernel, Or.inl rfl⟩
abbrev M_X12_isValue : MD := (yX12_isValue, cX12_isValue, 2, some .boolean, 0, 0, 0)
theorem mk_X12_isValue : MOK M_X12_isValue 1 := ⟨tb_6 36 rfl, in_X12, by decide +kernel, Or.inl rfl⟩
abbrev M_X12_isRule : MD := (yX12_isRule, cX12_isRule, 2, some .boolean, 0, 0, 0)
theorem mk_X12_isRule : MOK M_X12_isRule 1 := ⟨tb_6 53 rfl, in_X12, by decide +kernel, Or.inl rfl⟩
abbrev M_X12_isChoice : MD := (yX12_isChoice, cX12_isChoice, 1, some .boolean, 0, 0, 0)
theorem mk_X12_isChoice : MOK M_X12_isChoice 1 := ⟨tb_6 24 rfl, in_X12, by decide +kernel, Or.inl rfl⟩
abbrev M_X12_value : MD := (yX12_value, cX12_value, 6, some .int, 1, 0, 0)
theorem mk_X12_value : MOK M_X12_value 3 := ⟨tb_6 0 rfl, in_X12, by decide +kernel, Or.inl rfl⟩
abbrev M_X12_free : MD := (yX12_free, cX12_free, 4, some .int, 1, 0, 0)
theorem mk_X12_free : MOK M_X12_free 2 := ⟨tb_6 21 rfl, in_X12, by decide +kernel, Or.inl rfl⟩
abbrev M_X12_test : MD := (yX12_test, cX12_test, 3, some .int, 1, 0, 0)
theorem mk_X12_test : MOK M_X12_test 2 := ⟨tb_6 28 rfl, in_X12, by decide +kernel, Or.inl rfl⟩
abbrev M_X12_testValue : MD := (yX12_testValue, cX12_testValue, 4, some .int, 1, 0, 0)
theorem mk_X12_testValue : MOK M_X12_testValue 3 := ⟨tb_6 32 rfl, in_X12, by decide +kernel, Or.inl rfl⟩
abbrev M_X12_rule : MD := (yX12_rule, cX12_rule, 8, some .int, 3, 0, 0)
theorem mk_X12_rule : MOK M_X12_rule 5 := ⟨tb_6 42 rfl, in_X12, by decide +kernel, Or.inl rfl⟩
abbrev M_X12_typed : MD := (yX12_typed, cX12_typed, 6, some .int, 3, 0, 0)
theorem mk_X12_typed : MOK M_X12_typed 5 := ⟨tb_6 65 rfl, in_X12, by decide +kernel, Or.inl rfl⟩
abbrev M_X12_adds : MD := (yX12_adds, cX12_adds, 12, some .int, 2, 0, 0)
theorem mk_X12_adds : MOK M_X12_adds 7 := ⟨tb_6 47 rfl, in_X12, by decide +kernel, Or.inl rfl⟩
abbrev M_X12_findNeeds : MD := (yX12_findNeeds, cX12_findNeeds, 2, none, 0, 0, 0)
theorem mk_X12_findNeeds : MOK M_X12_findNeeds 0 := ⟨tb_6 61 rfl, in_X12, by decide +kernel, Or.inl rfl⟩
abbrev M_X12_isRing : MD := (yX12_isRing, cX12_isRing, 6, some .boolean, 1, 0, 0)
theorem mk_X12_isRing : MOK M_X12_isRing 2 := ⟨tb_6 57 rfl, in_X12, by decide +kernel, Or.inl rfl⟩
abbrev M_X12_ring : MD := (yX12_ring, cX12_ring, 2, some .int, 1, 0, 0)
theorem mk_X12_ring : MOK M_X12_ring 1 := ⟨tb_6 69 rfl, in_X12, by decide +kernel, Or.inl rfl⟩
abbrev M_X12_needs : MD := (yX12_needs, cX12_needs, 6, some .int, 1, 0, 0)
theorem mk_X12_needs : MOK M_X12_needs 2 := ⟨tb_6 73 rfl, in_X12, by decide +kernel, Or.inl rfl⟩
abbrev M_X12_stack : MD := (yX12_stack, cX12_stack, 4, some .int, 1, 0, 0)
theorem mk_X12_stack : MOK M_X12_stack 2 := ⟨tb_6 77 rfl, in_X12, by decide +kernel, Or.inl rfl⟩
abbrev M_X12_bits : MD := (yX12_bits, cX12_bits, 3, some .int, 0, 0, 0)
theorem mk_X12_bits : MOK M_X12_bits 1 := ⟨tb_6 84 rfl, in_X12, by decide +kernel, Or.inl rfl⟩
abbrev M_X12_make : MD := (yX12_make, cX12_make, 3, some .int, 1, 0, 0)
theorem mk_X12_make : MOK M_X12_make 2 := ⟨tb_6 81 rfl, in_X12, by decide +kernel, Or.inl rfl⟩
abbrev M_X12_spell : MD := (yX12_spell, cX12_spell, 4, some .int, 1, 0, 0)
theorem mk_X12_spell : MOK M_X12_spell 3 := ⟨tb_6 88 rfl, in_X12, by decide +kernel, Or.inl rfl⟩
abbrev M_X12_turn : MD := (yX12_turn, cX12_turn, 3, some .int, 1, 0, 0)
theorem mk_X12_turn : MOK M_X12_turn 0 := ⟨tb_6 93 rfl, in_X12, by decide +kernel, Or.inl rfl⟩
abbrev M_X12_spend : MD := (yX12_spend, cX12_spend, 5, some .int, 10, 0, 0)
theorem mk_X12_spend : MOK M_X12_spend 2 := ⟨tb_6 97 rfl, in_X12, by decide +kernel, Or.inl rfl⟩
abbrev M_X12_rest : MD := (yX12_rest, cX12_rest, 3, some .int, 1, 0, 0)
theorem mk_X12_rest : MOK M_X12_rest 0 := ⟨tb_6 165 rfl, in_X12, by decide +kernel, Or.inl rfl⟩
abbrev M_X12_moves : MD := (yX12_moves, cX12_moves, 5, none, 0, 0, 0)
theorem mk_X12_moves : MOK M_X12_moves 3 := ⟨tb_6 177 rfl, in_X12, by decide +kernel, Or.inl rfl⟩
abbrev M_X12_movesAll : MD := (yX12_movesAll, cX12_movesAll, 2, none, 1, 0, 0)
theorem mk_X12_movesAll : MOK M_X12_movesAll 1 := ⟨tb_6 173 rfl, in_X12, by decide +kernel, Or.inl rfl⟩
abbrev M_X12_image : MD := (yX12_image, cX12_image, 1, some .int, 2, 0, 0)
theorem mk_X12_image : MOK M_X12_image 0 := ⟨tb_6 169 rfl, in_X12, by decide +kernel, Or.inl rfl⟩
abbrev M_X12_back : MD := (yX12_back, cX12_back, 1, some .int, 2, 0, 0)
theorem mk_X12_back : MOK M_X12_back 0 := ⟨tb_6 181 rfl, in_X12, by decide +kernel, Or.inl rfl⟩
abbrev M_X12_holds : MD := (yX12_holds, cX12_holds, 2, some .boolean, 0, 0, 0)
theorem mk_X12_holds : MOK M_X12_holds 1 := ⟨tb_6 117 rfl, in_X12, by decide +kernel, Or.inl rfl⟩
abbrev M_X12_isThere : MD := (yX12_isThere, cX12_isThere, 2, some .boolean, 0, 0, 0)
theorem mk_X12_isThere : MOK M_X12_isThere 1 := ⟨tb_6 113 rfl, in_X12, by decide +kernel, Or.inl rfl⟩
abbrev M_X12_findThere : MD := (yX12_findThere, cX12_findThere, 2, none, 1, 0, 0)
theorem mk_X12_findThere : MOK M_X12_findThere 0 := ⟨tb_6 109 rfl, in_X12, by decide +kernel, Or.inl rfl⟩
abbrev M_X12_amountOf : MD := (yX12_amountOf, cX12_amountOf, 2, some .long, 0, 0, 0)
theorem mk_X12_amountOf : MOK M_X12_amountOf 1 := ⟨tb_6 133 rfl, in_X12, by decide +kernel, Or.inl rfl⟩
abbrev M_X12_works : MD := (yX12_works, cX12_works, 4, some .boolean, 1, 0, 0)
theorem mk_X12_works : MOK M_X12_works 3 := ⟨tb_6 129 rfl, in_X12, by decide +kernel, Or.inl rfl⟩
abbrev M_X12_based : MD := (yX12_based, cX12_based, 4, some .long, 2, 0, 0)
theorem mk_X12_based : MOK M_X12_based 1 := ⟨tb_6 125 rfl, in_X12, by decide +kernel, Or.inl rfl⟩
abbrev M_X12_adds_ : MD := (yX12_adds_, cX12_adds_, 3, some .boolean, 2, 0, 0)
theorem mk_X12_adds_ : MOK M_X12_adds_ 2 := ⟨tb_6 141 rfl, in_X12, by decide +kernel, Or.inl rfl⟩
abbrev M_X12_firstOf : MD := (yX12_firstOf, cX12_firstOf, 4, some .int, 3, 0, 0)
theorem mk_X12_firstOf : MOK M_X12_firstOf 2 := ⟨tb_6 145 rfl, in_X12, by decide +kernel, Or.inl rfl⟩
abbrev M_X12_counts : MD := (yX12_counts, cX12_counts, 3, some .boolean, 4, 0, 0)
theorem mk_X12_counts : MOK M_X12_counts 2 := ⟨tb_6 153 rfl, in_X12, by decide +kernel, Or.inl rfl⟩
abbrev M_X12_bestOf : MD := (yX12_bestOf, cX12_bestOf, 8, some .int, 5, 0, 0)
theorem mk_X12_bestOf : MOK M_X12_bestOf 3 := ⟨tb_6 149 rfl, in_X12, by decide +kernel, Or.inl rfl⟩
abbrev M_X12_added : MD := (yX12_added, cX12_added, 9, some .long, 6, 0, 0)
theorem mk_X12_added : MOK M_X12_added 1 := ⟨tb_6 137 rfl, in_X12, by decide +kernel, Or.inl rfl⟩
abbrev M_X12_capped : MD := (yX12_capped, cX12_capped, 11, some .long, 2, 0, 0)
theorem mk_X12_capped : MOK M_X12_capped 2 := ⟨tb_6 157 rfl, in_X12, by decide +kernel, Or.inl rfl⟩
abbrev M_X12_work : MD := (yX12_work, cX12_work, 4, none, 7, 0, 0)
theorem mk_X12_work : MOK M_X12_work 1 := ⟨tb_6 121 rfl, in_X12, by decide +kernel, Or.inl rfl⟩
abbrev M_X12_lays : MD := (yX12_lays, cX12_lays, 4, none, 8, 0, 0)
theorem mk_X12_lays : MOK M_X12_lays 1 := ⟨tb_6 105 rfl, in_X12, by decide +kernel, Or.inl rfl⟩
abbrev M_X12_opens : MD := (yX12_opens, cX12_opens, 5, some .boolean, 2, 0, 0)
theorem mk_X12_opens : MOK M_X12_opens 1 := ⟨tb_6 161 rfl, in_X12, by decide +kernel, Or.inl rfl⟩
abbrev M_X12_lay : MD := (yX12_lay, cX12_lay, 3, none, 9, 0, 0)
theorem mk_X12_lay : MOK M_X12_lay 0 := ⟨tb_6 101 rfl, in_X12, by decide +kernel, Or.inl rfl⟩
abbrev M_X12_layNow : MD := (yX12_layNow, cX12_layNow, 1, none, 10, 0, 0)
theorem mk_X12_layNow : MOK M_X12_layNow 0 := ⟨tb_6 189 rfl, in_X12, by decide +kernel, Or.inl rfl⟩
abbrev M_X12_valueTold : MD := (yX12_valueTold, cX12_valueTold, 3, some .int, 11, 0, 0)
theorem mk_X12_valueTold : MOK M_X12_valueTold 2 := ⟨tb_6 185 rfl, in_X12, by decide +kernel, Or.inl rfl⟩
abbrev M_X12_isSet : MD := (yX12_isSet, cX12_isSet, 2, some .boolean, 0, 0, 0)
theorem mk_X12_isSet : MOK M_X12_isSet 1 := ⟨tb_6 197 rfl, in_X12, by decide +kernel, Or.inl rfl⟩
abbrev M_X12_number : MD := (yX12_number, cX12_number, 3, some .long, 10, 0, 0)
theorem mk_X12_number : MOK M_X12_number 2 := ⟨tb_6 193 rfl, in_X12, by decide +kernel, Or.inl rfl⟩
abbrev M_X12_ruleTold : MD := (yX12_ruleTold, cX12_ruleTold, 4, some .int, 11, 0, 0)
theorem mk_X12_ruleTold : MOK M_X12_ruleTold 2 := ⟨tb_6 202 rfl, in_X12, by decide +kernel, Or.inl rfl⟩
abbrev M_X12_amount : MD := (yX12_amount, cX12_amount, 2, some .long, 11, 0, 0)
theorem mk_X12_amount : MOK M_X12_amount 1 := ⟨tb_6 207 rfl, in_X12, by decide +kernel, Or.inl rfl⟩
abbrev M_X12_choice : MD := (yX12_choice, cX12_choice, 3, some .int, 10, 0, 0)
theorem mk_X12_choice : MOK M_X12_choice 2 := ⟨tb_6 211 rfl, in_X12, by decide +kernel, Or.inl rfl⟩
abbrev M_X12_lawful : MD := (yX12_lawful, cX12_lawful, 2, some .int, 10, 0, 0)
theorem mk_X12_lawful : MOK M_X12_lawful 1 := ⟨tb_6 215 rfl, in_X12, by decide +kernel, Or.inl rfl⟩
abbrev M_X12_mend : MD := (yX12_mend, cX12_mend, 3, some .int, 10, 0, 0)
theorem mk_X12_mend : MOK M_X12_mend 0 := ⟨tb_6 219 rfl, in_X12, by decide +kernel, Or.inl rfl⟩
abbrev M_X12_best : MD := (yX12_best, cX12_best, 9, some .int, 10, 0, 0)
theorem mk_X12_best : MOK M_X12_best 4 := ⟨tb_6 227 rfl, in_X12, by decide +kernel, Or.inl rfl⟩
abbrev M_X12_most : MD := (yX12_most, cX12_most, 6, some .long, 11, 0, 0)
theorem mk_X12_most : MOK M_X12_most 4 := ⟨tb_6 223 rfl, in_X12, by decide +kernel, Or.inl rfl⟩
abbrev M_X12_seek : MD := (yX12_seek, cX12_seek, 5, some .int, 11, 0, 0)
theorem mk_X12_seek : MOK M_X12_seek 4 := ⟨tb_6 231 rfl, in_X12, by decide +kernel, Or.inl rfl⟩
abbrev M_X12_both : MD := (yX12_both, cX12_both, 13, some .int, 10, 0, 0)
theorem mk_X12_both : MOK M_X12_both 2 := ⟨tb_6 235 rfl, in_X12, by decide +kernel, Or.inl rfl⟩
abbrev M_X12_way : MD := (yX12_way, cX12_way, 7, some .int, 10, 0, 0)
theorem mk_X12_way : MOK M_X12_way 2 := ⟨tb_6 239 rfl, in_X12, by decide +kernel, Or.inl rfl⟩
abbrev M_X12_divisor : MD := (yX12_divisor, cX12_divisor, 10, some .long, 0, 0, 0)
theorem mk_X12_divisor : MOK M_X12_divisor 2 := ⟨tb_7 11 rfl, in_X12, by decide +kernel, Or.inl rfl⟩
abbrev M_X12_dice : MD := (yX12_dice, cX12_dice, 8, some .long, 10, 0, 0)
theorem mk_X12_dice : MOK M_X12_dice 2 := ⟨tb_7 3 rfl, in_X12, by decide +kernel, Or.inl rfl⟩
abbrev M_X12_chance : MD := (yX12_chance, cX12_chance, 17, some .long, 10, 0, 0)
theorem mk_X12_chance : MOK M_X12_chance 4 := ⟨tb_7 8 rfl, in_X12, by decide +kernel, Or.inl rfl⟩
abbrev M_X12_count : MD := (yX12_count, cX12_count, 4, some .int, 10, 0, 0)
theorem mk_X12_count : MOK M_X12_count 1 := ⟨tb_7 15 rfl, in_X12, by decide +kernel, Or.inl rfl⟩
abbrev M_X12_notes : MD := (yX12_notes, cX12_notes, 2, none, 0, 0, 0)
theorem mk_X12_notes : MOK M_X12_notes 1 := ⟨tb_7 27 rfl, in_X12, by decide +kernel, Or.inl rfl⟩
abbrev M_X12_plainGive : MD := (yX12_plainGive, cX12_plainGive, 3, some .int, 1, 0, 0)
theorem mk_X12_plainGive : MOK M_X12_plainGive 2 := ⟨tb_7 31 rfl, in_X12, by decide +kernel, Or.inl rfl⟩
abbrev M_X12_give : MD := (yX12_give, cX12_give, 3, some .int, 2, 0, 0)
theorem mk_X12_give : MOK M_X12_give 2 := ⟨tb_7 23 rfl, in_X12, by decide +kernel, Or.inl rfl⟩
abbrev M_X12_plainOpen : MD := (yX12_plainOpen, cX12_plainOpen, 3, some .int, 1, 0, 0)
theorem mk_X12_plainOpen : MOK M_X12_plainOpen 2 := ⟨tb_7 51 rfl, in_X12, by decide +kernel, Or.inl rfl⟩
abbrev M_X12_open : MD := (yX12_open, cX12_open, 3, some .int, 2, 0, 0)
theorem mk_X12_open : MOK M_X12_open 2 := ⟨tb_7 47 rfl, in_X12, by decide +kernel, Or.inl rfl⟩
abbrev M_X12_plainFit : MD := (yX12_plainFit, cX12_plainFit, 3, some .int, 3, 0, 0)
theorem mk_X12_plainFit : MOK M_X12_plainFit 2 := ⟨tb_7 39 rfl, in_X12, by decide +kernel, Or.inl rfl⟩
abbrev M_X12_openFit : MD := (yX12_openFit, cX12_openFit, 3, some .int, 4, 0, 0)
theorem mk_X12_openFit : MOK M_X12_openFit 2 := ⟨tb_7 43 rfl, in_X12, by decide +kernel, Or.inl rfl⟩
abbrev M_X12_fit : MD := (yX12_fit, cX12_fit, 4, some .int, 5, 0, 0)
theorem mk_X12_fit : MOK M_X12_fit 2 := ⟨tb_7 35 rfl, in_X12, by decide +kernel, Or.inl rfl⟩
abbrev M_X12_plainTell : MD := (yX12_plainTell, cX12_plainTell, 4, some .int, 6, 0, 0)
theorem mk_X12_plainTell : MOK M_X12_plainTell 2 := ⟨tb_7 59 rfl, in_X12, by decide +kernel, Or.inl rfl⟩
abbrev M_X12_tell : MD := (yX12_tell, cX12_tell, 4, some .int, 7, 0, 0)
theorem mk_X12_tell : MOK M_X12_tell 2 := ⟨tb_7 55 rfl, in_X12, by decide +kernel, Or.inl rfl⟩
abbrev M_X12_act : MD := (yX12_act, cX12_act, 4, some .int, 8, 0, 0)
theorem mk_X12_act : MOK M_X12_act 3 := ⟨tb_7 19 rfl, in_X12, by decide +kernel, Or.inl rfl⟩
abbrev M_X12_trace : MD := (yX12_trace, cX12_trace, 2, some .int, 1, 0, 0)
theorem mk_X12_trace : MOK M_X12_trace 1 := ⟨tb_7 63 rfl, in_X12, by decide +kernel, Or.inl rfl⟩
abbrev M_X12_sheet : MD := (yX12_sheet, cX12_sheet, 5, some .int, 1, 0, 0)
theorem mk_X12_sheet : MOK M_X12_sheet 3 := ⟨tb_7 67 rfl, in_X12, by decide +kernel, Or.inl rfl⟩
abbrev M_X12_byteOf : MD := (yX12_byteOf, cX12_byteOf, 2, some .int, 0, 0, 0)
theorem mk_X12_byteOf : MOK M_X12_byteOf 1 := ⟨tb_7 76 rfl, in_X12, by decide +kernel, Or.inl rfl⟩
abbrev M_X12_cell : MD := (yX12_cell, cX12_cell, 4, some .int, 1, 0, 0)
theorem mk_X12_cell : MOK M_X12_cell 3 := ⟨tb_7 73 rfl, in_X12, by decide +kernel, Or.inl rfl⟩
abbrev M_X12_row : MD := (yX12_row, cX12_row, 5, some .int, 3, 0, 0)
theorem mk_X12_row : MOK M_X12_row 3 := ⟨tb_7 80 rfl, in_X12, by decide +kernel, Or.inl rfl⟩
abbrev M_X12_modulo : MD := (yX12_modulo, cX12_modulo, 2, some .int, 0, 0, 0)
theorem mk_X12_modulo : MOK M_X12_modulo 2 := ⟨tb_7 90 rfl, in_X12, by decide +kernel, Or.inl rfl⟩
abbrev M_X12_forge : MD := (yX12_forge, cX12_forge, 8, some .int, 2, 0, 0)
theorem mk_X12_forge : MOK M_X12_forge 3 := ⟨tb_7 84 rfl, in_X12, by decide +kernel, Or.inl rfl⟩
abbrev M_X12_copied : MD := (yX12_copied, cX12_copied, 5, some .int, 1, 0, 0)
theorem mk_X12_copied : MOK M_X12_copied 2 := ⟨tb_7 94 rfl, in_X12, by decide +kernel, Or.inl rfl⟩
abbrev M_X12_status : MD := (yX12_status, cX12_status, 1, some .int, 0, 0, 0)
theorem mk_X12_status : MOK M_X12_status 0 := ⟨tb_7 98 rfl, in_X12, by decide +kernel, Or.inl rfl⟩
abbrev M_J6_bitCount_0f7a4 : MD := (yJ6_bitCount_0f7a4, cJ6_bitCount_0f7a4, 1, some .int, 0, 0, 0)
theorem mk_J6_bitCount_0f7a4 : MOK M_J6_bitCount_0f7a4 1 := ⟨tb_2 65 rfl, in_J6, by decide +kernel, Or.inl rfl⟩
abbrev M_J9_floorMod_7cf53 : MD := (yJ9_floorMod_7cf53, cJ9_floorMod_7cf53, 3, some .int, 0, 0, 0)
theorem mk_J9_floorMod_7cf53 : MOK M_J9_floorMod_7cf53 2 := ⟨tb_5 56 rfl, in_J9, by decide +kernel, Or.inr (by decide +kernel)⟩
abbrev M_J9_max_f86c9 : MD := (yJ9_max_f86c9, cJ9_max_f86c9, 4, some .long, 0, 0, 0)
abbrev M_J9_min_f86c9 : MD := (yJ9_min_f86c9, cJ9_min_f86c9, 4, some .long, 0, 0, 0)
abbrev M_J7_fill_d0a16 : MD := (yJ7_fill_d0a16, cJ7_fill_d0a16, 5, none, 0, 0, 0)
theorem mk_J7_fill_d0a16 : MOK M_J7_fill_d0a16 2 := ⟨tb_4 152 rfl, in_J7, by decide +kernel, Or.inl rfl⟩
abbrev M_J7_fill_53178 : MD := (yJ7_fill_53178, cJ7_fill_53178, 4, none, 0, 0, 0)
theorem mk_J7_fill_53178 : MOK M_J7_fill_53178 2 := ⟨tb_3 194 rfl, in_J7, by decide +kernel, Or.inl rfl⟩
end
section
abbrev HP : Type := Nat × (Nat → Nat × Nat) × (Nat → Nat → Int32) × (Nat → Nat → Int64) × (Nat → Nat → Option Nat)
abbrev EV : Type := Nat × (Nat → Nat × Nat) × (Nat → Nat → Option (Option Nat))
abbrev classes : List vw_C := [(RX0, TX0, 10), (RX1, TX1, 10), (RX2, TX2, 11), (RX3, TX3, 10), (RX4, TX4, 10), (RX5, TX5, 15), (RX6, TX6, 10), (RX7, TX7, 10), (RX8, TX8, 17), (RX9, TX9, 3), (RX10, TX10, 11), (RX11, TX11, 16), (RX12, TX12, 51)]
def nfl : List Nat := [10, 10, 11, 10, 10, 15, 10, 10, 17, 3, 11, 16, 51]
def ftl : List (List Nat) := [[0, 0, 2, 0, 0, 0, 0, 0, 0, 0], [2, 2, 0, 2, 2, 2, 2, 2, 0, 2], [0, 0, 2, 0, 0, 0, 0, 0, 0, 0, 1], [0, 0, 2, 0, 0, 0, 0, 0, 0, 0], [0, 0, 2, 0, 0, 0, 0, 0, 0, 0], [2, 2, 2, 2, 0, 0, 0, 2, 2, 2, 2, 0, 2, 2, 2], [0, 0, 2, 0, 0, 0, 0, 0, 0, 0], [0, 0, 2, 0, 0, 0, 0, 0, 0, 0], [0, 2, 2, 2, 2, 2, 2, 0, 2, 0, 2, 2, 2, 0, 0, 0, 0], [0, 0, 0], [0, 0, 2, 0, 0, 0, 0, 0, 0, 0, 0], [2, 2, 2, 1, 0, 0, 2, 2, 2, 2, 0, 2, 2, 2, 2, 2], [2, 2, 2, 2, 2, 2, 2, 2, 2, 2, 2, 2, 2, 2, 2, 2, 2, 2, 2, 2, 2, 2, 1, 0, 0, 0, 0, 0, 2, 2, 2, 0, 0, 2, 2, 2, 2, 1, 0, 0, 2, 2, 2, 2, 2, 2, 2, 0, 2, 2, 2]]
def nf (ci : Nat) : Nat := nfl.getD ci 0
def ft (ci j : Nat) : Nat := (ftl.getD ci []).getD j 0
def lw_g : List Cond := lw_u.filter goodWord
def lw_nest (w : Cond) : Bool := match w with
  | .methodLinkNest .. => true
  | _ => false
def lw_cast (w : Cond) : Bool := match w with
  | .castable .. => true
  | _ => false
def lw_decl (w : Cond) : Bool := match w with
  | .declares _ => true
  | _ => false
def lw_over (w : Cond) : Bool := match w with
  | .arrayOver (.object _) => true
  | .arrayOver (.array _) => true
  | _ => false
def lw_kd (w : Cond) : Bool := lw_pv w || goodWord w || lw_nest w || lw_cast w || lw_decl w || lw_over w
theorem lw_k1 : tables_1_1.all lw_kd = true := by decide +kernel
theorem lw_k2 : tables_1_2.all lw_kd = true := by decide +kernel
theorem lw_k3 : tables_1_3.all lw_kd = true := by decide +kernel
theorem lw_k4 : tables_1_4.all lw_kd = true := by decide +kernel
theorem lw_k5 : tables_1_5.all lw_kd = true := by decide +kernel
theorem lw_k6 : tables_1_6.all lw_kd = true := by decide +kernel
theorem lw_k7 : tables_1_7.all lw_kd = true := by decide +kernel
theorem lw_k0 : (k2_sels lw_privs).all lw_kd = true := by decide +kernel
theorem lw_kinds : ∀ w ∈ lw_u, (goodWord w || lw_nest w || lw_cast w || lw_decl w || lw_over w) = true := by
  have h : lw_tbl.all lw_kd = true := by
    unfold lw_tbl tables_1
    simp only [List.all_append, lw_k0, lw_k1, lw_k2, lw_k3, lw_k4, lw_k5, lw_k6, lw_k7, Bool.and_true]
  intro w hw
  have h1 := List.mem_filter.mp hw
  have h2 := List.all_eq_true.mp h w h1.1
  have h3 : lw_pv w = false := by simpa using h1.2
  unfold lw_kd at h2
  rw [h3, Bool.false_or] at h2
  exact h2
abbrev mWs (M : MD) : List Cond := Cond.code M.1 M.2.1 M.2.2.1 M.2.2.2.1 :: lw_g
abbrev mRm (M : MD) : Room := { frames := M.2.2.2.2.1, cells := M.2.2.2.2.2.1, slots := M.2.2.2.2.2.2, locals := 40 * M.2.2.2.2.1 }
def cv (lo : Nat) (v : Value) : Value := match v with
  | .ref a => .ref (lo + a)
  | v => v
def vr (r : Option Nat) : Value := match r with
  | none => .null
  | some a => .ref a
def fv (h : HP) (ci a j : Nat) : Value := if ft ci j = 2 then vr (h.2.2.2.2 a j) else .int (h.2.2.1 a j)
def ce (lo : Nat) (ca : Nat → ClassId) (h : HP) (a : Nat) : va_E :=
  if (h.2.1 a).1 < 13 then .inr ((h.2.1 a).1, (List.range (nf (h.2.1 a).1)).map (fun j => cv lo (fv h (h.2.1 a).1 a j)))
  else if (h.2.1 a).1 = 14 then .inl (ca 14, (h.2.1 a).2, .inr (.inl (h.2.2.2.1 a)))
  else if (h.2.1 a).1 < 16 then .inl (ca (h.2.1 a).1, (h.2.1 a).2, .inl (h.2.2.1 a))
  else .inl (ca (h.2.1 a).1, (h.2.1 a).2, .inr (.inr (.inr (.inr (fun i => (h.2.2.2.2 a i).map (fun b => lo + b))))))
def wsOf (lo : Nat) (ca : Nat → ClassId) (h : HP) : va_W := (List.range h.1).map (fun a => (lo + a, ce lo ca h a))
def tyl (ca : Nat → ClassId) : List (ClassId × FieldType) := [(ca 13, .int), (ca 14, .long), (ca 15, .boolean), (ca 16, .object RX6), (ca 17, .array .int)]
def ncl : List (String × String) := [(RX6, RX10), (RX7, RX10), (RX2, RX10), (RX3, RX10), (RX4, RX10), (RX0, RX10), (RX6, RX2), (RX7, RX2), (RX10, RX2), (RX3, RX2), (RX4, RX2), (RX0, RX2), (RX6, RX4), (RX7, RX4), (RX10, RX4), (RX2, RX4), (RX3, RX4)]
def CX (M : MD) (p : Program) (s : State) (m : MethodId) (args : Array Value) (meth : Method) (c : Code) : Prop :=
  p.tables.exec = Jvm.exec ∧ c.code = M.2.1 ∧ meth.sig.returnType = M.2.2.2.1 ∧ c.maxLocals = M.2.2.1 ∧ s.vm.findClass M.1.cls = some m.cls ∧ (∀ w ∈ lw_u, w.before args s = true) ∧ meth.locks = false ∧ meth.name = M.1.name
def KW (D : va_G) (ca : Nat → ClassId) (U : State) : Prop := va_K D classes (tyl ca) U ∧ (∀ q ∈ ncl, va_Nc q.1 q.2 U) ∧ ∀ w ∈ lw_u, goodWord w = false → w.before #[] U = true
def WF (E : EV) (h : HP) : Prop := E.1 ≤ h.1 ∧ (∀ a, a < E.1 → h.2.1 a = E.2.1 a) ∧ ∀ a, a < E.1 → ∀ j v, E.2.2 a j = some v → h.2.2.2.2 a j = v
def RH (lo : Nat) (D : va_G) (ca : Nat → ClassId) (h : HP) (H : Heap) : Prop := H.size = lo + h.1 ∧ va_P D classes (wsOf lo ca h) H
def lvl (lo : Nat) : Nat → List Value → List (Nat × Value)
  | _, [] => []
  | i, .retAddr _ :: L => lvl lo (i + 1) L
  | i, v :: L => (i, cv lo v) :: lvl lo (i + 1) L
def LR (lo : Nat) (ls : Array Slot) (nL : Nat) (L : List Value) : Prop := L.length = nL ∧ lv_has ls nL (lvl lo 0 L)
def QK (E : EV) (κ : Option Value → HP → Prop) (lo : Nat) (D : va_G) (ca : Nat → ClassId) : Array Value → State → Outcome → State → Prop := fun _ st oc t =>
  ∃ (r : Option Value) (h' : HP), oc = .returned (r.map (cv lo)) ∧ κ r h' ∧ RH lo D ca h' t.heap ∧ WF E h' ∧ va_F (fun q => lo ≤ q) st t
def PK (E : EV) (av : List Value) (h : HP) (lo : Nat) (D : va_G) (ca : Nat → ClassId) : Array Value → State → Prop := fun v U =>
  v = (av.map (cv lo)).toArray ∧ lo ≤ U.heap.size ∧ RH lo D ca h U.heap ∧ WF E h ∧ KW D ca U
/-- the contract of a method: at the picture h, with these arguments, it returns, and κ holds of its answer and the new picture -/
def CT (E : EV) (M : MD) (av : List Value) (h : HP) (κ : Option Value → HP → Prop) : Prop := ∀ (l : Launch) (lo : Nat) (D : va_G) (ca : Nat → ClassId),
  Met l M.1 (mWs M) (mRm M) (PK E av h lo D ca) (QK E κ lo D ca) M.2.2.2.2.2.1 M.2.2.2.2.2.2 (fun q => lo ≤ q)
/-- the machine in method M at pc, with locals L, stack st, picture h: it returns, and κ holds of its answer and the new picture -/
def SP (E : EV) (M : MD) (κ : Option Value → HP → Prop) (pc : Nat) (L st : List Value) (h : HP) (cs ss : Nat) : Prop :=
  ∀ (p : Program) (l : Launch) (e : Env) (s : State) (m : MethodId) (args : Array Value) (below : List Frame) (meth : Method) (c : Code) (lo : Nat) (D : va_G) (ca : Nat → ClassId) (H : Heap) (locs : List Loc) (ls : Array Slot),
    CX M p s m args meth c → lo ≤ s.heap.size → KW D ca s → RH lo D ca h H → WF E h → va_S (fun q => lo ≤ q) s.heap H locs → LR lo ls M.2.2.1 L →
    W p l e (mRm M) s m args below meth c H locs cs ss (MQ below (QK E κ lo D ca) args s M.2.2.2.2.2.1 M.2.2.2.2.2.2 (fun q => lo ≤ q)) (F0 m pc ls (st.map (cv lo)))
theorem lw_overM {u U : State} (hvm : u.vm.Alike U.vm) {ty : FieldType} (ht : lw_over (.arrayOver ty) = true) (h : (Cond.arrayOver ty).before #[] u = true) : (Cond.arrayOver ty).before #[] U = true := by
  cases ty with
  | object n => exact va_AO.moved hvm h
  | array t => exact over_moved hvm h
  | _ => simp [lw_over] at ht
theorem KW.warm {D : va_G} {ca : Nat → ClassId} {u U : State} (hW : u.WarmedH U.vm) (h : KW D ca u) : KW D ca U := by
  refine ⟨va_K.moved hW.alike h.1, fun q hq => va_Nc.moved hW.alike (h.2.1 q hq), fun w hw hg => ?_⟩
  have h1 := h.2.2 w hw hg
  have h2 := lw_kinds w hw
  rw [hg] at h2
  cases w with
  | methodLinkNest a i x y => exact va_Nw.warmM hW h1
  | castable a b => exact va_Nw.warmC hW h1
  | declares a => exact va_Nw.warmD hW h1
  | arrayOver ty => exact lw_overM hW.alike (by simpa [lw_nest, lw_cast, lw_decl] using h2) h1
  | _ => simp [lw_nest, lw_cast, lw_decl, lw_over] at h2
theorem KW.same {D : va_G} {ca : Nat → ClassId} {u U : State} (hv : u.vm = U.vm) (h : KW D ca u) : KW D ca U := by
  have ha : u.vm.Alike U.vm := by rw [hv]; exact Vm.Alike.refl U.vm
  refine ⟨va_K.moved ha h.1, fun q hq => va_Nc.moved ha (h.2.1 q hq), fun w hw hg => ?_⟩
  have h1 := h.2.2 w hw hg
  have h2 := lw_kinds w hw
  rw [hg] at h2
  cases w with
  | methodLinkNest a i x y => exact va_Nw.same rfl hv h1
  | castable a b => exact va_Nw.same rfl hv h1
  | declares a => exact va_Nw.same rfl hv h1
  | arrayOver ty => exact lw_overM ha (by simpa [lw_nest, lw_cast, lw_decl] using h2) h1
  | _ => simp [lw_nest, lw_cast, lw_decl, lw_over] at h2
/-- all words of the tables, from the good ones and the world's -/
theorem KW.all {D : va_G} {ca : Nat → ClassId} {u : State} {args : Array Value} (h : KW D ca u) (hg : ∀ w ∈ lw_g, w.before args u = true) : ∀ w ∈ lw_u, w.before args u = true := by
  intro w hw
  cases hb : goodWord w with
  | true => exact hg w (List.mem_filter.mpr ⟨hw, hb⟩)
  | false =>
    have h1 := h.2.2 w hw hb
    have h2 := lw_kinds w hw
    rw [hb] at h2
    cases w with
    | methodLinkNest a i x y => exact va_Nw.use rfl h1
    | castable a b => exact va_Nw.use rfl h1
    | declares a => exact va_Nw.use rfl h1
    | arrayOver ty => exact h1
    | _ => simp [lw_nest, lw_cast, lw_decl, lw_over] at h2
theorem ws_at {lo : Nat} {ca : Nat → ClassId} {h : HP} {a : Nat} (ha : a < h.1) : (wsOf lo ca h)[a]? = some (lo + a, ce lo ca h a) := by
  simp [wsOf, List.getElem?_map, List.getElem?_range, ha]
theorem ws_of {lo : Nat} {ca : Nat → ClassId} {h : HP} {k : Nat} {q : Nat × va_E} (hq : (wsOf lo ca h)[k]? = some q) : k < h.1 ∧ q = (lo + k, ce lo ca h k) := by
  have hl : k < (wsOf lo ca h).length := (List.getElem?_eq_some_iff.mp hq).1
  have hk : k < h.1 := by simpa [wsOf] using hl
  rw [ws_at hk] at hq
  exact ⟨hk, (Option.some.inj hq).symm⟩
theorem ws_D {lo : Nat} {ca : Nat → ClassId} {h : HP} : va_D (fun q => lo ≤ q) (wsOf lo ca h) := by
  refine ⟨fun i j x y hi hj hxy => ?_, fun k q hk => ?_⟩
  · rw [(ws_of hi).2, (ws_of hj).2] at hxy
    simpa using hxy
  · rw [(ws_of hk).2]
    exact Nat.le_add_right _ _
/-- locals -/
theorem lvl_mem {lo : Nat} {v : Value} (hr : ∀ q, v ≠ .retAddr q) : ∀ (L : List Value) (i0 i : Nat), L[i]? = some v → (i0 + i, cv lo v) ∈ lvl lo i0 L
  | [], _, _, h => by simp at h
  | w :: L, i0, i, h => by
    cases i with
    | zero =>
      rw [List.getElem?_cons_zero] at h
      cases h
      cases v with
      | retAddr q => exact absurd rfl (hr q)
      | _ => exact List.mem_cons_self
    | succ i =>
      rw [List.getElem?_cons_succ] at h
      have h1 := lvl_mem (lo := lo) hr L (i0 + 1) i h
      rw [show i0 + (i + 1) = i0 + 1 + i by omega]
      cases w with
      | retAddr q => exact h1
      | _ => exact List.mem_cons_of_mem _ h1
theorem lvl_of {lo : Nat} : ∀ (L : List Value) (i0 : Nat) (q : Nat × Value), q ∈ lvl lo i0 L → ∃ (i : Nat) (v : Value), q = (i0 + i, cv lo v) ∧ L[i]? = some v ∧ ∀ z, v ≠ .retAddr z
  | [], _, _, h => by simp [lvl] at h
  | w :: L, i0, q, h => by
    have key : q ∈ lvl lo (i0 + 1) L → ∃ (i : Nat) (v : Value), q = (i0 + i, cv lo v) ∧ (w :: L)[i]? = some v ∧ ∀ z, v ≠ .retAddr z := by
      intro h
      obtain ⟨i, v, h1, h2, h3⟩ := lvl_of L (i0 + 1) q h
      exact ⟨i + 1, v, by rw [h1]; congr 1; omega, by rw [List.getElem?_cons_succ]; exact h2, h3⟩
    have head : ∀ v : Value, w = v → (∀ z, v ≠ .retAddr z) → q ∈ (i0, cv lo v) :: lvl lo (i0 + 1) L → ∃ (i : Nat) (v : Value), q = (i0 + i, cv lo v) ∧ (w :: L)[i]? = some v ∧ ∀ z, v ≠ .retAddr z := by
      intro v hw hv h
      rcases List.mem_cons.mp h with h | h
      · exact ⟨0, v, h, by rw [hw]; rfl, hv⟩
      · exact key h
    cases w with
    | retAddr z => exact key h
    | int x => exact head _ rfl (fun z hz => by cases hz) h
    | long x => exact head _ rfl (fun z hz => by cases hz) h
    | float x => exact head _ rfl (fun z hz => by cases hz) h
    | double x => exact head _ rfl (fun z hz => by cases hz) h
    | null => exact head _ rfl (fun z hz => by cases hz) h
    | ref x => exact head _ rfl (fun z hz => by cases hz) h
theorem LR.get {lo : Nat} {ls : Array Slot} {nL : Nat} {L : List Value} (h : LR lo ls nL L) {i : Nat} {v : Value} (hi : L[i]? = some v) (hr : ∀ q, v ≠ .retAddr q) : ls[i]? = some (.val (cv lo v)) := by
  have h1 := h.2.2.2 _ (lvl_mem (lo := lo) hr L 0 i hi)
  simpa using h1
theorem lv_has.mono {ls : Array Slot} {nL : Nat} {l l' : List (Nat × Value)} (h : lv_has ls nL l) (hs : ∀ q ∈ l', q ∈ l) : lv_has ls nL l' := ⟨h.1, h.2.1, fun q hq => h.2.2 q (hs q hq)⟩
/-- a store: what stood there, a long that reached there, and (for a long) the next place go -/
def cl1 (L : List Value) (i : Nat) : List Value := match i with
  | 0 => L
  | j + 1 => match L[j]? with
    | some (.long _) => L.set j (.retAddr 0)
    | some (.double _) => L.set j (.retAddr 0)
    | _ => L
def st1 (L : List Value) (i : Nat) (v : Value) : List Value := (cl1 L i).set i v
def st2 (L : List Value) (i : Nat) (v : Value) : List Value := ((cl1 L i).set i v).set (i + 1) (.retAddr 0)
theorem cl1_len (L : List Value) (i : Nat) : (cl1 L i).length = L.length := by
  unfold cl1
  split
  · rfl
  · split <;> simp
theorem cl1_get {L : List Value} {i k : Nat} {v : Value} (h : (cl1 L i)[k]? = some v) (hv : ∀ z, v ≠ .retAddr z) : L[k]? = some v ∧ ¬ (k + 1 = i ∧ v.category = 2) := by
  unfold cl1 at h
  split at h
  · exact ⟨h, fun q => by omega⟩
  · rename_i j
    have cut : ∀ w : Value, L[j]? = some w → (L.set j (.retAddr 0))[k]? = some v → L[k]? = some v ∧ ¬ (k + 1 = j + 1 ∧ v.category = 2) := by
      intro w hw h
      by_cases hk : j = k
      · subst hk
        rw [List.getElem?_set_self (List.getElem?_eq_some_iff.mp hw).1] at h
        cases h
        exact absurd rfl (hv 0)
      · rw [List.getElem?_set_ne hk] at h
        exact ⟨h, fun q => hk (by omega)⟩
    split at h
    · rename_i x hx
      exact cut _ hx h
    · rename_i x hx
      exact cut _ hx h
    · rename_i h1 h2
      refine ⟨h, fun q => ?_⟩
      have : k = j := by omega
      subst this
      cases v with
      | long x => exact h1 x h
      | double x => exact h2 x h
      | _ => cases q.2
theorem cv_cat (lo : Nat) (v : Value) : (cv lo v).category = v.category := by cases v <;> rfl
theorem st1_sub {lo : Nat} {L : List Value} {i : Nat} {v : Value} (hi : i < L.length) : ∀ q ∈ lvl lo 0 (st1 L i v), q ∈ (i, cv lo v) :: (lvl lo 0 L).filter (fun q => !(q.1 == i) && !(q.1 + 1 == i && q.2.category == 2)) := by
  intro q hq
  obtain ⟨k, w, e1, e2, e3⟩ := lvl_of _ 0 q hq
  rw [Nat.zero_add] at e1
  subst e1
  unfold st1 at e2
  by_cases hk : i = k
  · subst hk
    rw [List.getElem?_set_self (by rw [cl1_len]; exact hi)] at e2
    cases e2
    exact List.mem_cons_self
  · rw [List.getElem?_set_ne hk] at e2
    obtain ⟨g1, g2⟩ := cl1_get e2 e3
    refine List.mem_cons_of_mem _ (List.mem_filter.mpr ⟨by simpa using lvl_mem (lo := lo) e3 L 0 k g1, ?_⟩)
    have hk2 : ¬ k = i := fun q => hk q.symm
    rw [cv_cat]
    by_cases a : k + 1 = i
    · have : ¬ w.category = 2 := fun q => g2 ⟨a, q⟩
      simp [hk2, this]
    · simp [hk2, a]
theorem st2_sub {lo : Nat} {L : List Value} {i : Nat} {v : Value} (hi : i + 1 < L.length) : ∀ q ∈ lvl lo 0 (st2 L i v), q ∈ (i, cv lo v) :: (lvl lo 0 L).filter (fun q => !(q.1 == i) && (!(q.1 == i + 1) && !(q.1 + 1 == i && q.2.category == 2))) := by
  intro q hq
  obtain ⟨k, w, e1, e2, e3⟩ := lvl_of _ 0 q hq
  rw [Nat.zero_add] at e1
  subst e1
  unfold st2 at e2
  by_cases h1 : i + 1 = k
  · subst h1
    rw [List.getElem?_set_self (by rw [List.length_set, cl1_len]; exact hi)] at e2
    cases e2
    exact absurd rfl (e3 0)
  rw [List.getElem?_set_ne h1] at e2
  by_cases hk : i = k
  · subst hk
    rw [List.getElem?_set_self (by rw [cl1_len]; omega)] at e2
    cases e2
    exact List.mem_cons_self
  · rw [List.getElem?_set_ne hk] at e2
    obtain ⟨g1, g2⟩ := cl1_get e2 e3
    refine List.mem_cons_of_mem _ (List.mem_filter.mpr ⟨by simpa using lvl_mem (lo := lo) e3 L 0 k g1, ?_⟩)
    have hk2 : ¬ k = i := fun q => hk q.symm
    have h12 : ¬ k = i + 1 := fun q => h1 q.symm
    rw [cv_cat]
    by_cases a : k + 1 = i
    · have : ¬ w.category = 2 := fun q => g2 ⟨a, q⟩
      simp [hk2, h12, this]
    · simp [hk2, h12, a]
theorem st1_len (L : List Value) (i : Nat) (v : Value) : (st1 L i v).length = L.length := by unfold st1; rw [List.length_set, cl1_len]
theorem st2_len (L : List Value) (i : Nat) (v : Value) : (st2 L i v).length = L.length := by unfold st2; rw [List.length_set, List.length_set, cl1_len]
/-- the locals at the entry -/
def enl : List Value → List Value
  | [] => []
  | .long x :: vs => .long x :: .retAddr 0 :: enl vs
  | .double x :: vs => .double x :: .retAddr 0 :: enl vs
  | v :: vs => v :: enl vs
theorem enl_sub {lo : Nat} (n : Nat) : ∀ (vs : List Value) (i0 : Nat) (q : Nat × Value), q ∈ lvl lo i0 (enl vs ++ List.replicate n (.retAddr 0)) → q ∈ lv_args i0 (vs.map (cv lo))
  | [], i0, q, h => by
    exfalso
    have : ∀ (k i0 : Nat) , q ∉ lvl lo i0 (List.replicate k (.retAddr 0)) := by
      intro k
      induction k with
      | zero => intro i0 h; simp [lvl] at h
      | succ k ih => intro i0 h; rw [List.replicate_succ] at h; exact ih (i0 + 1) h
    exact this n i0 h
  | v :: vs, i0, q, h => by
    have one : ∀ w : Value, cv lo w = cv lo v → ¬ (cv lo v).category = 2 → q ∈ (i0, cv lo w) :: lvl lo (i0 + 1) (enl vs ++ List.replicate n (.retAddr 0)) → q ∈ lv_args i0 ((v :: vs).map (cv lo)) := by
      intro w hw hc h
      show q ∈ (i0, cv lo v) :: lv_args (if (cv lo v).category = 2 then i0 + 2 else i0 + 1) (vs.map (cv lo))
      rw [if_neg hc]
      rcases List.mem_cons.mp h with h | h
      · rw [h, hw]; exact List.mem_cons_self
      · exact List.mem_cons_of_mem _ (enl_sub n vs _ q h)
    cases v with
    | long x =>
      show q ∈ (i0, Value.long x) :: lv_args (i0 + 2) (vs.map (cv lo))
      rcases List.mem_cons.mp (show q ∈ (i0, Value.long x) :: lvl lo (i0 + 1 + 1) (enl vs ++ List.replicate n (.retAddr 0)) from h) with h | h
      · rw [h]; exact List.mem_cons_self
      · exact List.mem_cons_of_mem _ (enl_sub n vs _ q h)
    | double x =>
      show q ∈ (i0, Value.double x) :: lv_args (i0 + 2) (vs.map (cv lo))
      rcases List.mem_cons.mp (show q ∈ (i0, Value.double x) :: lvl lo (i0 + 1 + 1) (enl vs ++ List.replicate n (.retAddr 0)) from h) with h | h
      · rw [h]; exact List.mem_cons_self
      · exact List.mem_cons_of_mem _ (enl_sub n vs _ q h)
    | int x => exact one (.int x) rfl (by simp [cv, Value.category]) h
    | float x => exact one (.float x) rfl (by simp [cv, Value.category]) h
    | null => exact one .null rfl (by simp [cv, Value.category]) h
    | ref x => exact one (.ref x) rfl (by simp [cv, Value.category]) h
    | retAddr x =>
      show q ∈ (i0, Value.retAddr x) :: lv_args (i0 + 1) (vs.map (cv lo))
      exact List.mem_cons_of_mem _ (enl_sub n vs _ q h)
theorem enl_len (lo : Nat) : ∀ vs : List Value, (lg_sl (vs.map (cv lo))).length = (enl vs).length
  | [] => rfl
  | v :: vs => by
    have ih := enl_len lo vs
    have e : lg_sl (cv lo v :: vs.map (cv lo)) = (if (cv lo v).category = 2 then [.val (cv lo v), .second] else [.val (cv lo v)]) ++ lg_sl (vs.map (cv lo)) := by simp [lg_sl]
    rw [List.map_cons, e, List.length_append, ih]
    cases v <;> simp [cv, Value.category, enl] <;> omega
end
section
section RW
variable {E : EV} {M : MD} {κ : Option Value → HP → Prop} {pc pc' : Nat} {L st : List Value} {h : HP} {cs ss : Nat}
theorem ofSP {np : Nat} {av : List Value} (hM : MOK M np) (hl : (enl av).length ≤ M.2.2.1) (hL : enl av ++ List.replicate (M.2.2.1 - (enl av).length) (.retAddr 0) = L) (H0 : SP E M κ 0 L [] h 0 0) : CT E M av h κ := by
  subst hL
  intro l lo D ca
  refine (hM.2.2.2.elim (fun hy => Met.ofW (cc := M.2.1) (maxL := M.2.2.1) (ret := M.2.2.2.1) hy rfl) (fun hy => va_MetF (cc := M.2.1) (maxL := M.2.2.1) (ret := M.2.2.2.1) hy rfl)) ?_
  intro p e s m args below meth c s₁ B hml hv
  obtain ⟨rfl, hlo, hR, hW, hK⟩ := hv
  have hts := hK.all (fun w hw => atoms_spec (ws := mWs M) B.pre w (List.mem_cons_of_mem _ hw))
  have hown : s.vm.findClass M.1.cls = some m.cls := findClass_of_methodNamed B.named
  have hin : meth.name = M.1.name := (name_of_methodNamed B.named B.method).1
  have hl' := lv_entry (av.map (cv lo)) (n := M.2.2.1) (by rw [enl_len]; exact hl)
  rw [lg_entry_eq]
  exact H0 p l e s m _ below meth c lo D ca s.heap [] _ ⟨B.exec, B.bytes, B.returns, hml, hown, hts, B.notSynchronized, hin⟩ hlo hK hR hW va_S.rf ⟨by simp; omega, hl'.mono (fun q hq => enl_sub _ av 0 q hq)⟩
/-- the same heap picture in other words -/
theorem s_eq {h' : HP} {L' st' : List Value} (hL : L = L') (hs : st = st') (hh : h = h') (k : SP E M κ pc L' st' h' cs ss) : SP E M κ pc L st h cs ss := by
  subst hL; subst hs; subst hh; exact k
theorem s_wid {c2 s2 : Nat} (h1 : cs ≤ c2) (h2 : ss ≤ s2) (k : SP E M κ pc L st h c2 s2) : SP E M κ pc L st h cs ss := by
  intro p l e s m args below meth c lo D ca H locs ls C g1 g2 g3 g4 g5 g6
  exact W.widen h1 h2 (k p l e s m args below meth c lo D ca H locs ls C g1 g2 g3 g4 g5 g6)
theorem s_iconst {n : Int} {v : Int32} (hd : decode M.2.1 pc = .ok (.iconst n, 1)) (hp : pc + 1 = pc') (hv : Int32.ofInt n = v) (k : SP E M κ pc' L (.int v :: st) h cs ss) : SP E M κ pc L (st) h cs ss := by
  subst hp
  intro p l e s m args below meth c lo D ca H locs ls C g1 g2 g3 g4 g5 g6
  exact lv_iconst C.1 C.2.1 hd hv (k p l e s m args below meth c lo D ca H locs ls C g1 g2 g3 g4 g5 g6)
theorem s_bipush {n : Int} {v : Int32} (hd : decode M.2.1 pc = .ok (.bipush n, 2)) (hp : pc + 2 = pc') (hv : (Int8.ofInt n).toInt32 = v) (k : SP E M κ pc' L (.int v :: st) h cs ss) : SP E M κ pc L (st) h cs ss := by
  subst hp
  intro p l e s m args below meth c lo D ca H locs ls C g1 g2 g3 g4 g5 g6
  exact lv_bipush C.1 C.2.1 hd hv (k p l e s m args below meth c lo D ca H locs ls C g1 g2 g3 g4 g5 g6)
theorem s_sipush {n : Int} {v : Int32} (hd : decode M.2.1 pc = .ok (.sipush n, 3)) (hp : pc + 3 = pc') (hv : (Int16.ofInt n).toInt32 = v) (k : SP E M κ pc' L (.int v :: st) h cs ss) : SP E M κ pc L (st) h cs ss := by
  subst hp
  intro p l e s m args below meth c lo D ca H locs ls C g1 g2 g3 g4 g5 g6
  exact lv_sipush C.1 C.2.1 hd hv (k p l e s m args below meth c lo D ca H locs ls C g1 g2 g3 g4 g5 g6)
theorem s_lconst {n : Fin 2} {v : Int64} (hd : decode M.2.1 pc = .ok (.lconst n, 1)) (hp : pc + 1 = pc') (hv : Int64.ofNat (n : Nat) = v) (k : SP E M κ pc' L (.long v :: st) h cs ss) : SP E M κ pc L (st) h cs ss := by
  subst hp
  intro p l e s m args below meth c lo D ca H locs ls C g1 g2 g3 g4 g5 g6
  exact lv_lconst C.1 C.2.1 hd hv (k p l e s m args below meth c lo D ca H locs ls C g1 g2 g3 g4 g5 g6)
theorem s_null  (hd : decode M.2.1 pc = .ok (.aconst_null, 1)) (hp : pc + 1 = pc') (k : SP E M κ pc' L (.null :: st) h cs ss) : SP E M κ pc L (st) h cs ss := by
  subst hp
  intro p l e s m args below meth c lo D ca H locs ls C g1 g2 g3 g4 g5 g6
  exact lv_null C.1 C.2.1 hd (k p l e s m args below meth c lo D ca H locs ls C g1 g2 g3 g4 g5 g6)
theorem s_ldc2 {i : Nat} {v : Int64} (hd : decode M.2.1 pc = .ok (.ldc2_w i, 3)) (hp : pc + 3 = pc') (hm : Cond.constantLong M.1.cls i v ∈ lw_u) (k : SP E M κ pc' L (.long v :: st) h cs ss) : SP E M κ pc L (st) h cs ss := by
  subst hp
  intro p l e s m args below meth c lo D ca H locs ls C g1 g2 g3 g4 g5 g6
  exact lv_ldc2 C.1 C.2.1 C.2.2.2.2.1 (C.2.2.2.2.2.1 _ hm) hd (k p l e s m args below meth c lo D ca H locs ls C g1 g2 g3 g4 g5 g6)
theorem s_ldcw {i : Nat} {v : Int32} (hd : decode M.2.1 pc = .ok (.ldc_w i, 3)) (hp : pc + 3 = pc') (hm : Cond.constant M.1.cls i v ∈ lw_u) (k : SP E M κ pc' L (.int v :: st) h cs ss) : SP E M κ pc L (st) h cs ss := by
  subst hp
  intro p l e s m args below meth c lo D ca H locs ls C g1 g2 g3 g4 g5 g6
  exact lv_ldcw C.1 C.2.1 C.2.2.2.2.1 (C.2.2.2.2.2.1 _ hm) hd (k p l e s m args below meth c lo D ca H locs ls C g1 g2 g3 g4 g5 g6)
theorem s_iload_n {q : Fin 4} {x : Int32} (hd : decode M.2.1 pc = .ok (.iload_n q, 1)) (hp : pc + 1 = pc') (hl : L[(q : Nat)]? = some (.int x)) (k : SP E M κ pc' L (.int x :: st) h cs ss) : SP E M κ pc L (st) h cs ss := by
  subst hp
  intro p l e s m args below meth c lo D ca H locs ls C g1 g2 g3 g4 g5 g6
  exact lv_iload_n C.1 C.2.1 hd rfl (g6.get hl (fun _ z => by cases z)) (k p l e s m args below meth c lo D ca H locs ls C g1 g2 g3 g4 g5 g6)
theorem s_iload {q : Nat} {x : Int32} (hd : decode M.2.1 pc = .ok (.iload q, 2)) (hp : pc + 2 = pc') (hl : L[q]? = some (.int x)) (k : SP E M κ pc' L (.int x :: st) h cs ss) : SP E M κ pc L (st) h cs ss := by
  subst hp
  intro p l e s m args below meth c lo D ca H locs ls C g1 g2 g3 g4 g5 g6
  exact lv_iload C.1 C.2.1 hd (g6.get hl (fun _ z => by cases z)) (k p l e s m args below meth c lo D ca H locs ls C g1 g2 g3 g4 g5 g6)
theorem s_lload_n {q : Fin 4} {x : Int64} (hd : decode M.2.1 pc = .ok (.lload_n q, 1)) (hp : pc + 1 = pc') (hl : L[(q : Nat)]? = some (.long x)) (k : SP E M κ pc' L (.long x :: st) h cs ss) : SP E M κ pc L (st) h cs ss := by
  subst hp
  intro p l e s m args below meth c lo D ca H locs ls C g1 g2 g3 g4 g5 g6
  exact lv_lload_n C.1 C.2.1 hd rfl (g6.get hl (fun _ z => by cases z)) (k p l e s m args below meth c lo D ca H locs ls C g1 g2 g3 g4 g5 g6)
theorem s_lload {q : Nat} {x : Int64} (hd : decode M.2.1 pc = .ok (.lload q, 2)) (hp : pc + 2 = pc') (hl : L[q]? = some (.long x)) (k : SP E M κ pc' L (.long x :: st) h cs ss) : SP E M κ pc L (st) h cs ss := by
  subst hp
  intro p l e s m args below meth c lo D ca H locs ls C g1 g2 g3 g4 g5 g6
  exact lv_lload C.1 C.2.1 hd (g6.get hl (fun _ z => by cases z)) (k p l e s m args below meth c lo D ca H locs ls C g1 g2 g3 g4 g5 g6)
theorem s_aload_n {q : Fin 4} {x : Nat} (hd : decode M.2.1 pc = .ok (.aload_n q, 1)) (hp : pc + 1 = pc') (hl : L[(q : Nat)]? = some (.ref x)) (k : SP E M κ pc' L (.ref x :: st) h cs ss) : SP E M κ pc L (st) h cs ss := by
  subst hp
  intro p l e s m args below meth c lo D ca H locs ls C g1 g2 g3 g4 g5 g6
  exact lv_aload_n C.1 C.2.1 hd rfl (g6.get hl (fun _ z => by cases z)) (k p l e s m args below meth c lo D ca H locs ls C g1 g2 g3 g4 g5 g6)
theorem s_aload_nN {q : Fin 4} (hd : decode M.2.1 pc = .ok (.aload_n q, 1)) (hp : pc + 1 = pc') (hl : L[(q : Nat)]? = some .null) (k : SP E M κ pc' L (.null :: st) h cs ss) : SP E M κ pc L (st) h cs ss := by
  subst hp
  intro p l e s m args below meth c lo D ca H locs ls C g1 g2 g3 g4 g5 g6
  exact lv_aload_nN C.1 C.2.1 hd rfl (g6.get hl (fun _ z => by cases z)) (k p l e s m args below meth c lo D ca H locs ls C g1 g2 g3 g4 g5 g6)
theorem s_aload {q : Nat} {x : Nat} (hd : decode M.2.1 pc = .ok (.aload q, 2)) (hp : pc + 2 = pc') (hl : L[q]? = some (.ref x)) (k : SP E M κ pc' L (.ref x :: st) h cs ss) : SP E M κ pc L (st) h cs ss := by
  subst hp
  intro p l e s m args below meth c lo D ca H locs ls C g1 g2 g3 g4 g5 g6
  exact lv_aload C.1 C.2.1 hd (g6.get hl (fun _ z => by cases z)) (k p l e s m args below meth c lo D ca H locs ls C g1 g2 g3 g4 g5 g6)
theorem s_aloadN {q : Nat} (hd : decode M.2.1 pc = .ok (.aload q, 2)) (hp : pc + 2 = pc') (hl : L[q]? = some .null) (k : SP E M κ pc' L (.null :: st) h cs ss) : SP E M κ pc L (st) h cs ss := by
  subst hp
  intro p l e s m args below meth c lo D ca H locs ls C g1 g2 g3 g4 g5 g6
  exact lv_aloadN C.1 C.2.1 hd (g6.get hl (fun _ z => by cases z)) (k p l e s m args below meth c lo D ca H locs ls C g1 g2 g3 g4 g5 g6)
theorem s_istore_n {q : Fin 4} {x : Int32} (hd : decode M.2.1 pc = .ok (.istore_n q, 1)) (hp : pc + 1 = pc') (hn : (q : Nat) < L.length) (k : SP E M κ pc' (st1 L (q : Nat) (.int x)) st h cs ss) : SP E M κ pc L (.int x :: st) h cs ss := by
  subst hp
  intro p l e s m args below meth c lo D ca H locs ls C g1 g2 g3 g4 g5 g6
  exact lv_istore_n C.1 C.2.1 hd rfl g6.2 (by rw [← g6.1]; exact hn) rfl (fun ls2 hl2 => k p l e s m args below meth c lo D ca H locs ls2 C g1 g2 g3 g4 g5 ⟨by rw [st1_len]; exact g6.1, hl2.mono (st1_sub hn)⟩)
theorem s_istore {q : Nat} {x : Int32} (hd : decode M.2.1 pc = .ok (.istore q, 2)) (hp : pc + 2 = pc') (hn : q < L.length) (k : SP E M κ pc' (st1 L q (.int x)) st h cs ss) : SP E M κ pc L (.int x :: st) h cs ss := by
  subst hp
  intro p l e s m args below meth c lo D ca H locs ls C g1 g2 g3 g4 g5 g6
  exact lv_istore C.1 C.2.1 hd g6.2 (by rw [← g6.1]; exact hn) rfl (fun ls2 hl2 => k p l e s m args below meth c lo D ca H locs ls2 C g1 g2 g3 g4 g5 ⟨by rw [st1_len]; exact g6.1, hl2.mono (st1_sub hn)⟩)
theorem s_lstore_n {q : Fin 4} {x : Int64} (hd : decode M.2.1 pc = .ok (.lstore_n q, 1)) (hp : pc + 1 = pc') (hn : (q : Nat) + 1 < L.length) (k : SP E M κ pc' (st2 L (q : Nat) (.long x)) st h cs ss) : SP E M κ pc L (.long x :: st) h cs ss := by
  subst hp
  intro p l e s m args below meth c lo D ca H locs ls C g1 g2 g3 g4 g5 g6
  exact lv_lstore_n C.1 C.2.1 hd rfl g6.2 (by rw [← g6.1]; exact hn) rfl (fun ls2 hl2 => k p l e s m args below meth c lo D ca H locs ls2 C g1 g2 g3 g4 g5 ⟨by rw [st2_len]; exact g6.1, hl2.mono (st2_sub hn)⟩)
theorem s_lstore {q : Nat} {x : Int64} (hd : decode M.2.1 pc = .ok (.lstore q, 2)) (hp : pc + 2 = pc') (hn : q + 1 < L.length) (k : SP E M κ pc' (st2 L q (.long x)) st h cs ss) : SP E M κ pc L (.long x :: st) h cs ss := by
  subst hp
  intro p l e s m args below meth c lo D ca H locs ls C g1 g2 g3 g4 g5 g6
  exact lv_lstore C.1 C.2.1 hd g6.2 (by rw [← g6.1]; exact hn) rfl (fun ls2 hl2 => k p l e s m args below meth c lo D ca H locs ls2 C g1 g2 g3 g4 g5 ⟨by rw [st2_len]; exact g6.1, hl2.mono (st2_sub hn)⟩)
theorem s_astore_n {q : Fin 4} {x : Nat} (hd : decode M.2.1 pc = .ok (.astore_n q, 1)) (hp : pc + 1 = pc') (hn : (q : Nat) < L.length) (k : SP E M κ pc' (st1 L (q : Nat) (.ref x)) st h cs ss) : SP E M κ pc L (.ref x :: st) h cs ss := by
  subst hp
  intro p l e s m args below meth c lo D ca H locs ls C g1 g2 g3 g4 g5 g6
  exact lv_astore_n C.1 C.2.1 hd rfl g6.2 (by rw [← g6.1]; exact hn) rfl (fun ls2 hl2 => k p l e s m args below meth c lo D ca H locs ls2 C g1 g2 g3 g4 g5 ⟨by rw [st1_len]; exact g6.1, hl2.mono (st1_sub hn)⟩)
theorem s_astore {q : Nat} {x : Nat} (hd : decode M.2.1 pc = .ok (.astore q, 2)) (hp : pc + 2 = pc') (hn : q < L.length) (k : SP E M κ pc' (st1 L q (.ref x)) st h cs ss) : SP E M κ pc L (.ref x :: st) h cs ss := by
  subst hp
  intro p l e s m args below meth c lo D ca H locs ls C g1 g2 g3 g4 g5 g6
  exact lv_astore C.1 C.2.1 hd g6.2 (by rw [← g6.1]; exact hn) rfl (fun ls2 hl2 => k p l e s m args below meth c lo D ca H locs ls2 C g1 g2 g3 g4 g5 ⟨by rw [st1_len]; exact g6.1, hl2.mono (st1_sub hn)⟩)
theorem s_astore_nN {q : Fin 4} (hd : decode M.2.1 pc = .ok (.astore_n q, 1)) (hp : pc + 1 = pc') (hn : (q : Nat) < L.length) (k : SP E M κ pc' (st1 L (q : Nat) (.null)) st h cs ss) : SP E M κ pc L (.null :: st) h cs ss := by
  subst hp
  intro p l e s m args below meth c lo D ca H locs ls C g1 g2 g3 g4 g5 g6
  exact lv_astore_nN C.1 C.2.1 hd rfl g6.2 (by rw [← g6.1]; exact hn) rfl (fun ls2 hl2 => k p l e s m args below meth c lo D ca H locs ls2 C g1 g2 g3 g4 g5 ⟨by rw [st1_len]; exact g6.1, hl2.mono (st1_sub hn)⟩)
theorem s_astoreN {q : Nat} (hd : decode M.2.1 pc = .ok (.astore q, 2)) (hp : pc + 2 = pc') (hn : q < L.length) (k : SP E M κ pc' (st1 L q (.null)) st h cs ss) : SP E M κ pc L (.null :: st) h cs ss := by
  subst hp
  intro p l e s m args below meth c lo D ca H locs ls C g1 g2 g3 g4 g5 g6
  exact lv_astoreN C.1 C.2.1 hd g6.2 (by rw [← g6.1]; exact hn) rfl (fun ls2 hl2 => k p l e s m args below meth c lo D ca H locs ls2 C g1 g2 g3 g4 g5 ⟨by rw [st1_len]; exact g6.1, hl2.mono (st1_sub hn)⟩)
theorem s_iinc {q : Nat} {n : Int} {x v : Int32} (hd : decode M.2.1 pc = .ok (.iinc q n, 3)) (hp : pc + 3 = pc') (hl : L[q]? = some (.int x)) (hv : x + Int32.ofInt n = v) (k : SP E M κ pc' (st1 L q (.int v)) st h cs ss) : SP E M κ pc L st h cs ss := by
  subst hp
  intro p l e s m args below meth c lo D ca H locs ls C g1 g2 g3 g4 g5 g6
  have hn : q < L.length := (List.getElem?_eq_some_iff.mp hl).1
  obtain ⟨i, hi⟩ := List.getElem?_of_mem (lvl_mem (lo := lo) (v := .int x) (fun _ z => by cases z) L 0 q hl)
  rw [Nat.zero_add] at hi
  exact lv_iinc C.1 C.2.1 hd g6.2 (k := i) hi hv (by rw [← g6.1]; exact hn) rfl (fun ls2 hl2 => k p l e s m args below meth c lo D ca H locs ls2 C g1 g2 g3 g4 g5 ⟨by rw [st1_len]; exact g6.1, hl2.mono (st1_sub hn)⟩)
theorem s_iadd {x y : Int32} (hd : decode M.2.1 pc = .ok (.iadd, 1)) (hp : pc + 1 = pc') (k : SP E M κ pc' L (.int (x + y) :: st) h cs ss) : SP E M κ pc L (.int y :: .int x :: st) h cs ss := by
  subst hp
  intro p l e s m args below meth c lo D ca H locs ls C g1 g2 g3 g4 g5 g6
  exact lv_iadd C.1 C.2.1 hd (k p l e s m args below meth c lo D ca H locs ls C g1 g2 g3 g4 g5 g6)
theorem s_isub {x y : Int32} (hd : decode M.2.1 pc = .ok (.isub, 1)) (hp : pc + 1 = pc') (k : SP E M κ pc' L (.int (x - y) :: st) h cs ss) : SP E M κ pc L (.int y :: .int x :: st) h cs ss := by
  subst hp
  intro p l e s m args below meth c lo D ca H locs ls C g1 g2 g3 g4 g5 g6
  exact lv_isub C.1 C.2.1 hd (k p l e s m args below meth c lo D ca H locs ls C g1 g2 g3 g4 g5 g6)
theorem s_imul {x y : Int32} (hd : decode M.2.1 pc = .ok (.imul, 1)) (hp : pc + 1 = pc') (k : SP E M κ pc' L (.int (x * y) :: st) h cs ss) : SP E M κ pc L (.int y :: .int x :: st) h cs ss := by
  subst hp
  intro p l e s m args below meth c lo D ca H locs ls C g1 g2 g3 g4 g5 g6
  exact lv_imul C.1 C.2.1 hd (k p l e s m args below meth c lo D ca H locs ls C g1 g2 g3 g4 g5 g6)
theorem s_iand {x y : Int32} (hd : decode M.2.1 pc = .ok (.iand, 1)) (hp : pc + 1 = pc') (k : SP E M κ pc' L (.int (x &&& y) :: st) h cs ss) : SP E M κ pc L (.int y :: .int x :: st) h cs ss := by
  subst hp
  intro p l e s m args below meth c lo D ca H locs ls C g1 g2 g3 g4 g5 g6
  exact lv_iand C.1 C.2.1 hd (k p l e s m args below meth c lo D ca H locs ls C g1 g2 g3 g4 g5 g6)
theorem s_ior {x y : Int32} (hd : decode M.2.1 pc = .ok (.ior, 1)) (hp : pc + 1 = pc') (k : SP E M κ pc' L (.int (x ||| y) :: st) h cs ss) : SP E M κ pc L (.int y :: .int x :: st) h cs ss := by
  subst hp
  intro p l e s m args below meth c lo D ca H locs ls C g1 g2 g3 g4 g5 g6
  exact lv_ior C.1 C.2.1 hd (k p l e s m args below meth c lo D ca H locs ls C g1 g2 g3 g4 g5 g6)
theorem s_ixor {x y : Int32} (hd : decode M.2.1 pc = .ok (.ixor, 1)) (hp : pc + 1 = pc') (k : SP E M κ pc' L (.int (x ^^^ y) :: st) h cs ss) : SP E M κ pc L (.int y :: .int x :: st) h cs ss := by
  subst hp
  intro p l e s m args below meth c lo D ca H locs ls C g1 g2 g3 g4 g5 g6
  exact lv_ixor C.1 C.2.1 hd (k p l e s m args below meth c lo D ca H locs ls C g1 g2 g3 g4 g5 g6)
theorem s_ishl {x y : Int32} (hd : decode M.2.1 pc = .ok (.ishl, 1)) (hp : pc + 1 = pc') (k : SP E M κ pc' L (.int (x <<< (y &&& 31)) :: st) h cs ss) : SP E M κ pc L (.int y :: .int x :: st) h cs ss := by
  subst hp
  intro p l e s m args below meth c lo D ca H locs ls C g1 g2 g3 g4 g5 g6
  exact lv_ishl C.1 C.2.1 hd (k p l e s m args below meth c lo D ca H locs ls C g1 g2 g3 g4 g5 g6)
theorem s_ishr {x y : Int32} (hd : decode M.2.1 pc = .ok (.ishr, 1)) (hp : pc + 1 = pc') (k : SP E M κ pc' L (.int (x >>> (y &&& 31)) :: st) h cs ss) : SP E M κ pc L (.int y :: .int x :: st) h cs ss := by
  subst hp
  intro p l e s m args below meth c lo D ca H locs ls C g1 g2 g3 g4 g5 g6
  exact lv_ishr C.1 C.2.1 hd (k p l e s m args below meth c lo D ca H locs ls C g1 g2 g3 g4 g5 g6)
theorem s_iushr {x y : Int32} (hd : decode M.2.1 pc = .ok (.iushr, 1)) (hp : pc + 1 = pc') (k : SP E M κ pc' L (.int ((x.toUInt32 >>> (y.toUInt32 &&& Int32.toUInt32 31)).toInt32) :: st) h cs ss) : SP E M κ pc L (.int y :: .int x :: st) h cs ss := by
  subst hp
  intro p l e s m args below meth c lo D ca H locs ls C g1 g2 g3 g4 g5 g6
  exact lv_iushr C.1 C.2.1 hd rfl (k p l e s m args below meth c lo D ca H locs ls C g1 g2 g3 g4 g5 g6)
theorem s_ladd {x y : Int64} (hd : decode M.2.1 pc = .ok (.ladd, 1)) (hp : pc + 1 = pc') (k : SP E M κ pc' L (.long (x + y) :: st) h cs ss) : SP E M κ pc L (.long y :: .long x :: st) h cs ss := by
  subst hp
  intro p l e s m args below meth c lo D ca H locs ls C g1 g2 g3 g4 g5 g6
  exact lv_ladd C.1 C.2.1 hd (k p l e s m args below meth c lo D ca H locs ls C g1 g2 g3 g4 g5 g6)
theorem s_lsub {x y : Int64} (hd : decode M.2.1 pc = .ok (.lsub, 1)) (hp : pc + 1 = pc') (k : SP E M κ pc' L (.long (x - y) :: st) h cs ss) : SP E M κ pc L (.long y :: .long x :: st) h cs ss := by
  subst hp
  intro p l e s m args below meth c lo D ca H locs ls C g1 g2 g3 g4 g5 g6
  exact lv_lsub C.1 C.2.1 hd (k p l e s m args below meth c lo D ca H locs ls C g1 g2 g3 g4 g5 g6)
theorem s_lmul {x y : Int64} (hd : decode M.2.1 pc = .ok (.lmul, 1)) (hp : pc + 1 = pc') (k : SP E M κ pc' L (.long (x * y) :: st) h cs ss) : SP E M κ pc L (.long y :: .long x :: st) h cs ss := by
  subst hp
  intro p l e s m args below meth c lo D ca H locs ls C g1 g2 g3 g4 g5 g6
  exact lv_lmul C.1 C.2.1 hd (k p l e s m args below meth c lo D ca H locs ls C g1 g2 g3 g4 g5 g6)
theorem s_idiv {x y : Int32} (hd : decode M.2.1 pc = .ok (.idiv, 1)) (hp : pc + 1 = pc') (hy : ¬ y = 0) (k : SP E M κ pc' L (.int (x / y) :: st) h cs ss) : SP E M κ pc L (.int y :: .int x :: st) h cs ss := by
  subst hp
  intro p l e s m args below meth c lo D ca H locs ls C g1 g2 g3 g4 g5 g6
  exact lv_idiv C.1 C.2.1 hd hy (k p l e s m args below meth c lo D ca H locs ls C g1 g2 g3 g4 g5 g6)
theorem s_irem {x y : Int32} (hd : decode M.2.1 pc = .ok (.irem, 1)) (hp : pc + 1 = pc') (hy : ¬ y = 0) (k : SP E M κ pc' L (.int (x - x / y * y) :: st) h cs ss) : SP E M κ pc L (.int y :: .int x :: st) h cs ss := by
  subst hp
  intro p l e s m args below meth c lo D ca H locs ls C g1 g2 g3 g4 g5 g6
  exact lv_irem C.1 C.2.1 hd hy (k p l e s m args below meth c lo D ca H locs ls C g1 g2 g3 g4 g5 g6)
theorem s_ldiv {x y : Int64} (hd : decode M.2.1 pc = .ok (.ldiv, 1)) (hp : pc + 1 = pc') (hy : ¬ y = 0) (k : SP E M κ pc' L (.long (x / y) :: st) h cs ss) : SP E M κ pc L (.long y :: .long x :: st) h cs ss := by
  subst hp
  intro p l e s m args below meth c lo D ca H locs ls C g1 g2 g3 g4 g5 g6
  exact lv_ldiv C.1 C.2.1 hd hy (k p l e s m args below meth c lo D ca H locs ls C g1 g2 g3 g4 g5 g6)
theorem s_lrem {x y : Int64} (hd : decode M.2.1 pc = .ok (.lrem, 1)) (hp : pc + 1 = pc') (hy : ¬ y = 0) (k : SP E M κ pc' L (.long (x - x / y * y) :: st) h cs ss) : SP E M κ pc L (.long y :: .long x :: st) h cs ss := by
  subst hp
  intro p l e s m args below meth c lo D ca H locs ls C g1 g2 g3 g4 g5 g6
  exact lv_lrem C.1 C.2.1 hd hy (k p l e s m args below meth c lo D ca H locs ls C g1 g2 g3 g4 g5 g6)
theorem s_ineg {x : Int32} (hd : decode M.2.1 pc = .ok (.ineg, 1)) (hp : pc + 1 = pc') (k : SP E M κ pc' L (.int (-x) :: st) h cs ss) : SP E M κ pc L (.int x :: st) h cs ss := by
  subst hp
  intro p l e s m args below meth c lo D ca H locs ls C g1 g2 g3 g4 g5 g6
  exact lv_ineg C.1 C.2.1 hd (k p l e s m args below meth c lo D ca H locs ls C g1 g2 g3 g4 g5 g6)
theorem s_lneg {x : Int64} (hd : decode M.2.1 pc = .ok (.lneg, 1)) (hp : pc + 1 = pc') (k : SP E M κ pc' L (.long (-x) :: st) h cs ss) : SP E M κ pc L (.long x :: st) h cs ss := by
  subst hp
  intro p l e s m args below meth c lo D ca H locs ls C g1 g2 g3 g4 g5 g6
  exact lv_lneg C.1 C.2.1 hd (k p l e s m args below meth c lo D ca H locs ls C g1 g2 g3 g4 g5 g6)
theorem s_i2l {x : Int32} (hd : decode M.2.1 pc = .ok (.i2l, 1)) (hp : pc + 1 = pc') (k : SP E M κ pc' L (.long x.toInt64 :: st) h cs ss) : SP E M κ pc L (.int x :: st) h cs ss := by
  subst hp
  intro p l e s m args below meth c lo D ca H locs ls C g1 g2 g3 g4 g5 g6
  exact lv_i2l C.1 C.2.1 hd rfl (k p l e s m args below meth c lo D ca H locs ls C g1 g2 g3 g4 g5 g6)
theorem s_l2i {x : Int64} (hd : decode M.2.1 pc = .ok (.l2i, 1)) (hp : pc + 1 = pc') (k : SP E M κ pc' L (.int x.toInt32 :: st) h cs ss) : SP E M κ pc L (.long x :: st) h cs ss := by
  subst hp
  intro p l e s m args below meth c lo D ca H locs ls C g1 g2 g3 g4 g5 g6
  exact lv_l2i C.1 C.2.1 hd rfl (k p l e s m args below meth c lo D ca H locs ls C g1 g2 g3 g4 g5 g6)
theorem s_i2b {x : Int32} (hd : decode M.2.1 pc = .ok (.i2b, 1)) (hp : pc + 1 = pc') (k : SP E M κ pc' L (.int x.toInt8.toInt32 :: st) h cs ss) : SP E M κ pc L (.int x :: st) h cs ss := by
  subst hp
  intro p l e s m args below meth c lo D ca H locs ls C g1 g2 g3 g4 g5 g6
  exact lv_i2b C.1 C.2.1 hd rfl (k p l e s m args below meth c lo D ca H locs ls C g1 g2 g3 g4 g5 g6)
theorem s_lcmp {x y : Int64} (hd : decode M.2.1 pc = .ok (.lcmp, 1)) (hp : pc + 1 = pc') (k : SP E M κ pc' L (.int (lg_cmp x y) :: st) h cs ss) : SP E M κ pc L (.long y :: .long x :: st) h cs ss := by
  subst hp
  intro p l e s m args below meth c lo D ca H locs ls C g1 g2 g3 g4 g5 g6
  exact W.lcmp C.1 C.2.1 hd (k p l e s m args below meth c lo D ca H locs ls C g1 g2 g3 g4 g5 g6)
theorem s_dup {v : Value} (hd : decode M.2.1 pc = .ok (.dup, 1)) (hp : pc + 1 = pc') (hv : v.category = 1) (k : SP E M κ pc' L (v :: v :: st) h cs ss) : SP E M κ pc L (v :: st) h cs ss := by
  subst hp
  intro p l e s m args below meth c lo D ca H locs ls C g1 g2 g3 g4 g5 g6
  exact lv_dup C.1 C.2.1 hd (by rw [cv_cat]; exact hv) (k p l e s m args below meth c lo D ca H locs ls C g1 g2 g3 g4 g5 g6)
theorem s_dup2 {v w : Value} (hd : decode M.2.1 pc = .ok (.dup2, 1)) (hp : pc + 1 = pc') (hv : v.category = 1) (hw : w.category = 1) (k : SP E M κ pc' L (v :: w :: v :: w :: st) h cs ss) : SP E M κ pc L (v :: w :: st) h cs ss := by
  subst hp
  intro p l e s m args below meth c lo D ca H locs ls C g1 g2 g3 g4 g5 g6
  exact lv_dup2_11 C.1 C.2.1 hd (by rw [cv_cat]; exact hv) (by rw [cv_cat]; exact hw) (k p l e s m args below meth c lo D ca H locs ls C g1 g2 g3 g4 g5 g6)
theorem s_dup_x1 {v w : Value} (hd : decode M.2.1 pc = .ok (.dup_x1, 1)) (hp : pc + 1 = pc') (hv : v.category = 1) (hw : w.category = 1) (k : SP E M κ pc' L (v :: w :: v :: st) h cs ss) : SP E M κ pc L (v :: w :: st) h cs ss := by
  subst hp
  intro p l e s m args below meth c lo D ca H locs ls C g1 g2 g3 g4 g5 g6
  exact lv_dup_x1 C.1 C.2.1 hd (by rw [cv_cat]; exact hv) (by rw [cv_cat]; exact hw) (k p l e s m args below meth c lo D ca H locs ls C g1 g2 g3 g4 g5 g6)
theorem s_ifeq {x : Int32} {off : Int} {tgt : Nat} (hd : decode M.2.1 pc = .ok (.ifCond .eq off, 3)) (ht : (pc : Int) + off = (tgt : Int)) (hp : pc + 3 = pc') (kt : x = 0 → SP E M κ tgt L st h cs ss) (kf : ¬ (x = 0) → SP E M κ pc' L st h cs ss) : SP E M κ pc L (.int x :: st) h cs ss := by
  subst hp
  intro p l e s m args below meth c lo D ca H locs ls C g1 g2 g3 g4 g5 g6
  exact lv_if_eq C.1 C.2.1 hd ht (fun z => kt z p l e s m args below meth c lo D ca H locs ls C g1 g2 g3 g4 g5 g6) (fun z => kf z p l e s m args below meth c lo D ca H locs ls C g1 g2 g3 g4 g5 g6)
theorem s_ifne {x : Int32} {off : Int} {tgt : Nat} (hd : decode M.2.1 pc = .ok (.ifCond .ne off, 3)) (ht : (pc : Int) + off = (tgt : Int)) (hp : pc + 3 = pc') (kt : x ≠ 0 → SP E M κ tgt L st h cs ss) (kf : x = 0 → SP E M κ pc' L st h cs ss) : SP E M κ pc L (.int x :: st) h cs ss := by
  subst hp
  intro p l e s m args below meth c lo D ca H locs ls C g1 g2 g3 g4 g5 g6
  exact lv_if_ne C.1 C.2.1 hd ht (fun z => kt z p l e s m args below meth c lo D ca H locs ls C g1 g2 g3 g4 g5 g6) (fun z => kf z p l e s m args below meth c lo D ca H locs ls C g1 g2 g3 g4 g5 g6)
theorem s_iflt {x : Int32} {off : Int} {tgt : Nat} (hd : decode M.2.1 pc = .ok (.ifCond .lt off, 3)) (ht : (pc : Int) + off = (tgt : Int)) (hp : pc + 3 = pc') (kt : x < 0 → SP E M κ tgt L st h cs ss) (kf : ¬ (x < 0) → SP E M κ pc' L st h cs ss) : SP E M κ pc L (.int x :: st) h cs ss := by
  subst hp
  intro p l e s m args below meth c lo D ca H locs ls C g1 g2 g3 g4 g5 g6
  exact lv_if_lt C.1 C.2.1 hd ht (fun z => kt z p l e s m args below meth c lo D ca H locs ls C g1 g2 g3 g4 g5 g6) (fun z => kf z p l e s m args below meth c lo D ca H locs ls C g1 g2 g3 g4 g5 g6)
theorem s_ifge {x : Int32} {off : Int} {tgt : Nat} (hd : decode M.2.1 pc = .ok (.ifCond .ge off, 3)) (ht : (pc : Int) + off = (tgt : Int)) (hp : pc + 3 = pc') (kt : 0 ≤ x → SP E M κ tgt L st h cs ss) (kf : ¬ (0 ≤ x) → SP E M κ pc' L st h cs ss) : SP E M κ pc L (.int x :: st) h cs ss := by
  subst hp
  intro p l e s m args below meth c lo D ca H locs ls C g1 g2 g3 g4 g5 g6
  exact lv_if_ge C.1 C.2.1 hd ht (fun z => kt z p l e s m args below meth c lo D ca H locs ls C g1 g2 g3 g4 g5 g6) (fun z => kf z p l e s m args below meth c lo D ca H locs ls C g1 g2 g3 g4 g5 g6)
theorem s_ifgt {x : Int32} {off : Int} {tgt : Nat} (hd : decode M.2.1 pc = .ok (.ifCond .gt off, 3)) (ht : (pc : Int) + off = (tgt : Int)) (hp : pc + 3 = pc') (kt : 0 < x → SP E M κ tgt L st h cs ss) (kf : ¬ (0 < x) → SP E M κ pc' L st h cs ss) : SP E M κ pc L (.int x :: st) h cs ss := by
  subst hp
  intro p l e s m args below meth c lo D ca H locs ls C g1 g2 g3 g4 g5 g6
  exact lv_if_gt C.1 C.2.1 hd ht (fun z => kt z p l e s m args below meth c lo D ca H locs ls C g1 g2 g3 g4 g5 g6) (fun z => kf z p l e s m args below meth c lo D ca H locs ls C g1 g2 g3 g4 g5 g6)
theorem s_ifle {x : Int32} {off : Int} {tgt : Nat} (hd : decode M.2.1 pc = .ok (.ifCond .le off, 3)) (ht : (pc : Int) + off = (tgt : Int)) (hp : pc + 3 = pc') (kt : x ≤ 0 → SP E M κ tgt L st h cs ss) (kf : ¬ (x ≤ 0) → SP E M κ pc' L st h cs ss) : SP E M κ pc L (.int x :: st) h cs ss := by
  subst hp
  intro p l e s m args below meth c lo D ca H locs ls C g1 g2 g3 g4 g5 g6
  exact lv_if_le C.1 C.2.1 hd ht (fun z => kt z p l e s m args below meth c lo D ca H locs ls C g1 g2 g3 g4 g5 g6) (fun z => kf z p l e s m args below meth c lo D ca H locs ls C g1 g2 g3 g4 g5 g6)
theorem s_icmpeq {x y : Int32} {off : Int} {tgt : Nat} (hd : decode M.2.1 pc = .ok (.if_icmp .eq off, 3)) (ht : (pc : Int) + off = (tgt : Int)) (hp : pc + 3 = pc') (kt : x = y → SP E M κ tgt L st h cs ss) (kf : ¬ (x = y) → SP E M κ pc' L st h cs ss) : SP E M κ pc L (.int y :: .int x :: st) h cs ss := by
  subst hp
  intro p l e s m args below meth c lo D ca H locs ls C g1 g2 g3 g4 g5 g6
  exact lv_icmp_eq C.1 C.2.1 hd ht (fun z => kt z p l e s m args below meth c lo D ca H locs ls C g1 g2 g3 g4 g5 g6) (fun z => kf z p l e s m args below meth c lo D ca H locs ls C g1 g2 g3 g4 g5 g6)
theorem s_icmpne {x y : Int32} {off : Int} {tgt : Nat} (hd : decode M.2.1 pc = .ok (.if_icmp .ne off, 3)) (ht : (pc : Int) + off = (tgt : Int)) (hp : pc + 3 = pc') (kt : x ≠ y → SP E M κ tgt L st h cs ss) (kf : x = y → SP E M κ pc' L st h cs ss) : SP E M κ pc L (.int y :: .int x :: st) h cs ss := by
  subst hp
  intro p l e s m args below meth c lo D ca H locs ls C g1 g2 g3 g4 g5 g6
  exact lv_icmp_ne C.1 C.2.1 hd ht (fun z => kt z p l e s m args below meth c lo D ca H locs ls C g1 g2 g3 g4 g5 g6) (fun z => kf z p l e s m args below meth c lo D ca H locs ls C g1 g2 g3 g4 g5 g6)
theorem s_icmplt {x y : Int32} {off : Int} {tgt : Nat} (hd : decode M.2.1 pc = .ok (.if_icmp .lt off, 3)) (ht : (pc : Int) + off = (tgt : Int)) (hp : pc + 3 = pc') (kt : x < y → SP E M κ tgt L st h cs ss) (kf : ¬ (x < y) → SP E M κ pc' L st h cs ss) : SP E M κ pc L (.int y :: .int x :: st) h cs ss := by
  subst hp
  intro p l e s m args below meth c lo D ca H locs ls C g1 g2 g3 g4 g5 g6
  exact lv_icmp_lt C.1 C.2.1 hd ht (fun z => kt z p l e s m args below meth c lo D ca H locs ls C g1 g2 g3 g4 g5 g6) (fun z => kf z p l e s m args below meth c lo D ca H locs ls C g1 g2 g3 g4 g5 g6)
theorem s_icmpge {x y : Int32} {off : Int} {tgt : Nat} (hd : decode M.2.1 pc = .ok (.if_icmp .ge off, 3)) (ht : (pc : Int) + off = (tgt : Int)) (hp : pc + 3 = pc') (kt : y ≤ x → SP E M κ tgt L st h cs ss) (kf : ¬ (y ≤ x) → SP E M κ pc' L st h cs ss) : SP E M κ pc L (.int y :: .int x :: st) h cs ss := by
  subst hp
  intro p l e s m args below meth c lo D ca H locs ls C g1 g2 g3 g4 g5 g6
  exact lv_icmp_ge C.1 C.2.1 hd ht (fun z => kt z p l e s m args below meth c lo D ca H locs ls C g1 g2 g3 g4 g5 g6) (fun z => kf z p l e s m args below meth c lo D ca H locs ls C g1 g2 g3 g4 g5 g6)
theorem s_icmpgt {x y : Int32} {off : Int} {tgt : Nat} (hd : decode M.2.1 pc = .ok (.if_icmp .gt off, 3)) (ht : (pc : Int) + off = (tgt : Int)) (hp : pc + 3 = pc') (kt : y < x → SP E M κ tgt L st h cs ss) (kf : ¬ (y < x) → SP E M κ pc' L st h cs ss) : SP E M κ pc L (.int y :: .int x :: st) h cs ss := by
  subst hp
  intro p l e s m args below meth c lo D ca H locs ls C g1 g2 g3 g4 g5 g6
  exact lv_icmp_gt C.1 C.2.1 hd ht (fun z => kt z p l e s m args below meth c lo D ca H locs ls C g1 g2 g3 g4 g5 g6) (fun z => kf z p l e s m args below meth c lo D ca H locs ls C g1 g2 g3 g4 g5 g6)
theorem s_icmple {x y : Int32} {off : Int} {tgt : Nat} (hd : decode M.2.1 pc = .ok (.if_icmp .le off, 3)) (ht : (pc : Int) + off = (tgt : Int)) (hp : pc + 3 = pc') (kt : x ≤ y → SP E M κ tgt L st h cs ss) (kf : ¬ (x ≤ y) → SP E M κ pc' L st h cs ss) : SP E M κ pc L (.int y :: .int x :: st) h cs ss := by
  subst hp
  intro p l e s m args below meth c lo D ca H locs ls C g1 g2 g3 g4 g5 g6
  exact lv_icmp_le C.1 C.2.1 hd ht (fun z => kt z p l e s m args below meth c lo D ca H locs ls C g1 g2 g3 g4 g5 g6) (fun z => kf z p l e s m args below meth c lo D ca H locs ls C g1 g2 g3 g4 g5 g6)
theorem s_goto {off : Int} {tgt : Nat} (hd : decode M.2.1 pc = .ok (.goto off, 3)) (ht : (pc : Int) + off = (tgt : Int)) (k : SP E M κ tgt L st h cs ss) : SP E M κ pc L st h cs ss := by
  intro p l e s m args below meth c lo D ca H locs ls C g1 g2 g3 g4 g5 g6
  exact lv_goto C.1 C.2.1 hd ht (k p l e s m args below meth c lo D ca H locs ls C g1 g2 g3 g4 g5 g6)
theorem s_ifnull {x : Nat} {off : Int} (hd : decode M.2.1 pc = .ok (.ifnull off, 3)) (hp : pc + 3 = pc') (k : SP E M κ pc' L st h cs ss) : SP E M κ pc L (.ref x :: st) h cs ss := by
  subst hp
  intro p l e s m args below meth c lo D ca H locs ls C g1 g2 g3 g4 g5 g6
  exact lv_ifnull C.1 C.2.1 hd (k p l e s m args below meth c lo D ca H locs ls C g1 g2 g3 g4 g5 g6)
theorem s_ifnullN {off : Int} {tgt : Nat} (hd : decode M.2.1 pc = .ok (.ifnull off, 3)) (ht : (pc : Int) + off = (tgt : Int)) (k : SP E M κ tgt L st h cs ss) : SP E M κ pc L (.null :: st) h cs ss := by
  intro p l e s m args below meth c lo D ca H locs ls C g1 g2 g3 g4 g5 g6
  exact lv_ifnullN C.1 C.2.1 hd ht (k p l e s m args below meth c lo D ca H locs ls C g1 g2 g3 g4 g5 g6)
theorem s_ifnonnull {x : Nat} {off : Int} {tgt : Nat} (hd : decode M.2.1 pc = .ok (.ifnonnull off, 3)) (ht : (pc : Int) + off = (tgt : Int)) (k : SP E M κ tgt L st h cs ss) : SP E M κ pc L (.ref x :: st) h cs ss := by
  intro p l e s m args below meth c lo D ca H locs ls C g1 g2 g3 g4 g5 g6
  exact lv_ifnonnull C.1 C.2.1 hd ht (k p l e s m args below meth c lo D ca H locs ls C g1 g2 g3 g4 g5 g6)
theorem s_ifnonnullN {off : Int} (hd : decode M.2.1 pc = .ok (.ifnonnull off, 3)) (hp : pc + 3 = pc') (k : SP E M κ pc' L st h cs ss) : SP E M κ pc L (.null :: st) h cs ss := by
  subst hp
  intro p l e s m args below meth c lo D ca H locs ls C g1 g2 g3 g4 g5 g6
  exact lv_ifnonnullN C.1 C.2.1 hd (k p l e s m args below meth c lo D ca H locs ls C g1 g2 g3 g4 g5 g6)
theorem s_tabIn {dflt lo1 hi : Int} {offs : Array Int} {len : Nat} {x : Int32} {off : Int} {tgt : Nat} (hd : decode M.2.1 pc = .ok (.tableswitch dflt lo1 hi offs, len)) (q1 : ¬ x.toInt < lo1) (q2 : ¬ hi < x.toInt) (ho : offs[(x.toInt - lo1).toNat]? = some off) (ht : (pc : Int) + off = (tgt : Int)) (k : SP E M κ tgt L st h cs ss) : SP E M κ pc L (.int x :: st) h cs ss := by
  intro p l e s m args below meth c lo D ca H locs ls C g1 g2 g3 g4 g5 g6
  exact lv_tableIn C.1 C.2.1 hd q1 q2 ho ht (k p l e s m args below meth c lo D ca H locs ls C g1 g2 g3 g4 g5 g6)
theorem s_tabOut {dflt lo1 hi : Int} {offs : Array Int} {len : Nat} {x : Int32} {tgt : Nat} (hd : decode M.2.1 pc = .ok (.tableswitch dflt lo1 hi offs, len)) (q1 : x.toInt < lo1 ∨ hi < x.toInt) (ht : (pc : Int) + dflt = (tgt : Int)) (k : SP E M κ tgt L st h cs ss) : SP E M κ pc L (.int x :: st) h cs ss := by
  intro p l e s m args below meth c lo D ca H locs ls C g1 g2 g3 g4 g5 g6
  exact lv_tableOut C.1 C.2.1 hd q1 ht (k p l e s m args below meth c lo D ca H locs ls C g1 g2 g3 g4 g5 g6)
theorem s_iret {v : Int32} (hd : decode M.2.1 pc = .ok (.ireturn, 1)) (hr : M.2.2.2.1 = some .int) (hc : cs ≤ M.2.2.2.2.2.1) (hs : ss ≤ M.2.2.2.2.2.2) (hk : κ (some (.int v)) h) : SP E M κ pc L [.int v] h cs ss := by
  intro p l e s m args below meth c lo D ca H locs ls C g1 g2 g3 g4 g5 g6
  exact W.widen hc hs (W.iret C.1 C.2.1 (C.2.2.1.trans hr) (fun t ht hW => ⟨(some (.int v)), h, rfl, hk, by rw [ht]; exact g3, g4, g5.F ht⟩) g5.2.2 hd C.2.2.2.2.2.2.1)
theorem s_zret {v : Int32} (hd : decode M.2.1 pc = .ok (.ireturn, 1)) (hr : M.2.2.2.1 = some .boolean) (hv : narrow .boolean (.int v) = .int v) (hc : cs ≤ M.2.2.2.2.2.1) (hs : ss ≤ M.2.2.2.2.2.2) (hk : κ (some (.int v)) h) : SP E M κ pc L [.int v] h cs ss := by
  intro p l e s m args below meth c lo D ca H locs ls C g1 g2 g3 g4 g5 g6
  exact W.widen hc hs (W.zret C.1 C.2.1 (C.2.2.1.trans hr) hv (fun t ht hW => ⟨(some (.int v)), h, rfl, hk, by rw [ht]; exact g3, g4, g5.F ht⟩) g5.2.2 hd C.2.2.2.2.2.2.1)
theorem s_lret {v : Int64} (hd : decode M.2.1 pc = .ok (.lreturn, 1)) (hr : M.2.2.2.1 = some .long) (hc : cs ≤ M.2.2.2.2.2.1) (hs : ss ≤ M.2.2.2.2.2.2) (hk : κ (some (.long v)) h) : SP E M κ pc L [.long v] h cs ss := by
  intro p l e s m args below meth c lo D ca H locs ls C g1 g2 g3 g4 g5 g6
  exact W.widen hc hs (W.lret C.1 C.2.1 (C.2.2.1.trans hr) (fun t ht hW => ⟨(some (.long v)), h, rfl, hk, by rw [ht]; exact g3, g4, g5.F ht⟩) g5.2.2 hd C.2.2.2.2.2.2.1)
theorem s_vret  (hd : decode M.2.1 pc = .ok (.return_, 1)) (hr : M.2.2.2.1 = none) (hc : cs ≤ M.2.2.2.2.2.1) (hs : ss ≤ M.2.2.2.2.2.2) (hk : κ none h) : SP E M κ pc L [] h cs ss := by
  intro p l e s m args below meth c lo D ca H locs ls C g1 g2 g3 g4 g5 g6
  exact W.widen hc hs (W.vret C.1 C.2.1 (C.2.2.1.trans hr) (fun t ht hW => ⟨none, h, rfl, hk, by rw [ht]; exact g3, g4, g5.F ht⟩) g5.2.2 hd C.2.2.2.2.2.2.1)
theorem s_aret {a : Nat} {n : String} (hd : decode M.2.1 pc = .ok (.areturn, 1)) (hr : M.2.2.2.1 = some (.object n)) (hc : cs ≤ M.2.2.2.2.2.1) (hs : ss ≤ M.2.2.2.2.2.2) (hk : κ (some (.ref a)) h) : SP E M κ pc L [.ref a] h cs ss := by
  intro p l e s m args below meth c lo D ca H locs ls C g1 g2 g3 g4 g5 g6
  exact W.widen hc hs (W.aret C.1 C.2.1 (C.2.2.1.trans hr) (Or.inl ⟨_, rfl⟩) (Or.inr ⟨_, rfl⟩) (fun t ht hW => ⟨(some (.ref a)), h, rfl, hk, by rw [ht]; exact g3, g4, g5.F ht⟩) g5.2.2 hd C.2.2.2.2.2.2.1)
theorem s_aretN {n : String} (hd : decode M.2.1 pc = .ok (.areturn, 1)) (hr : M.2.2.2.1 = some (.object n)) (hc : cs ≤ M.2.2.2.2.2.1) (hs : ss ≤ M.2.2.2.2.2.2) (hk : κ (some .null) h) : SP E M κ pc L [.null] h cs ss := by
  intro p l e s m args below meth c lo D ca H locs ls C g1 g2 g3 g4 g5 g6
  exact W.widen hc hs (W.aret C.1 C.2.1 (C.2.2.1.trans hr) (Or.inl ⟨_, rfl⟩) (Or.inl rfl) (fun t ht hW => ⟨(some .null), h, rfl, hk, by rw [ht]; exact g3, g4, g5.F ht⟩) g5.2.2 hd C.2.2.2.2.2.2.1)
end RW
end
section
theorem inX0 : ∀ w ∈ wsX00, w ∈ lw_u := by decide +kernel
theorem inX1 : ∀ w ∈ wsX10, w ∈ lw_u := by decide +kernel
theorem inX2 : ∀ w ∈ wsX20, w ∈ lw_u := by decide +kernel
theorem inX3 : ∀ w ∈ wsX30, w ∈ lw_u := by decide +kernel
theorem inX4 : ∀ w ∈ wsX40, w ∈ lw_u := by decide +kernel
theorem inX5 : ∀ w ∈ wsX50, w ∈ lw_u := by decide +kernel
theorem inX6 : ∀ w ∈ wsX60, w ∈ lw_u := by decide +kernel
theorem inX7 : ∀ w ∈ wsX70, w ∈ lw_u := by decide +kernel
theorem inX8 : ∀ w ∈ wsX80, w ∈ lw_u := by decide +kernel
theorem inX9 : ∀ w ∈ wsX90, w ∈ lw_u := by decide +kernel
theorem inX10 : ∀ w ∈ wsX100, w ∈ lw_u := by decide +kernel
theorem inX11 : ∀ w ∈ wsX110, w ∈ lw_u := by decide +kernel
theorem inX12 : ∀ w ∈ wsX120, w ∈ lw_u := by decide +kernel
def cQ (ci : Nat) : vw_C := classes.getD ci (RX0, TX0, 0)
def cTyL : List (Nat → FieldType) := [tyX0, tyX1, tyX2, tyX3, tyX4, tyX5, tyX6, tyX7, tyX8, tyX9, tyX10, tyX11, tyX12]
def cTy (ci : Nat) : Nat → FieldType := cTyL.getD ci tyX0
theorem clsF (ci : Nat) (hc : ci < 13) : classes[ci]? = some ((cQ ci).1, (cQ ci).2.1, (cQ ci).2.2) ∧ (∀ w ∈ u_ws (cQ ci).1 (cQ ci).2.1 (cQ ci).2.2, w ∈ lw_u) ∧ (∀ k, k < (cQ ci).2.2 → parseFieldDescriptor ((cQ ci).2.1 k).2.2.1 = some (cTy ci k)) ∧ (∀ a, a < (cQ ci).2.2 → ∀ b, b < (cQ ci).2.2 → a ≠ b → ((cQ ci).2.1 a).2.1 ≠ ((cQ ci).2.1 b).2.1) ∧ (cQ ci).2.2 = nf ci := by
  match ci, hc with
  | 0, _ => exact ⟨rfl, inX0, tyX0_ok, nmX0, rfl⟩
  | 1, _ => exact ⟨rfl, inX1, tyX1_ok, nmX1, rfl⟩
  | 2, _ => exact ⟨rfl, inX2, tyX2_ok, nmX2, rfl⟩
  | 3, _ => exact ⟨rfl, inX3, tyX3_ok, nmX3, rfl⟩
  | 4, _ => exact ⟨rfl, inX4, tyX4_ok, nmX4, rfl⟩
  | 5, _ => exact ⟨rfl, inX5, tyX5_ok, nmX5, rfl⟩
  | 6, _ => exact ⟨rfl, inX6, tyX6_ok, nmX6, rfl⟩
  | 7, _ => exact ⟨rfl, inX7, tyX7_ok, nmX7, rfl⟩
  | 8, _ => exact ⟨rfl, inX8, tyX8_ok, nmX8, rfl⟩
  | 9, _ => exact ⟨rfl, inX9, tyX9_ok, nmX9, rfl⟩
  | 10, _ => exact ⟨rfl, inX10, tyX10_ok, nmX10, rfl⟩
  | 11, _ => exact ⟨rfl, inX11, tyX11_ok, nmX11, rfl⟩
  | 12, _ => exact ⟨rfl, inX12, tyX12_ok, nmX12, rfl⟩
  | n + 13, hc => exact absurd hc (by omega)
theorem tyF : ∀ ci, ci < 13 → ∀ j, j < nf ci → (ft ci j = 0 ∧ cTy ci j = .int) ∨ (ft ci j = 1 ∧ cTy ci j = .boolean) ∨ (ft ci j = 2 ∧ (cTy ci j).isReference = true) := by decide +kernel
def FA (own : String) (idx ci j : Nat) : Prop := j < (cQ ci).2.2 ∧ ∃ ref : String, Cond.fieldLink own idx ref ((cQ ci).2.1 j).2.1 ((cQ ci).2.1 j).2.2.1 ∈ lw_u ∧ (((cQ ci).2.1 j).1 = ref ∨ Cond.sameField ref ((cQ ci).2.1 j).1 ((cQ ci).2.1 j).2.1 ((cQ ci).2.1 j).2.2.1 ∈ lw_u)
def Sh (E : EV) (h : HP) (a ci n : Nat) : Prop := n < 65536 ∧ ((a < E.1 ∧ E.2.1 a = (ci, n)) ∨ (a < h.1 ∧ h.2.1 a = (ci, n)))
theorem Sh.al {E : EV} {h : HP} {a ci n : Nat} (hs : Sh E h a ci n) (w : WF E h) : a < h.1 ∧ h.2.1 a = (ci, n) := by
  rcases hs.2 with ⟨h1, h2⟩ | h1
  · exact ⟨Nat.lt_of_lt_of_le h1 w.1, (w.2.1 a h1).trans h2⟩
  · exact h1
theorem Sh.st {E : EV} {h : HP} {a ci n : Nat} (hn : n < 65536) (h1 : a < E.1) (h2 : E.2.1 a = (ci, n)) : Sh E h a ci n := ⟨hn, Or.inl ⟨h1, h2⟩⟩
theorem Sh.dy {E : EV} {h : HP} {a ci n : Nat} (hn : n < 65536) (h1 : a < h.1) (h2 : h.2.1 a = (ci, n)) : Sh E h a ci n := ⟨hn, Or.inr ⟨h1, h2⟩⟩
section CE
variable {lo : Nat} {ca : Nat → ClassId} {h h' : HP} {a ci n : Nat}
theorem ce_obj (hs : h.2.1 a = (ci, n)) (hc : ci < 13) : ce lo ca h a = .inr (ci, (List.range (nf ci)).map (fun j => cv lo (fv h ci a j))) := by simp [ce, hs, hc]
theorem ce_I (hs : h.2.1 a = (13, n)) : ce lo ca h a = .inl (ca 13, n, .inl (h.2.2.1 a)) := by simp [ce, hs]
theorem ce_Z (hs : h.2.1 a = (15, n)) : ce lo ca h a = .inl (ca 15, n, .inl (h.2.2.1 a)) := by simp [ce, hs]
theorem ce_J (hs : h.2.1 a = (14, n)) : ce lo ca h a = .inl (ca 14, n, .inr (.inl (h.2.2.2.1 a))) := by simp [ce, hs]
theorem ce_Q (hs : h.2.1 a = (ci, n)) (hk : 16 ≤ ci) : ce lo ca h a = .inl (ca ci, n, .inr (.inr (.inr (.inr (fun i => (h.2.2.2.2 a i).map (fun b => lo + b)))))) := by
  have h1 : ¬ ci < 13 := by omega
  have h2 : ¬ ci = 14 := by omega
  have h3 : ¬ ci < 16 := by omega
  simp [ce, hs, h1, h2, h3]
/-- the cell a is what the fields of h at a say -/
theorem ce_eq (h1 : h'.2.1 a = h.2.1 a) (h2 : h'.2.2.1 a = h.2.2.1 a) (h3 : h'.2.2.2.1 a = h.2.2.2.1 a) (h4 : h'.2.2.2.2 a = h.2.2.2.2 a) : ce lo ca h' a = ce lo ca h a := by
  simp only [ce, fv, h1, h2, h3, h4]
end CE
def up2 {α : Type} (f : Nat → Nat → α) (a j : Nat) (x : α) : Nat → Nat → α := fun b i => if b = a then (if i = j then x else f b i) else f b i
theorem up2_s {α : Type} {f : Nat → Nat → α} {a j : Nat} {x : α} : up2 f a j x a j = x := by simp [up2]
theorem up2_n {α : Type} {f : Nat → Nat → α} {a j b i : Nat} {x : α} (h : ¬ (b = a ∧ i = j)) : up2 f a j x b i = f b i := by
  by_cases h1 : b = a
  · by_cases h2 : i = j
    · exact absurd ⟨h1, h2⟩ h
    · simp [up2, h2]
  · simp [up2, h1]
theorem up2_o {α : Type} {f : Nat → Nat → α} {a j b : Nat} {x : α} (h : b ≠ a) : up2 f a j x b = f b := by funext i; simp [up2, h]
theorem RH.upd {lo : Nat} {D : va_G} {ca : Nat → ClassId} {h h' : HP} {H H' : Heap} {a : Nat} (hR : RH lo D ca h H) (hn : h'.1 = h.1) (ho : ∀ b, b ≠ a → ce lo ca h' b = ce lo ca h b) (e2 : H'.size = H.size) (e3 : ∀ q, q ≠ lo + a → H'[q]? = H[q]?) (he : a < h.1 → va_at D classes (lo + a, ce lo ca h' a) H') : RH lo D ca h' H' := by
  refine ⟨by rw [e2, hn]; exact hR.1, fun k q hq => ?_⟩
  obtain ⟨hk, rfl⟩ := ws_of hq
  rw [hn] at hk
  by_cases hka : k = a
  · subst hka
    exact he hk
  · rw [ho k hka]
    exact (hR.2 k _ (ws_at hk)).kept (e3 _ (by omega))
theorem RH.push {lo : Nat} {D : va_G} {ca : Nat → ClassId} {h h' : HP} {H H' : Heap} (hR : RH lo D ca h H) (hn : h'.1 = h.1 + 1) (ho : ∀ b, b < h.1 → ce lo ca h' b = ce lo ca h b) (e2 : H'.size = H.size + 1) (e3 : ∀ q, q < H.size → H'[q]? = H[q]?) (he : va_at D classes (lo + h.1, ce lo ca h' h.1) H') : RH lo D ca h' H' := by
  refine ⟨by rw [e2, hn, hR.1]; omega, fun k q hq => ?_⟩
  obtain ⟨hk, rfl⟩ := ws_of hq
  rw [hn] at hk
  by_cases hka : k = h.1
  · subst hka
    exact he
  · have hk2 : k < h.1 := by omega
    rw [ho k hk2]
    exact (hR.2 k _ (ws_at hk2)).kept (e3 _ (by rw [hR.1]; omega))
section HP1
variable {E : EV} {M : MD} {κ : Option Value → HP → Prop} {pc pc' : Nat} {L st : List Value} {h : HP} {cs ss : Nat} {a ci n j idx : Nat}
theorem CX.tb {p : Program} {s : State} {m : MethodId} {args : Array Value} {meth : Method} {c : Code} (C : CX M p s m args meth c) : ∀ w ∈ lw_u, w.before args s = true := C.2.2.2.2.2.1
theorem s_getV (hd : decode M.2.1 pc = .ok (.getfield idx, 3)) (hp : pc + 3 = pc') (hs : Sh E h a ci n) (hc : ci < 13) (hF : FA M.1.cls idx ci j) (k : SP E M κ pc' L (fv h ci a j :: st) h cs ss) : SP E M κ pc L (.ref a :: st) h cs ss := by
  subst hp
  intro p l e s m args below meth c lo D ca H locs ls C g1 g2 g3 g4 g5 g6
  obtain ⟨ha, hsh⟩ := hs.al g4
  obtain ⟨c1, c2, c3, c4, c5⟩ := clsF ci hc
  obtain ⟨hj, ref, hl, hsm⟩ := hF
  have he : (wsOf lo ca h)[a]? = some (lo + a, .inr (ci, (List.range (nf ci)).map (fun j => cv lo (fv h ci a j)))) := by rw [ws_at ha, ce_obj hsh hc]
  have hsame : ∀ x, s.fieldFound? ((cQ ci).2.1 j).1 ((cQ ci).2.1 j).2.1 ((cQ ci).2.1 j).2.2.1 = some x → s.fieldFound? ref ((cQ ci).2.1 j).2.1 ((cQ ci).2.1 j).2.2.1 = some x := fun x hx => by
    rcases hsm with e | e
    · rw [← e]; exact hx
    · exact u_same (C.tb _ e) x hx
  exact va_get C.1 C.2.1 C.tb c2 C.2.2.2.2.1 g2.1 g3.2 a he c1 j hj (C.tb _ hl) hsame (v := cv lo (fv h ci a j)) (by rw [List.getElem?_map, List.getElem?_range (by omega)]; rfl) hd (k p l e s m args below meth c lo D ca H locs ls C g1 g2 g3 g4 g5 g6)
theorem fv_I (ht : (ft ci j == 2) = false) : fv h ci a j = .int (h.2.2.1 a j) := by
  have : ¬ ft ci j = 2 := by simpa using ht
  simp [fv, this]
theorem fv_R (ht : ft ci j = 2) : fv h ci a j = vr (h.2.2.2.2 a j) := by simp [fv, ht]
theorem s_getI (hd : decode M.2.1 pc = .ok (.getfield idx, 3)) (hp : pc + 3 = pc') (hs : Sh E h a ci n) (hc : ci < 13) (hF : FA M.1.cls idx ci j) (ht : (ft ci j == 2) = false) (k : SP E M κ pc' L (.int (h.2.2.1 a j) :: st) h cs ss) : SP E M κ pc L (.ref a :: st) h cs ss := s_getV hd hp hs hc hF (by rw [fv_I ht]; exact k)
theorem s_getR {b : Nat} (hd : decode M.2.1 pc = .ok (.getfield idx, 3)) (hp : pc + 3 = pc') (hs : Sh E h a ci n) (hc : ci < 13) (hF : FA M.1.cls idx ci j) (ht : ft ci j = 2) (hr : h.2.2.2.2 a j = some b) (k : SP E M κ pc' L (.ref b :: st) h cs ss) : SP E M κ pc L (.ref a :: st) h cs ss := s_getV hd hp hs hc hF (by rw [fv_R ht, hr]; exact k)
theorem s_getS {b : Nat} (hd : decode M.2.1 pc = .ok (.getfield idx, 3)) (hp : pc + 3 = pc') (ha : a < E.1) (hs : E.2.1 a = (ci, 0)) (hc : ci < 13) (hF : FA M.1.cls idx ci j) (ht : ft ci j = 2) (hr : E.2.2 a j = some (some b)) (k : SP E M κ pc' L (.ref b :: st) h cs ss) : SP E M κ pc L (.ref a :: st) h cs ss := by
  intro p l e s m args below meth c lo D ca H locs ls C g1 g2 g3 g4 g5 g6
  exact s_getR hd hp (Sh.st (by decide) ha hs) hc hF ht (g4.2.2 a ha j _ hr) k p l e s m args below meth c lo D ca H locs ls C g1 g2 g3 g4 g5 g6
theorem s_putV {v : Value} {h' : HP} (hd : decode M.2.1 pc = .ok (.putfield idx, 3)) (hp : pc + 3 = pc') (hs : Sh E h a ci n) (hc : ci < 13) (hF : FA M.1.cls idx ci j) (hfin : ((cQ ci).2.1 j).2.2.2 = false ∨ (((cQ ci).2.1 j).2.2.2 = true ∧ M.1.name = "<init>" ∧ ((cQ ci).2.1 j).1 = M.1.cls))
    (hn : ∀ lo, narrow (cTy ci j) (cv lo v) = cv lo v) (hfit : ∀ lo, fits (cTy ci j) (cv lo v) = true) (h1' : h'.1 = h.1) (h2' : h'.2.1 = h.2.1) (hv : ∀ k, k < nf ci → fv h' ci a k = if k = j then v else fv h ci a k) (ho : ∀ lo ca b, b ≠ a → ce lo ca h' b = ce lo ca h b) (hw : WF E h → WF E h') (k : SP E M κ pc' L st h' cs ss) : SP E M κ pc L (v :: .ref a :: st) h cs ss := by
  subst hp
  intro p l e s m args below meth c lo D ca H locs ls C g1 g2 g3 g4 g5 g6
  obtain ⟨ha, hsh⟩ := hs.al g4
  obtain ⟨c1, c2, c3, c4, c5⟩ := clsF ci hc
  obtain ⟨hj, ref, hl, hsm⟩ := hF
  have he : (wsOf lo ca h)[a]? = some (lo + a, .inr (ci, (List.range (nf ci)).map (fun j => cv lo (fv h ci a j)))) := by rw [ws_at ha, ce_obj hsh hc]
  have hsame : ∀ x, s.fieldFound? ((cQ ci).2.1 j).1 ((cQ ci).2.1 j).2.1 ((cQ ci).2.1 j).2.2.1 = some x → s.fieldFound? ref ((cQ ci).2.1 j).2.1 ((cQ ci).2.1 j).2.2.1 = some x := fun x hx => by
    rcases hsm with e | e
    · rw [← e]; exact hx
    · exact u_same (C.tb _ e) x hx
  have hap := va_apart (own := M.1.cls) C.tb c2 (cTy ci) c3 c4 g2.1 c1
  obtain ⟨r, h1, cell, q1, q2, q3, q4⟩ := g3.2 a _ he
  have hr : r = ((cQ ci).1, (cQ ci).2.1, (cQ ci).2.2) := Option.some.inj (h1.symm.trans c1)
  subst hr
  obtain ⟨hS, hfc, kC, hkC, hkind⟩ := g2.1.1 ci _ c1
  obtain ⟨cf, kf, fi, f, hi, hsl⟩ := hS j hj
  have hlay := C.tb _ (c2 _ (u_in_lay hj))
  unfold u_lay at hlay
  have hst := (u_facts hfc hkC (u_lays C.tb c2 hj) hi).1
  have fin : ∀ H' : Heap, H'[lo + a]? = some (cell.setSlot f.slot (cv lo v)) → H'.size = H.size → (∀ q, q ≠ lo + a → H'[q]? = H[q]?) → W p l e (mRm M) s m args below meth c H' (locs ++ [⟨lo + a, f.slot⟩]) cs ss (MQ below (QK E κ lo D ca) args s M.2.2.2.2.2.1 M.2.2.2.2.2.2 (fun q => lo ≤ q)) (F0 m (pc + 3) ls (st.map (cv lo))) := by
    intro H' e1 e2 e3
    rw [hsl] at e1 ⊢
    have hob : t_OB (lo + a) (D.1 ci) (cQ ci).2.2 (D.2 ci) H' (updV (vp_V ((List.range (nf ci)).map (fun j => cv lo (fv h ci a j)))) j (cv lo v)) := ⟨_, e1, q2, q3, t_set q4 hap hj _⟩
    refine k p l e s m args below meth c lo D ca H' _ ls C g1 g2 (RH.upd (a := a) g3 h1' (fun b hb => ho lo ca b hb) e2 e3 (fun _ => ?_)) (hw g4) (g5.put e2 e3 (Nat.le_add_right _ _)) g6
    rw [ce_obj (h := h') (by rw [h2']; exact hsh) hc]
    refine ⟨_, c1, t_OB.to hob (fun i hi => ?_)⟩
    have hi2 : i < nf ci := by rw [← c5]; exact hi
    have e5 : ∀ f : Nat → Value, vp_V ((List.range (nf ci)).map f) i = f i := fun f => by
      show ((List.range (nf ci)).map f).getD i .null = f i
      rw [List.getD_eq_getElem?_getD, List.getElem?_map, List.getElem?_range hi2]; rfl
    rw [e5, hv i hi2]
    by_cases hij : i = j
    · subst hij; simp [updV]
    · simp only [updV, if_neg hij]; rw [e5]
  rcases hfin with hf | ⟨hf, hf2, hf3⟩
  · rw [if_neg (by rw [hf]; decide)] at hlay
    have h6 := u_store hfc hkC hkind hlay hi (c3 j hj) (hn lo) (hfit lo)
    exact W.putK C.1 C.2.1 (f := f) ⟨C.2.2.2.2.1, C.tb _ hl, ⟨_, _, _, hsame _ hi⟩, hst⟩ (by rw [q2]; exact h6) q1 q3 (by rw [hsl]; exact k2_hasslot (q4 j hj)) rfl rfl hd fin
  · rw [if_pos hf] at hlay
    have hcf : m.cls = cf := by
      obtain ⟨_, _, c', _, _, _, -, -, hf', -, -, -, hown2, -⟩ := Cond.laysFinal_spec hlay
      have e1 : c' = cf := by have := hi.symm.trans hf'; simp at this; exact this.1.symm
      rw [hf3] at hown2
      rw [← e1]; exact Option.some.inj (C.2.2.2.2.1.symm.trans hown2)
    have h6 := u_fits hfc hkC hkind (Or.inr hlay) hi (c3 j hj) (hn lo) (hfit lo)
    exact W.putFinK C.1 C.2.1 C.2.2.2.2.1 (C.tb _ hl) (hsame _ hi) hst hcf (by rw [C.2.2.2.2.2.2.2]; exact hf2) (by rw [q2]; exact h6) q1 q3 (by rw [hsl]; exact k2_hasslot (q4 j hj)) rfl rfl hd fin
theorem WF.I {h h' : HP} (e1 : h'.1 = h.1) (e2 : h'.2.1 = h.2.1) (e3 : h'.2.2.2.2 = h.2.2.2.2) (w : WF E h) : WF E h' := by
  unfold WF; rw [e1, e2, e3]; exact w
theorem s_putI {x : Int32} (hd : decode M.2.1 pc = .ok (.putfield idx, 3)) (hp : pc + 3 = pc') (hs : Sh E h a ci n) (hc : ci < 13) (hF : FA M.1.cls idx ci j) (hfin : ((cQ ci).2.1 j).2.2.2 = false ∨ (((cQ ci).2.1 j).2.2.2 = true ∧ M.1.name = "<init>" ∧ ((cQ ci).2.1 j).1 = M.1.cls)) (ht : (ft ci j == 2) = false)
    (hn : narrow (cTy ci j) (.int x) = .int x) (hfit : fits (cTy ci j) (.int x) = true) (k : SP E M κ pc' L st (h.1, h.2.1, up2 h.2.2.1 a j x, h.2.2.2.1, h.2.2.2.2) cs ss) : SP E M κ pc L (.int x :: .ref a :: st) h cs ss := by
  have ht2 : ¬ ft ci j = 2 := by simpa using ht
  refine s_putV (h' := (h.1, h.2.1, up2 h.2.2.1 a j x, h.2.2.2.1, h.2.2.2.2)) hd hp hs hc hF hfin (fun _ => hn) (fun _ => hfit) rfl rfl (fun i _ => ?_) (fun lo ca b hb => ce_eq rfl (up2_o hb) rfl rfl) (fun w => w.I rfl rfl rfl) k
  by_cases hi : i = j
  · subst hi; simp [fv, ht2, up2]
  · rw [if_neg hi]
    simp only [fv]
    by_cases h2 : ft ci i = 2
    · simp [h2]
    · simp [h2, up2, hi]
/-- a reference field that E does not hold fixed -/
theorem s_putR {r : Option Nat} (hd : decode M.2.1 pc = .ok (.putfield idx, 3)) (hp : pc + 3 = pc') (hs : Sh E h a ci n) (hc : ci < 13) (hF : FA M.1.cls idx ci j) (hfin : ((cQ ci).2.1 j).2.2.2 = false ∨ (((cQ ci).2.1 j).2.2.2 = true ∧ M.1.name = "<init>" ∧ ((cQ ci).2.1 j).1 = M.1.cls)) (ht : ft ci j = 2)
    (hx : a < E.1 → E.2.2 a j = none) (k : SP E M κ pc' L st (h.1, h.2.1, h.2.2.1, h.2.2.2.1, up2 h.2.2.2.2 a j r) cs ss) : SP E M κ pc L (vr r :: .ref a :: st) h cs ss := by
  have hrf : (cTy ci j).isReference = true := by
    have hj : j < nf ci := by rw [← (clsF ci hc).2.2.2.2]; exact hF.1
    rcases tyF ci hc j hj with ⟨h1, -⟩ | ⟨h1, -⟩ | ⟨-, h1⟩
    · rw [ht] at h1; cases h1
    · rw [ht] at h1; cases h1
    · exact h1
  refine s_putV (h' := (h.1, h.2.1, h.2.2.1, h.2.2.2.1, up2 h.2.2.2.2 a j r)) hd hp hs hc hF hfin (fun lo => ?_) (fun lo => ?_) rfl rfl (fun i _ => ?_) (fun lo ca b hb => ce_eq rfl rfl rfl (up2_o hb)) (fun w => ⟨w.1, w.2.1, fun b hb i v hv => ?_⟩) k
  · cases r <;> generalize cTy ci j = ty at hrf ⊢ <;> cases ty <;> first | rfl | cases hrf
  · cases r <;> generalize cTy ci j = ty at hrf ⊢ <;> cases ty <;> first | rfl | cases hrf
  · by_cases hi : i = j
    · subst hi; simp [fv, ht, up2]
    · rw [if_neg hi]
      simp [fv, up2, hi]
  · show up2 h.2.2.2.2 a j r b i = v
    rw [up2_n]
    · exact w.2.2 b hb i v hv
    · rintro ⟨rfl, rfl⟩
      rw [hx hb] at hv; cases hv
end HP1
end
section
section AR
variable {E : EV} {M : MD} {κ : Option Value → HP → Prop} {pc pc' : Nat} {L st : List Value} {h : HP} {cs ss : Nat} {a ci n q idx : Nat} {i : Int32}
theorem s_iald (hd : decode M.2.1 pc = .ok (.iaload, 1)) (hp : pc + 1 = pc') (hs : Sh E h a 13 n) (hi : i = nI q) (hq : q < n) (k : SP E M κ pc' L (.int (h.2.2.1 a q) :: st) h cs ss) : SP E M κ pc L (.int i :: .ref a :: st) h cs ss := by
  subst hp; subst hi
  intro p l e s m args below meth c lo D ca H locs ls C g1 g2 g3 g4 g5 g6
  obtain ⟨ha, hsh⟩ := hs.al g4
  have hn := hs.1
  have he := ws_at (lo := lo) (ca := ca) ha
  rw [ce_I hsh] at he
  refine va_iald C.1 C.2.1 g2.1 g3.2 a 0 he rfl (vp_in_nI hq (by omega)) hd ?_
  rw [nI_clamp (by omega)]
  exact k p l e s m args below meth c lo D ca H locs ls C g1 g2 g3 g4 g5 g6
theorem s_zald (hd : decode M.2.1 pc = .ok (.baload, 1)) (hp : pc + 1 = pc') (hs : Sh E h a 15 n) (hi : i = nI q) (hq : q < n) (k : SP E M κ pc' L (.int (h.2.2.1 a q) :: st) h cs ss) : SP E M κ pc L (.int i :: .ref a :: st) h cs ss := by
  subst hp; subst hi
  intro p l e s m args below meth c lo D ca H locs ls C g1 g2 g3 g4 g5 g6
  obtain ⟨ha, hsh⟩ := hs.al g4
  have hn := hs.1
  have he := ws_at (lo := lo) (ca := ca) ha
  rw [ce_Z hsh] at he
  refine va_zald C.1 C.2.1 g2.1 g3.2 a 2 he rfl (vp_in_nI hq (by omega)) hd ?_
  rw [nI_clamp (by omega)]
  exact k p l e s m args below meth c lo D ca H locs ls C g1 g2 g3 g4 g5 g6
theorem s_lald (hd : decode M.2.1 pc = .ok (.laload, 1)) (hp : pc + 1 = pc') (hs : Sh E h a 14 n) (hi : i = nI q) (hq : q < n) (k : SP E M κ pc' L (.long (h.2.2.2.1 a q) :: st) h cs ss) : SP E M κ pc L (.int i :: .ref a :: st) h cs ss := by
  subst hp; subst hi
  intro p l e s m args below meth c lo D ca H locs ls C g1 g2 g3 g4 g5 g6
  obtain ⟨ha, hsh⟩ := hs.al g4
  have hn := hs.1
  have he := ws_at (lo := lo) (ca := ca) ha
  rw [ce_J hsh] at he
  refine va_lald C.1 C.2.1 g2.1 g3.2 a 1 he rfl (vp_in_nI hq (by omega)) hd ?_
  rw [nI_clamp (by omega)]
  exact k p l e s m args below meth c lo D ca H locs ls C g1 g2 g3 g4 g5 g6
theorem cv_vr (lo : Nat) (r : Option Nat) : va_rf (r.map (fun b => lo + b)) = cv lo (vr r) := by cases r <;> rfl
theorem s_aaldV (hd : decode M.2.1 pc = .ok (.aaload, 1)) (hp : pc + 1 = pc') (hk : ci = 16 ∨ ci = 17) (hs : Sh E h a ci n) (hi : i = nI q) (hq : q < n) (k : SP E M κ pc' L (vr (h.2.2.2.2 a q) :: st) h cs ss) : SP E M κ pc L (.int i :: .ref a :: st) h cs ss := by
  subst hp; subst hi
  intro p l e s m args below meth c lo D ca H locs ls C g1 g2 g3 g4 g5 g6
  obtain ⟨ha, hsh⟩ := hs.al g4
  have hn := hs.1
  have he := ws_at (lo := lo) (ca := ca) ha
  rw [ce_Q hsh (by omega)] at he
  have harr : ∃ ty : FieldType, ty.isReference = true ∧ ArrOfT s (ca ci) ty := by
    rcases hk with rfl | rfl
    · exact ⟨_, rfl, (g2.1.2 3 _ rfl).1⟩
    · exact ⟨_, rfl, (g2.1.2 4 _ rfl).1⟩
  obtain ⟨ty, h1, h2⟩ := harr
  have hcell : H[lo + a]? = some (arrV (ca ci) n (fun j => va_rf ((h.2.2.2.2 a j).map (fun b => lo + b)))) := g3.2 a _ he
  have hin : ¬ (nI q < 0 ∨ n ≤ (nI q).toNatClampNeg) := vp_in_nI hq (by omega)
  refine W.aald C.1 C.2.1 hcell (h2 n (fun j => va_rf ((h.2.2.2.2 a j).map (fun b => lo + b)))) h1 (fun q => by cases q) (by rw [arrV_size]; exact hin) (v := va_rf ((h.2.2.2.2 a q).map (fun b => lo + b))) (by rw [nI_clamp (by omega)]; exact arrV_read _ _ hq) rfl rfl hd ?_
  rw [cv_vr]
  exact k p l e s m args below meth c lo D ca H locs ls C g1 g2 g3 g4 g5 g6
theorem s_aald {b : Nat} (hd : decode M.2.1 pc = .ok (.aaload, 1)) (hp : pc + 1 = pc') (hk : ci = 16 ∨ ci = 17) (hs : Sh E h a ci n) (hi : i = nI q) (hq : q < n) (hb : h.2.2.2.2 a q = some b) (k : SP E M κ pc' L (.ref b :: st) h cs ss) : SP E M κ pc L (.int i :: .ref a :: st) h cs ss := s_aaldV hd hp hk hs hi hq (by rw [hb]; exact k)
theorem s_alen (hd : decode M.2.1 pc = .ok (.arraylength, 1)) (hp : pc + 1 = pc') (hk : ci = 13 ∨ ci = 14) (hs : Sh E h a ci n) (k : SP E M κ pc' L (.int (nI n) :: st) h cs ss) : SP E M κ pc L (.ref a :: st) h cs ss := by
  subst hp
  intro p l e s m args below meth c lo D ca H locs ls C g1 g2 g3 g4 g5 g6
  obtain ⟨ha, hsh⟩ := hs.al g4
  have he := ws_at (lo := lo) (ca := ca) ha
  rcases hk with rfl | rfl
  · rw [ce_I hsh] at he
    exact va_alen C.1 C.2.1 g2.1 g3.2 a 0 he rfl rfl hd (k p l e s m args below meth c lo D ca H locs ls C g1 g2 g3 g4 g5 g6)
  · rw [ce_J hsh] at he
    exact va_alen C.1 C.2.1 g2.1 g3.2 a 1 he rfl rfl hd (k p l e s m args below meth c lo D ca H locs ls C g1 g2 g3 g4 g5 g6)
theorem s_iast {x : Int32} (hd : decode M.2.1 pc = .ok (.iastore, 1)) (hp : pc + 1 = pc') (hs : Sh E h a 13 n) (hi : i = nI q) (hq : q < n) (k : SP E M κ pc' L st (h.1, h.2.1, up2 h.2.2.1 a q x, h.2.2.2.1, h.2.2.2.2) cs ss) : SP E M κ pc L (.int x :: .int i :: .ref a :: st) h cs ss := by
  subst hp; subst hi
  intro p l e s m args below meth c lo D ca H locs ls C g1 g2 g3 g4 g5 g6
  obtain ⟨ha, hsh⟩ := hs.al g4
  have hn := hs.1
  have he := ws_at (lo := lo) (ca := ca) ha
  rw [ce_I hsh] at he
  have hcell : H[lo + a]? = some (arrV (ca 13) n (fun j => .int (h.2.2.1 a j))) := g3.2 a _ he
  have hin : ¬ (nI q < 0 ∨ n ≤ (nI q).toNatClampNeg) := vp_in_nI hq (by omega)
  refine W.iast C.1 C.2.1 hcell ((g2.1.2 0 _ rfl).1 n (fun j => .int (h.2.2.1 a j))) (fun q => by cases q) (by rw [arrV_size]; exact hin) rfl rfl hd fun H1 ee z oq => ?_
  refine k p l e s m args below meth c lo D ca H1 _ ls C g1 g2 (RH.upd (a := a) (h' := (h.1, h.2.1, up2 h.2.2.1 a q x, h.2.2.2.1, h.2.2.2.2)) g3 rfl (fun b hb => ce_eq rfl (up2_o hb) rfl rfl) z oq (fun _ => ?_)) (g4.I rfl rfl rfl) (g5.put z oq (Nat.le_add_right _ _)) g6
  rw [ce_I (h := (h.1, h.2.1, up2 h.2.2.1 a q x, h.2.2.2.1, h.2.2.2.2)) hsh]
  show H1[lo + a]? = some (vp_cell _ _)
  rw [ee, nI_clamp (by omega)]
  rw [vp_cell_i, arrV_store]
  congr 2
  funext j
  by_cases hj : j = q
  · subst hj; simp [updV, up2]
  · simp [updV, up2, hj]
theorem s_last {x : Int64} (hd : decode M.2.1 pc = .ok (.lastore, 1)) (hp : pc + 1 = pc') (hs : Sh E h a 14 n) (hi : i = nI q) (hq : q < n) (k : SP E M κ pc' L st (h.1, h.2.1, h.2.2.1, up2 h.2.2.2.1 a q x, h.2.2.2.2) cs ss) : SP E M κ pc L (.long x :: .int i :: .ref a :: st) h cs ss := by
  subst hp; subst hi
  intro p l e s m args below meth c lo D ca H locs ls C g1 g2 g3 g4 g5 g6
  obtain ⟨ha, hsh⟩ := hs.al g4
  have hn := hs.1
  have he := ws_at (lo := lo) (ca := ca) ha
  rw [ce_J hsh] at he
  have hcell : H[lo + a]? = some (arrV (ca 14) n (fun j => .long (h.2.2.2.1 a j))) := g3.2 a _ he
  have hin : ¬ (nI q < 0 ∨ n ≤ (nI q).toNatClampNeg) := vp_in_nI hq (by omega)
  refine W.last C.1 C.2.1 hcell ((g2.1.2 1 _ rfl).1 n (fun j => .long (h.2.2.2.1 a j))) (fun q => by cases q) (by rw [arrV_size]; exact hin) rfl rfl hd fun H1 ee z oq => ?_
  refine k p l e s m args below meth c lo D ca H1 _ ls C g1 g2 (RH.upd (a := a) (h' := (h.1, h.2.1, h.2.2.1, up2 h.2.2.2.1 a q x, h.2.2.2.2)) g3 rfl (fun b hb => ce_eq rfl rfl (up2_o hb) rfl) z oq (fun _ => ?_)) (g4.I rfl rfl rfl) (g5.put z oq (Nat.le_add_right _ _)) g6
  rw [ce_J (h := (h.1, h.2.1, h.2.2.1, up2 h.2.2.2.1 a q x, h.2.2.2.2)) hsh]
  show H1[lo + a]? = some (vp_cell _ _)
  rw [ee, nI_clamp (by omega)]
  rw [vp_cell_l, arrV_store]
  congr 2
  funext j
  by_cases hj : j = q
  · subst hj; simp [updV, up2]
  · simp [updV, up2, hj]
theorem s_zast {x : Int32} (hd : decode M.2.1 pc = .ok (.bastore, 1)) (hp : pc + 1 = pc') (hs : Sh E h a 15 n) (hi : i = nI q) (hq : q < n) (hx : narrow .boolean (.int x) = .int x) (k : SP E M κ pc' L st (h.1, h.2.1, up2 h.2.2.1 a q x, h.2.2.2.1, h.2.2.2.2) cs ss) : SP E M κ pc L (.int x :: .int i :: .ref a :: st) h cs ss := by
  subst hp; subst hi
  intro p l e s m args below meth c lo D ca H locs ls C g1 g2 g3 g4 g5 g6
  obtain ⟨ha, hsh⟩ := hs.al g4
  have hn := hs.1
  have he := ws_at (lo := lo) (ca := ca) ha
  rw [ce_Z hsh] at he
  have hcell : H[lo + a]? = some (arrV (ca 15) n (fun j => .int (h.2.2.1 a j))) := g3.2 a _ he
  have hin : ¬ (nI q < 0 ∨ n ≤ (nI q).toNatClampNeg) := vp_in_nI hq (by omega)
  refine W.zast C.1 C.2.1 hcell ((g2.1.2 2 _ rfl).1 n (fun j => .int (h.2.2.1 a j))) (fun q => by cases q) (by rw [arrV_size]; exact hin) rfl rfl hd fun H1 ee z oq => ?_
  refine k p l e s m args below meth c lo D ca H1 _ ls C g1 g2 (RH.upd (a := a) (h' := (h.1, h.2.1, up2 h.2.2.1 a q x, h.2.2.2.1, h.2.2.2.2)) g3 rfl (fun b hb => ce_eq rfl (up2_o hb) rfl rfl) z oq (fun _ => ?_)) (g4.I rfl rfl rfl) (g5.put z oq (Nat.le_add_right _ _)) g6
  rw [ce_Z (h := (h.1, h.2.1, up2 h.2.2.1 a q x, h.2.2.2.1, h.2.2.2.2)) hsh]
  show H1[lo + a]? = some (vp_cell _ _)
  rw [ee, nI_clamp (by omega)]
  rw [hx]
  rw [vp_cell_i, arrV_store]
  congr 2
  funext j
  by_cases hj : j = q
  · subst hj; simp [updV, up2]
  · simp [updV, up2, hj]
/-- the kinds of rules -/
def rk (ci : Nat) : Bool := [0, 2, 3, 4, 6, 7, 10].contains ci
theorem rk_of {ci : Nat} (h : rk ci = true) : ci = 0 ∨ ci = 2 ∨ ci = 3 ∨ ci = 4 ∨ ci = 6 ∨ ci = 7 ∨ ci = 10 := by simpa [rk] using h
theorem rk_lt {ci : Nat} (h : rk ci = true) : ci < 13 := by rcases rk_of h with rfl | rfl | rfl | rfl | rfl | rfl | rfl <;> decide
theorem rk_cast {ci : Nat} (h : rk ci = true) : ci = 6 ∨ Cond.castable (cQ ci).1 RX6 ∈ lw_u := by
  rcases rk_of h with rfl | rfl | rfl | rfl | rfl | rfl | rfl
  · exact Or.inr ct_X0_X6
  · exact Or.inr ct_X2_X6
  · exact Or.inr ct_X3_X6
  · exact Or.inr ct_X4_X6
  · exact Or.inl rfl
  · exact Or.inr ct_X7_X6
  · exact Or.inr ct_X10_X6
/-- a rule into a row of rules -/
theorem s_aast {b : Nat} (hd : decode M.2.1 pc = .ok (.aastore, 1)) (hp : pc + 1 = pc') (hs : Sh E h a 16 n) (hi : i = nI q) (hq : q < n) (hb : Sh E h b ci 0) (hk : rk ci = true) (hx : a < E.1 → ∀ j, E.2.2 a j = none) (k : SP E M κ pc' L st (h.1, h.2.1, h.2.2.1, h.2.2.2.1, up2 h.2.2.2.2 a q (some b)) cs ss) : SP E M κ pc L (.ref b :: .int i :: .ref a :: st) h cs ss := by
  subst hp; subst hi
  intro p l e s m args below meth c lo D ca H locs ls C g1 g2 g3 g4 g5 g6
  obtain ⟨ha, hsh⟩ := hs.al g4
  obtain ⟨hb1, hb2⟩ := hb.al g4
  have hn := hs.1
  have he := ws_at (lo := lo) (ca := ca) ha
  rw [ce_Q hsh (by omega)] at he
  have hv := ws_at (lo := lo) (ca := ca) hb1
  rw [ce_obj hb2 (rk_lt hk)] at hv
  have c1 := (clsF ci (rk_lt hk)).1
  obtain ⟨r', hr', cellV, k1, k2, k3, -⟩ := g3.2 b _ hv
  obtain ⟨-, hfc, kC, hkC, -⟩ := g2.1.1 ci _ c1
  obtain ⟨kA, comp, w1, w2, w3, -⟩ := (g2.1.2 3 _ rfl).2
  have hat6 := (g2.1.1 6 (RX6, TX6, 10) rfl).2
  have hcomp : comp = D.1 6 := Option.some.inj (w3.symm.trans hat6.1)
  subst hcomp
  obtain ⟨k6, hk6, -⟩ := hat6.2
  have hasg : s.vm.assignable (D.1 ci) (D.1 6) = true := by
    rcases rk_cast hk with rfl | hca
    · exact va_assign hat6
    · obtain ⟨x1, x2, z1, z2, z3⟩ := Cond.castable_spec (C.tb _ hca)
      have e1 : x1 = D.1 ci := Option.some.inj (z1.symm.trans hfc)
      have e2 : x2 = D.1 6 := Option.some.inj (z2.symm.trans hat6.1)
      rw [← e1, ← e2]; exact z3
  have hcell : H[lo + a]? = some (arrV (ca 16) n (fun j => va_rf ((h.2.2.2.2 a j).map (fun b => lo + b)))) := g3.2 a _ he
  refine W.aast C.1 C.2.1 hcell (fun q h => by cases h) (fun h => by cases h) w1 w2 rfl hk6 ⟨fun z => (vp_in_nI hq (by omega)) (Or.inl z), by rw [arrV_size, nI_clamp (by omega)]; exact hq⟩ k1 (fun q h => by rw [k3] at h; cases h) (by rw [k2]; exact hkC) (by rw [k2]; exact hasg) rfl rfl hd fun H1 ee z oq => ?_
  refine k p l e s m args below meth c lo D ca H1 _ ls C g1 g2 (RH.upd (a := a) (h' := (h.1, h.2.1, h.2.2.1, h.2.2.2.1, up2 h.2.2.2.2 a q (some b))) g3 rfl (fun b hb => ce_eq rfl rfl rfl (up2_o hb)) z oq (fun _ => ?_)) ⟨g4.1, g4.2.1, fun y hy j v hv => ?_⟩ (g5.put z oq (Nat.le_add_right _ _)) g6
  · rw [ce_Q (h := (h.1, h.2.1, h.2.2.1, h.2.2.2.1, up2 h.2.2.2.2 a q (some b))) hsh (by omega)]
    show H1[lo + a]? = some (vp_cell _ _)
    rw [ee, nI_clamp (by omega)]
    rw [vp_cell_q, arrV_store]
    congr 2
    funext j
    by_cases hj : j = q
    · subst hj; simp [updV, up2, va_rf]
    · simp [updV, up2, hj]
  · show up2 h.2.2.2.2 a q (some b) y j = v
    rw [up2_n]
    · exact g4.2.2 y hy j v hv
    · rintro ⟨rfl, rfl⟩
      rw [hx hy] at hv; cases hv
end AR
end
section
theorem good_ws {M' : MD} (hc : Cond.code M'.1 M'.2.1 M'.2.2.1 M'.2.2.2.1 ∈ lw_u) : GoodIn lw_u (mWs M') := by
  intro w hw
  rcases List.mem_cons.mp hw with rfl | h
  · exact ⟨hc, good_of_word rfl⟩
  · exact ⟨(List.mem_filter.mp h).1, good_of_word (List.mem_filter.mp h).2⟩
theorem good_in {M' : MD} (hc : Cond.code M'.1 M'.2.1 M'.2.2.1 M'.2.2.2.1 ∈ lw_u) {l : List Cond} (hl : ∀ w ∈ l, w ∈ lw_u ∧ goodWord w = true) : GoodIn lw_u (l ++ mWs M') := by
  intro w hw
  rcases List.mem_append.mp hw with h | h
  · exact ⟨(hl w h).1, good_of_word (hl w h).2⟩
  · exact good_ws hc w h
theorem cat_sum (lo : Nat) (st : List Value) : ((st.map (cv lo)).map fun v => v.category).sum = (st.map fun v => v.category).sum := by
  rw [List.map_map]
  congr 1
  apply List.map_congr_left
  intro v _
  exact cv_cat lo v
theorem PK.blind {E : EV} {av : List Value} {h : HP} {lo : Nat} {D : va_G} {ca : Nat → ClassId} : FrameBlind (PK E av h lo D ca) := by
  intro a U g mk q
  obtain ⟨q1, q2, q3, q4, q5⟩ := q
  exact ⟨q1, q2, q3, q4, KW.same (u := U) (U := U.calling g mk a) rfl q5⟩
theorem w_call {E : EV} {M : MD} {κ' : Option Value → HP → Prop} {p : Program} {l : Launch} {e : Env} {s : State} {m : MethodId} {args aa : Array Value} {below : List Frame} {meth : Method} {c : Code} {lo : Nat} {D : va_G} {ca : Nat → ClassId} {H : Heap} {locs : List Loc} {ls : Array Slot} {cs ss mc' ms' pc : Nat} {st0 rest : List Value} {Q : State → Prop}
    (hr : va_Run p l e (mRm M) s m args below meth c H locs cs ss mc' ms' (F0 m pc ls st0) rest (QK E κ' lo D ca aa) (fun q => lo ≤ q)) (hS : va_S (fun q => lo ≤ q) s.heap H locs)
    (kk : ∀ (r : Option Value) (h' : HP) (H1 : Heap) (locs1 : List Loc), κ' r h' → RH lo D ca h' H1 → WF E h' → va_S (fun q => lo ≤ q) s.heap H1 locs1 → W p l e (mRm M) s m args below meth c H1 locs1 (cs + mc') (ss + ms') Q (F0 m (pc + 3) ls ((r.map (cv lo)).toList ++ rest))) : W p l e (mRm M) s m args below meth c H locs cs ss Q (F0 m pc ls st0) := by
  intro T hT X
  obtain ⟨v, st₀, t, T', L, h0, X', hL, e1, e2, ⟨r, h', hv, hκ, hR, hW, hF⟩, st⟩ := hr T hT X
  have hv' : v = r.map (cv lo) := by injection hv
  subst hv'
  have hz : H.size ≤ T'.heap.size := by rw [e1, ← h0]; exact hF.1
  obtain ⟨t2, a1, b1⟩ := kk r h' T'.heap (locs ++ L) hκ (by rw [e1]; exact hR) hW ⟨Nat.le_trans hS.1 hz, fun q q1 q2 => by
      have := hF.2 q (by rw [h0]; exact Nat.lt_of_lt_of_le q1 hS.1) q2
      rw [h0, ← e1] at this
      exact this.trans (hS.2.1 q q1 q2), fun q hq => by
      rcases List.mem_append.mp hq with h | h
      · exact hS.2.2 q h
      · exact hL q h⟩ T' rfl X'
  exact ⟨t2, st t2 a1, b1⟩
/-- room for a call -/
def RM (M M' : MD) (cs ss : Nat) : Prop := M'.2.2.2.2.1 + 1 ≤ M.2.2.2.2.1 ∧ M'.2.2.1 ≤ 21 ∧ cs + M'.2.2.2.2.2.1 ≤ M.2.2.2.2.2.1 ∧ ss + M'.2.2.2.2.2.2 ≤ M.2.2.2.2.2.2
theorem RM.R {M M' : MD} {cs ss : Nat} (h : RM M M' cs ss) : (mRm M').frames + 1 ≤ (mRm M).frames ∧ 8 + (M'.2.2.1 + 11) + (mRm M').locals ≤ (mRm M).locals := by
  obtain ⟨h1, h2, -, -⟩ := h
  exact ⟨h1, by show 8 + (M'.2.2.1 + 11) + 40 * M'.2.2.2.2.1 ≤ 40 * M.2.2.2.2.1; omega⟩
section CL
variable {E : EV} {M M' : MD} {κ : Option Value → HP → Prop} {pc pc' : Nat} {L st stk As : List Value} {h : HP} {cs ss : Nat} {a ci n np idx : Nat}
theorem PK.of {p : Program} {s : State} {m : MethodId} {args : Array Value} {meth : Method} {c : Code} {lo : Nat} {D : va_G} {ca : Nat → ClassId} {H : Heap} {locs : List Loc} {av : List Value} (g1 : lo ≤ s.heap.size) (g2 : KW D ca s) (g3 : RH lo D ca h H) (g4 : WF E h) (g5 : va_S (fun q => lo ≤ q) s.heap H locs) : ∀ U : State, U.heap = H → s.WarmedH U.vm → PK E av h lo D ca (av.map (cv lo)).toArray U :=
  fun U hU hW => ⟨rfl, by rw [hU]; exact Nat.le_trans g1 g5.1, by rw [hU]; exact g3, g4, KW.warm hW g2⟩
theorem cont {r : Option Value} {lo : Nat} : (r.map (cv lo)).toList ++ st.map (cv lo) = (r.toList ++ st).map (cv lo) := by cases r <;> rfl
theorem s_callV (hd : decode M.2.1 pc = .ok (.invokevirtual idx, 3)) (hp : pc + 3 = pc') (hM : MOK M' np) (hl : Cond.methodLink M.1.cls idx M'.1 ∈ lw_u) (hi : Cond.instanceMethod M'.1 ∈ lw_u) (hse : Cond.selects M'.1.cls M'.1 M'.1 ∈ lw_u) (hs : Sh E h a ci n) (hc : ci < 13) (hC : (cQ ci).1 = M'.1.cls) (hk : stk = As.reverse ++ .ref a :: st) (hn : As.length = np) (hrm : RM M M' cs ss) (hst : (st.map fun v => v.category).sum ≤ 8) (k : CT E M' (.ref a :: As) h (fun r h' => SP E M κ pc' L (r.toList ++ st) h' (cs + M'.2.2.2.2.2.1) (ss + M'.2.2.2.2.2.2))) : SP E M κ pc L stk h cs ss := by
  subst hp; subst hk
  intro p l e s m args below meth c lo D ca H locs ls C g1 g2 g3 g4 g5 g6
  have hmet := k l lo D ca
  obtain ⟨ha, hsh⟩ := hs.al g4
  have he := ws_at (lo := lo) (ca := ca) ha
  rw [ce_obj hsh hc] at he
  have c1 := (clsF ci hc).1
  have hrecv := va_recv g2.1 g3.2 c1 he
  have hall : ∀ w ∈ lw_u, w.before args s = true := C.tb
  rw [hC] at hrecv
  refine w_call (va_runV (As := As.map (cv lo)) (rest := st.map (cv lo)) (b := lo + a) ⟨C.1, C.2.1, C.2.2.2.1, C.2.2.2.2.1, C.2.2.2.2.2.1⟩ hmet (cwV np C.2.2.2.2.2.1 (good_in hM.1 (l := [.methodLink M.1.cls idx M'.1, .instanceMethod M'.1, .selects M'.1.cls M'.1 M'.1, .initialized M'.1.cls]) (by
    intro w hw
    simp only [List.mem_cons, List.not_mem_nil, or_false] at hw
    rcases hw with rfl | rfl | rfl | rfl
    · exact ⟨hl, rfl⟩
    · exact ⟨hi, rfl⟩
    · exact ⟨hse, rfl⟩
    · exact ⟨hM.2.1, rfl⟩)) rfl rfl rfl ⟨rfl, hM.2.2.1⟩ hrm.R) ⟨PK.blind, hrecv, PK.of (av := .ref a :: As) (p := p) (m := m) (args := args) (meth := meth) (c := c) g1 g2 g3 g4 g5⟩ rfl (by rw [List.length_map]; exact hn) g6.2.1 (by rw [List.map_append, List.map_reverse]; rfl) (lv_room (by rw [cat_sum]; exact hst)) hd ⟨hrm.2.2.1, hrm.2.2.2⟩) g5 ?_
  intro r h' H1 locs1 hκ hR hW hS
  rw [cont]
  exact hκ p l e s m args below meth c lo D ca H1 locs1 ls C g1 g2 hR hW hS g6

theorem s_callS (hd : decode M.2.1 pc = .ok (.invokestatic idx, 3)) (hp : pc + 3 = pc') (hM : MOK M' np) (hl : Cond.methodLink M.1.cls idx M'.1 ∈ lw_u) (hi : Cond.static M'.1 ∈ lw_u) (hk : stk = As.reverse ++ st) (hn : As.length = np) (hrm : RM M M' cs ss) (hst : (st.map fun v => v.category).sum ≤ 8) (k : CT E M' As h (fun r h' => SP E M κ pc' L (r.toList ++ st) h' (cs + M'.2.2.2.2.2.1) (ss + M'.2.2.2.2.2.2))) : SP E M κ pc L stk h cs ss := by
  subst hp; subst hk
  intro p l e s m args below meth c lo D ca H locs ls C g1 g2 g3 g4 g5 g6
  have hmet := k l lo D ca
  refine w_call (va_runS (As := As.map (cv lo)) (rest := st.map (cv lo)) ⟨C.1, C.2.1, C.2.2.2.1, C.2.2.2.2.1, C.2.2.2.2.2.1⟩ hmet (va_cwS np C.2.2.2.2.2.1 (good_in hM.1 (l := [.methodLink M.1.cls idx M'.1, .static M'.1, .initialized M'.1.cls]) (by
    intro w hw
    simp only [List.mem_cons, List.not_mem_nil, or_false] at hw
    rcases hw with rfl | rfl | rfl
    · exact ⟨hl, rfl⟩
    · exact ⟨hi, rfl⟩
    · exact ⟨hM.2.1, rfl⟩)) rfl rfl rfl hM.2.2.1 hrm.R) ⟨PK.blind, PK.of (av := As) (p := p) (m := m) (args := args) (meth := meth) (c := c) g1 g2 g3 g4 g5⟩ rfl (by rw [List.length_map]; exact hn) g6.2.1 (by rw [List.map_append, List.map_reverse]) (lv_room (by rw [cat_sum]; exact hst)) hd ⟨hrm.2.2.1, hrm.2.2.2⟩) g5 ?_
  intro r h' H1 locs1 hκ hR hW hS
  rw [cont]
  exact hκ p l e s m args below meth c lo D ca H1 locs1 ls C g1 g2 hR hW hS g6

theorem s_callSN {host : String} (hd : decode M.2.1 pc = .ok (.invokestatic idx, 3)) (hp : pc + 3 = pc') (hM : MOK M' np) (hl : Cond.methodLinkNest M.1.cls idx M'.1 host ∈ lw_u) (hi : Cond.static M'.1 ∈ lw_u) (hk : stk = As.reverse ++ st) (hn : As.length = np) (hrm : RM M M' cs ss) (hst : (st.map fun v => v.category).sum ≤ 8) (k : CT E M' As h (fun r h' => SP E M κ pc' L (r.toList ++ st) h' (cs + M'.2.2.2.2.2.1) (ss + M'.2.2.2.2.2.2))) : SP E M κ pc L stk h cs ss := by
  subst hp; subst hk
  intro p l e s m args below meth c lo D ca H locs ls C g1 g2 g3 g4 g5 g6
  have hmet := k l lo D ca
  refine w_call (va_runSN (As := As.map (cv lo)) (rest := st.map (cv lo)) (host := host) ⟨C.1, C.2.1, C.2.2.2.1, C.2.2.2.2.1, C.2.2.2.2.2.1⟩ hmet ⟨va_cnB np C.2.2.2.2.2.1 (good_ws hM.1) rfl rfl rfl (va_Nw.of rfl (C.tb _ hl)) (C.tb _ hM.2.1) hM.2.2.1 hrm.R, C.tb _ hi, trivial⟩ ⟨PK.blind, PK.of (av := As) (p := p) (m := m) (args := args) (meth := meth) (c := c) g1 g2 g3 g4 g5⟩ rfl (by rw [List.length_map]; exact hn) g6.2.1 (by rw [List.map_append, List.map_reverse]) (lv_room (by rw [cat_sum]; exact hst)) hd ⟨hrm.2.2.1, hrm.2.2.2⟩) g5 ?_
  intro r h' H1 locs1 hκ hR hW hS
  rw [cont]
  exact hκ p l e s m args below meth c lo D ca H1 locs1 ls C g1 g2 hR hW hS g6

theorem s_callI (hd : decode M.2.1 pc = .ok (.invokespecial idx, 3)) (hp : pc + 3 = pc') (hM : MOK M' np) (hl : Cond.methodLink M.1.cls idx M'.1 ∈ lw_u) (hi : Cond.instanceMethod M'.1 ∈ lw_u) (hy : M'.1.name = "<init>") (hrt : M'.2.2.2.1 = none) (hk : stk = As.reverse ++ .ref a :: st) (hn : As.length = np) (hrm : RM M M' cs ss) (hst : (st.map fun v => v.category).sum ≤ 8) (k : CT E M' (.ref a :: As) h (fun r h' => SP E M κ pc' L (r.toList ++ st) h' (cs + M'.2.2.2.2.2.1) (ss + M'.2.2.2.2.2.2))) : SP E M κ pc L stk h cs ss := by
  subst hp; subst hk
  intro p l e s m args below meth c lo D ca H locs ls C g1 g2 g3 g4 g5 g6
  have hmet := k l lo D ca
  refine w_call (va_runI (As := As.map (cv lo)) (rest := st.map (cv lo)) (b := lo + a) ⟨C.1, C.2.1, C.2.2.2.1, C.2.2.2.2.1, C.2.2.2.2.2.1⟩ hmet (cwI (bytes := M'.2.1) (maxL := M'.2.2.1) (ws' := lw_g) np C.2.2.2.2.2.1 (good_ws hM.1) (by rw [← hrt]) rfl rfl (C.tb _ hM.2.1) (C.tb _ hl) (C.tb _ hi) hy hM.2.2.1 hrm.R) ⟨PK.blind, PK.of (av := .ref a :: As) (p := p) (m := m) (args := args) (meth := meth) (c := c) g1 g2 g3 g4 g5⟩ rfl (by rw [List.length_map]; exact hn) g6.2.1 (by rw [List.map_append, List.map_reverse]; rfl) (lv_room (by rw [cat_sum]; exact hst)) hd ⟨hrm.2.2.1, hrm.2.2.2⟩) g5 ?_
  intro r h' H1 locs1 hκ hR hW hS
  rw [cont]
  exact hκ p l e s m args below meth c lo D ca H1 locs1 ls C g1 g2 hR hW hS g6

theorem s_callIN {host : String} (hd : decode M.2.1 pc = .ok (.invokespecial idx, 3)) (hp : pc + 3 = pc') (hM : MOK M' np) (hl : Cond.methodLinkNest M.1.cls idx M'.1 host ∈ lw_u) (hi : Cond.instanceMethod M'.1 ∈ lw_u) (hy : M'.1.name = "<init>") (hrt : M'.2.2.2.1 = none) (hk : stk = As.reverse ++ .ref a :: st) (hn : As.length = np) (hrm : RM M M' cs ss) (hst : (st.map fun v => v.category).sum ≤ 8) (k : CT E M' (.ref a :: As) h (fun r h' => SP E M κ pc' L (r.toList ++ st) h' (cs + M'.2.2.2.2.2.1) (ss + M'.2.2.2.2.2.2))) : SP E M κ pc L stk h cs ss := by
  subst hp; subst hk
  intro p l e s m args below meth c lo D ca H locs ls C g1 g2 g3 g4 g5 g6
  have hmet := k l lo D ca
  refine w_call (va_runIN (As := As.map (cv lo)) (rest := st.map (cv lo)) (b := lo + a) (host := host) ⟨C.1, C.2.1, C.2.2.2.1, C.2.2.2.2.1, C.2.2.2.2.2.1⟩ hmet ⟨va_cnB (bytes := M'.2.1) (maxL := M'.2.2.1) (ws' := lw_g) np C.2.2.2.2.2.1 (good_ws hM.1) (by rw [← hrt]) rfl rfl (va_Nw.of rfl (C.tb _ hl)) (C.tb _ hM.2.1) hM.2.2.1 hrm.R, hy, C.tb _ hi⟩ ⟨PK.blind, PK.of (av := .ref a :: As) (p := p) (m := m) (args := args) (meth := meth) (c := c) g1 g2 g3 g4 g5⟩ rfl (by rw [List.length_map]; exact hn) g6.2.1 (by rw [List.map_append, List.map_reverse]; rfl) (lv_room (by rw [cat_sum]; exact hst)) hd ⟨hrm.2.2.1, hrm.2.2.2⟩) g5 ?_
  intro r h' H1 locs1 hκ hR hW hS
  rw [cont]
  exact hκ p l e s m args below meth c lo D ca H1 locs1 ls C g1 g2 hR hW hS g6

theorem s_objInit (hd : decode M.2.1 pc = .ok (.invokespecial idx, 3)) (hp : pc + 3 = pc') (hl : Cond.methodLink M.1.cls idx objectInit ∈ lw_u) (hdp : 1 ≤ M.2.2.2.2.1) (hst : (st.map fun v => v.category).sum ≤ 8) (k : SP E M κ pc' L st h cs ss) : SP E M κ pc L (.ref a :: st) h cs ss := by
  subst hp
  intro p l e s m args below meth c lo D ca H locs ls C g1 g2 g3 g4 g5 g6
  refine W.objInit C.1 C.2.1 C.2.2.2.2.1 (C.tb _ hl) (C.tb _ im_Obj_init) (C.tb _ co_Obj_init) rfl (by rw [C.2.2.2.1]; exact g6.2.1) rfl hd hdp ?_ (k p l e s m args below meth c lo D ca H locs ls C g1 g2 g3 g4 g5 g6)
  have := lv_room (m := m) (pc := pc) (ls := ls) (rest := (Value.ref a :: st).map (cv lo)) (st := st.map (cv lo)) (by rw [cat_sum]; exact hst)
  show _ ≤ 40 * M.2.2.2.2.1
  omega
end CL
end
