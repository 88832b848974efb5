section
-- ===== PART A: goes FIRST, ahead of the names: the tables' words, and 'selects' of the private methods out of them =====
/-- a private method of a class that the tables say can be made, by its rows of tables_1 -/
def lw_okq (q : MethodName × Nat) : Prop := (q.1.cls ≠ "java/lang/invoke/MethodHandle" ∧ q.1.cls ≠ "java/lang/invoke/VarHandle") ∧ Cond.instantiable q.1.cls q.2 ∈ tables_1 ∧ Cond.privateMethod q.1 ∈ tables_1 ∧ Cond.instanceMethod q.1 ∈ tables_1
theorem lw_p0 : lw_okq (⟨"PileLifts$Yard", "clear", "(II)V"⟩, 10) := ⟨⟨by decide +kernel, by decide +kernel⟩, List.mem_of_getElem? (i := 22) (by decide +kernel), List.mem_of_getElem? (i := 28) (by decide +kernel), List.mem_of_getElem? (i := 29) (by decide +kernel)⟩
theorem lw_p1 : lw_okq (⟨"PileLifts$Wagons", "clear", "()V"⟩, 4) := ⟨⟨by decide +kernel, by decide +kernel⟩, List.mem_of_getElem? (i := 116) (by decide +kernel), List.mem_of_getElem? (i := 122) (by decide +kernel), List.mem_of_getElem? (i := 123) (by decide +kernel)⟩
theorem lw_p2 : lw_okq (⟨"PileLifts$Yard", "countBlocking", "()I"⟩, 10) := ⟨⟨by decide +kernel, by decide +kernel⟩, List.mem_of_getElem? (i := 22) (by decide +kernel), List.mem_of_getElem? (i := 155) (by decide +kernel), List.mem_of_getElem? (i := 156) (by decide +kernel)⟩
theorem lw_p3 : lw_okq (⟨"PileLifts$Yard", "isBlocking", "(I)Z"⟩, 10) := ⟨⟨by decide +kernel, by decide +kernel⟩, List.mem_of_getElem? (i := 22) (by decide +kernel), List.mem_of_getElem? (i := 159) (by decide +kernel), List.mem_of_getElem? (i := 160) (by decide +kernel)⟩
theorem lw_p4 : lw_okq (⟨"PileLifts$Yard", "isGone", "(I)Z"⟩, 10) := ⟨⟨by decide +kernel, by decide +kernel⟩, List.mem_of_getElem? (i := 22) (by decide +kernel), List.mem_of_getElem? (i := 163) (by decide +kernel), List.mem_of_getElem? (i := 164) (by decide +kernel)⟩
theorem lw_p5 : lw_okq (⟨"PileLifts$Yard", "wouldBlock", "(III)Z"⟩, 10) := ⟨⟨by decide +kernel, by decide +kernel⟩, List.mem_of_getElem? (i := 22) (by decide +kernel), List.mem_of_getElem? (i := 167) (by decide +kernel), List.mem_of_getElem? (i := 168) (by decide +kernel)⟩
theorem lw_p6 : lw_okq (⟨"PileLifts$Yard", "turnOf", "(I)I"⟩, 10) := ⟨⟨by decide +kernel, by decide +kernel⟩, List.mem_of_getElem? (i := 22) (by decide +kernel), List.mem_of_getElem? (i := 171) (by decide +kernel), List.mem_of_getElem? (i := 172) (by decide +kernel)⟩
theorem lw_p7 : lw_okq (⟨"PileLifts$Yard", "pieceAt", "(II)I"⟩, 10) := ⟨⟨by decide +kernel, by decide +kernel⟩, List.mem_of_getElem? (i := 22) (by decide +kernel), List.mem_of_getElem? (i := 175) (by decide +kernel), List.mem_of_getElem? (i := 176) (by decide +kernel)⟩
theorem lw_p8 : lw_okq (⟨"java/lang/Throwable", "fillInStackTrace", "(I)Ljava/lang/Throwable;"⟩, 6) := ⟨⟨by decide +kernel, by decide +kernel⟩, List.mem_of_getElem? (i := 229) (by decide +kernel), List.mem_of_getElem? (i := 227) (by decide +kernel), List.mem_of_getElem? (i := 228) (by decide +kernel)⟩
theorem lw_p9 : lw_okq (⟨"PileLifts$Search", "forget", "()V"⟩, 10) := ⟨⟨by decide +kernel, by decide +kernel⟩, List.mem_of_getElem? (i := 73) (by decide +kernel), List.mem_of_getElem? (i := 261) (by decide +kernel), List.mem_of_getElem? (i := 262) (by decide +kernel)⟩
theorem lw_p10 : lw_okq (⟨"PileLifts$Yard", "hasPile", "(I)Z"⟩, 10) := ⟨⟨by decide +kernel, by decide +kernel⟩, List.mem_of_getElem? (i := 22) (by decide +kernel), List.mem_of_getElem? (i := 274) (by decide +kernel), List.mem_of_getElem? (i := 275) (by decide +kernel)⟩
theorem lw_p11 : lw_okq (⟨"PileLifts$Yard", "takes", "(II)Z"⟩, 10) := ⟨⟨by decide +kernel, by decide +kernel⟩, List.mem_of_getElem? (i := 22) (by decide +kernel), List.mem_of_getElem? (i := 296) (by decide +kernel), List.mem_of_getElem? (i := 297) (by decide +kernel)⟩
theorem lw_p12 : lw_okq (⟨"PileLifts$Yard", "topOf", "(I)I"⟩, 10) := ⟨⟨by decide +kernel, by decide +kernel⟩, List.mem_of_getElem? (i := 22) (by decide +kernel), List.mem_of_getElem? (i := 300) (by decide +kernel), List.mem_of_getElem? (i := 301) (by decide +kernel)⟩
theorem lw_p13 : lw_okq (⟨"PileLifts$Yard", "add", "(III)I"⟩, 10) := ⟨⟨by decide +kernel, by decide +kernel⟩, List.mem_of_getElem? (i := 22) (by decide +kernel), List.mem_of_getElem? (i := 320) (by decide +kernel), List.mem_of_getElem? (i := 321) (by decide +kernel)⟩
theorem lw_p14 : lw_okq (⟨"PileLifts$Yard", "layOn", "(II)V"⟩, 10) := ⟨⟨by decide +kernel, by decide +kernel⟩, List.mem_of_getElem? (i := 22) (by decide +kernel), List.mem_of_getElem? (i := 324) (by decide +kernel), List.mem_of_getElem? (i := 325) (by decide +kernel)⟩
theorem lw_p15 : lw_okq (⟨"PileLifts", "checkPiece", "(I)V"⟩, 3) := ⟨⟨by decide +kernel, by decide +kernel⟩, List.mem_of_getElem? (i := 14) (by decide +kernel), List.mem_of_getElem? (i := 336) (by decide +kernel), List.mem_of_getElem? (i := 337) (by decide +kernel)⟩
def lw_privs_1 : List (MethodName × Nat) := [(⟨"PileLifts$Yard", "clear", "(II)V"⟩, 10), (⟨"PileLifts$Wagons", "clear", "()V"⟩, 4), (⟨"PileLifts$Yard", "countBlocking", "()I"⟩, 10), (⟨"PileLifts$Yard", "isBlocking", "(I)Z"⟩, 10), (⟨"PileLifts$Yard", "isGone", "(I)Z"⟩, 10), (⟨"PileLifts$Yard", "wouldBlock", "(III)Z"⟩, 10), (⟨"PileLifts$Yard", "turnOf", "(I)I"⟩, 10), (⟨"PileLifts$Yard", "pieceAt", "(II)I"⟩, 10), (⟨"java/lang/Throwable", "fillInStackTrace", "(I)Ljava/lang/Throwable;"⟩, 6), (⟨"PileLifts$Search", "forget", "()V"⟩, 10), (⟨"PileLifts$Yard", "hasPile", "(I)Z"⟩, 10), (⟨"PileLifts$Yard", "takes", "(II)Z"⟩, 10), (⟨"PileLifts$Yard", "topOf", "(I)I"⟩, 10), (⟨"PileLifts$Yard", "add", "(III)I"⟩, 10), (⟨"PileLifts$Yard", "layOn", "(II)V"⟩, 10), (⟨"PileLifts", "checkPiece", "(I)V"⟩, 3)]
theorem lw_r1 : ∀ q ∈ lw_privs_1, lw_okq q := List.forall_mem_cons.mpr ⟨lw_p0, List.forall_mem_cons.mpr ⟨lw_p1, List.forall_mem_cons.mpr ⟨lw_p2, List.forall_mem_cons.mpr ⟨lw_p3, List.forall_mem_cons.mpr ⟨lw_p4, List.forall_mem_cons.mpr ⟨lw_p5, List.forall_mem_cons.mpr ⟨lw_p6, List.forall_mem_cons.mpr ⟨lw_p7, List.forall_mem_cons.mpr ⟨lw_p8, List.forall_mem_cons.mpr ⟨lw_p9, List.forall_mem_cons.mpr ⟨lw_p10, List.forall_mem_cons.mpr ⟨lw_p11, List.forall_mem_cons.mpr ⟨lw_p12, List.forall_mem_cons.mpr ⟨lw_p13, List.forall_mem_cons.mpr ⟨lw_p14, List.forall_mem_cons.mpr ⟨lw_p15, fun _ h => absurd h List.not_mem_nil⟩⟩⟩⟩⟩⟩⟩⟩⟩⟩⟩⟩⟩⟩⟩⟩
theorem lw_p16 : lw_okq (⟨"PileLifts$Yard", "hasPiece", "(I)Z"⟩, 10) := ⟨⟨by decide +kernel, by decide +kernel⟩, List.mem_of_getElem? (i := 22) (by decide +kernel), List.mem_of_getElem? (i := 340) (by decide +kernel), List.mem_of_getElem? (i := 341) (by decide +kernel)⟩
theorem lw_p17 : lw_okq (⟨"PileLifts$Search", "findBest", "(LPileLifts$Yard;I)I"⟩, 10) := ⟨⟨by decide +kernel, by decide +kernel⟩, List.mem_of_getElem? (i := 73) (by decide +kernel), List.mem_of_getElem? (i := 379) (by decide +kernel), List.mem_of_getElem? (i := 380) (by decide +kernel)⟩
theorem lw_p18 : lw_okq (⟨"PileLifts$Search", "goOn", "(LPileLifts$Yard;II)Z"⟩, 10) := ⟨⟨by decide +kernel, by decide +kernel⟩, List.mem_of_getElem? (i := 73) (by decide +kernel), List.mem_of_getElem? (i := 385) (by decide +kernel), List.mem_of_getElem? (i := 386) (by decide +kernel)⟩
theorem lw_p19 : lw_okq (⟨"PileLifts$Search", "letLeave", "(LPileLifts$Yard;)V"⟩, 10) := ⟨⟨by decide +kernel, by decide +kernel⟩, List.mem_of_getElem? (i := 73) (by decide +kernel), List.mem_of_getElem? (i := 389) (by decide +kernel), List.mem_of_getElem? (i := 390) (by decide +kernel)⟩
theorem lw_p20 : lw_okq (⟨"PileLifts$Yard", "nextWanted", "()I"⟩, 10) := ⟨⟨by decide +kernel, by decide +kernel⟩, List.mem_of_getElem? (i := 22) (by decide +kernel), List.mem_of_getElem? (i := 393) (by decide +kernel), List.mem_of_getElem? (i := 394) (by decide +kernel)⟩
theorem lw_p21 : lw_okq (⟨"PileLifts$Yard", "isTop", "(I)Z"⟩, 10) := ⟨⟨by decide +kernel, by decide +kernel⟩, List.mem_of_getElem? (i := 22) (by decide +kernel), List.mem_of_getElem? (i := 397) (by decide +kernel), List.mem_of_getElem? (i := 398) (by decide +kernel)⟩
theorem lw_p22 : lw_okq (⟨"PileLifts$Search", "note", "(III)V"⟩, 10) := ⟨⟨by decide +kernel, by decide +kernel⟩, List.mem_of_getElem? (i := 73) (by decide +kernel), List.mem_of_getElem? (i := 401) (by decide +kernel), List.mem_of_getElem? (i := 402) (by decide +kernel)⟩
theorem lw_p23 : lw_okq (⟨"PileLifts$Yard", "takeOff", "(I)V"⟩, 10) := ⟨⟨by decide +kernel, by decide +kernel⟩, List.mem_of_getElem? (i := 22) (by decide +kernel), List.mem_of_getElem? (i := 405) (by decide +kernel), List.mem_of_getElem? (i := 406) (by decide +kernel)⟩
theorem lw_p24 : lw_okq (⟨"PileLifts$Search", "tryFrom", "(LPileLifts$Yard;III)Z"⟩, 10) := ⟨⟨by decide +kernel, by decide +kernel⟩, List.mem_of_getElem? (i := 73) (by decide +kernel), List.mem_of_getElem? (i := 409) (by decide +kernel), List.mem_of_getElem? (i := 410) (by decide +kernel)⟩
theorem lw_p25 : lw_okq (⟨"PileLifts$Yard", "wouldBlockOn", "(II)Z"⟩, 10) := ⟨⟨by decide +kernel, by decide +kernel⟩, List.mem_of_getElem? (i := 22) (by decide +kernel), List.mem_of_getElem? (i := 416) (by decide +kernel), List.mem_of_getElem? (i := 417) (by decide +kernel)⟩
theorem lw_p26 : lw_okq (⟨"PileLifts$Search", "tryOne", "(LPileLifts$Yard;IIII)Z"⟩, 10) := ⟨⟨by decide +kernel, by decide +kernel⟩, List.mem_of_getElem? (i := 73) (by decide +kernel), List.mem_of_getElem? (i := 420) (by decide +kernel), List.mem_of_getElem? (i := 421) (by decide +kernel)⟩
theorem lw_p27 : lw_okq (⟨"PileLifts$Yard", "relift", "(II)V"⟩, 10) := ⟨⟨by decide +kernel, by decide +kernel⟩, List.mem_of_getElem? (i := 22) (by decide +kernel), List.mem_of_getElem? (i := 424) (by decide +kernel), List.mem_of_getElem? (i := 425) (by decide +kernel)⟩
theorem lw_p28 : lw_okq (⟨"PileLifts$Search", "takeBack", "(LPileLifts$Yard;I)V"⟩, 10) := ⟨⟨by decide +kernel, by decide +kernel⟩, List.mem_of_getElem? (i := 73) (by decide +kernel), List.mem_of_getElem? (i := 429) (by decide +kernel), List.mem_of_getElem? (i := 430) (by decide +kernel)⟩
theorem lw_p29 : lw_okq (⟨"PileLifts$Search", "countRelifts", "()I"⟩, 10) := ⟨⟨by decide +kernel, by decide +kernel⟩, List.mem_of_getElem? (i := 73) (by decide +kernel), List.mem_of_getElem? (i := 434) (by decide +kernel), List.mem_of_getElem? (i := 435) (by decide +kernel)⟩
theorem lw_p30 : lw_okq (⟨"PileLifts", "checkPlan", "()V"⟩, 3) := ⟨⟨by decide +kernel, by decide +kernel⟩, List.mem_of_getElem? (i := 14) (by decide +kernel), List.mem_of_getElem? (i := 453) (by decide +kernel), List.mem_of_getElem? (i := 454) (by decide +kernel)⟩
theorem lw_p31 : lw_okq (⟨"PileLifts$Search", "doMoves", "(LPileLifts$Yard;I)V"⟩, 10) := ⟨⟨by decide +kernel, by decide +kernel⟩, List.mem_of_getElem? (i := 73) (by decide +kernel), List.mem_of_getElem? (i := 475) (by decide +kernel), List.mem_of_getElem? (i := 476) (by decide +kernel)⟩
def lw_privs_2 : List (MethodName × Nat) := [(⟨"PileLifts$Yard", "hasPiece", "(I)Z"⟩, 10), (⟨"PileLifts$Search", "findBest", "(LPileLifts$Yard;I)I"⟩, 10), (⟨"PileLifts$Search", "goOn", "(LPileLifts$Yard;II)Z"⟩, 10), (⟨"PileLifts$Search", "letLeave", "(LPileLifts$Yard;)V"⟩, 10), (⟨"PileLifts$Yard", "nextWanted", "()I"⟩, 10), (⟨"PileLifts$Yard", "isTop", "(I)Z"⟩, 10), (⟨"PileLifts$Search", "note", "(III)V"⟩, 10), (⟨"PileLifts$Yard", "takeOff", "(I)V"⟩, 10), (⟨"PileLifts$Search", "tryFrom", "(LPileLifts$Yard;III)Z"⟩, 10), (⟨"PileLifts$Yard", "wouldBlockOn", "(II)Z"⟩, 10), (⟨"PileLifts$Search", "tryOne", "(LPileLifts$Yard;IIII)Z"⟩, 10), (⟨"PileLifts$Yard", "relift", "(II)V"⟩, 10), (⟨"PileLifts$Search", "takeBack", "(LPileLifts$Yard;I)V"⟩, 10), (⟨"PileLifts$Search", "countRelifts", "()I"⟩, 10), (⟨"PileLifts", "checkPlan", "()V"⟩, 3), (⟨"PileLifts$Search", "doMoves", "(LPileLifts$Yard;I)V"⟩, 10)]
theorem lw_r2 : ∀ q ∈ lw_privs_2, lw_okq q := List.forall_mem_cons.mpr ⟨lw_p16, List.forall_mem_cons.mpr ⟨lw_p17, List.forall_mem_cons.mpr ⟨lw_p18, List.forall_mem_cons.mpr ⟨lw_p19, List.forall_mem_cons.mpr ⟨lw_p20, List.forall_mem_cons.mpr ⟨lw_p21, List.forall_mem_cons.mpr ⟨lw_p22, List.forall_mem_cons.mpr ⟨lw_p23, List.forall_mem_cons.mpr ⟨lw_p24, List.forall_mem_cons.mpr ⟨lw_p25, List.forall_mem_cons.mpr ⟨lw_p26, List.forall_mem_cons.mpr ⟨lw_p27, List.forall_mem_cons.mpr ⟨lw_p28, List.forall_mem_cons.mpr ⟨lw_p29, List.forall_mem_cons.mpr ⟨lw_p30, List.forall_mem_cons.mpr ⟨lw_p31, fun _ h => absurd h List.not_mem_nil⟩⟩⟩⟩⟩⟩⟩⟩⟩⟩⟩⟩⟩⟩⟩⟩
theorem lw_p32 : lw_okq (⟨"PileLifts$Yard", "countGone", "()I"⟩, 10) := ⟨⟨by decide +kernel, by decide +kernel⟩, List.mem_of_getElem? (i := 22) (by decide +kernel), List.mem_of_getElem? (i := 479) (by decide +kernel), List.mem_of_getElem? (i := 480) (by decide +kernel)⟩
theorem lw_p33 : lw_okq (⟨"PileLifts$Yard", "tidyOnce", "()Z"⟩, 10) := ⟨⟨by decide +kernel, by decide +kernel⟩, List.mem_of_getElem? (i := 22) (by decide +kernel), List.mem_of_getElem? (i := 500) (by decide +kernel), List.mem_of_getElem? (i := 501) (by decide +kernel)⟩
theorem lw_p34 : lw_okq (⟨"PileLifts$Yard", "tidyPlaceFor", "(I)I"⟩, 10) := ⟨⟨by decide +kernel, by decide +kernel⟩, List.mem_of_getElem? (i := 22) (by decide +kernel), List.mem_of_getElem? (i := 504) (by decide +kernel), List.mem_of_getElem? (i := 505) (by decide +kernel)⟩
theorem lw_p35 : lw_okq (⟨"PileLifts$Wagons", "add", "(I)I"⟩, 4) := ⟨⟨by decide +kernel, by decide +kernel⟩, List.mem_of_getElem? (i := 116) (by decide +kernel), List.mem_of_getElem? (i := 520) (by decide +kernel), List.mem_of_getElem? (i := 521) (by decide +kernel)⟩
theorem lw_p36 : lw_okq (⟨"PileLifts$Wagons", "firstWithRoom", "(I)I"⟩, 4) := ⟨⟨by decide +kernel, by decide +kernel⟩, List.mem_of_getElem? (i := 116) (by decide +kernel), List.mem_of_getElem? (i := 532) (by decide +kernel), List.mem_of_getElem? (i := 533) (by decide +kernel)⟩
theorem lw_p37 : lw_okq (⟨"PileLifts$Wagons", "fill", "(III)V"⟩, 4) := ⟨⟨by decide +kernel, by decide +kernel⟩, List.mem_of_getElem? (i := 116) (by decide +kernel), List.mem_of_getElem? (i := 537) (by decide +kernel), List.mem_of_getElem? (i := 538) (by decide +kernel)⟩
theorem lw_p38 : lw_okq (⟨"PileLiftsModel", "goes", "(ZZZ)Z"⟩, 22) := ⟨⟨by decide +kernel, by decide +kernel⟩, List.mem_of_getElem? (i := 541) (by decide +kernel), List.mem_of_getElem? (i := 625) (by decide +kernel), List.mem_of_getElem? (i := 626) (by decide +kernel)⟩
theorem lw_p39 : lw_okq (⟨"PileLiftsModel", "changed", "()V"⟩, 22) := ⟨⟨by decide +kernel, by decide +kernel⟩, List.mem_of_getElem? (i := 541) (by decide +kernel), List.mem_of_getElem? (i := 629) (by decide +kernel), List.mem_of_getElem? (i := 630) (by decide +kernel)⟩
theorem lw_p40 : lw_okq (⟨"PileLiftsModel", "takes", "(III)Z"⟩, 22) := ⟨⟨by decide +kernel, by decide +kernel⟩, List.mem_of_getElem? (i := 541) (by decide +kernel), List.mem_of_getElem? (i := 637) (by decide +kernel), List.mem_of_getElem? (i := 638) (by decide +kernel)⟩
theorem lw_p41 : lw_okq (⟨"PileLiftsModel", "isPiece", "(I)Z"⟩, 22) := ⟨⟨by decide +kernel, by decide +kernel⟩, List.mem_of_getElem? (i := 541) (by decide +kernel), List.mem_of_getElem? (i := 648) (by decide +kernel), List.mem_of_getElem? (i := 649) (by decide +kernel)⟩
theorem lw_p42 : lw_okq (⟨"PileLiftsModel", "isGone", "(II)Z"⟩, 22) := ⟨⟨by decide +kernel, by decide +kernel⟩, List.mem_of_getElem? (i := 541) (by decide +kernel), List.mem_of_getElem? (i := 652) (by decide +kernel), List.mem_of_getElem? (i := 653) (by decide +kernel)⟩
theorem lw_p43 : lw_okq (⟨"PileLiftsModel", "boundAt", "(I)I"⟩, 22) := ⟨⟨by decide +kernel, by decide +kernel⟩, List.mem_of_getElem? (i := 541) (by decide +kernel), List.mem_of_getElem? (i := 664) (by decide +kernel), List.mem_of_getElem? (i := 665) (by decide +kernel)⟩
theorem lw_p44 : lw_okq (⟨"PileLiftsModel", "blocksOn", "(IIII)Z"⟩, 22) := ⟨⟨by decide +kernel, by decide +kernel⟩, List.mem_of_getElem? (i := 541) (by decide +kernel), List.mem_of_getElem? (i := 668) (by decide +kernel), List.mem_of_getElem? (i := 669) (by decide +kernel)⟩
theorem lw_p45 : lw_okq (⟨"PileLiftsModel", "isAhead", "(II)Z"⟩, 22) := ⟨⟨by decide +kernel, by decide +kernel⟩, List.mem_of_getElem? (i := 541) (by decide +kernel), List.mem_of_getElem? (i := 672) (by decide +kernel), List.mem_of_getElem? (i := 673) (by decide +kernel)⟩
theorem lw_p46 : lw_okq (⟨"PileLiftsModel", "round", "(II)I"⟩, 22) := ⟨⟨by decide +kernel, by decide +kernel⟩, List.mem_of_getElem? (i := 541) (by decide +kernel), List.mem_of_getElem? (i := 681) (by decide +kernel), List.mem_of_getElem? (i := 682) (by decide +kernel)⟩
theorem lw_p47 : lw_okq (⟨"PileLiftsModel", "copy", "(II)V"⟩, 22) := ⟨⟨by decide +kernel, by decide +kernel⟩, List.mem_of_getElem? (i := 541) (by decide +kernel), List.mem_of_getElem? (i := 685) (by decide +kernel), List.mem_of_getElem? (i := 686) (by decide +kernel)⟩
def lw_privs_3 : List (MethodName × Nat) := [(⟨"PileLifts$Yard", "countGone", "()I"⟩, 10), (⟨"PileLifts$Yard", "tidyOnce", "()Z"⟩, 10), (⟨"PileLifts$Yard", "tidyPlaceFor", "(I)I"⟩, 10), (⟨"PileLifts$Wagons", "add", "(I)I"⟩, 4), (⟨"PileLifts$Wagons", "firstWithRoom", "(I)I"⟩, 4), (⟨"PileLifts$Wagons", "fill", "(III)V"⟩, 4), (⟨"PileLiftsModel", "goes", "(ZZZ)Z"⟩, 22), (⟨"PileLiftsModel", "changed", "()V"⟩, 22), (⟨"PileLiftsModel", "takes", "(III)Z"⟩, 22), (⟨"PileLiftsModel", "isPiece", "(I)Z"⟩, 22), (⟨"PileLiftsModel", "isGone", "(II)Z"⟩, 22), (⟨"PileLiftsModel", "boundAt", "(I)I"⟩, 22), (⟨"PileLiftsModel", "blocksOn", "(IIII)Z"⟩, 22), (⟨"PileLiftsModel", "isAhead", "(II)Z"⟩, 22), (⟨"PileLiftsModel", "round", "(II)I"⟩, 22), (⟨"PileLiftsModel", "copy", "(II)V"⟩, 22)]
theorem lw_r3 : ∀ q ∈ lw_privs_3, lw_okq q := List.forall_mem_cons.mpr ⟨lw_p32, List.forall_mem_cons.mpr ⟨lw_p33, List.forall_mem_cons.mpr ⟨lw_p34, List.forall_mem_cons.mpr ⟨lw_p35, List.forall_mem_cons.mpr ⟨lw_p36, List.forall_mem_cons.mpr ⟨lw_p37, List.forall_mem_cons.mpr ⟨lw_p38, List.forall_mem_cons.mpr ⟨lw_p39, List.forall_mem_cons.mpr ⟨lw_p40, List.forall_mem_cons.mpr ⟨lw_p41, List.forall_mem_cons.mpr ⟨lw_p42, List.forall_mem_cons.mpr ⟨lw_p43, List.forall_mem_cons.mpr ⟨lw_p44, List.forall_mem_cons.mpr ⟨lw_p45, List.forall_mem_cons.mpr ⟨lw_p46, List.forall_mem_cons.mpr ⟨lw_p47, fun _ h => absurd h List.not_mem_nil⟩⟩⟩⟩⟩⟩⟩⟩⟩⟩⟩⟩⟩⟩⟩⟩
theorem lw_p48 : lw_okq (⟨"PileLiftsModel", "leaves", "(I)Z"⟩, 22) := ⟨⟨by decide +kernel, by decide +kernel⟩, List.mem_of_getElem? (i := 541) (by decide +kernel), List.mem_of_getElem? (i := 689) (by decide +kernel), List.mem_of_getElem? (i := 690) (by decide +kernel)⟩
theorem lw_p49 : lw_okq (⟨"PileLiftsModel", "nextWanted", "(I)I"⟩, 22) := ⟨⟨by decide +kernel, by decide +kernel⟩, List.mem_of_getElem? (i := 541) (by decide +kernel), List.mem_of_getElem? (i := 693) (by decide +kernel), List.mem_of_getElem? (i := 694) (by decide +kernel)⟩
theorem lw_p50 : lw_okq (⟨"PileLiftsModel", "topOf", "(II)I"⟩, 22) := ⟨⟨by decide +kernel, by decide +kernel⟩, List.mem_of_getElem? (i := 541) (by decide +kernel), List.mem_of_getElem? (i := 697) (by decide +kernel), List.mem_of_getElem? (i := 698) (by decide +kernel)⟩
theorem lw_p51 : lw_okq (⟨"PileLiftsModel", "says", "(III)V"⟩, 22) := ⟨⟨by decide +kernel, by decide +kernel⟩, List.mem_of_getElem? (i := 541) (by decide +kernel), List.mem_of_getElem? (i := 701) (by decide +kernel), List.mem_of_getElem? (i := 702) (by decide +kernel)⟩
theorem lw_p52 : lw_okq (⟨"PileLiftsModel", "lift", "(III)V"⟩, 22) := ⟨⟨by decide +kernel, by decide +kernel⟩, List.mem_of_getElem? (i := 541) (by decide +kernel), List.mem_of_getElem? (i := 705) (by decide +kernel), List.mem_of_getElem? (i := 706) (by decide +kernel)⟩
theorem lw_p53 : lw_okq (⟨"PileLiftsModel", "tidies", "()Z"⟩, 22) := ⟨⟨by decide +kernel, by decide +kernel⟩, List.mem_of_getElem? (i := 541) (by decide +kernel), List.mem_of_getElem? (i := 733) (by decide +kernel), List.mem_of_getElem? (i := 734) (by decide +kernel)⟩
def lw_privs_4 : List (MethodName × Nat) := [(⟨"PileLiftsModel", "leaves", "(I)Z"⟩, 22), (⟨"PileLiftsModel", "nextWanted", "(I)I"⟩, 22), (⟨"PileLiftsModel", "topOf", "(II)I"⟩, 22), (⟨"PileLiftsModel", "says", "(III)V"⟩, 22), (⟨"PileLiftsModel", "lift", "(III)V"⟩, 22), (⟨"PileLiftsModel", "tidies", "()Z"⟩, 22)]
theorem lw_r4 : ∀ q ∈ lw_privs_4, lw_okq q := List.forall_mem_cons.mpr ⟨lw_p48, List.forall_mem_cons.mpr ⟨lw_p49, List.forall_mem_cons.mpr ⟨lw_p50, List.forall_mem_cons.mpr ⟨lw_p51, List.forall_mem_cons.mpr ⟨lw_p52, List.forall_mem_cons.mpr ⟨lw_p53, fun _ h => absurd h List.not_mem_nil⟩⟩⟩⟩⟩⟩
def lw_privs : List (MethodName × Nat) := lw_privs_1 ++ (lw_privs_2 ++ (lw_privs_3 ++ (lw_privs_4)))
def lw_tbl : List Cond := k2_sels lw_privs ++ tables_1
theorem lw_privs_ok : ∀ q ∈ lw_privs, lw_okq q := by
  show ∀ q ∈ lw_privs_1 ++ (lw_privs_2 ++ (lw_privs_3 ++ (lw_privs_4))), lw_okq q
  exact List.forall_mem_append.mpr ⟨lw_r1, List.forall_mem_append.mpr ⟨lw_r2, List.forall_mem_append.mpr ⟨lw_r3, lw_r4⟩⟩⟩
end
section
/-! ===== BEGIN words of one list among another's, by their places ===== -/
theorem goodIn_r {big : List Cond} (ws : List Cond) (ps : List Nat) (hp : ws = ps.filterMap (fun i => big[i]?)) (h : ws.all goodWord = true) : GoodIn big ws := by
  intro w hw
  have h1 := List.all_eq_true.mp h w hw
  rw [hp] at hw
  obtain ⟨i, -, hi⟩ := List.mem_filterMap.mp hw
  have hm : w ∈ big := by first | exact List.mem_of_getElem? hi | exact List.getElem?_mem hi
  exact ⟨hm, good_of_word h1⟩
theorem goodIn_app {big a b : List Cond} (ha : GoodIn big a) (hb : GoodIn big b) : GoodIn big (a ++ b) := fun w h => (List.mem_append.mp h).elim (ha w) (hb w)
theorem goodIn_ca {big a b : List Cond} {c : Cond} (ha : GoodIn big (c :: a)) (hb : GoodIn big b) : GoodIn big (c :: (a ++ b)) := fun w h => (List.mem_cons.mp h).elim (fun e => ha w (List.mem_cons.mpr (Or.inl e))) (fun h => (List.mem_append.mp h).elim (fun h => ha w (List.mem_cons.mpr (Or.inr h))) (hb w))
theorem goodIn_sub {big ws : List Cond} (hm : ∀ w ∈ ws, w ∈ big) (h : ws.all goodWord = true) : GoodIn big ws := fun w hw => ⟨hm w hw, good_of_word (List.all_eq_true.mp h w hw)⟩
/-! ===== END ===== -/

/-! ===== BEGIN exceptions that leave a method, and their catching by the caller (launches without stack traces) ===== -/
section VXA
/-! The laws vx_back, vx_callV, vx_callS, vx_callSW, vx_throw0, vx_throwS follow proofs of the library, with one case more: JvmDerived/Free/Laws.lean (Back.of_free), Shelf42/LK1.lean (callV, callS), Shelf/KitTraced.lean (throwNew0V, throwNewS). -/
/-- where a method has thrown q: the class by its name, the cell, what was written, the world -/
def vx_T (XC : String → State → State → Prop) (st : State) (q : Addr) (t : State) (mc ms : Nat) (free : Addr → Prop) : Prop :=
  ∃ (E : String) (ce : Cell) (L : List Loc), XC E st t ∧ t.heap[q]? = some ce ∧ ce.vm = .none ∧ st.vm.findClass E = some ce.cls ∧ st.WarmedH t.vm ∧ st.sameButNew ({ t with vm := st.vm } : State) L mc ms ∧ ∀ z ∈ L, free z.base
def vx_Q (Qc : Array Value → State → Outcome → State → Prop) (XC : String → State → State → Prop) (mc ms : Nat) (free : Addr → Prop) : Array Value → State → Outcome → State → Prop := fun a st o t =>
  (Qc a st o t ∧ ∃ L, FrameEnd st o t L mc ms ∧ ∀ q ∈ L, free q.base) ∨ ∃ q, o = .threw q ∧ vx_T XC st q t mc ms free
/-- a callee that returns or throws -/
def vx_Met (l : Launch) (y : MethodName) (ws : List Cond) (rm : Room) (Pc : Array Value → State → Prop) (Qc : Array Value → State → Outcome → State → Prop) (XC : String → State → State → Prop) (mc ms : Nat) (free : Addr → Prop) : Prop :=
  MetFree l y (headSpec ws rm) Pc (fun _ _ _ _ _ => True) (vx_Q Qc XC mc ms free)
def vx_Post (XC : String → State → State → Prop) (mc ms : Nat) (free : Addr → Prop) : Pt → Array Value → Addr → Pt → Prop := fun A a q B =>
  ∃ (g : JFrame) (mk : MethodId) (t : State) (L : List Loc) (E : String) (ce : Cell), B.U.heap = t.heap ∧ B.U.vm = t.vm ∧ XC E (A.U.calling g mk a) t ∧ t.heap[q]? = some ce ∧ ce.vm = .none ∧ A.U.vm.findClass E = some ce.cls ∧ B.locs = A.locs ++ L ∧ (∀ z ∈ L, free z.base) ∧ B.cells = A.cells + mc ∧ B.slots = A.slots + ms
def vx_Back (l : Launch) (R : Room) (p : Program) (e : Env) (below : List Frame) (s : State) (sargs : Array Value) (y : MethodName) (len W9 : Nat)
    (Pre : Pt → Array Value → Prop) (Post : Pt → Array Value → Option Value → Pt → Prop) (PostX : Pt → Array Value → Addr → Pt → Prop) : Prop :=
  ∀ (m : MethodId) (meth : Method) (c : Code) (A : Pt) (g : JFrame) (ig : Instr) (mk : MethodId) (a : Array Value),
    Stand p l e R s m sargs below meth c A.U A.locs A.cells A.slots → g.method = m → g.locals.size = c.maxLocals → decode c.code g.pc = .ok (ig, len) →
    2 * g.monitorRoom + (g.stack.map fun v => v.category).sum ≤ W9 → A.U.methodNamed? y = some mk → Pre A a →
    (∃ (v : Option Value) (B : Pt), Stand p l e R s m sargs below meth c B.U B.locs B.cells B.slots ∧ Post A a v B ∧
      Steps p.tables e below (doInvoke e (A.U.setTop g) [] mk a).1 (B.U.setTop { g with pc := g.pc + len, stack := v.toList ++ g.stack })) ∨
    (∃ (q : Addr) (B : Pt), Stand p l e R s m sargs below meth c B.U B.locs B.cells B.slots ∧ PostX A a q B ∧
      Steps p.tables e below (doInvoke e (A.U.setTop g) [] mk a).1 ((B.U.setTop g).pushFrame (.throwing q)))
section Payer
variable {l : Launch} {R : Room} {p : Program} {e : Env} {below : List Frame} {s : State} {sargs : Array Value} {y : MethodName} {len W9 : Nat}
theorem vx_back {ws : List Cond} {rm : Room} {Pc : Array Value → State → Prop} {Qc : Array Value → State → Outcome → State → Prop} {XC : String → State → State → Prop} {mc ms : Nat} {free : Addr → Prop} {bytes : ByteArray} {maxL : Nat} {ret : Option FieldType}
    (hM : vx_Met l y ws rm Pc Qc XC mc ms free) (hblind : FrameBlind Pc) (hrc : rm.cells = mc) (hrs : rm.slots = ms)
    (hframes : rm.frames + 1 ≤ R.frames) (hlocals : W9 + (maxL + 11) + rm.locals ≤ R.locals)
    (hws : ∀ w ∈ ws, ∀ a' U, s.WarmedH U.vm → w.before a' U = true) (hcode : Cond.code y bytes maxL ret ∈ ws) (hinit : ∀ a' U, s.WarmedH U.vm → (Cond.initialized y.cls).before a' U = true) :
    vx_Back l R p e below s sargs y len W9 (PreOf R mc ms Pc) (PostOf Qc mc ms free) (vx_Post XC mc ms free) := by
  intro m meth c A g ig mk a X hg hsize hdg hW hn hp
  have h1 : (headSpec ws rm).pre.before a A.U = true := atoms_intro fun w hw => hws w hw _ _ X.warmed
  have h2 : (Cond.code y bytes maxL ret).before a A.U = true := hws _ hcode _ _ X.warmed
  have h3 : (Cond.initialized y.cls).before a A.U = true := hinit _ _ X.warmed
  have h4 : A.cells + (headSpec ws rm).room.cells ≤ R.cells := by rw [show (headSpec ws rm).room.cells = mc from hrc]; exact hp.1
  have h5 : A.slots + (headSpec ws rm).room.slots ≤ R.slots := by rw [show (headSpec ws rm).room.slots = ms from hrs]; exact hp.2.1
  have hPc : Pc a (A.U.calling g mk a) := hblind _ _ _ _ hp.2.2
  obtain ⟨U, Ls, c0, s0⟩ := A
  dsimp only [Pt.U, Pt.locs, Pt.cells, Pt.slots] at h1 h2 h3 h4 h5 X hn hPc ⊢
  obtain ⟨methY, cY, hmY, hcY, -, hlY, -, -, -, -⟩ := Cond.code_spec hn h2
  obtain ⟨kY, hkY, -⟩ := className_of_methodNamed hn
  have hinitY : kY.init = .initialized := Cond.initialized_spec (findClass_of_methodNamed hn) hkY h3
  have h : At U g.method c below := by rw [hg]; exact X.here
  have hlocals9 : W9 + (maxL + 11) + (headSpec ws rm).room.locals ≤ R.locals := hlocals
  have happ : (headSpec ws rm).appliesLoose y e.platform (U.calling g mk a) = true :=
    Spec.appliesLoose_calling (g := g) h hdg hn hkY hinitY
      (X.room_calling (g := g) (R' := (headSpec ws rm).room) hsize hmY hcY hframes (by rw [hlY]; omega) h4 h5) h1
  obtain ⟨mid, hmid⟩ := h.above
  have hfr : (U.setTop g).frames = (.java g :: mid) ++ below := by rw [State.frames_setTop' g h.top, hmid]; rfl
  obtain ⟨o, s₂, hsteps, -, hend, hq⟩ := Steps.callFree hM p X.admits X.cas X.clock (acts := []) hfr happ hPc trivial
  have hq' : vx_Q Qc XC mc ms free a (U.calling g mk a) o s₂ := hq
  rw [State.frames_setTop' g h.top] at hend
  obtain ⟨g₀, hg0⟩ := Option.isSome_iff_exists.mp h.top
  obtain ⟨r, hr⟩ := State.topJava?_eq_some.mp hg0
  have hr' : (({ U with heap := s₂.heap, slotsUsed := s₂.slotsUsed } : State).setVm s₂.vm).frames = .java g₀ :: r := hr
  rcases hq' with ⟨hqc, L, hfe, hL⟩ | ⟨q, rfl, E, ce, L, hx, hce, hcv, hcl, hW₂, hsm, hL⟩
  · obtain ⟨⟨v, rfl⟩, hW₂, e2, q2, q3, q4, q5, q6⟩ := id hfe
    have e3 : s₂ = ({ (U.calling g mk a).setFrames s₂.frames with heap := s₂.heap, slotsUsed := s₂.slotsUsed } : State).setVm s₂.vm := by
      have : s₂ = ({ s₂ with vm := (U.calling g mk a).vm } : State).setVm s₂.vm := rfl
      rw [e2] at this
      exact this
    obtain ⟨c₂, i₂, len₂, hc₂, hd₂, hf₂⟩ := hend
    have hW' : U.WarmedH s₂.vm := hW₂
    have hcc : c₂ = c := by
      have h1 : s₂.code? g.method = U.code? g.method := by
        rw [State.code?_eq, State.code?_eq, hW'.alike.method?]
      exact Option.some.inj (hc₂.symm.trans (h1.trans h.code))
    subst hcc
    have hlen : len₂ = len := by rw [hdg] at hd₂; cases hd₂; rfl
    subst hlen
    have hs₂ : s₂ = (({ U with heap := s₂.heap, slotsUsed := s₂.slotsUsed } : State).setVm s₂.vm).setTop { g with pc := g.pc + len₂, stack := v.toList ++ g.stack } := by
      refine e3.trans ?_
      rw [hf₂, State.calling_eq h.top, State.setFrames_setFrames, State.setTop_of_frames _ hr', hr]
      rfl
    have hsame : U.sameButNew ({ U with heap := s₂.heap, slotsUsed := s₂.slotsUsed } : State) L mc ms := by
      refine ⟨?_, q2, q3, q4, q5, q6⟩
      obtain ⟨t, ht, -⟩ := State.frames_cons hr
      show ({ U with heap := s₂.heap, slotsUsed := s₂.slotsUsed } : State) = { U.setFrames U.frames with heap := s₂.heap, slotsUsed := s₂.slotsUsed }
      rw [State.setFrames_self ht]
    subst hg
    refine Or.inl ⟨v, ⟨(({ U with heap := s₂.heap, slotsUsed := s₂.slotsUsed } : State).setVm s₂.vm), Ls ++ L, c0 + mc, s0 + ms⟩,
      ⟨X.admits, X.cas, X.clock, X.frames, X.room, X.hears, X.method, X.code, (X.here.setHeapUsed s₂.heap s₂.slotsUsed).setVm hW'.alike, X.tail, State.WarmedH.trans X.warmed hW', X.limits, X.bytes, X.same.trans (hsame.setVm s.vm)⟩,
      ⟨g, mk, s₂, L, rfl, rfl, hqc, rfl, hL, rfl, rfl⟩, ?_⟩
    show Steps p.tables e below _ ((({ U with heap := s₂.heap, slotsUsed := s₂.slotsUsed } : State).setVm s₂.vm).setTop { g with pc := g.pc + len₂, stack := v.toList ++ g.stack })
    rw [← hs₂]
    exact hsteps
  · obtain ⟨e2, q2, q3, q4, q5, q6⟩ := id hsm
    have e3 : s₂ = ({ (U.calling g mk a).setFrames s₂.frames with heap := s₂.heap, slotsUsed := s₂.slotsUsed } : State).setVm s₂.vm := by
      have : s₂ = ({ s₂ with vm := (U.calling g mk a).vm } : State).setVm s₂.vm := rfl
      rw [e2] at this
      exact this
    have hf₂ : s₂.frames = .throwing q :: .java g :: U.frames.tail := hend
    have hW' : U.WarmedH s₂.vm := hW₂
    have hs₂ : s₂ = ((({ U with heap := s₂.heap, slotsUsed := s₂.slotsUsed } : State).setVm s₂.vm).setTop g).pushFrame (.throwing q) := by
      refine e3.trans ?_
      rw [hf₂, State.calling_eq h.top, State.setFrames_setFrames, State.pushFrame, State.frames_setTop _ hr', State.setTop_of_frames _ hr', State.setFrames_setFrames, hr]
      rfl
    have hsame : U.sameButNew ({ U with heap := s₂.heap, slotsUsed := s₂.slotsUsed } : State) L mc ms := by
      refine ⟨?_, q2, q3, q4, q5, q6⟩
      obtain ⟨t, ht, -⟩ := State.frames_cons hr
      show ({ U with heap := s₂.heap, slotsUsed := s₂.slotsUsed } : State) = { U.setFrames U.frames with heap := s₂.heap, slotsUsed := s₂.slotsUsed }
      rw [State.setFrames_self ht]
    subst hg
    refine Or.inr ⟨q, ⟨(({ U with heap := s₂.heap, slotsUsed := s₂.slotsUsed } : State).setVm s₂.vm), Ls ++ L, c0 + mc, s0 + ms⟩,
      ⟨X.admits, X.cas, X.clock, X.frames, X.room, X.hears, X.method, X.code, (X.here.setHeapUsed s₂.heap s₂.slotsUsed).setVm hW'.alike, X.tail, State.WarmedH.trans X.warmed hW', X.limits, X.bytes, X.same.trans (hsame.setVm s.vm)⟩,
      ⟨g, mk, s₂, L, E, ce, rfl, rfl, hx, hce, hcv, hcl, rfl, hL, rfl, rfl⟩, ?_⟩
    show Steps p.tables e below _ (((({ U with heap := s₂.heap, slotsUsed := s₂.slotsUsed } : State).setVm s₂.vm).setTop g).pushFrame (.throwing q))
    rw [← hs₂]
    exact hsteps
end Payer
section Calls
variable {p : Program} {l : Launch} {e : Env} {R : Room} {s : State} {m : MethodId} {args : Array Value} {below : List Frame} {meth : Method} {c : Code} {T : State} {locs : List Loc} {cells slots : Nat}
theorem vx_callV (X : Stand p l e R s m args below meth c T locs cells slots) (hexec : p.tables.exec = Jvm.exec) {own C : String} {index : Nat} {y : MethodName} {bytes : ByteArray} {maxL : Nat} {ret : Option FieldType}
    (hown : s.vm.findClass own = some m.cls) (hlink : (Cond.methodLink own index y).before args s = true) (hinst : (Cond.instanceMethod y).before args s = true) (hsel : (Cond.selects C y y).before args s = true)
    (hcode : (Cond.code y bytes maxL ret).before args s = true) (hy : y.cls ≠ "java/lang/invoke/MethodHandle" ∧ y.cls ≠ "java/lang/invoke/VarHandle")
    {W9 : Nat} {Pre : Pt → Array Value → Prop} {Post : Pt → Array Value → Option Value → Pt → Prop} {PostX : Pt → Array Value → Addr → Pt → Prop} (hK : vx_Back l R p e below s args y 3 W9 Pre Post PostX)
    {b : Addr} {cellB : Cell} (hcell : T.heap[b]? = some cellB) (hobj : cellB.vm.isStatics = false) (hcls : s.vm.findClass C = some cellB.cls)
    {g : JFrame} (hg : g.method = m) (hsize : g.locals.size = c.maxLocals) {argsL rest : List Value} (hlen : ∀ sig, parseMethodDescriptor y.desc = some sig → argsL.length = sig.parameters.length)
    (hstack : g.stack = argsL.reverse ++ .ref b :: rest) (hW : 2 * g.monitorRoom + (rest.map fun v => v.category).sum ≤ W9) (hdg : decode c.code g.pc = .ok (.invokevirtual index, 3))
    (hpre : ∀ vm₁, s.WarmedH vm₁ → Pre ⟨T.setVm vm₁, locs, cells, slots⟩ (Value.ref b :: argsL).toArray) :
    (∃ (v : Option Value) (vm₁ : Vm) (B : Pt), s.WarmedH vm₁ ∧ Stand p l e R s m args below meth c B.U B.locs B.cells B.slots ∧ Post ⟨T.setVm vm₁, locs, cells, slots⟩ (Value.ref b :: argsL).toArray v B ∧
      ∀ target, Steps p.tables e below (B.U.setTop { g with pc := g.pc + 3, stack := v.toList ++ rest }) target → Steps p.tables e below (T.setTop g) target) ∨
    (∃ (q : Addr) (vm₁ : Vm) (B : Pt), s.WarmedH vm₁ ∧ Stand p l e R s m args below meth c B.U B.locs B.cells B.slots ∧ PostX ⟨T.setVm vm₁, locs, cells, slots⟩ (Value.ref b :: argsL).toArray q B ∧
      Steps p.tables e below (T.setTop g) ((B.U.setTop { g with stack := rest }).pushFrame (.throwing q))) := by
  obtain ⟨mk, methM, hnamed, hmethM, hstM, habM⟩ := Cond.instanceMethod_spec hinst
  obtain ⟨methM', cM, hmethM', -, -, -, -, -, -, hsigM⟩ := Cond.code_spec hnamed hcode
  cases hmethM.symm.trans hmethM'
  obtain ⟨c2, r2, m2, q1, q2, q3, q4, kP, hkP, hkPi⟩ := Cond.selects_spec hsel
  cases hcls.symm.trans q1
  cases (State.methodFound?_of_named hnamed hy).symm.trans q2
  cases hnamed.symm.trans q3
  have hselP : selectMethod e.platform s.vm cellB.cls mk = .method mk := by rw [Launch.admits_selectMethod X.admits]; exact q4
  obtain ⟨vm₁, X₁, hstep₁⟩ := X.invokevirtual hexec hown hlink hnamed hmethM hstM hkP hkPi hy (a := b) (cell := cellB) hcell
    (fun z h => by rw [h] at hobj; cases hobj) hselP hmethM habM hkP hkPi (g := g) hg (argsL := argsL) (rest := rest) (hlen _ hsigM) hstack hdg
  rcases hK m meth c ⟨T.setVm vm₁, locs, cells, slots⟩ { g with stack := rest } (.invokevirtual index) mk (Value.ref b :: argsL).toArray X₁ hg hsize hdg hW (X₁.named hnamed) (hpre vm₁ X₁.warmed) with ⟨v, B, X', hpost, hsteps⟩ | ⟨q, B, X', hpost, hsteps⟩
  · exact Or.inl ⟨v, vm₁, B, X₁.warmed, X', hpost, fun target h => hstep₁ _ fun acts => by rw [doInvoke_state]; exact hsteps.trans h⟩
  · exact Or.inr ⟨q, vm₁, B, X₁.warmed, X', hpost, hstep₁ _ fun acts => by rw [doInvoke_state]; exact hsteps⟩
theorem vx_callS (X : Stand p l e R s m args below meth c T locs cells slots) (hexec : p.tables.exec = Jvm.exec) {own : String} {index : Nat} {y : MethodName} {bytes : ByteArray} {maxL : Nat} {ret : Option FieldType}
    (hown : s.vm.findClass own = some m.cls) (hlink : (Cond.methodLink own index y).before args s = true) (hstat : (Cond.static y).before args s = true) (hinit : (Cond.initialized y.cls).before args s = true)
    (hcode : (Cond.code y bytes maxL ret).before args s = true) (hy : y.cls ≠ "java/lang/invoke/MethodHandle" ∧ y.cls ≠ "java/lang/invoke/VarHandle")
    {W9 : Nat} {Pre : Pt → Array Value → Prop} {Post : Pt → Array Value → Option Value → Pt → Prop} {PostX : Pt → Array Value → Addr → Pt → Prop} (hK : vx_Back l R p e below s args y 3 W9 Pre Post PostX)
    {g : JFrame} (hg : g.method = m) (hsize : g.locals.size = c.maxLocals) {argsL rest : List Value} (hlen : ∀ sig, parseMethodDescriptor y.desc = some sig → argsL.length = sig.parameters.length)
    (hstack : g.stack = argsL.reverse ++ rest) (hW : 2 * g.monitorRoom + (rest.map fun v => v.category).sum ≤ W9) (hdg : decode c.code g.pc = .ok (.invokestatic index, 3))
    (hpre : ∀ vm₁, s.WarmedH vm₁ → Pre ⟨T.setVm vm₁, locs, cells, slots⟩ argsL.toArray) :
    (∃ (v : Option Value) (vm₁ : Vm) (B : Pt), s.WarmedH vm₁ ∧ Stand p l e R s m args below meth c B.U B.locs B.cells B.slots ∧ Post ⟨T.setVm vm₁, locs, cells, slots⟩ argsL.toArray v B ∧
      ∀ target, Steps p.tables e below (B.U.setTop { g with pc := g.pc + 3, stack := v.toList ++ rest }) target → Steps p.tables e below (T.setTop g) target) ∨
    (∃ (q : Addr) (vm₁ : Vm) (B : Pt), s.WarmedH vm₁ ∧ Stand p l e R s m args below meth c B.U B.locs B.cells B.slots ∧ PostX ⟨T.setVm vm₁, locs, cells, slots⟩ argsL.toArray q B ∧
      Steps p.tables e below (T.setTop g) ((B.U.setTop { g with stack := rest }).pushFrame (.throwing q))) := by
  obtain ⟨mk, hnamed⟩ := Cond.code_named hcode
  obtain ⟨methM, cM, hmethM, -, -, -, -, -, -, hsigM⟩ := Cond.code_spec hnamed hcode
  have hstatic : methM.isStatic = true := Cond.static_spec hnamed hmethM hstat
  obtain ⟨kP, hkP, -⟩ := className_of_methodNamed hnamed
  have hinitP : kP.init = .initialized := Cond.initialized_spec (findClass_of_methodNamed hnamed) hkP hinit
  obtain ⟨vm₁, X₁, hstep₁⟩ := X.invokestatic hexec hown hlink hnamed hmethM hstatic hkP hinitP hy (g := g) hg (argsL := argsL) (rest := rest) (hlen _ hsigM) hstack hdg
  rcases hK m meth c ⟨T.setVm vm₁, locs, cells, slots⟩ { g with stack := rest } (.invokestatic index) mk argsL.toArray X₁ hg hsize hdg hW (X₁.named hnamed) (hpre vm₁ X₁.warmed) with ⟨v, B, X', hpost, hsteps⟩ | ⟨q, B, X', hpost, hsteps⟩
  · exact Or.inl ⟨v, vm₁, B, X₁.warmed, X', hpost, fun target h => hstep₁ _ fun acts => by rw [doInvoke_state]; exact hsteps.trans h⟩
  · exact Or.inr ⟨q, vm₁, B, X₁.warmed, X', hpost, hstep₁ _ fun acts => by rw [doInvoke_state]; exact hsteps⟩
end Calls
theorem vx_cls {s : State} {T : State} {vm₁ : Vm} {E : String} {k : ClassId} (hW : s.WarmedH vm₁) (h : (T.setVm vm₁).vm.findClass E = some k) : s.vm.findClass E = some k := by
  have h1 : vm₁.findClass E = some k := h
  rw [hW.alike.findClass] at h1
  exact h1
/-- the method's frame g, with q thrown over it -/
def vx_W (p : Program) (l : Launch) (e : Env) (R : Room) (s : State) (m : MethodId) (args : Array Value) (below : List Frame) (meth : Method) (c : Code) (H : Heap) (locs : List Loc) (cells slots : Nat) (Q : State → Prop) (g : JFrame) (q : Addr) : Prop :=
  ∀ T : State, T.heap = H → Stand p l e R s m args below meth c T locs cells slots → ∃ t, Steps p.tables e below ((T.setTop g).pushFrame (.throwing q)) t ∧ Q t
def vx_Run (p : Program) (l : Launch) (e : Env) (R : Room) (s : State) (m : MethodId) (args : Array Value) (below : List Frame) (meth : Method) (c : Code) (H : Heap) (locs : List Loc) (cells slots mc ms : Nat) (g : JFrame) (rest : List Value) (Qa : State → Outcome → State → Prop) (XC : String → State → State → Prop) (free : Addr → Prop) : Prop :=
  ∀ T : State, T.heap = H → Stand p l e R s m args below meth c T locs cells slots →
    (∃ (v : Option Value) (st₀ t T' : State) (L : List Loc), st₀.heap = H ∧ Stand p l e R s m args below meth c T' (locs ++ L) (cells + mc) (slots + ms) ∧ (∀ q ∈ L, free q.base) ∧ T'.heap = t.heap ∧ T'.vm = t.vm ∧ Qa st₀ (.returned v) t ∧
      Goes p e below T g T' { g with pc := g.pc + 3, stack := v.toList ++ rest }) ∨
    (∃ (q : Addr) (st₀ t T' : State) (L : List Loc) (E : String) (ce : Cell), st₀.heap = H ∧ Stand p l e R s m args below meth c T' (locs ++ L) (cells + mc) (slots + ms) ∧ (∀ z ∈ L, free z.base) ∧ T'.heap = t.heap ∧ T'.vm = t.vm ∧ XC E st₀ t ∧ t.heap[q]? = some ce ∧ ce.vm = .none ∧ s.vm.findClass E = some ce.cls ∧
      Steps p.tables e below (T.setTop g) ((T'.setTop { g with stack := rest }).pushFrame (.throwing q)))
def vx_X {S : Type} (px : S → Prop) (B : String → S → State → Prop) (A : Nat → Prop) : String → State → State → Prop := fun E st t => ∃ u : S, px u ∧ B E u t ∧ va_F A st t
section Runs
variable {p : Program} {l : Launch} {e : Env} {R : Room} {s : State} {m : MethodId} {args : Array Value} {below : List Frame} {meth : Method} {c : Code} {H : Heap} {locs : List Loc} {cells slots : Nat}
variable {y : MethodName} {bytes cc : ByteArray} {maxL nL mc ms n index : Nat} {ret : Option FieldType} {ws : List Cond} {rm : Room} {Pc : Array Value → State → Prop} {Qc : Array Value → State → Outcome → State → Prop} {XC : String → State → State → Prop} {free : Addr → Prop} {Ts : List Cond} {own C : String} {b : Addr} {As rest : List Value} {g : JFrame}
theorem vx_callBack (cb : CallB R s args own index y bytes maxL ret ws rm mc ms n) (hM : vx_Met l y ws rm Pc Qc XC mc ms free) (hbl : FrameBlind Pc) : vx_Back l R p e below s args y 3 8 (PreOf R mc ms Pc) (PostOf Qc mc ms free) (vx_Post XC mc ms free) := by
  obtain ⟨hrc, hrs, hfr, hlo, hws, hcw, -, hini, -⟩ := cb
  exact vx_back (bytes := bytes) (maxL := maxL) (ret := ret) hM hbl hrc hrs hfr hlo hws hcw (fun a' U hW => word_at hW (Or.inl (by first | rfl | simp [Cond.onTables, Cond.keeps, Cond.steady])) hini)
theorem vx_runV (S : CallFix p m c cc nL s args Ts own) (hM : vx_Met l y ws rm Pc Qc XC mc ms free) (cw : CallW R s args own C index y bytes maxL ret ws rm mc ms n) (hp : PreV s H C b Pc As)
    (hg : g.method = m) (hn : As.length = n) (hsize : g.locals.size = nL) (hstack : g.stack = As.reverse ++ .ref b :: rest) (hW : 2 * g.monitorRoom + (rest.map fun v => v.category).sum ≤ 8) (hdg : decode cc g.pc = .ok (.invokevirtual index, 3)) (hf : cells + mc ≤ R.cells ∧ slots + ms ≤ R.slots) :
    vx_Run p l e R s m args below meth c H locs cells slots mc ms g rest (Qc (Value.ref b :: As).toArray) XC free := by
  have hK : vx_Back l R p e below s args y 3 8 (PreOf R mc ms Pc) (PostOf Qc mc ms free) (vx_Post XC mc ms free) := vx_callBack cw.1 hM hp.1
  obtain ⟨⟨-, -, -, -, -, -, hcode, -, hy, hlen, hl⟩, hin, hse⟩ := cw
  obtain ⟨hx, hb, hml, ho, -⟩ := S
  obtain ⟨-, ⟨cellB, hcB, hoB, hclB⟩, hPc⟩ := hp
  intro T hT X
  rcases vx_callV X hx (C := C) (bytes := bytes) (maxL := maxL) (ret := ret) ho hl hin hse hcode hy hK (by rw [hT]; exact hcB) hoB hclB hg (hsize.trans hml.symm) (argsL := As) (rest := rest) (fun sig h => hn.trans (hlen sig h)) hstack hW (by rw [hb]; exact hdg)
    (fun vm₁ hW₁ => ⟨hf.1, hf.2, hPc (T.setVm vm₁) hT hW₁⟩) with ⟨v, vm₁, ⟨U', l2, c2, s2⟩, hW₁, X', ⟨g', mk, t, L, e1, e2, hq, h1, hL, h2, h3⟩, st⟩ | ⟨q, vm₁, ⟨U', l2, c2, s2⟩, hW₁, X', ⟨g', mk, t, L, E, ce, e1, e2, hq, hce, hcv, hcl, h1, hL, h2, h3⟩, st⟩
  · dsimp only [Pt.U, Pt.locs, Pt.cells, Pt.slots] at X' e1 e2 h1 h2 h3 st
    subst h1; subst h2; subst h3
    exact Or.inl ⟨v, (T.setVm vm₁).calling g' mk (Value.ref b :: As).toArray, t, U', L, hT, X', hL, e1, e2, hq, st⟩
  · dsimp only [Pt.U, Pt.locs, Pt.cells, Pt.slots] at X' e1 e2 h1 h2 h3 st hcl
    subst h1; subst h2; subst h3
    exact Or.inr ⟨q, (T.setVm vm₁).calling g' mk (Value.ref b :: As).toArray, t, U', L, E, ce, hT, X', hL, e1, e2, hq, hce, hcv, vx_cls hW₁ hcl, st⟩
theorem vx_runS (S : CallFix p m c cc nL s args Ts own) (hM : vx_Met l y ws rm Pc Qc XC mc ms free) (cw : CallB R s args own index y bytes maxL ret ws rm mc ms n ∧ (Cond.static y).before args s = true) (hp : PreS s H Pc As)
    (hg : g.method = m) (hn : As.length = n) (hsize : g.locals.size = nL) (hstack : g.stack = As.reverse ++ rest) (hW : 2 * g.monitorRoom + (rest.map fun v => v.category).sum ≤ 8) (hdg : decode cc g.pc = .ok (.invokestatic index, 3)) (hf : cells + mc ≤ R.cells ∧ slots + ms ≤ R.slots) :
    vx_Run p l e R s m args below meth c H locs cells slots mc ms g rest (Qc As.toArray) XC free := by
  have hK : vx_Back l R p e below s args y 3 8 (PreOf R mc ms Pc) (PostOf Qc mc ms free) (vx_Post XC mc ms free) := vx_callBack cw.1 hM hp.1
  obtain ⟨⟨-, -, -, -, -, -, hcode, hini, hy, hlen, hl⟩, hstt⟩ := cw
  obtain ⟨hx, hb, hml, ho, -⟩ := S
  intro T hT X
  rcases vx_callS X hx (bytes := bytes) (maxL := maxL) (ret := ret) ho hl hstt hini hcode hy hK hg (hsize.trans hml.symm) (argsL := As) (rest := rest) (fun sig h => hn.trans (hlen sig h)) hstack hW (by rw [hb]; exact hdg)
    (fun vm₁ hW₁ => ⟨hf.1, hf.2, hp.2 (T.setVm vm₁) hT hW₁⟩) with ⟨v, vm₁, ⟨U', l2, c2, s2⟩, hW₁, X', ⟨g', mk, t, L, e1, e2, hq, h1, hL, h2, h3⟩, st⟩ | ⟨q, vm₁, ⟨U', l2, c2, s2⟩, hW₁, X', ⟨g', mk, t, L, E, ce, e1, e2, hq, hce, hcv, hcl, h1, hL, h2, h3⟩, st⟩
  · dsimp only [Pt.U, Pt.locs, Pt.cells, Pt.slots] at X' e1 e2 h1 h2 h3 st
    subst h1; subst h2; subst h3
    exact Or.inl ⟨v, (T.setVm vm₁).calling g' mk As.toArray, t, U', L, hT, X', hL, e1, e2, hq, st⟩
  · dsimp only [Pt.U, Pt.locs, Pt.cells, Pt.slots] at X' e1 e2 h1 h2 h3 st hcl
    subst h1; subst h2; subst h3
    exact Or.inr ⟨q, (T.setVm vm₁).calling g' mk As.toArray, t, U', L, E, ce, hT, X', hL, e1, e2, hq, hce, hcv, vx_cls hW₁ hcl, st⟩
end Runs
section Rows
variable {p : Program} {l : Launch} {e : Env} {R : Room} {s : State} {m : MethodId} {args : Array Value} {below : List Frame} {meth : Method} {c : Code} {H : Heap} {locs : List Loc} {cells slots : Nat} {Q : State → Prop}
variable {mc ms : Nat} {free : Addr → Prop} {A0 A1 : Nat → Prop} {H0 : Heap} {a : Array Value} {pc : Nat} {ls : Array Slot} {st0 rest : List Value}
theorem vx_keep {st₀ t T' : State} {L : List Loc} (h0 : st₀.heap = H) (e1 : T'.heap = t.heap) (hS : va_S A0 H0 H locs) (hA : ∀ q, q < H.size → A1 q → A0 q) (hf : ∀ q, free q → A0 q) (hL : ∀ q ∈ L, free q.base) (hF : va_F A1 st₀ t) :
    H.size ≤ T'.heap.size ∧ (∀ q : Nat, q < H.size → ¬ A1 q → T'.heap[q]? = H[q]?) ∧ va_S A0 H0 T'.heap (locs ++ L) := by
  obtain ⟨hz, hk⟩ := hF
  rw [h0] at hz hk
  exact ⟨by rw [e1]; exact hz, fun q h1 h2 => by rw [e1]; exact hk q h1 h2,
    ⟨Nat.le_trans hS.1 (by rw [e1]; exact hz), fun q h1 h2 => by rw [e1, hk q (Nat.lt_of_lt_of_le h1 hS.1) (fun z => h2 (hA q (Nat.lt_of_lt_of_le h1 hS.1) z))]; exact hS.2.1 q h1 h2, fun q hq => by
      rcases List.mem_append.mp hq with h | h
      · exact hS.2.2 q h
      · exact hf _ (hL q h)⟩⟩
theorem vx_calli {S SX : Type} {post : Int32 → S → Prop} {px : SX → Prop} {B : S → State → Prop} {BX : String → SX → State → Prop} {AX : Nat → Prop} (hr : vx_Run p l e R s m args below meth c H locs cells slots mc ms (F0 m pc ls st0) rest (va_Qi post B A1 a) (vx_X px BX AX) free) (hS : va_S A0 H0 H locs) (hA : ∀ q, q < H.size → A1 q → A0 q) (hf : ∀ q, free q → A0 q) (hAX : ∀ q, q < H.size → AX q → A0 q)
    (kx : ∀ (E : String) (ce : Cell) (q9 : Addr) (u : SX) (t : State) (H1 : Heap) (locs1 : List Loc), t.heap = H1 → s.vm.Alike t.vm → px u → BX E u t → H.size ≤ H1.size → (∀ q : Nat, q < H.size → ¬ AX q → H1[q]? = H[q]?) → va_S A0 H0 H1 locs1 → H1[q9]? = some ce → ce.vm = .none → s.vm.findClass E = some ce.cls → vx_W p l e R s m args below meth c H1 locs1 (cells + mc) (slots + ms) Q (F0 m pc ls rest) q9)
    (kk : ∀ (r : Int32) (u : S) (t : State) (H1 : Heap) (locs1 : List Loc), t.heap = H1 → s.vm.Alike t.vm → post r u → B u t → H.size ≤ H1.size → (∀ q : Nat, q < H.size → ¬ A1 q → H1[q]? = H[q]?) → va_S A0 H0 H1 locs1 → W p l e R s m args below meth c H1 locs1 (cells + mc) (slots + ms) Q (F0 m (pc + 3) ls (.int r :: rest))) : W p l e R s m args below meth c H locs cells slots Q (F0 m pc ls st0) := by
  intro T hT X
  rcases hr T hT X with ⟨v, st₀, t, T', L, h0, X', hL, e1, e2, ⟨⟨r, u, hv, hp, hb⟩, hF⟩, st⟩ | ⟨q, st₀, t, T', L, E, ce, h0, X', hL, e1, e2, ⟨u, hp, hb, hF⟩, hce, hcv, hcl, st⟩
  · cases hv
    obtain ⟨k1, k2, k3⟩ := vx_keep h0 e1 hS hA hf hL hF
    obtain ⟨t2, a1, b1⟩ := kk r u t T'.heap (locs ++ L) e1.symm (by rw [← e2]; exact X'.warmed.alike) hp hb k1 k2 k3 T' rfl X'
    exact ⟨t2, st t2 a1, b1⟩
  · obtain ⟨k1, k2, k3⟩ := vx_keep h0 e1 hS hAX hf hL hF
    obtain ⟨t2, a1, b1⟩ := kx E ce q u t T'.heap (locs ++ L) e1.symm (by rw [← e2]; exact X'.warmed.alike) hp hb k1 k2 k3 (by rw [e1]; exact hce) hcv hcl T' rfl X'
    exact ⟨t2, st.trans a1, b1⟩
theorem vx_calll {S SX : Type} {post : Int64 → S → Prop} {px : SX → Prop} {B : S → State → Prop} {BX : String → SX → State → Prop} {AX : Nat → Prop} (hr : vx_Run p l e R s m args below meth c H locs cells slots mc ms (F0 m pc ls st0) rest (va_Ql post B A1 a) (vx_X px BX AX) free) (hS : va_S A0 H0 H locs) (hA : ∀ q, q < H.size → A1 q → A0 q) (hf : ∀ q, free q → A0 q) (hAX : ∀ q, q < H.size → AX q → A0 q)
    (kx : ∀ (E : String) (ce : Cell) (q9 : Addr) (u : SX) (t : State) (H1 : Heap) (locs1 : List Loc), t.heap = H1 → s.vm.Alike t.vm → px u → BX E u t → H.size ≤ H1.size → (∀ q : Nat, q < H.size → ¬ AX q → H1[q]? = H[q]?) → va_S A0 H0 H1 locs1 → H1[q9]? = some ce → ce.vm = .none → s.vm.findClass E = some ce.cls → vx_W p l e R s m args below meth c H1 locs1 (cells + mc) (slots + ms) Q (F0 m pc ls rest) q9)
    (kk : ∀ (r : Int64) (u : S) (t : State) (H1 : Heap) (locs1 : List Loc), t.heap = H1 → s.vm.Alike t.vm → post r u → B u t → H.size ≤ H1.size → (∀ q : Nat, q < H.size → ¬ A1 q → H1[q]? = H[q]?) → va_S A0 H0 H1 locs1 → W p l e R s m args below meth c H1 locs1 (cells + mc) (slots + ms) Q (F0 m (pc + 3) ls (.long r :: rest))) : W p l e R s m args below meth c H locs cells slots Q (F0 m pc ls st0) := by
  intro T hT X
  rcases hr T hT X with ⟨v, st₀, t, T', L, h0, X', hL, e1, e2, ⟨⟨r, u, hv, hp, hb⟩, hF⟩, st⟩ | ⟨q, st₀, t, T', L, E, ce, h0, X', hL, e1, e2, ⟨u, hp, hb, hF⟩, hce, hcv, hcl, st⟩
  · cases hv
    obtain ⟨k1, k2, k3⟩ := vx_keep h0 e1 hS hA hf hL hF
    obtain ⟨t2, a1, b1⟩ := kk r u t T'.heap (locs ++ L) e1.symm (by rw [← e2]; exact X'.warmed.alike) hp hb k1 k2 k3 T' rfl X'
    exact ⟨t2, st t2 a1, b1⟩
  · obtain ⟨k1, k2, k3⟩ := vx_keep h0 e1 hS hAX hf hL hF
    obtain ⟨t2, a1, b1⟩ := kx E ce q u t T'.heap (locs ++ L) e1.symm (by rw [← e2]; exact X'.warmed.alike) hp hb k1 k2 k3 (by rw [e1]; exact hce) hcv hcl T' rfl X'
    exact ⟨t2, st.trans a1, b1⟩
theorem vx_callf {S SX : Type} {post : UInt32 → S → Prop} {px : SX → Prop} {B : S → State → Prop} {BX : String → SX → State → Prop} {AX : Nat → Prop} (hr : vx_Run p l e R s m args below meth c H locs cells slots mc ms (F0 m pc ls st0) rest (va_Qf post B A1 a) (vx_X px BX AX) free) (hS : va_S A0 H0 H locs) (hA : ∀ q, q < H.size → A1 q → A0 q) (hf : ∀ q, free q → A0 q) (hAX : ∀ q, q < H.size → AX q → A0 q)
    (kx : ∀ (E : String) (ce : Cell) (q9 : Addr) (u : SX) (t : State) (H1 : Heap) (locs1 : List Loc), t.heap = H1 → s.vm.Alike t.vm → px u → BX E u t → H.size ≤ H1.size → (∀ q : Nat, q < H.size → ¬ AX q → H1[q]? = H[q]?) → va_S A0 H0 H1 locs1 → H1[q9]? = some ce → ce.vm = .none → s.vm.findClass E = some ce.cls → vx_W p l e R s m args below meth c H1 locs1 (cells + mc) (slots + ms) Q (F0 m pc ls rest) q9)
    (kk : ∀ (r : UInt32) (u : S) (t : State) (H1 : Heap) (locs1 : List Loc), t.heap = H1 → s.vm.Alike t.vm → post r u → B u t → H.size ≤ H1.size → (∀ q : Nat, q < H.size → ¬ A1 q → H1[q]? = H[q]?) → va_S A0 H0 H1 locs1 → W p l e R s m args below meth c H1 locs1 (cells + mc) (slots + ms) Q (F0 m (pc + 3) ls (.float r :: rest))) : W p l e R s m args below meth c H locs cells slots Q (F0 m pc ls st0) := by
  intro T hT X
  rcases hr T hT X with ⟨v, st₀, t, T', L, h0, X', hL, e1, e2, ⟨⟨r, u, hv, hp, hb⟩, hF⟩, st⟩ | ⟨q, st₀, t, T', L, E, ce, h0, X', hL, e1, e2, ⟨u, hp, hb, hF⟩, hce, hcv, hcl, st⟩
  · cases hv
    obtain ⟨k1, k2, k3⟩ := vx_keep h0 e1 hS hA hf hL hF
    obtain ⟨t2, a1, b1⟩ := kk r u t T'.heap (locs ++ L) e1.symm (by rw [← e2]; exact X'.warmed.alike) hp hb k1 k2 k3 T' rfl X'
    exact ⟨t2, st t2 a1, b1⟩
  · obtain ⟨k1, k2, k3⟩ := vx_keep h0 e1 hS hAX hf hL hF
    obtain ⟨t2, a1, b1⟩ := kx E ce q u t T'.heap (locs ++ L) e1.symm (by rw [← e2]; exact X'.warmed.alike) hp hb k1 k2 k3 (by rw [e1]; exact hce) hcv hcl T' rfl X'
    exact ⟨t2, st.trans a1, b1⟩
theorem vx_calld {S SX : Type} {post : UInt64 → S → Prop} {px : SX → Prop} {B : S → State → Prop} {BX : String → SX → State → Prop} {AX : Nat → Prop} (hr : vx_Run p l e R s m args below meth c H locs cells slots mc ms (F0 m pc ls st0) rest (va_Qd post B A1 a) (vx_X px BX AX) free) (hS : va_S A0 H0 H locs) (hA : ∀ q, q < H.size → A1 q → A0 q) (hf : ∀ q, free q → A0 q) (hAX : ∀ q, q < H.size → AX q → A0 q)
    (kx : ∀ (E : String) (ce : Cell) (q9 : Addr) (u : SX) (t : State) (H1 : Heap) (locs1 : List Loc), t.heap = H1 → s.vm.Alike t.vm → px u → BX E u t → H.size ≤ H1.size → (∀ q : Nat, q < H.size → ¬ AX q → H1[q]? = H[q]?) → va_S A0 H0 H1 locs1 → H1[q9]? = some ce → ce.vm = .none → s.vm.findClass E = some ce.cls → vx_W p l e R s m args below meth c H1 locs1 (cells + mc) (slots + ms) Q (F0 m pc ls rest) q9)
    (kk : ∀ (r : UInt64) (u : S) (t : State) (H1 : Heap) (locs1 : List Loc), t.heap = H1 → s.vm.Alike t.vm → post r u → B u t → H.size ≤ H1.size → (∀ q : Nat, q < H.size → ¬ A1 q → H1[q]? = H[q]?) → va_S A0 H0 H1 locs1 → W p l e R s m args below meth c H1 locs1 (cells + mc) (slots + ms) Q (F0 m (pc + 3) ls (.double r :: rest))) : W p l e R s m args below meth c H locs cells slots Q (F0 m pc ls st0) := by
  intro T hT X
  rcases hr T hT X with ⟨v, st₀, t, T', L, h0, X', hL, e1, e2, ⟨⟨r, u, hv, hp, hb⟩, hF⟩, st⟩ | ⟨q, st₀, t, T', L, E, ce, h0, X', hL, e1, e2, ⟨u, hp, hb, hF⟩, hce, hcv, hcl, st⟩
  · cases hv
    obtain ⟨k1, k2, k3⟩ := vx_keep h0 e1 hS hA hf hL hF
    obtain ⟨t2, a1, b1⟩ := kk r u t T'.heap (locs ++ L) e1.symm (by rw [← e2]; exact X'.warmed.alike) hp hb k1 k2 k3 T' rfl X'
    exact ⟨t2, st t2 a1, b1⟩
  · obtain ⟨k1, k2, k3⟩ := vx_keep h0 e1 hS hAX hf hL hF
    obtain ⟨t2, a1, b1⟩ := kx E ce q u t T'.heap (locs ++ L) e1.symm (by rw [← e2]; exact X'.warmed.alike) hp hb k1 k2 k3 (by rw [e1]; exact hce) hcv hcl T' rfl X'
    exact ⟨t2, st.trans a1, b1⟩
theorem vx_callv {S SX : Type} {post : S → Prop} {px : SX → Prop} {B : S → State → Prop} {BX : String → SX → State → Prop} {AX : Nat → Prop} (hr : vx_Run p l e R s m args below meth c H locs cells slots mc ms (F0 m pc ls st0) rest (va_Qv post B A1 a) (vx_X px BX AX) free) (hS : va_S A0 H0 H locs) (hA : ∀ q, q < H.size → A1 q → A0 q) (hf : ∀ q, free q → A0 q) (hAX : ∀ q, q < H.size → AX q → A0 q)
    (kx : ∀ (E : String) (ce : Cell) (q9 : Addr) (u : SX) (t : State) (H1 : Heap) (locs1 : List Loc), t.heap = H1 → s.vm.Alike t.vm → px u → BX E u t → H.size ≤ H1.size → (∀ q : Nat, q < H.size → ¬ AX q → H1[q]? = H[q]?) → va_S A0 H0 H1 locs1 → H1[q9]? = some ce → ce.vm = .none → s.vm.findClass E = some ce.cls → vx_W p l e R s m args below meth c H1 locs1 (cells + mc) (slots + ms) Q (F0 m pc ls rest) q9)
    (kk : ∀ (u : S) (t : State) (H1 : Heap) (locs1 : List Loc), t.heap = H1 → s.vm.Alike t.vm → post u → B u t → H.size ≤ H1.size → (∀ q : Nat, q < H.size → ¬ A1 q → H1[q]? = H[q]?) → va_S A0 H0 H1 locs1 → W p l e R s m args below meth c H1 locs1 (cells + mc) (slots + ms) Q (F0 m (pc + 3) ls (rest))) : W p l e R s m args below meth c H locs cells slots Q (F0 m pc ls st0) := by
  intro T hT X
  rcases hr T hT X with ⟨v, st₀, t, T', L, h0, X', hL, e1, e2, ⟨⟨u, hv, hp, hb⟩, hF⟩, st⟩ | ⟨q, st₀, t, T', L, E, ce, h0, X', hL, e1, e2, ⟨u, hp, hb, hF⟩, hce, hcv, hcl, st⟩
  · cases hv
    obtain ⟨k1, k2, k3⟩ := vx_keep h0 e1 hS hA hf hL hF
    obtain ⟨t2, a1, b1⟩ := kk u t T'.heap (locs ++ L) e1.symm (by rw [← e2]; exact X'.warmed.alike) hp hb k1 k2 k3 T' rfl X'
    exact ⟨t2, st t2 a1, b1⟩
  · obtain ⟨k1, k2, k3⟩ := vx_keep h0 e1 hS hAX hf hL hF
    obtain ⟨t2, a1, b1⟩ := kx E ce q u t T'.heap (locs ++ L) e1.symm (by rw [← e2]; exact X'.warmed.alike) hp hb k1 k2 k3 (by rw [e1]; exact hce) hcv hcl T' rfl X'
    exact ⟨t2, st.trans a1, b1⟩
/-- caught by the row x of this method's table; the rows ahead don't take it -/
theorem vx_catch {own name : String} {E : String} {ce : Cell} {q : Addr} (hown : s.vm.findClass own = some m.cls) (pre : List ExceptionTableEntry) (x : ExceptionTableEntry) (suf : List ExceptionTableEntry) (hsplit : c.exceptionTable.toList = pre ++ x :: suf)
    (hpass : ∀ z ∈ pre, covers z pc = false ∨ (z.catchType ≠ 0 ∧ ∃ nm : String, (Cond.classLink own z.catchType nm).before args s = true ∧ va_Nc E nm s)) (hx : covers x pc = true) (h0 : x.catchType ≠ 0)
    (hlink : (Cond.classLink own x.catchType name).before args s = true) (hcast : (Cond.castable E name).before args s = true) (hcell : H[q]? = some ce) (hv : ce.vm = .none) (hcl : s.vm.findClass E = some ce.cls)
    (kk : W p l e R s m args below meth c H locs cells slots Q (F0 m x.handlerPc ls [.ref q])) : vx_W p l e R s m args below meth c H locs cells slots Q (F0 m pc ls rest) q := by
  intro T hT X
  have hpl : e.platform.magicAccessors = ({} : Platform).magicAccessors := by rw [X.admits.platform]
  obtain ⟨c3, c4, hc3, hc4, hasg⟩ := Cond.castable_spec hcast
  cases Option.some.inj (hc3.symm.trans hcl)
  obtain ⟨c5, hc5, hcl5⟩ := Cond.classLink_spec hown hlink e.platform hpl
  cases Option.some.inj (hc4.symm.trans hc5)
  obtain ⟨vm', X', st⟩ := X.thenCaughtThrough q (g := F0 m pc ls rest) rfl (Steps.refl _) (by rw [hT]; exact hcell) (by rw [hv]; rfl) (by obtain ⟨k9, h9, -⟩ := Vm.findClass_spec hcl; exact ⟨k9, h9⟩) pre x suf hsplit
    (fun z hz => by
      rcases hpass z hz with h | ⟨hz0, nm, hl1, hn1⟩
      · exact Or.inl h
      · obtain ⟨c6, hc6, hcl6⟩ := Cond.classLink_spec hown hl1 e.platform hpl
        obtain ⟨a8, b8, h1, h2, h3⟩ := hn1
        cases Option.some.inj (h1.symm.trans hcl)
        cases Option.some.inj (h2.symm.trans hc6)
        exact Or.inr ⟨hz0, _, hcl6, h3⟩) hx (Or.inr ⟨h0, c4, hcl5, hasg⟩)
  obtain ⟨t, a1, b1⟩ := kk (T.setVm vm') hT X'
  exact ⟨t, st.trans a1, b1⟩
end Rows
section Ends
variable {p : Program} {l : Launch} {e : Env} {R : Room} {s : State} {m : MethodId} {args : Array Value} {below : List Frame} {meth : Method} {c : Code} {H : Heap} {locs : List Loc} {cells slots : Nat} {Q : State → Prop}
variable {mc ms : Nat} {free : Addr → Prop} {A0 A1 : Nat → Prop} {H0 : Heap} {a : Array Value} {ls : Array Slot} {st0 rest : List Value}
variable {Qc : Array Value → State → Outcome → State → Prop} {XC : String → State → State → Prop}
/-- what a body that may throw owes at its end -/
def vx_MQ (below : List Frame) (Qc : Array Value → State → Outcome → State → Prop) (XC : String → State → State → Prop) (a : Array Value) (s : State) (mc ms : Nat) (free : Addr → Prop) : State → Prop := fun t =>
  ∃ o, t.status = .running ∧ Ended t below o ∧ vx_Q Qc XC mc ms free a s o t
theorem vx_ret {g : JFrame} {mc ms : Nat} (k : W p l e R s m args below meth c H locs cells slots (MQ below Qc args s mc ms free) g) : W p l e R s m args below meth c H locs cells slots (vx_MQ below Qc XC args s mc ms free) g := by
  intro T hT X
  obtain ⟨t, a1, o, b1, b2, b3, b4⟩ := k T hT X
  exact ⟨t, a1, o, b1, b2, Or.inl ⟨b3, b4⟩⟩
/-- not caught here: it goes on to the caller -/
theorem vx_widen {g : JFrame} {q : Addr} {k n : Nat} (h1 : cells ≤ k) (h2 : slots ≤ n) (kk : vx_W p l e R s m args below meth c H locs k n Q g q) : vx_W p l e R s m args below meth c H locs cells slots Q g q := fun T hT X => kk T hT (stand_widen X h1 h2)
theorem vx_out {pc : Nat} {E : String} {ce : Cell} {q : Addr} {mc ms : Nat} (hout : ∀ x ∈ c.exceptionTable.toList, covers x pc = false) (hlocks : meth.locks = false) (hcell : H[q]? = some ce) (hv : ce.vm = .none) (hcl : s.vm.findClass E = some ce.cls)
    (hx : ∀ t : State, t.heap = H → s.vm.Alike t.vm → XC E s t) (hf : ∀ z ∈ locs, free z.base) (hc : cells ≤ mc) (hs : slots ≤ ms) :
    vx_W p l e R s m args below meth c H locs cells slots (vx_MQ below Qc XC args s mc ms free) (F0 m pc ls rest) q := by
  intro T hT X
  obtain ⟨st1, hrun, hend, hW, hsm⟩ := X.leaveThrown q (g := F0 m pc ls rest) rfl rfl rfl hout hlocks
  have hcell9 : (T.setFrames (.throwing q :: below)).heap[q]? = some ce := by
    show T.heap[q]? = some ce
    rw [hT]; exact hcell
  exact ⟨_, st1, .threw q, hrun, hend, Or.inr ⟨q, rfl, E, ce, locs, hx _ hT hW.alike, hcell9, hv, hcl, hW, hsm.mono hc hs, hf⟩⟩
theorem vx_frame {U : State} {k n : Nat} (h : s.sameButNew ({ U with vm := s.vm } : State) locs k n) : s.heap.size ≤ U.heap.size ∧ ∀ q : Nat, q < s.heap.size → (∀ z ∈ locs, z.base ≠ q) → U.heap[q]? = s.heap[q]? := by
  obtain ⟨-, h2, -, -, -, h6⟩ := h
  refine ⟨h2, fun q hq hz => ?_⟩
  obtain ⟨c9, e1, e2, e3, e4⟩ := h6 q _ (Array.getElem?_eq_getElem hq)
  have hs : c9.slots = (s.heap[q]).slots := Array.ext_getElem? fun i => e4 i fun hm => hz _ hm rfl
  have h9 : c9 = s.heap[q] := by
    rw [hs] at e2
    exact e2
  have e5 : U.heap[q]? = some c9 := e1
  rw [e5, h9, Array.getElem?_eq_getElem hq]
/-- the words of a throw but the four that speak of the heap -/
def vx_no (w : Cond) : Bool := decide (w ≠ .isRef (.static Bundle.tN "UNASSIGNED_STACK" Bundle.steD)) && decide (w ≠ .isRef (.static Bundle.tN "SUPPRESSED_SENTINEL" Bundle.listD)) && decide (w ≠ .laysStatic Bundle.tN "UNASSIGNED_STACK" Bundle.steD) && decide (w ≠ .laysStatic Bundle.tN "SUPPRESSED_SENTINEL" Bundle.listD)
def vx_at0 (own : String) (ic : Nat) (X : String) (names : List String) : List Cond := (Bundle.ownAtoms0 own ic X names).filter vx_no
def vx_atS (own : String) (ic : Nat) (X : String) (names : List String) : List Cond := (Bundle.ownAtoms own ic X names).filter vx_no
/-- a word that the tables alone decide, or a good one -/
def vx_ot (w : Cond) : Bool := w.onTables || goodWord w
theorem vx_ot_at {args a' : Array Value} {s U : State} {w : Cond} (hW : s.WarmedH U.vm) (hvm : s.vm = U.vm) (hg : vx_ot w = true) (h : w.before args s = true) : w.before a' U = true := by
  simp only [vx_ot, Bool.or_eq_true] at hg
  rcases hg with hg | hg
  · exact va_tabs hg hvm h
  · exact word_at hW (good_of_word hg) h
/-- a list's words: the good ones out of the method's own list, the others by premises of their own -/
theorem vx_hat {args : Array Value} {s : State} {L B : List Cond} (h1 : ∀ w ∈ L.filter goodWord, w.before args s = true) (h2 : ∀ w ∈ L.filter (fun w => !goodWord w), w ∈ B) (h3 : ∀ w ∈ B, w.before args s = true) : ∀ w ∈ L, w.before args s = true := by
  intro w hw
  by_cases g : goodWord w = true
  · exact h1 w (List.mem_filter.mpr ⟨hw, g⟩)
  · refine h3 w (h2 w (List.mem_filter.mpr ⟨hw, ?_⟩))
    show (!goodWord w) = true
    cases hgw : goodWord w
    · rfl
    · exact absurd hgw g
theorem vx_c {args : Array Value} {s : State} {w : Cond} {B : List Cond} (h : w.before args s = true) (t : ∀ w ∈ B, w.before args s = true) : ∀ w' ∈ w :: B, w'.before args s = true := fun w' h' => (List.mem_cons.mp h').elim (fun e => by rw [e]; exact h) (t w')
theorem vx_n {args : Array Value} {s : State} : ∀ w ∈ ([] : List Cond), w.before args s = true := fun _ h => nomatch h
theorem vx_own {args : Array Value} {s : State} {L : List Cond} (h1 : ∀ w ∈ L.filter vx_no, w.before args s = true)
    (hU : (Cond.isRef (.static Bundle.tN "UNASSIGNED_STACK" Bundle.steD)).before args s = true) (hN : (Cond.isRef (.static Bundle.tN "SUPPRESSED_SENTINEL" Bundle.listD)).before args s = true)
    (lU : (Cond.laysStatic Bundle.tN "UNASSIGNED_STACK" Bundle.steD).before args s = true) (lN : (Cond.laysStatic Bundle.tN "SUPPRESSED_SENTINEL" Bundle.listD).before args s = true) : ∀ w ∈ L, w.before args s = true := by
  intro w hw
  by_cases e1 : w = .isRef (.static Bundle.tN "UNASSIGNED_STACK" Bundle.steD)
  · rw [e1]; exact hU
  · by_cases e2 : w = .isRef (.static Bundle.tN "SUPPRESSED_SENTINEL" Bundle.listD)
    · rw [e2]; exact hN
    · by_cases e3 : w = .laysStatic Bundle.tN "UNASSIGNED_STACK" Bundle.steD
      · rw [e3]; exact lU
      · by_cases e4 : w = .laysStatic Bundle.tN "SUPPRESSED_SENTINEL" Bundle.listD
        · rw [e4]; exact lN
        · exact h1 w (List.mem_filter.mpr ⟨hw, by unfold vx_no; rw [decide_eq_true e1, decide_eq_true e2, decide_eq_true e3, decide_eq_true e4]; rfl⟩)
/-- where a static field lies, its class's statics cell in H -/
def vx_L (C n d : String) (A : Nat → Prop) (U : State) (H : Heap) : Prop := ∃ (c : ClassId) (k : Class) (i : Nat) (f : Field) (a : Nat) (cell : Cell), U.vm.findClass C = some c ∧ U.fieldFound? C n d = some (c, k, i, f) ∧ f.isStatic = true ∧ k.statics = some a ∧ H[a]? = some cell ∧ cell.vm.isStatics = true ∧ cell.cls = c ∧ f.slot < cell.slots.size ∧ k.staticTypes[f.slot]? = some f.type ∧ ¬ A a
theorem vx_L.moved {C n d : String} {A : Nat → Prop} {u U : State} {H : Heap} (hvm : u.vm.Alike U.vm) (h : vx_L C n d A u H) : vx_L C n d A U H := by
  obtain ⟨c, k, i, f, a, cell, h1, h2, h3, h4, h5, h6, h7, h8, h9, h10⟩ := h
  obtain ⟨k', hi', he⟩ := State.fieldFound?_setVm hvm h2
  exact ⟨c, k', i, f, a, cell, by rw [hvm.findClass]; exact h1, hi', h3, by rw [he]; exact h4, h5, h6, h7, h8, by rw [he]; exact h9, h10⟩
theorem vx_L.kept {C n d : String} {A : Nat → Prop} {U : State} {H H1 : Heap} (h : vx_L C n d A U H) (hq : ∀ a : Nat, a < H.size → ¬ A a → H1[a]? = H[a]?) : vx_L C n d A U H1 := by
  obtain ⟨c, k, i, f, a, cell, h1, h2, h3, h4, h5, h6, h7, h8, h9, h10⟩ := h
  exact ⟨c, k, i, f, a, cell, h1, h2, h3, h4, by rw [hq a (Array.getElem?_eq_some_iff.mp h5).1 h10]; exact h5, h6, h7, h8, h9, h10⟩
theorem vx_L.narrow {C n d : String} {A B : Nat → Prop} {U : State} {H : Heap} (h : vx_L C n d A U H) (hAB : ∀ q, B q → A q) : vx_L C n d B U H := by
  obtain ⟨c, k, i, f, a, cell, h1, h2, h3, h4, h5, h6, h7, h8, h9, h10⟩ := h
  exact ⟨c, k, i, f, a, cell, h1, h2, h3, h4, h5, h6, h7, h8, h9, fun z => h10 (hAB _ z)⟩
theorem vx_L.word {C n d : String} {A : Nat → Prop} {s : State} {args : Array Value} (h : vx_L C n d A s s.heap) : (Cond.laysStatic C n d).before args s = true := by
  obtain ⟨c, k, i, f, a, cell, h1, h2, h3, h4, h5, h6, h7, h8, h9, -⟩ := h
  show (Cond.laysStatic C n d).holds args s none s [] = true
  exact Cond.laysStatic_of h1 h2 h3 h4 h5 h6 h7 h8 h9
/-- .. and what it holds: null or some reference -/
def vx_Zq (C n d : String) (A : Nat → Prop) (U : State) (H : Heap) : Prop := va_Zq C n d A U H ∧ vx_L C n d A U H
theorem vx_Zq.moved {C n d : String} {A : Nat → Prop} {u U : State} {H : Heap} (hvm : u.vm.Alike U.vm) (h : vx_Zq C n d A u H) : vx_Zq C n d A U H := ⟨va_Zq.moved hvm h.1, vx_L.moved hvm h.2⟩
theorem vx_Zq.kept {C n d : String} {A : Nat → Prop} {U : State} {H H1 : Heap} (h : vx_Zq C n d A U H) (hq : ∀ a : Nat, a < H.size → ¬ A a → H1[a]? = H[a]?) : vx_Zq C n d A U H1 := ⟨va_Zq.kept h.1 hq, vx_L.kept h.2 hq⟩
theorem vx_Zq.narrow {C n d : String} {A B : Nat → Prop} {U : State} {H : Heap} (h : vx_Zq C n d A U H) (hAB : ∀ q, B q → A q) : vx_Zq C n d B U H := ⟨va_Zq.narrow h.1 hAB, vx_L.narrow h.2 hAB⟩
theorem vx_Zqof {args : Array Value} {s : State} {C n d : String} {A : Nat → Prop} (hl : (Cond.laysStatic C n d).before args s = true) (hini : (Cond.initialized C).before args s = true) (h : (Cond.isRef (.static C n d)).before args s = true) (hA : ∀ a : Nat, a < s.heap.size → ¬ A a) : vx_Zq C n d A s s.heap := by
  refine ⟨va_Zqof hl hini h hA, ?_⟩
  obtain ⟨c, k, i, f, a, cell, h1, h2, h3, h4, h5, h6, h7, h8, h9⟩ := Cond.laysStatic_spec hl
  exact ⟨c, k, i, f, a, cell, h1, h2, h3, h4, h5, h6, h7, h8, h9, hA a (Array.getElem?_eq_some_iff.mp h5).1⟩
theorem vx_isRef {C n d : String} {v : Value} {A : Nat → Prop} {s : State} {args : Array Value} (h : va_Z C n d v A s s.heap) (hv : v.isRef = true) : (Cond.isRef (.static C n d)).before args s = true := by
  obtain ⟨cf, kf, fi, f, a, cell, h1, h2, h3, h4, h5, h6, h7, -⟩ := h
  have he : (Term.static C n d).eval args s none [] s = some v := by
    simp [Term.eval, State.fieldNamed?, h1, h2, h4, h5, h6, h7]
  simp only [Cond.before, Cond.holds, Cond.value, he]
  cases v <;> simp_all [Value.isRef]
theorem vx_isRefq {C n d : String} {A : Nat → Prop} {s : State} {args : Array Value} (h : va_Zq C n d A s s.heap) : (Cond.isRef (.static C n d)).before args s = true := by
  rcases h with h | ⟨t, h⟩
  · exact vx_isRef h rfl
  · exact vx_isRef h rfl
/-- the same frame, seen from here: as if the method were called anew in this heap -/
theorem vx_rebase {T : State} (X : Stand p l e R s m args below meth c T locs cells slots) {R' : Room} (hf : R'.frames ≤ R.frames) (hl : R'.locals ≤ R.locals) (hc : cells + R'.cells ≤ R.cells) (hs : slots + R'.slots ≤ R.slots) :
    Stand p l e R' ((T.setVm s.vm).setFrames (.invoking m args :: below)) m args below meth c T [] 0 0 := by
  have htop : (T.setVm s.vm).topJava?.isSome := X.here.top
  have hF : ((T.setVm s.vm).setFrames (.invoking m args :: below)).frames = .invoking m args :: below := State.frames_setFrames _ (State.cur_lt_of_top htop)
  obtain ⟨g₀, hg0⟩ := Option.isSome_iff_exists.mp htop
  obtain ⟨r, hr⟩ := State.topJava?_eq_some.mp hg0
  have hl9 : e.platform.stackLimits (T.setVm s.vm).me = e.platform.stackLimits s.me := X.limits
  have hb9 : (T.setVm s.vm).me.stackBytes = s.me.stackBytes := X.bytes
  refine ⟨X.admits, X.cas, X.clock, hF, ?_, X.hears, X.method, X.code, X.here, X.tail, X.warmed, ?_, ?_, ?_⟩
  · have h := X.room
    have hU : ((T.setVm s.vm).setFrames (.invoking m args :: below)).localsInUse = s.localsInUse := by
      rw [State.localsInUse_invoking hF (meth := meth) (c := c) X.method X.code, State.localsInUse_invoking X.frames X.method X.code]
    simp only [State.hasRoom, Bool.and_eq_true, decide_eq_true_eq] at h ⊢
    obtain ⟨⟨⟨⟨h1, h2, h3, h4, h5, h6⟩, h7⟩, h8⟩, h9⟩ := h
    rw [X.frames, List.length_cons] at h2 h3
    have q1 := X.heapSize
    have q2 := X.used
    simp only [hF, hU, List.length_cons, State.stackLimits_setFrames, State.stackBytes_setFrames, hl9, hb9]
    refine ⟨⟨⟨⟨by omega, by omega, by omega, by omega, by omega, h6⟩, ?_⟩, ?_⟩, X.book⟩
    · show T.heap.size + R'.cells ≤ e.platform.maxCells
      omega
    · show T.slotsUsed + R'.slots ≤ e.platform.maxSlots
      omega
  · rw [State.stackLimits_setFrames]; rfl
  · rw [State.stackBytes_setFrames]; rfl
  · refine ⟨?_, Nat.le_refl _, Nat.le_refl _, ?_, ?_, fun a c9 h9 => ⟨c9, h9, rfl, rfl, fun _ _ => rfl⟩⟩
    · obtain ⟨t, ht, -⟩ := State.frames_cons hr
      show T.setVm s.vm = { ((T.setVm s.vm).setFrames (.invoking m args :: below)).setFrames (T.setVm s.vm).frames with heap := T.heap, slotsUsed := T.slotsUsed }
      rw [State.setFrames_setFrames, State.setFrames_self ht]
      rfl
    · show T.slotsUsed = T.slotsUsed + ((T.heap.toList.drop T.heap.size).map (·.slots.size)).sum
      rw [List.drop_eq_nil_of_le (Nat.le_of_eq Array.length_toList)]
      rfl
    · show ((T.heap.toList.drop T.heap.size).map (·.slots.size)).sum ≤ 0
      rw [List.drop_eq_nil_of_le (Nat.le_of_eq Array.length_toList)]
      exact Nat.le_refl _
/-- 'throw new E()': new; dup; invokespecial; athrow -/
theorem vx_throw0 {cc : ByteArray} {pc : Nat} (hexec : p.tables.exec = Jvm.exec) (hb : c.code = cc) (hl : l.stackTraces = false) {own cls : String} {names : List String} {ik ic mc ms : Nat} {A : Nat → Prop}
    (hown : s.vm.findClass own = some m.cls) (hcls : Bundle.fit cls = true) (hnames : ∀ n ∈ names, Bundle.fit n = true)
    (hk : (Cond.classLink own ik cls).before args s = true) (hini : (Cond.initialized cls).before args s = true) (hat : ∀ w ∈ vx_at0 own ic cls names, w.before args s = true)
    (hgood : ∀ w ∈ Cond.classLink own ik cls :: Cond.initialized cls :: vx_at0 own ic cls names, vx_ot w = true)
    (hU : vx_Zq Bundle.tN "UNASSIGNED_STACK" Bundle.steD A s s.heap) (hN : vx_Zq Bundle.tN "SUPPRESSED_SENTINEL" Bundle.listD A s s.heap) (hS : va_S A s.heap H locs) (hsize : ls.size = c.maxLocals)
    (d0 : decode cc pc = .ok (.new ik, 3)) (d3 : decode cc (pc + 3) = .ok (.dup, 1)) (d4 : decode cc (pc + 4) = .ok (.invokespecial ic, 3)) (d7 : decode cc (pc + 7) = .ok (.athrow, 1))
    (hout : ∀ x ∈ c.exceptionTable.toList, covers x (pc + 7) = false)
    (hRframes : names.length + 3 < R.frames) (hRlocals : (rest.map fun v => v.category).sum + (13 * (names.length + 1) + 42) ≤ R.locals) (hRcells : cells + 1 ≤ R.cells) (hRslots : slots + 6 ≤ R.slots) (hlocks : meth.locks = false)
    (hx : ∀ t : State, s.vm.Alike t.vm → H.size ≤ t.heap.size → (∀ q : Nat, q < H.size → t.heap[q]? = H[q]?) → XC cls s t)
    (hf : ∀ z ∈ locs, free z.base) (hc : cells + 1 ≤ mc) (hs : slots + 6 ≤ ms) :
    W p l e R s m args below meth c H locs cells slots (vx_MQ below Qc XC args s mc ms free) (F0 m pc ls rest) := by
  intro T hT X
  have htr : e.platform.stackTraces = false := (show e.platform.stackTraces = l.stackTraces by rw [X.admits.platform]).trans hl
  have Y := vx_rebase X (R' := { frames := R.frames, locals := R.locals, cells := 1, slots := 6 }) (Nat.le_refl _) (Nat.le_refl _) hRcells hRslots
  obtain ⟨s', hA⟩ : ∃ z, z = (T.setVm s.vm).setFrames (.invoking m args :: below) := ⟨_, rfl⟩
  rw [← hA] at Y
  have hvm : s'.vm = s.vm := by rw [hA]; rfl
  have hhp : s'.heap = H := by rw [hA]; exact hT
  have hW0 : s.WarmedH s'.vm := by rw [hvm]; exact State.WarmedH.refl s
  have hat' : ∀ w ∈ vx_at0 own ic cls names, w.before args s' = true := fun w hw => vx_ot_at hW0 hvm.symm (hgood w (List.mem_cons_of_mem _ (List.mem_cons_of_mem _ hw))) (hat w hw)
  have hk' : (Cond.classLink own ik cls).before args s' = true := vx_ot_at hW0 hvm.symm (hgood _ List.mem_cons_self) hk
  have hini' : (Cond.initialized cls).before args s' = true := vx_ot_at hW0 hvm.symm (hgood _ (List.mem_cons_of_mem _ List.mem_cons_self)) hini
  have hU' : vx_Zq Bundle.tN "UNASSIGNED_STACK" Bundle.steD A s' s'.heap := by rw [hhp]; exact vx_Zq.moved hW0.alike (hU.kept hS.2.1)
  have hN' : vx_Zq Bundle.tN "SUPPRESSED_SENTINEL" Bundle.listD A s' s'.heap := by rw [hhp]; exact vx_Zq.moved hW0.alike (hN.kept hS.2.1)
  have h : ∀ w ∈ Bundle.ownAtoms0 own ic cls names, w.before args s' = true := vx_own hat' (vx_isRefq hU'.1) (vx_isRefq hN'.1) hU'.2.word hN'.2.word
  have hown' : s'.vm.findClass own = some m.cls := by rw [hvm]; exact hown
  have hins : (Cond.instantiable cls 6).before args s' = true := h _ (by simp [Bundle.ownAtoms0])
  obtain ⟨vm₁, cX, kX, hfX, hkX, -, -, X₁, st1⟩ := Y.newCold hexec (own := own) (C := cls) (index := ik) (n := 6) hown' hk' hins hini'
    (g := F0 m pc ls rest) rfl (by rw [hb]; exact d0) (Nat.le_refl _) (Nat.le_refl _)
  generalize hT1 : (T.setVm vm₁).pushCell { cls := cX, slots := kX.instanceTypes.map defaultValue, vm := .none } = T1 at X₁ st1
  have hcat : (Value.ref T.heap.size).category = 1 := rfl
  have hcellA : T1.heap[T.heap.size]? = some (freshCell cX kX) := by rw [← hT1]; exact State.heap_pushCell_size _ _
  have d3' : decode c.code (pc + 3) = .ok (.dup, 1) := by rw [hb]; exact d3
  obtain ⟨U, hsteps, hrun, hend, hW, hsame, ce, hce, hO⟩ := X₁.ctorThrow0 hexec htr (own := own) (cls := cls) (names := names) (ic := ic) hown' hcls hnames h (fun x hx => nomatch hx) hfX hkX hcellA (by rw [hhp, hT]; exact Nat.le_refl _)
    (g := { method := m, pc := pc + 4, locals := ls, stack := .ref T.heap.size :: .ref T.heap.size :: rest, locked := none }) rfl hsize rfl rfl (rest := rest) rfl
    (by rw [hb]; exact d4) (by rw [hb]; exact d7) hout hRframes (by simp only [List.map_cons, List.sum_cons, hcat]; omega) hlocks
  obtain ⟨f1, f2⟩ := vx_frame hsame
  rw [hhp] at f1 f2
  have hWs : s.WarmedH U.vm := State.WarmedH.trans hW0 hW
  have hcl : s.vm.findClass cls = some ce.cls := by
    have h9 := hO.cls
    rw [hvm] at h9
    exact h9
  have hall : s.sameButNew ({ U with vm := s.vm } : State) locs mc ms := by
    subst hA
    obtain ⟨e1, e2⟩ := hsame
    rw [State.setFrames_setFrames] at e1
    have h2 : (T.setVm s.vm).sameButNew ({ U with vm := s.vm } : State) [] (0 + 1) (0 + 6) := ⟨e1, e2⟩
    have h3 := X.same.trans h2
    rw [List.append_nil] at h3
    exact h3.mono hc hs
  refine ⟨U, ?_, .threw T.heap.size, hrun, hend, Or.inr ⟨T.heap.size, rfl, cls, ce, locs, hx U hWs.alike f1 (fun q hq => f2 q hq (fun z hz => nomatch hz)), hce, hO.vm, hcl, hWs, hall, hf⟩⟩
  refine st1 _ ?_
  show Steps p.tables e below (T1.setTop { method := m, pc := pc + 3, locals := ls, stack := .ref T.heap.size :: rest, locked := none }) _
  jvm_step X₁.here [X₁.here.top, hexec, d3', Value.category]
  exact hsteps
/-- 'throw new E("text")': new; dup; ldc; invokespecial; athrow -/
theorem vx_throwS {cc : ByteArray} {pc : Nat} (hexec : p.tables.exec = Jvm.exec) (hb : c.code = cc) (hl : l.stackTraces = false) {own cls text : String} {names : List String} {ik is ic mc ms sa : Nat} {A : Nat → Prop}
    (hown : s.vm.findClass own = some m.cls) (hcls : Bundle.fit cls = true) (hnames : ∀ n ∈ names, Bundle.fit n = true)
    (hk : (Cond.classLink own ik cls).before args s = true) (hini : (Cond.initialized cls).before args s = true) (hstr : vk_R own is text sa s) (hat : ∀ w ∈ vx_atS own ic cls names, w.before args s = true)
    (hgood : ∀ w ∈ Cond.classLink own ik cls :: Cond.initialized cls :: vx_atS own ic cls names, vx_ot w = true)
    (hU : vx_Zq Bundle.tN "UNASSIGNED_STACK" Bundle.steD A s s.heap) (hN : vx_Zq Bundle.tN "SUPPRESSED_SENTINEL" Bundle.listD A s s.heap) (hS : va_S A s.heap H locs) (hsize : ls.size = c.maxLocals)
    (d0 : decode cc pc = .ok (.new ik, 3)) (d3 : decode cc (pc + 3) = .ok (.dup, 1)) (d4 : decode cc (pc + 4) = .ok (.ldc is, 2)) (d6 : decode cc (pc + 6) = .ok (.invokespecial ic, 3)) (d9 : decode cc (pc + 9) = .ok (.athrow, 1))
    (hout : ∀ x ∈ c.exceptionTable.toList, covers x (pc + 9) = false)
    (hRframes : names.length + 3 < R.frames) (hRlocals : (rest.map fun v => v.category).sum + (13 * (names.length + 1) + 43) ≤ R.locals) (hRcells : cells + 1 ≤ R.cells) (hRslots : slots + 6 ≤ R.slots) (hlocks : meth.locks = false)
    (hx : ∀ t : State, s.vm.Alike t.vm → H.size ≤ t.heap.size → (∀ q : Nat, q < H.size → t.heap[q]? = H[q]?) → XC cls s t)
    (hf : ∀ z ∈ locs, free z.base) (hc : cells + 1 ≤ mc) (hs : slots + 6 ≤ ms) :
    W p l e R s m args below meth c H locs cells slots (vx_MQ below Qc XC args s mc ms free) (F0 m pc ls rest) := by
  intro T hT X
  have htr : e.platform.stackTraces = false := (show e.platform.stackTraces = l.stackTraces by rw [X.admits.platform]).trans hl
  have Y := vx_rebase X (R' := { frames := R.frames, locals := R.locals, cells := 1, slots := 6 }) (Nat.le_refl _) (Nat.le_refl _) hRcells hRslots
  obtain ⟨s', hA⟩ : ∃ z, z = (T.setVm s.vm).setFrames (.invoking m args :: below) := ⟨_, rfl⟩
  rw [← hA] at Y
  have hvm : s'.vm = s.vm := by rw [hA]; rfl
  have hhp : s'.heap = H := by rw [hA]; exact hT
  have hW0 : s.WarmedH s'.vm := by rw [hvm]; exact State.WarmedH.refl s
  have hat' : ∀ w ∈ vx_atS own ic cls names, w.before args s' = true := fun w hw => vx_ot_at hW0 hvm.symm (hgood w (List.mem_cons_of_mem _ (List.mem_cons_of_mem _ hw))) (hat w hw)
  have hk' : (Cond.classLink own ik cls).before args s' = true := vx_ot_at hW0 hvm.symm (hgood _ List.mem_cons_self) hk
  have hini' : (Cond.initialized cls).before args s' = true := vx_ot_at hW0 hvm.symm (hgood _ (List.mem_cons_of_mem _ List.mem_cons_self)) hini
  have hU' : vx_Zq Bundle.tN "UNASSIGNED_STACK" Bundle.steD A s' s'.heap := by rw [hhp]; exact vx_Zq.moved hW0.alike (hU.kept hS.2.1)
  have hN' : vx_Zq Bundle.tN "SUPPRESSED_SENTINEL" Bundle.listD A s' s'.heap := by rw [hhp]; exact vx_Zq.moved hW0.alike (hN.kept hS.2.1)
  have h : ∀ w ∈ Bundle.ownAtoms own ic cls names, w.before args s' = true := vx_own hat' (vx_isRefq hU'.1) (vx_isRefq hN'.1) hU'.2.word hN'.2.word
  have hown' : s'.vm.findClass own = some m.cls := by rw [hvm]; exact hown
  have hins : (Cond.instantiable cls 6).before args s' = true := h _ (by simp [Bundle.ownAtoms])
  obtain ⟨vm₁, cX, kX, hfX, hkX, -, -, X₁, st1⟩ := Y.newCold hexec (own := own) (C := cls) (index := ik) (n := 6) hown' hk' hins hini'
    (g := F0 m pc ls rest) rfl (by rw [hb]; exact d0) (Nat.le_refl _) (Nat.le_refl _)
  generalize hT1 : (T.setVm vm₁).pushCell { cls := cX, slots := kX.instanceTypes.map defaultValue, vm := .none } = T1 at X₁ st1
  have hcat : (Value.ref T.heap.size).category = 1 := rfl
  have hcellA : T1.heap[T.heap.size]? = some (freshCell cX kX) := by rw [← hT1]; exact State.heap_pushCell_size _ _
  have d3' : decode c.code (pc + 3) = .ok (.dup, 1) := by rw [hb]; exact d3
  have d4' : decode c.code (pc + 4) = .ok (.ldc is, 2) := by rw [hb]; exact d4
  have hstr' : vk_R own is text sa s' := vk_R.warm hW0 hstr
  obtain ⟨U, hsteps, hrun, hend, hW, hsame, ce, hce, hO⟩ := X₁.ctorThrowS hexec htr (own := own) (cls := cls) (names := names) (ic := ic) hown' hcls hnames h (fun x hx => nomatch hx) hfX hkX hcellA (by rw [hhp, hT]; exact Nat.le_refl _) (msg := .ref sa) rfl
    (g := { method := m, pc := pc + 6, locals := ls, stack := .ref sa :: .ref T.heap.size :: .ref T.heap.size :: rest, locked := none }) rfl hsize rfl rfl (rest := rest) rfl
    (by rw [hb]; exact d6) (by rw [hb]; exact d9) hout hRframes (by simp only [List.map_cons, List.sum_cons, hcat]; omega) hlocks
  obtain ⟨f1, f2⟩ := vx_frame hsame
  rw [hhp] at f1 f2
  have hWs : s.WarmedH U.vm := State.WarmedH.trans hW0 hW
  have hcl : s.vm.findClass cls = some ce.cls := by
    have h9 := hO.cls
    rw [hvm] at h9
    exact h9
  have hall : s.sameButNew ({ U with vm := s.vm } : State) locs mc ms := by
    subst hA
    obtain ⟨e1, e2⟩ := hsame
    rw [State.setFrames_setFrames] at e1
    have h2 : (T.setVm s.vm).sameButNew ({ U with vm := s.vm } : State) [] (0 + 1) (0 + 6) := ⟨e1, e2⟩
    have h3 := X.same.trans h2
    rw [List.append_nil] at h3
    exact h3.mono hc hs
  refine ⟨U, ?_, .threw T.heap.size, hrun, hend, Or.inr ⟨T.heap.size, rfl, cls, ce, locs, hx U hWs.alike f1 (fun q hq => f2 q hq (fun z hz => nomatch hz)), hce, hO.vm, hcl, hWs, hall, hf⟩⟩
  refine st1 _ ?_
  show Steps p.tables e below (T1.setTop { method := m, pc := pc + 3, locals := ls, stack := .ref T.heap.size :: rest, locked := none }) _
  jvm_step X₁.here [X₁.here.top, hexec, d3', Value.category]
  exact X₁.ldcString hexec (own := own) (text := text) (index := is) (a := sa) hown' hstr'.1 hstr'.2
    (g := { method := m, pc := pc + 4, locals := ls, stack := .ref T.heap.size :: .ref T.heap.size :: rest, locked := none }) rfl d4' _ hsteps
/-- 'throw new E("text")', the text by a wide index -/
theorem vx_throwSW {cc : ByteArray} {pc : Nat} (hexec : p.tables.exec = Jvm.exec) (hb : c.code = cc) (hl : l.stackTraces = false) {own cls text : String} {names : List String} {ik is ic mc ms sa : Nat} {A : Nat → Prop}
    (hown : s.vm.findClass own = some m.cls) (hcls : Bundle.fit cls = true) (hnames : ∀ n ∈ names, Bundle.fit n = true)
    (hk : (Cond.classLink own ik cls).before args s = true) (hini : (Cond.initialized cls).before args s = true) (hstr : vk_R own is text sa s) (hat : ∀ w ∈ vx_atS own ic cls names, w.before args s = true)
    (hgood : ∀ w ∈ Cond.classLink own ik cls :: Cond.initialized cls :: vx_atS own ic cls names, vx_ot w = true)
    (hU : vx_Zq Bundle.tN "UNASSIGNED_STACK" Bundle.steD A s s.heap) (hN : vx_Zq Bundle.tN "SUPPRESSED_SENTINEL" Bundle.listD A s s.heap) (hS : va_S A s.heap H locs) (hsize : ls.size = c.maxLocals)
    (d0 : decode cc pc = .ok (.new ik, 3)) (d3 : decode cc (pc + 3) = .ok (.dup, 1)) (d4 : decode cc (pc + 4) = .ok (.ldc_w is, 3)) (d7 : decode cc (pc + 7) = .ok (.invokespecial ic, 3)) (d10 : decode cc (pc + 10) = .ok (.athrow, 1))
    (hout : ∀ x ∈ c.exceptionTable.toList, covers x (pc + 10) = false)
    (hRframes : names.length + 3 < R.frames) (hRlocals : (rest.map fun v => v.category).sum + (13 * (names.length + 1) + 43) ≤ R.locals) (hRcells : cells + 1 ≤ R.cells) (hRslots : slots + 6 ≤ R.slots) (hlocks : meth.locks = false)
    (hx : ∀ t : State, s.vm.Alike t.vm → H.size ≤ t.heap.size → (∀ q : Nat, q < H.size → t.heap[q]? = H[q]?) → XC cls s t)
    (hf : ∀ z ∈ locs, free z.base) (hc : cells + 1 ≤ mc) (hs : slots + 6 ≤ ms) :
    W p l e R s m args below meth c H locs cells slots (vx_MQ below Qc XC args s mc ms free) (F0 m pc ls rest) := by
  intro T hT X
  have htr : e.platform.stackTraces = false := (show e.platform.stackTraces = l.stackTraces by rw [X.admits.platform]).trans hl
  have Y := vx_rebase X (R' := { frames := R.frames, locals := R.locals, cells := 1, slots := 6 }) (Nat.le_refl _) (Nat.le_refl _) hRcells hRslots
  obtain ⟨s', hA⟩ : ∃ z, z = (T.setVm s.vm).setFrames (.invoking m args :: below) := ⟨_, rfl⟩
  rw [← hA] at Y
  have hvm : s'.vm = s.vm := by rw [hA]; rfl
  have hhp : s'.heap = H := by rw [hA]; exact hT
  have hW0 : s.WarmedH s'.vm := by rw [hvm]; exact State.WarmedH.refl s
  have hat' : ∀ w ∈ vx_atS own ic cls names, w.before args s' = true := fun w hw => vx_ot_at hW0 hvm.symm (hgood w (List.mem_cons_of_mem _ (List.mem_cons_of_mem _ hw))) (hat w hw)
  have hk' : (Cond.classLink own ik cls).before args s' = true := vx_ot_at hW0 hvm.symm (hgood _ List.mem_cons_self) hk
  have hini' : (Cond.initialized cls).before args s' = true := vx_ot_at hW0 hvm.symm (hgood _ (List.mem_cons_of_mem _ List.mem_cons_self)) hini
  have hU' : vx_Zq Bundle.tN "UNASSIGNED_STACK" Bundle.steD A s' s'.heap := by rw [hhp]; exact vx_Zq.moved hW0.alike (hU.kept hS.2.1)
  have hN' : vx_Zq Bundle.tN "SUPPRESSED_SENTINEL" Bundle.listD A s' s'.heap := by rw [hhp]; exact vx_Zq.moved hW0.alike (hN.kept hS.2.1)
  have h : ∀ w ∈ Bundle.ownAtoms own ic cls names, w.before args s' = true := vx_own hat' (vx_isRefq hU'.1) (vx_isRefq hN'.1) hU'.2.word hN'.2.word
  have hown' : s'.vm.findClass own = some m.cls := by rw [hvm]; exact hown
  have hins : (Cond.instantiable cls 6).before args s' = true := h _ (by simp [Bundle.ownAtoms])
  obtain ⟨vm₁, cX, kX, hfX, hkX, -, -, X₁, st1⟩ := Y.newCold hexec (own := own) (C := cls) (index := ik) (n := 6) hown' hk' hins hini'
    (g := F0 m pc ls rest) rfl (by rw [hb]; exact d0) (Nat.le_refl _) (Nat.le_refl _)
  generalize hT1 : (T.setVm vm₁).pushCell { cls := cX, slots := kX.instanceTypes.map defaultValue, vm := .none } = T1 at X₁ st1
  have hcat : (Value.ref T.heap.size).category = 1 := rfl
  have hcellA : T1.heap[T.heap.size]? = some (freshCell cX kX) := by rw [← hT1]; exact State.heap_pushCell_size _ _
  have d3' : decode c.code (pc + 3) = .ok (.dup, 1) := by rw [hb]; exact d3
  have d4' : decode c.code (pc + 4) = .ok (.ldc_w is, 3) := by rw [hb]; exact d4
  have hstr' : vk_R own is text sa s' := vk_R.warm hW0 hstr
  obtain ⟨U, hsteps, hrun, hend, hW, hsame, ce, hce, hO⟩ := X₁.ctorThrowS hexec htr (own := own) (cls := cls) (names := names) (ic := ic) hown' hcls hnames h (fun x hx => nomatch hx) hfX hkX hcellA (by rw [hhp, hT]; exact Nat.le_refl _) (msg := .ref sa) rfl
    (g := { method := m, pc := pc + 7, locals := ls, stack := .ref sa :: .ref T.heap.size :: .ref T.heap.size :: rest, locked := none }) rfl hsize rfl rfl (rest := rest) rfl
    (by rw [hb]; exact d7) (by rw [hb]; exact d10) hout hRframes (by simp only [List.map_cons, List.sum_cons, hcat]; omega) hlocks
  obtain ⟨f1, f2⟩ := vx_frame hsame
  rw [hhp] at f1 f2
  have hWs : s.WarmedH U.vm := State.WarmedH.trans hW0 hW
  have hcl : s.vm.findClass cls = some ce.cls := by
    have h9 := hO.cls
    rw [hvm] at h9
    exact h9
  have hall : s.sameButNew ({ U with vm := s.vm } : State) locs mc ms := by
    subst hA
    obtain ⟨e1, e2⟩ := hsame
    rw [State.setFrames_setFrames] at e1
    have h2 : (T.setVm s.vm).sameButNew ({ U with vm := s.vm } : State) [] (0 + 1) (0 + 6) := ⟨e1, e2⟩
    have h3 := X.same.trans h2
    rw [List.append_nil] at h3
    exact h3.mono hc hs
  refine ⟨U, ?_, .threw T.heap.size, hrun, hend, Or.inr ⟨T.heap.size, rfl, cls, ce, locs, hx U hWs.alike f1 (fun q hq => f2 q hq (fun z hz => nomatch hz)), hce, hO.vm, hcl, hWs, hall, hf⟩⟩
  refine st1 _ ?_
  show Steps p.tables e below (T1.setTop { method := m, pc := pc + 3, locals := ls, stack := .ref T.heap.size :: rest, locked := none }) _
  jvm_step X₁.here [X₁.here.top, hexec, d3', Value.category]
  exact X₁.ldcStringW hexec (own := own) (text := text) (index := is) (a := sa) hown' hstr'.1 hstr'.2
    (g := { method := m, pc := pc + 4, locals := ls, stack := .ref T.heap.size :: .ref T.heap.size :: rest, locked := none }) rfl d4' _ hsteps
end Ends
section Bodies
variable {l : Launch}
theorem vx_ofW {y : MethodName} {ws ws' : List Cond} {rm : Room} {Pc : Array Value → State → Prop} {Qc : Array Value → State → Outcome → State → Prop} {XC : String → State → State → Prop} {mc ms : Nat} {free : Addr → Prop} {cc : ByteArray} {maxL : Nat} {ret : Option FieldType}
    (hy : plainName y.cls = true) (hw : ws = Cond.code y cc maxL ret :: ws')
    (body : ∀ p e s m args below meth c s₁, BodyLoose p l y (headSpec ws rm) cc maxL ret e s m args below meth c s₁ → c.maxLocals = maxL → (∀ x ∈ c.exceptionTable.toList, False) → Pc args s →
      W p l e (headSpec ws rm).room s m args below meth c s.heap [] 0 0 (vx_MQ below Qc XC args s mc ms free) (entryFrame m args maxL)) : vx_Met l y ws rm Pc Qc XC mc ms free := by
  refine MetFree.of_bodyS (code := cc) (maxLocals := maxL) (ret := ret) hy ?_ ?_
  · intro args s m h hn
    obtain ⟨meth, c, h1, h2, h3, h4, h5, h6, -, -⟩ := Cond.code_spec hn (atoms_spec (ws := ws) h _ (by rw [hw]; exact List.mem_cons_self))
    exact ⟨meth, c, h1, h2, h3, h4, h5, h6⟩
  · intro p e s m args below meth c s₁ B hml hP _
    have hh0 : s₁.heap = s.heap := by rw [B.state]; rfl
    have ht : ∀ x ∈ c.exceptionTable.toList, False := by
      obtain ⟨meth9, c9, h1, h2, -, -, -, -, h7, -⟩ := Cond.code_spec B.named (atoms_spec (ws := ws) B.pre _ (by rw [hw]; exact List.mem_cons_self))
      cases Option.some.inj (h1.symm.trans B.method)
      cases Option.some.inj (h2.symm.trans (Stand.of_body B).code)
      intro x hx
      rw [Array.isEmpty_iff.mp h7] at hx
      cases hx
    obtain ⟨t, a1, o, b1, b2, b3⟩ := body p e s m args below meth c s₁ B hml ht hP s₁ hh0 (Stand.of_body B)
    exact ⟨t, o, a1, b1, b2, b3⟩
/-- the table of a body with handlers -/
theorem vx_table {p : Program} {x y : MethodName} {S : Spec} {cc bytes : ByteArray} {maxL maxL' : Nat} {ret ret' : Option FieldType} {e : Env} {s s₁ : State} {m : MethodId} {args : Array Value} {below : List Frame} {meth : Method} {c : Code} {hh : List (Nat × Nat × Nat × Nat)}
    (B : BodyLoose p l y S cc maxL ret e s m args below meth c s₁) (h : (Cond.codeWith y bytes maxL' ret' hh).before args s = true) : c.exceptionTable.toList = tableOf hh := by
  obtain ⟨m9, meth9, c9, hn9, h1, h2, -, -, h6, -⟩ := Cond.codeWith_spec h
  cases Option.some.inj (hn9.symm.trans B.named)
  cases Option.some.inj (h1.symm.trans B.method)
  cases Option.some.inj (h2.symm.trans (Stand.of_body B).code)
  rw [← h6, table_eq]
end Bodies
end VXA
/-! ===== END ===== -/
/-! ===== BEGIN a static call of a method with an exception table ===== -/
section VXS
variable {p : Program} {l : Launch} {e : Env} {R : Room} {s : State} {m : MethodId} {args : Array Value} {below : List Frame} {meth : Method} {c : Code} {T : State} {H : Heap} {locs : List Loc} {cells slots : Nat}
abbrev vx_CSW (R : Room) (s : State) (args : Array Value) (own : String) (index : Nat) (y : MethodName) (bytes : ByteArray) (maxL : Nat) (ret : Option FieldType) (hh : List (Nat × Nat × Nat × Nat)) (ws : List Cond) (rm : Room) (mc ms n : Nat) : Prop :=
  (rm.cells = mc ∧ rm.slots = ms ∧ rm.frames + 1 ≤ R.frames ∧ 8 + (maxL + 11) + rm.locals ≤ R.locals ∧ (∀ w ∈ ws, ∀ (a' : Array Value) (U : State), s.WarmedH U.vm → w.before a' U = true) ∧ Cond.codeWith y bytes maxL ret hh ∈ ws) ∧
  (Cond.codeWith y bytes maxL ret hh).before args s = true ∧ (Cond.initialized y.cls).before args s = true ∧ (y.cls ≠ "java/lang/invoke/MethodHandle" ∧ y.cls ≠ "java/lang/invoke/VarHandle") ∧
  (∀ sig, parseMethodDescriptor y.desc = some sig → n = sig.parameters.length) ∧ (Cond.methodLink own index y).before args s = true ∧ (Cond.static y).before args s = true
theorem vx_cwSW {own : String} {index maxL mc ms : Nat} {y : MethodName} {bytes : ByteArray} {ret : Option FieldType} {hh : List (Nat × Nat × Nat × Nat)} {Ts ws ws' : List Cond} {rm : Room} (n : Nat) (ht : ∀ w ∈ Ts, w.before args s = true) (hT : GoodIn Ts (va_wsS own index y ws)) (hw : ws = Cond.codeWith y bytes maxL ret hh :: ws') (hrc : rm.cells = mc) (hrs : rm.slots = ms)
    (hd : y.cls ≠ "java/lang/invoke/MethodHandle" ∧ y.cls ≠ "java/lang/invoke/VarHandle" ∧ (parseMethodDescriptor y.desc).map (fun d => d.parameters.length) = some n) (hR : rm.frames + 1 ≤ R.frames ∧ 8 + (maxL + 11) + rm.locals ≤ R.locals) :
    vx_CSW R s args own index y bytes maxL ret hh ws rm mc ms n := by
  have ok : ∀ w ∈ va_wsS own index y ws, w.before args s = true := fun w h => ht w (hT w h).1
  have hG : GoodIn Ts ws := fun w h => hT w (by unfold va_wsS; exact List.mem_append_right _ h)
  have hc : Cond.codeWith y bytes maxL ret hh ∈ ws := by rw [hw]; exact List.mem_cons_self
  refine ⟨⟨hrc, hrs, hR.1, hR.2, pay_in ht hG, hc⟩, ht _ (hG _ hc).1, ok _ (by simp [va_wsS]), ⟨hd.1, hd.2.1⟩, fun sig h => ?_, ok _ (by simp [va_wsS]), ok _ (by simp [va_wsS])⟩
  have h2 := hd.2.2
  rw [h] at h2
  exact (Option.some.inj h2).symm
theorem vx_callSW (X : Stand p l e R s m args below meth c T locs cells slots) (hexec : p.tables.exec = Jvm.exec) {own : String} {index : Nat} {y : MethodName} {bytes : ByteArray} {maxL : Nat} {ret : Option FieldType} {hh : List (Nat × Nat × Nat × Nat)}
    (hown : s.vm.findClass own = some m.cls) (hlink : (Cond.methodLink own index y).before args s = true) (hstat : (Cond.static y).before args s = true) (hinit : (Cond.initialized y.cls).before args s = true)
    (hcode : (Cond.codeWith y bytes maxL ret hh).before args s = true) (hy : y.cls ≠ "java/lang/invoke/MethodHandle" ∧ y.cls ≠ "java/lang/invoke/VarHandle")
    {W9 : Nat} {Pre : Pt → Array Value → Prop} {Post : Pt → Array Value → Option Value → Pt → Prop} (hK : Back l R p e below s args y 3 W9 Pre Post)
    {g : JFrame} (hg : g.method = m) (hsize : g.locals.size = c.maxLocals) {argsL rest : List Value} (hlen : ∀ sig, parseMethodDescriptor y.desc = some sig → argsL.length = sig.parameters.length)
    (hstack : g.stack = argsL.reverse ++ rest) (hW : 2 * g.monitorRoom + (rest.map fun v => v.category).sum ≤ W9) (hdg : decode c.code g.pc = .ok (.invokestatic index, 3))
    (hpre : ∀ vm₁, s.WarmedH vm₁ → Pre ⟨T.setVm vm₁, locs, cells, slots⟩ argsL.toArray) :
    ∃ (v : Option Value) (vm₁ : Vm) (B : Pt), s.WarmedH vm₁ ∧ Stand p l e R s m args below meth c B.U B.locs B.cells B.slots ∧ Post ⟨T.setVm vm₁, locs, cells, slots⟩ argsL.toArray v B ∧
      ∀ target, Steps p.tables e below (B.U.setTop { g with pc := g.pc + 3, stack := v.toList ++ rest }) target → Steps p.tables e below (T.setTop g) target := by
  obtain ⟨mk, methM, cM, hnamed, hmethM, -, -, -, -, -, -, hsigM⟩ := Cond.codeWith_spec hcode
  have hstatic : methM.isStatic = true := Cond.static_spec hnamed hmethM hstat
  obtain ⟨kP, hkP, -⟩ := className_of_methodNamed hnamed
  have hinitP : kP.init = .initialized := Cond.initialized_spec (findClass_of_methodNamed hnamed) hkP hinit
  obtain ⟨vm₁, X₁, hstep₁⟩ := X.invokestatic hexec hown hlink hnamed hmethM hstatic hkP hinitP hy (g := g) hg (argsL := argsL) (rest := rest) (hlen _ hsigM) hstack hdg
  obtain ⟨v, B, X', hpost, hsteps⟩ := hK m meth c ⟨T.setVm vm₁, locs, cells, slots⟩ { g with stack := rest } (.invokestatic index) mk argsL.toArray X₁ hg hsize hdg hW (X₁.named hnamed) (hpre vm₁ X₁.warmed)
  exact ⟨v, vm₁, B, X₁.warmed, X', hpost, fun target h => hstep₁ _ fun acts => by rw [doInvoke_state]; exact hsteps.trans h⟩
theorem vx_runSW {y : MethodName} {bytes cc : ByteArray} {maxL nL mc ms n index : Nat} {ret : Option FieldType} {hh : List (Nat × Nat × Nat × Nat)} {ws : List Cond} {rm : Room} {Pc : Array Value → State → Prop} {Qc : Array Value → State → Outcome → State → Prop} {free : Addr → Prop} {Ts : List Cond} {own : String} {As rest : List Value} {g : JFrame}
    (S : CallFix p m c cc nL s args Ts own) (hM : Met l y ws rm Pc Qc mc ms free) (cw : vx_CSW R s args own index y bytes maxL ret hh ws rm mc ms n) (hp : PreS s H Pc As)
    (hg : g.method = m) (hn : As.length = n) (hsize : g.locals.size = nL) (hstack : g.stack = As.reverse ++ rest) (hW : 2 * g.monitorRoom + (rest.map fun v => v.category).sum ≤ 8) (hdg : decode cc g.pc = .ok (.invokestatic index, 3)) (hf : cells + mc ≤ R.cells ∧ slots + ms ≤ R.slots) :
    va_Run p l e R s m args below meth c H locs cells slots mc ms g rest (Qc As.toArray) (free) := by
  obtain ⟨⟨hrc, hrs, hfr, hlo, hws, hcw⟩, hcode, hini, hy, hlen, hl, hstt⟩ := cw
  have hK : Back l R p e below s args y 3 8 (PreOf R mc ms Pc) (PostOf Qc mc ms free) := va_backW (hh := hh) (bytes := bytes) (maxL := maxL) (ret := ret) hM hp.1 hrc hrs hfr hlo hws hcw (fun a' U hW => word_at hW (Or.inl (by first | rfl | simp [Cond.onTables, Cond.keeps, Cond.steady])) hini)
  obtain ⟨hx, hb, hml, ho, -⟩ := S
  intro T hT X
  obtain ⟨v, vm₁, ⟨U', l2, c2, s2⟩, hW₁, X', ⟨g', mk, t, L, e1, e2, hq, h1, hL, h2, h3⟩, st⟩ := vx_callSW X hx (hh := hh) (bytes := bytes) (maxL := maxL) (ret := ret) ho hl hstt hini hcode hy hK hg (hsize.trans hml.symm) (argsL := As) (rest := rest) (fun sig h => hn.trans (hlen sig h)) hstack hW (by rw [hb]; exact hdg)
    (fun vm₁ hW₁ => ⟨hf.1, hf.2, hp.2 (T.setVm vm₁) hT hW₁⟩)
  dsimp only [Pt.U, Pt.locs, Pt.cells, Pt.slots] at X' e1 e2 h1 h2 h3 st
  subst h1; subst h2; subst h3
  exact ⟨v, (T.setVm vm₁).calling g' mk As.toArray, t, U', L, hT, X', hL, e1, e2, hq, st⟩
/-- not caught here, past rows that name other classes: it goes on to the caller -/
theorem vx_outP {p : Program} {l : Launch} {e : Env} {R : Room} {s : State} {m : MethodId} {args : Array Value} {below : List Frame} {meth : Method} {c : Code} {H : Heap} {locs : List Loc} {cells slots : Nat} {free : Addr → Prop} {ls : Array Slot} {rest : List Value} {Qc : Array Value → State → Outcome → State → Prop} {XC : String → State → State → Prop}
    {pc : Nat} {own E : String} {ce : Cell} {q : Addr} {mc ms : Nat} (hown : s.vm.findClass own = some m.cls) (hlocks : meth.locks = false)
    (hpass : ∀ z ∈ c.exceptionTable.toList, covers z pc = false ∨ (z.catchType ≠ 0 ∧ ∃ nm : String, (Cond.classLink own z.catchType nm).before args s = true ∧ va_Nc E nm s)) (hcell : H[q]? = some ce) (hv : ce.vm = .none) (hcl : s.vm.findClass E = some ce.cls)
    (hx : ∀ t : State, t.heap = H → s.vm.Alike t.vm → XC E s t) (hf : ∀ z ∈ locs, free z.base) (hc : cells ≤ mc) (hs : slots ≤ ms) :
    vx_W p l e R s m args below meth c H locs cells slots (vx_MQ below Qc XC args s mc ms free) (F0 m pc ls rest) q := by
  intro T hT X
  have hpl : e.platform.magicAccessors = ({} : Platform).magicAccessors := by rw [X.admits.platform]
  obtain ⟨vm', hW', X', st⟩ := X.outThrough hlocks q (g := F0 m pc ls rest) rfl rfl rfl (cell := ce) (by rw [hT]; exact hcell) (by rw [hv]; rfl)
    (by obtain ⟨k9, h9, -⟩ := Vm.findClass_spec hcl; exact ⟨k9, h9⟩) (fun z hz => by
      rcases hpass z hz with h | ⟨hz0, nm, hl1, hn1⟩
      · exact Or.inl h
      · obtain ⟨c6, hc6, hcl6⟩ := Cond.classLink_spec hown hl1 e.platform hpl
        obtain ⟨a8, b8, h1, h2, h3⟩ := hn1
        cases Option.some.inj (h1.symm.trans hcl)
        cases Option.some.inj (h2.symm.trans hc6)
        exact Or.inr ⟨hz0, _, hcl6, h3⟩)
  obtain ⟨g₀, hfr⟩ := X'.frames_eq
  have hcell9 : ((T.setVm vm').setFrames (.throwing q :: below)).heap[q]? = some ce := by
    show T.heap[q]? = some ce
    rw [hT]; exact hcell
  have hend : Ended ((T.setVm vm').setFrames (.throwing q :: below)) below (.threw q) := State.frames_setFrames _ (State.cur_lt_of_frames hfr)
  refine ⟨(T.setVm vm').setFrames (.throwing q :: below), ?_, .threw q, X'.here.running, hend, Or.inr ⟨q, rfl, E, ce, locs, hx _ hT (X'.ends _).1.alike, hcell9, hv, hcl, (X'.ends _).1, (X'.ends _).2.mono hc hs, hf⟩⟩
  rw [X.pushThrowing_eq]
  exact st
/-- a thing of a world lies in the heap -/
theorem vx_lt {D : va_G} {cl : List vw_C} {ws : va_W} {H1 : Heap} (h : va_P D cl ws H1) {k : Nat} {q : Nat × va_E} (hk : ws[k]? = some q) : q.1 < H1.size := (h k q hk).lt
end VXS
/-! ===== END ===== -/
/-! ===== BEGIN methods with a table of their own: called by a name, returning or throwing ===== -/
section VXH
/-! vx_backW, vx_callVX, vx_callSX, vx_callVW, vx_runVW, vx_runVX, vx_runSX, vx_ofWH follow the same proofs as their sisters above (Free/Laws.lean, Shelf42/LK1.lean); vx_outP calls Shelf42/NT130.lean (outThrough). -/
section
variable {l : Launch} {R : Room} {p : Program} {e : Env} {below : List Frame} {s : State} {sargs : Array Value} {y : MethodName} {len W9 : Nat}
theorem vx_backW {ws : List Cond} {rm : Room} {Pc : Array Value → State → Prop} {Qc : Array Value → State → Outcome → State → Prop} {XC : String → State → State → Prop} {mc ms : Nat} {free : Addr → Prop} {bytes : ByteArray} {maxL : Nat} {ret : Option FieldType} {hh : List (Nat × Nat × Nat × Nat)}
    (hM : vx_Met l y ws rm Pc Qc XC mc ms free) (hblind : FrameBlind Pc) (hrc : rm.cells = mc) (hrs : rm.slots = ms)
    (hframes : rm.frames + 1 ≤ R.frames) (hlocals : W9 + (maxL + 11) + rm.locals ≤ R.locals)
    (hws : ∀ w ∈ ws, ∀ a' U, s.WarmedH U.vm → w.before a' U = true) (hcode : Cond.codeWith y bytes maxL ret hh ∈ ws) (hinit : ∀ a' U, s.WarmedH U.vm → (Cond.initialized y.cls).before a' U = true) :
    vx_Back l R p e below s sargs y len W9 (PreOf R mc ms Pc) (PostOf Qc mc ms free) (vx_Post XC mc ms free) := by
  intro m meth c A g ig mk a X hg hsize hdg hW hn hp
  have h1 : (headSpec ws rm).pre.before a A.U = true := atoms_intro fun w hw => hws w hw _ _ X.warmed
  have h2 : (Cond.codeWith y bytes maxL ret hh).before a A.U = true := hws _ hcode _ _ X.warmed
  have h3 : (Cond.initialized y.cls).before a A.U = true := hinit _ _ X.warmed
  have h4 : A.cells + (headSpec ws rm).room.cells ≤ R.cells := by rw [show (headSpec ws rm).room.cells = mc from hrc]; exact hp.1
  have h5 : A.slots + (headSpec ws rm).room.slots ≤ R.slots := by rw [show (headSpec ws rm).room.slots = ms from hrs]; exact hp.2.1
  have hPc : Pc a (A.U.calling g mk a) := hblind _ _ _ _ hp.2.2
  obtain ⟨U, Ls, c0, s0⟩ := A
  dsimp only [Pt.U, Pt.locs, Pt.cells, Pt.slots] at h1 h2 h3 h4 h5 X hn hPc ⊢
  obtain ⟨m9, methY, cY, hn9, hmY, hcY, -, hlY, -⟩ := Cond.codeWith_spec h2
  cases Option.some.inj (hn9.symm.trans hn)
  obtain ⟨kY, hkY, -⟩ := className_of_methodNamed hn
  have hinitY : kY.init = .initialized := Cond.initialized_spec (findClass_of_methodNamed hn) hkY h3
  have h : At U g.method c below := by rw [hg]; exact X.here
  have hlocals9 : W9 + (maxL + 11) + (headSpec ws rm).room.locals ≤ R.locals := hlocals
  have happ : (headSpec ws rm).appliesLoose y e.platform (U.calling g mk a) = true :=
    Spec.appliesLoose_calling (g := g) h hdg hn hkY hinitY
      (X.room_calling (g := g) (R' := (headSpec ws rm).room) hsize hmY hcY hframes (by rw [hlY]; omega) h4 h5) h1
  obtain ⟨mid, hmid⟩ := h.above
  have hfr : (U.setTop g).frames = (.java g :: mid) ++ below := by rw [State.frames_setTop' g h.top, hmid]; rfl
  obtain ⟨o, s₂, hsteps, -, hend, hq⟩ := Steps.callFree hM p X.admits X.cas X.clock (acts := []) hfr happ hPc trivial
  have hq' : vx_Q Qc XC mc ms free a (U.calling g mk a) o s₂ := hq
  rw [State.frames_setTop' g h.top] at hend
  obtain ⟨g₀, hg0⟩ := Option.isSome_iff_exists.mp h.top
  obtain ⟨r, hr⟩ := State.topJava?_eq_some.mp hg0
  have hr' : (({ U with heap := s₂.heap, slotsUsed := s₂.slotsUsed } : State).setVm s₂.vm).frames = .java g₀ :: r := hr
  rcases hq' with ⟨hqc, L, hfe, hL⟩ | ⟨q, rfl, E, ce, L, hx, hce, hcv, hcl, hW₂, hsm, hL⟩
  · obtain ⟨⟨v, rfl⟩, hW₂, e2, q2, q3, q4, q5, q6⟩ := id hfe
    have e3 : s₂ = ({ (U.calling g mk a).setFrames s₂.frames with heap := s₂.heap, slotsUsed := s₂.slotsUsed } : State).setVm s₂.vm := by
      have : s₂ = ({ s₂ with vm := (U.calling g mk a).vm } : State).setVm s₂.vm := rfl
      rw [e2] at this
      exact this
    obtain ⟨c₂, i₂, len₂, hc₂, hd₂, hf₂⟩ := hend
    have hW' : U.WarmedH s₂.vm := hW₂
    have hcc : c₂ = c := by
      have h1 : s₂.code? g.method = U.code? g.method := by
        rw [State.code?_eq, State.code?_eq, hW'.alike.method?]
      exact Option.some.inj (hc₂.symm.trans (h1.trans h.code))
    subst hcc
    have hlen : len₂ = len := by rw [hdg] at hd₂; cases hd₂; rfl
    subst hlen
    have hs₂ : s₂ = (({ U with heap := s₂.heap, slotsUsed := s₂.slotsUsed } : State).setVm s₂.vm).setTop { g with pc := g.pc + len₂, stack := v.toList ++ g.stack } := by
      refine e3.trans ?_
      rw [hf₂, State.calling_eq h.top, State.setFrames_setFrames, State.setTop_of_frames _ hr', hr]
      rfl
    have hsame : U.sameButNew ({ U with heap := s₂.heap, slotsUsed := s₂.slotsUsed } : State) L mc ms := by
      refine ⟨?_, q2, q3, q4, q5, q6⟩
      obtain ⟨t, ht, -⟩ := State.frames_cons hr
      show ({ U with heap := s₂.heap, slotsUsed := s₂.slotsUsed } : State) = { U.setFrames U.frames with heap := s₂.heap, slotsUsed := s₂.slotsUsed }
      rw [State.setFrames_self ht]
    subst hg
    refine Or.inl ⟨v, ⟨(({ U with heap := s₂.heap, slotsUsed := s₂.slotsUsed } : State).setVm s₂.vm), Ls ++ L, c0 + mc, s0 + ms⟩,
      ⟨X.admits, X.cas, X.clock, X.frames, X.room, X.hears, X.method, X.code, (X.here.setHeapUsed s₂.heap s₂.slotsUsed).setVm hW'.alike, X.tail, State.WarmedH.trans X.warmed hW', X.limits, X.bytes, X.same.trans (hsame.setVm s.vm)⟩,
      ⟨g, mk, s₂, L, rfl, rfl, hqc, rfl, hL, rfl, rfl⟩, ?_⟩
    show Steps p.tables e below _ ((({ U with heap := s₂.heap, slotsUsed := s₂.slotsUsed } : State).setVm s₂.vm).setTop { g with pc := g.pc + len₂, stack := v.toList ++ g.stack })
    rw [← hs₂]
    exact hsteps
  · obtain ⟨e2, q2, q3, q4, q5, q6⟩ := id hsm
    have e3 : s₂ = ({ (U.calling g mk a).setFrames s₂.frames with heap := s₂.heap, slotsUsed := s₂.slotsUsed } : State).setVm s₂.vm := by
      have : s₂ = ({ s₂ with vm := (U.calling g mk a).vm } : State).setVm s₂.vm := rfl
      rw [e2] at this
      exact this
    have hf₂ : s₂.frames = .throwing q :: .java g :: U.frames.tail := hend
    have hW' : U.WarmedH s₂.vm := hW₂
    have hs₂ : s₂ = ((({ U with heap := s₂.heap, slotsUsed := s₂.slotsUsed } : State).setVm s₂.vm).setTop g).pushFrame (.throwing q) := by
      refine e3.trans ?_
      rw [hf₂, State.calling_eq h.top, State.setFrames_setFrames, State.pushFrame, State.frames_setTop _ hr', State.setTop_of_frames _ hr', State.setFrames_setFrames, hr]
      rfl
    have hsame : U.sameButNew ({ U with heap := s₂.heap, slotsUsed := s₂.slotsUsed } : State) L mc ms := by
      refine ⟨?_, q2, q3, q4, q5, q6⟩
      obtain ⟨t, ht, -⟩ := State.frames_cons hr
      show ({ U with heap := s₂.heap, slotsUsed := s₂.slotsUsed } : State) = { U.setFrames U.frames with heap := s₂.heap, slotsUsed := s₂.slotsUsed }
      rw [State.setFrames_self ht]
    subst hg
    refine Or.inr ⟨q, ⟨(({ U with heap := s₂.heap, slotsUsed := s₂.slotsUsed } : State).setVm s₂.vm), Ls ++ L, c0 + mc, s0 + ms⟩,
      ⟨X.admits, X.cas, X.clock, X.frames, X.room, X.hears, X.method, X.code, (X.here.setHeapUsed s₂.heap s₂.slotsUsed).setVm hW'.alike, X.tail, State.WarmedH.trans X.warmed hW', X.limits, X.bytes, X.same.trans (hsame.setVm s.vm)⟩,
      ⟨g, mk, s₂, L, E, ce, rfl, rfl, hx, hce, hcv, hcl, rfl, hL, rfl, rfl⟩, ?_⟩
    show Steps p.tables e below _ (((({ U with heap := s₂.heap, slotsUsed := s₂.slotsUsed } : State).setVm s₂.vm).setTop g).pushFrame (.throwing q))
    rw [← hs₂]
    exact hsteps
end
variable {p : Program} {l : Launch} {e : Env} {R : Room} {s : State} {m : MethodId} {args : Array Value} {below : List Frame} {meth : Method} {c : Code} {T : State} {H : Heap} {locs : List Loc} {cells slots : Nat}
theorem vx_callVX (X : Stand p l e R s m args below meth c T locs cells slots) (hexec : p.tables.exec = Jvm.exec) {own C : String} {index : Nat} {y : MethodName} {bytes : ByteArray} {maxL : Nat} {ret : Option FieldType} {hh : List (Nat × Nat × Nat × Nat)}
    (hown : s.vm.findClass own = some m.cls) (hlink : (Cond.methodLink own index y).before args s = true) (hinst : (Cond.instanceMethod y).before args s = true) (hsel : (Cond.selects C y y).before args s = true)
    (hcode : (Cond.codeWith y bytes maxL ret hh).before args s = true) (hy : y.cls ≠ "java/lang/invoke/MethodHandle" ∧ y.cls ≠ "java/lang/invoke/VarHandle")
    {W9 : Nat} {Pre : Pt → Array Value → Prop} {Post : Pt → Array Value → Option Value → Pt → Prop} {PostX : Pt → Array Value → Addr → Pt → Prop} (hK : vx_Back l R p e below s args y 3 W9 Pre Post PostX)
    {b : Addr} {cellB : Cell} (hcell : T.heap[b]? = some cellB) (hobj : cellB.vm.isStatics = false) (hcls : s.vm.findClass C = some cellB.cls)
    {g : JFrame} (hg : g.method = m) (hsize : g.locals.size = c.maxLocals) {argsL rest : List Value} (hlen : ∀ sig, parseMethodDescriptor y.desc = some sig → argsL.length = sig.parameters.length)
    (hstack : g.stack = argsL.reverse ++ .ref b :: rest) (hW : 2 * g.monitorRoom + (rest.map fun v => v.category).sum ≤ W9) (hdg : decode c.code g.pc = .ok (.invokevirtual index, 3))
    (hpre : ∀ vm₁, s.WarmedH vm₁ → Pre ⟨T.setVm vm₁, locs, cells, slots⟩ (Value.ref b :: argsL).toArray) :
    (∃ (v : Option Value) (vm₁ : Vm) (B : Pt), s.WarmedH vm₁ ∧ Stand p l e R s m args below meth c B.U B.locs B.cells B.slots ∧ Post ⟨T.setVm vm₁, locs, cells, slots⟩ (Value.ref b :: argsL).toArray v B ∧
      ∀ target, Steps p.tables e below (B.U.setTop { g with pc := g.pc + 3, stack := v.toList ++ rest }) target → Steps p.tables e below (T.setTop g) target) ∨
    (∃ (q : Addr) (vm₁ : Vm) (B : Pt), s.WarmedH vm₁ ∧ Stand p l e R s m args below meth c B.U B.locs B.cells B.slots ∧ PostX ⟨T.setVm vm₁, locs, cells, slots⟩ (Value.ref b :: argsL).toArray q B ∧
      Steps p.tables e below (T.setTop g) ((B.U.setTop { g with stack := rest }).pushFrame (.throwing q))) := by
  obtain ⟨mk, methM, hnamed, hmethM, hstM, habM⟩ := Cond.instanceMethod_spec hinst
  obtain ⟨m8, methM', cM, hn8, hmethM', -, -, -, -, -, -, hsigM⟩ := Cond.codeWith_spec hcode
  cases Option.some.inj (hn8.symm.trans hnamed)
  cases hmethM.symm.trans hmethM'
  obtain ⟨c2, r2, m2, q1, q2, q3, q4, kP, hkP, hkPi⟩ := Cond.selects_spec hsel
  cases hcls.symm.trans q1
  cases (State.methodFound?_of_named hnamed hy).symm.trans q2
  cases hnamed.symm.trans q3
  have hselP : selectMethod e.platform s.vm cellB.cls mk = .method mk := by rw [Launch.admits_selectMethod X.admits]; exact q4
  obtain ⟨vm₁, X₁, hstep₁⟩ := X.invokevirtual hexec hown hlink hnamed hmethM hstM hkP hkPi hy (a := b) (cell := cellB) hcell
    (fun z h => by rw [h] at hobj; cases hobj) hselP hmethM habM hkP hkPi (g := g) hg (argsL := argsL) (rest := rest) (hlen _ hsigM) hstack hdg
  rcases hK m meth c ⟨T.setVm vm₁, locs, cells, slots⟩ { g with stack := rest } (.invokevirtual index) mk (Value.ref b :: argsL).toArray X₁ hg hsize hdg hW (X₁.named hnamed) (hpre vm₁ X₁.warmed) with ⟨v, B, X', hpost, hsteps⟩ | ⟨q, B, X', hpost, hsteps⟩
  · exact Or.inl ⟨v, vm₁, B, X₁.warmed, X', hpost, fun target h => hstep₁ _ fun acts => by rw [doInvoke_state]; exact hsteps.trans h⟩
  · exact Or.inr ⟨q, vm₁, B, X₁.warmed, X', hpost, hstep₁ _ fun acts => by rw [doInvoke_state]; exact hsteps⟩
theorem vx_callSX (X : Stand p l e R s m args below meth c T locs cells slots) (hexec : p.tables.exec = Jvm.exec) {own : String} {index : Nat} {y : MethodName} {bytes : ByteArray} {maxL : Nat} {ret : Option FieldType} {hh : List (Nat × Nat × Nat × Nat)}
    (hown : s.vm.findClass own = some m.cls) (hlink : (Cond.methodLink own index y).before args s = true) (hstat : (Cond.static y).before args s = true) (hinit : (Cond.initialized y.cls).before args s = true)
    (hcode : (Cond.codeWith y bytes maxL ret hh).before args s = true) (hy : y.cls ≠ "java/lang/invoke/MethodHandle" ∧ y.cls ≠ "java/lang/invoke/VarHandle")
    {W9 : Nat} {Pre : Pt → Array Value → Prop} {Post : Pt → Array Value → Option Value → Pt → Prop} {PostX : Pt → Array Value → Addr → Pt → Prop} (hK : vx_Back l R p e below s args y 3 W9 Pre Post PostX)
    {g : JFrame} (hg : g.method = m) (hsize : g.locals.size = c.maxLocals) {argsL rest : List Value} (hlen : ∀ sig, parseMethodDescriptor y.desc = some sig → argsL.length = sig.parameters.length)
    (hstack : g.stack = argsL.reverse ++ rest) (hW : 2 * g.monitorRoom + (rest.map fun v => v.category).sum ≤ W9) (hdg : decode c.code g.pc = .ok (.invokestatic index, 3))
    (hpre : ∀ vm₁, s.WarmedH vm₁ → Pre ⟨T.setVm vm₁, locs, cells, slots⟩ argsL.toArray) :
    (∃ (v : Option Value) (vm₁ : Vm) (B : Pt), s.WarmedH vm₁ ∧ Stand p l e R s m args below meth c B.U B.locs B.cells B.slots ∧ Post ⟨T.setVm vm₁, locs, cells, slots⟩ argsL.toArray v B ∧
      ∀ target, Steps p.tables e below (B.U.setTop { g with pc := g.pc + 3, stack := v.toList ++ rest }) target → Steps p.tables e below (T.setTop g) target) ∨
    (∃ (q : Addr) (vm₁ : Vm) (B : Pt), s.WarmedH vm₁ ∧ Stand p l e R s m args below meth c B.U B.locs B.cells B.slots ∧ PostX ⟨T.setVm vm₁, locs, cells, slots⟩ argsL.toArray q B ∧
      Steps p.tables e below (T.setTop g) ((B.U.setTop { g with stack := rest }).pushFrame (.throwing q))) := by
  obtain ⟨mk, methM, cM, hnamed, hmethM, -, -, -, -, -, -, hsigM⟩ := Cond.codeWith_spec hcode
  have hstatic : methM.isStatic = true := Cond.static_spec hnamed hmethM hstat
  obtain ⟨kP, hkP, -⟩ := className_of_methodNamed hnamed
  have hinitP : kP.init = .initialized := Cond.initialized_spec (findClass_of_methodNamed hnamed) hkP hinit
  obtain ⟨vm₁, X₁, hstep₁⟩ := X.invokestatic hexec hown hlink hnamed hmethM hstatic hkP hinitP hy (g := g) hg (argsL := argsL) (rest := rest) (hlen _ hsigM) hstack hdg
  rcases hK m meth c ⟨T.setVm vm₁, locs, cells, slots⟩ { g with stack := rest } (.invokestatic index) mk argsL.toArray X₁ hg hsize hdg hW (X₁.named hnamed) (hpre vm₁ X₁.warmed) with ⟨v, B, X', hpost, hsteps⟩ | ⟨q, B, X', hpost, hsteps⟩
  · exact Or.inl ⟨v, vm₁, B, X₁.warmed, X', hpost, fun target h => hstep₁ _ fun acts => by rw [doInvoke_state]; exact hsteps.trans h⟩
  · exact Or.inr ⟨q, vm₁, B, X₁.warmed, X', hpost, hstep₁ _ fun acts => by rw [doInvoke_state]; exact hsteps⟩
theorem vx_callVW (X : Stand p l e R s m args below meth c T locs cells slots) (hexec : p.tables.exec = Jvm.exec) {own C : String} {index : Nat} {y : MethodName} {bytes : ByteArray} {maxL : Nat} {ret : Option FieldType} {hh : List (Nat × Nat × Nat × Nat)}
    (hown : s.vm.findClass own = some m.cls) (hlink : (Cond.methodLink own index y).before args s = true) (hinst : (Cond.instanceMethod y).before args s = true) (hsel : (Cond.selects C y y).before args s = true)
    (hcode : (Cond.codeWith y bytes maxL ret hh).before args s = true) (hy : y.cls ≠ "java/lang/invoke/MethodHandle" ∧ y.cls ≠ "java/lang/invoke/VarHandle")
    {W9 : Nat} {Pre : Pt → Array Value → Prop} {Post : Pt → Array Value → Option Value → Pt → Prop} (hK : Back l R p e below s args y 3 W9 Pre Post)
    {b : Addr} {cellB : Cell} (hcell : T.heap[b]? = some cellB) (hobj : cellB.vm.isStatics = false) (hcls : s.vm.findClass C = some cellB.cls)
    {g : JFrame} (hg : g.method = m) (hsize : g.locals.size = c.maxLocals) {argsL rest : List Value} (hlen : ∀ sig, parseMethodDescriptor y.desc = some sig → argsL.length = sig.parameters.length)
    (hstack : g.stack = argsL.reverse ++ .ref b :: rest) (hW : 2 * g.monitorRoom + (rest.map fun v => v.category).sum ≤ W9) (hdg : decode c.code g.pc = .ok (.invokevirtual index, 3))
    (hpre : ∀ vm₁, s.WarmedH vm₁ → Pre ⟨T.setVm vm₁, locs, cells, slots⟩ (Value.ref b :: argsL).toArray) :
    ∃ (v : Option Value) (vm₁ : Vm) (B : Pt), s.WarmedH vm₁ ∧ Stand p l e R s m args below meth c B.U B.locs B.cells B.slots ∧ Post ⟨T.setVm vm₁, locs, cells, slots⟩ (Value.ref b :: argsL).toArray v B ∧
      ∀ target, Steps p.tables e below (B.U.setTop { g with pc := g.pc + 3, stack := v.toList ++ rest }) target → Steps p.tables e below (T.setTop g) target := by
  obtain ⟨mk, methM, hnamed, hmethM, hstM, habM⟩ := Cond.instanceMethod_spec hinst
  obtain ⟨m8, methM', cM, hn8, hmethM', -, -, -, -, -, -, hsigM⟩ := Cond.codeWith_spec hcode
  cases Option.some.inj (hn8.symm.trans hnamed)
  cases hmethM.symm.trans hmethM'
  obtain ⟨c2, r2, m2, q1, q2, q3, q4, kP, hkP, hkPi⟩ := Cond.selects_spec hsel
  cases hcls.symm.trans q1
  cases (State.methodFound?_of_named hnamed hy).symm.trans q2
  cases hnamed.symm.trans q3
  have hselP : selectMethod e.platform s.vm cellB.cls mk = .method mk := by rw [Launch.admits_selectMethod X.admits]; exact q4
  obtain ⟨vm₁, X₁, hstep₁⟩ := X.invokevirtual hexec hown hlink hnamed hmethM hstM hkP hkPi hy (a := b) (cell := cellB) hcell
    (fun z h => by rw [h] at hobj; cases hobj) hselP hmethM habM hkP hkPi (g := g) hg (argsL := argsL) (rest := rest) (hlen _ hsigM) hstack hdg
  obtain ⟨v, B, X', hpost, hsteps⟩ := hK m meth c ⟨T.setVm vm₁, locs, cells, slots⟩ { g with stack := rest } (.invokevirtual index) mk (Value.ref b :: argsL).toArray X₁ hg hsize hdg hW (X₁.named hnamed) (hpre vm₁ X₁.warmed)
  exact ⟨v, vm₁, B, X₁.warmed, X', hpost, fun target h => hstep₁ _ fun acts => by rw [doInvoke_state]; exact hsteps.trans h⟩
abbrev vx_CVW (R : Room) (s : State) (args : Array Value) (own C : String) (index : Nat) (y : MethodName) (bytes : ByteArray) (maxL : Nat) (ret : Option FieldType) (hh : List (Nat × Nat × Nat × Nat)) (ws : List Cond) (rm : Room) (mc ms n : Nat) : Prop :=
  (rm.cells = mc ∧ rm.slots = ms ∧ rm.frames + 1 ≤ R.frames ∧ 8 + (maxL + 11) + rm.locals ≤ R.locals ∧ (∀ w ∈ ws, ∀ (a' : Array Value) (U : State), s.WarmedH U.vm → w.before a' U = true) ∧ Cond.codeWith y bytes maxL ret hh ∈ ws) ∧
  (Cond.codeWith y bytes maxL ret hh).before args s = true ∧ (Cond.initialized y.cls).before args s = true ∧ (y.cls ≠ "java/lang/invoke/MethodHandle" ∧ y.cls ≠ "java/lang/invoke/VarHandle") ∧
  (∀ sig, parseMethodDescriptor y.desc = some sig → n = sig.parameters.length) ∧ (Cond.methodLink own index y).before args s = true ∧ (Cond.instanceMethod y).before args s = true ∧ (Cond.selects C y y).before args s = true
theorem vx_cwVW {own C : String} {index maxL mc ms : Nat} {y : MethodName} {bytes : ByteArray} {ret : Option FieldType} {hh : List (Nat × Nat × Nat × Nat)} {Ts ws ws' : List Cond} {rm : Room} (n : Nat) (ht : ∀ w ∈ Ts, w.before args s = true) (hT : GoodIn Ts (wsV own index C y ws)) (hw : ws = Cond.codeWith y bytes maxL ret hh :: ws') (hrc : rm.cells = mc) (hrs : rm.slots = ms)
    (hd : y.cls = C ∧ y.cls ≠ "java/lang/invoke/MethodHandle" ∧ y.cls ≠ "java/lang/invoke/VarHandle" ∧ (parseMethodDescriptor y.desc).map (fun d => d.parameters.length) = some n) (hR : rm.frames + 1 ≤ R.frames ∧ 8 + (maxL + 11) + rm.locals ≤ R.locals) :
    vx_CVW R s args own C index y bytes maxL ret hh ws rm mc ms n := by
  obtain ⟨hC, hd⟩ := hd
  subst hC
  have ok : ∀ w ∈ wsV own index y.cls y ws, w.before args s = true := fun w h => ht w (hT w h).1
  have hG : GoodIn Ts ws := fun w h => hT w (by unfold wsV; exact List.mem_append_right _ h)
  have hc : Cond.codeWith y bytes maxL ret hh ∈ ws := by rw [hw]; exact List.mem_cons_self
  refine ⟨⟨hrc, hrs, hR.1, hR.2, pay_in ht hG, hc⟩, ht _ (hG _ hc).1, ok _ (by simp [wsV]), ⟨hd.1, hd.2.1⟩, fun sig h => ?_, ok _ (by simp [wsV]), ok _ (by simp [wsV]), ok _ (by simp [wsV])⟩
  have h2 := hd.2.2
  rw [h] at h2
  exact (Option.some.inj h2).symm
theorem vx_runVW {y : MethodName} {bytes cc : ByteArray} {maxL nL mc ms n index : Nat} {ret : Option FieldType} {hh : List (Nat × Nat × Nat × Nat)} {ws : List Cond} {rm : Room} {Pc : Array Value → State → Prop} {Qc : Array Value → State → Outcome → State → Prop} {free : Addr → Prop} {Ts : List Cond} {own C : String} {b : Addr} {As rest : List Value} {g : JFrame}
    (S : CallFix p m c cc nL s args Ts own) (hM : Met l y ws rm Pc Qc mc ms free) (cw : vx_CVW R s args own C index y bytes maxL ret hh ws rm mc ms n) (hp : PreV s H C b Pc As)
    (hg : g.method = m) (hn : As.length = n) (hsize : g.locals.size = nL) (hstack : g.stack = As.reverse ++ .ref b :: rest) (hW : 2 * g.monitorRoom + (rest.map fun v => v.category).sum ≤ 8) (hdg : decode cc g.pc = .ok (.invokevirtual index, 3)) (hf : cells + mc ≤ R.cells ∧ slots + ms ≤ R.slots) :
    va_Run p l e R s m args below meth c H locs cells slots mc ms g rest (Qc (Value.ref b :: As).toArray) free := by
  obtain ⟨⟨hrc, hrs, hfr, hlo, hws, hcw⟩, hcode, hini, hy, hlen, hl, hin, hse⟩ := cw
  have hK : Back l R p e below s args y 3 8 (PreOf R mc ms Pc) (PostOf Qc mc ms free) := va_backW (hh := hh) (bytes := bytes) (maxL := maxL) (ret := ret) hM hp.1 hrc hrs hfr hlo hws hcw (fun a' U hW => word_at hW (Or.inl (by first | rfl | simp [Cond.onTables, Cond.keeps, Cond.steady])) hini)
  obtain ⟨hx, hb, hml, ho, -⟩ := S
  obtain ⟨-, ⟨cellB, hcB, hoB, hclB⟩, hPc⟩ := hp
  intro T hT X
  obtain ⟨v, vm₁, ⟨U', l2, c2, s2⟩, hW₁, X', ⟨g', mk, t, L, e1, e2, hq, h1, hL, h2, h3⟩, st⟩ := vx_callVW X hx (C := C) (hh := hh) (bytes := bytes) (maxL := maxL) (ret := ret) ho hl hin hse hcode hy hK (by rw [hT]; exact hcB) hoB hclB hg (hsize.trans hml.symm) (argsL := As) (rest := rest) (fun sig h => hn.trans (hlen sig h)) hstack hW (by rw [hb]; exact hdg)
    (fun vm₁ hW₁ => ⟨hf.1, hf.2, hPc (T.setVm vm₁) hT hW₁⟩)
  dsimp only [Pt.U, Pt.locs, Pt.cells, Pt.slots] at X' e1 e2 h1 h2 h3 st
  subst h1; subst h2; subst h3
  exact ⟨v, (T.setVm vm₁).calling g' mk (Value.ref b :: As).toArray, t, U', L, hT, X', hL, e1, e2, hq, st⟩
section
variable {y : MethodName} {bytes cc : ByteArray} {maxL nL mc ms n index : Nat} {ret : Option FieldType} {ws : List Cond} {rm : Room} {Pc : Array Value → State → Prop} {Qc : Array Value → State → Outcome → State → Prop} {XC : String → State → State → Prop} {free : Addr → Prop} {Ts : List Cond} {own C : String} {b : Addr} {As rest : List Value} {g : JFrame}
theorem vx_runVX {hh : List (Nat × Nat × Nat × Nat)} (S : CallFix p m c cc nL s args Ts own) (hM : vx_Met l y ws rm Pc Qc XC mc ms free) (cw : vx_CVW R s args own C index y bytes maxL ret hh ws rm mc ms n) (hp : PreV s H C b Pc As)
    (hg : g.method = m) (hn : As.length = n) (hsize : g.locals.size = nL) (hstack : g.stack = As.reverse ++ .ref b :: rest) (hW : 2 * g.monitorRoom + (rest.map fun v => v.category).sum ≤ 8) (hdg : decode cc g.pc = .ok (.invokevirtual index, 3)) (hf : cells + mc ≤ R.cells ∧ slots + ms ≤ R.slots) :
    vx_Run p l e R s m args below meth c H locs cells slots mc ms g rest (Qc (Value.ref b :: As).toArray) XC free := by
  obtain ⟨⟨hrc, hrs, hfr, hlo, hws, hcw⟩, hcode, hini, hy, hlen, hl, hin, hse⟩ := cw
  have hK : vx_Back l R p e below s args y 3 8 (PreOf R mc ms Pc) (PostOf Qc mc ms free) (vx_Post XC mc ms free) := vx_backW (hh := hh) (bytes := bytes) (maxL := maxL) (ret := ret) hM hp.1 hrc hrs hfr hlo hws hcw (fun a' U hW => word_at hW (Or.inl (by first | rfl | simp [Cond.onTables, Cond.keeps, Cond.steady])) hini)
  obtain ⟨hx, hb, hml, ho, -⟩ := S
  obtain ⟨-, ⟨cellB, hcB, hoB, hclB⟩, hPc⟩ := hp
  intro T hT X
  rcases vx_callVX X hx (C := C) (hh := hh) (bytes := bytes) (maxL := maxL) (ret := ret) ho hl hin hse hcode hy hK (by rw [hT]; exact hcB) hoB hclB hg (hsize.trans hml.symm) (argsL := As) (rest := rest) (fun sig h => hn.trans (hlen sig h)) hstack hW (by rw [hb]; exact hdg)
    (fun vm₁ hW₁ => ⟨hf.1, hf.2, hPc (T.setVm vm₁) hT hW₁⟩) with ⟨v, vm₁, ⟨U', l2, c2, s2⟩, hW₁, X', ⟨g', mk, t, L, e1, e2, hq, h1, hL, h2, h3⟩, st⟩ | ⟨q, vm₁, ⟨U', l2, c2, s2⟩, hW₁, X', ⟨g', mk, t, L, E, ce, e1, e2, hq, hce, hcv, hcl, h1, hL, h2, h3⟩, st⟩
  · dsimp only [Pt.U, Pt.locs, Pt.cells, Pt.slots] at X' e1 e2 h1 h2 h3 st
    subst h1; subst h2; subst h3
    exact Or.inl ⟨v, (T.setVm vm₁).calling g' mk (Value.ref b :: As).toArray, t, U', L, hT, X', hL, e1, e2, hq, st⟩
  · dsimp only [Pt.U, Pt.locs, Pt.cells, Pt.slots] at X' e1 e2 h1 h2 h3 st hcl
    subst h1; subst h2; subst h3
    exact Or.inr ⟨q, (T.setVm vm₁).calling g' mk (Value.ref b :: As).toArray, t, U', L, E, ce, hT, X', hL, e1, e2, hq, hce, hcv, vx_cls hW₁ hcl, st⟩
theorem vx_runSX {hh : List (Nat × Nat × Nat × Nat)} (S : CallFix p m c cc nL s args Ts own) (hM : vx_Met l y ws rm Pc Qc XC mc ms free) (cw : vx_CSW R s args own index y bytes maxL ret hh ws rm mc ms n) (hp : PreS s H Pc As)
    (hg : g.method = m) (hn : As.length = n) (hsize : g.locals.size = nL) (hstack : g.stack = As.reverse ++ rest) (hW : 2 * g.monitorRoom + (rest.map fun v => v.category).sum ≤ 8) (hdg : decode cc g.pc = .ok (.invokestatic index, 3)) (hf : cells + mc ≤ R.cells ∧ slots + ms ≤ R.slots) :
    vx_Run p l e R s m args below meth c H locs cells slots mc ms g rest (Qc As.toArray) XC free := by
  obtain ⟨⟨hrc, hrs, hfr, hlo, hws, hcw⟩, hcode, hini, hy, hlen, hl, hstt⟩ := cw
  have hK : vx_Back l R p e below s args y 3 8 (PreOf R mc ms Pc) (PostOf Qc mc ms free) (vx_Post XC mc ms free) := vx_backW (hh := hh) (bytes := bytes) (maxL := maxL) (ret := ret) hM hp.1 hrc hrs hfr hlo hws hcw (fun a' U hW => word_at hW (Or.inl (by first | rfl | simp [Cond.onTables, Cond.keeps, Cond.steady])) hini)
  obtain ⟨hx, hb, hml, ho, -⟩ := S
  intro T hT X
  rcases vx_callSX X hx (hh := hh) (bytes := bytes) (maxL := maxL) (ret := ret) ho hl hstt hini hcode hy hK hg (hsize.trans hml.symm) (argsL := As) (rest := rest) (fun sig h => hn.trans (hlen sig h)) hstack hW (by rw [hb]; exact hdg)
    (fun vm₁ hW₁ => ⟨hf.1, hf.2, hp.2 (T.setVm vm₁) hT hW₁⟩) with ⟨v, vm₁, ⟨U', l2, c2, s2⟩, hW₁, X', ⟨g', mk, t, L, e1, e2, hq, h1, hL, h2, h3⟩, st⟩ | ⟨q, vm₁, ⟨U', l2, c2, s2⟩, hW₁, X', ⟨g', mk, t, L, E, ce, e1, e2, hq, hce, hcv, hcl, h1, hL, h2, h3⟩, st⟩
  · dsimp only [Pt.U, Pt.locs, Pt.cells, Pt.slots] at X' e1 e2 h1 h2 h3 st
    subst h1; subst h2; subst h3
    exact Or.inl ⟨v, (T.setVm vm₁).calling g' mk As.toArray, t, U', L, hT, X', hL, e1, e2, hq, st⟩
  · dsimp only [Pt.U, Pt.locs, Pt.cells, Pt.slots] at X' e1 e2 h1 h2 h3 st hcl
    subst h1; subst h2; subst h3
    exact Or.inr ⟨q, (T.setVm vm₁).calling g' mk As.toArray, t, U', L, E, ce, hT, X', hL, e1, e2, hq, hce, hcv, vx_cls hW₁ hcl, st⟩
end
end VXH
theorem vx_ofWH {l : Launch} {y : MethodName} {ws ws' : List Cond} {rm : Room} {Pc : Array Value → State → Prop} {Qc : Array Value → State → Outcome → State → Prop} {XC : String → State → State → Prop} {mc ms : Nat} {free : Addr → Prop} {cc : ByteArray} {maxL : Nat} {ret : Option FieldType} {hh : List (Nat × Nat × Nat × Nat)}
    (hy : plainName y.cls = true) (hw : ws = Cond.codeWith y cc maxL ret hh :: ws')
    (body : ∀ p e s m args below meth c s₁, BodyLoose p l y (headSpec ws rm) cc maxL ret e s m args below meth c s₁ → c.maxLocals = maxL → Pc args s →
      W p l e (headSpec ws rm).room s m args below meth c s.heap [] 0 0 (vx_MQ below Qc XC args s mc ms free) (entryFrame m args maxL)) : vx_Met l y ws rm Pc Qc XC mc ms free := by
  refine MetFree.of_bodyS (code := cc) (maxLocals := maxL) (ret := ret) hy ?_ ?_
  · intro args s m h hn
    obtain ⟨m9, meth, c, hn9, h1, h2, h3, h4, -, h5, h6, -⟩ := Cond.codeWith_spec (atoms_spec (ws := ws) h _ (by rw [hw]; exact List.mem_cons_self))
    cases hn.symm.trans hn9
    exact ⟨meth, c, h1, h2, h3, h4, h5, h6⟩
  · intro p e s m args below meth c s₁ B hml hP _
    have hh0 : s₁.heap = s.heap := by rw [B.state]; rfl
    obtain ⟨t, a1, o, b1, b2, b3⟩ := body p e s m args below meth c s₁ B hml hP s₁ hh0 (Stand.of_body B)
    exact ⟨t, o, a1, b1, b2, b3⟩
/-! ===== END ===== -/

/-! ===== BEGIN printed: names, fields, word lists, decode rows ===== -/
end
section
def R_P : String := "PileLifts"
def F_P : u_T := fun k => match k with
  | 0 => ("PileLifts", "yard", "LPileLifts$Yard;", true)
  | 1 => ("PileLifts", "search", "LPileLifts$Search;", true)
  | _ => ("PileLifts", "wagons", "LPileLifts$Wagons;", true)
def t_P : Nat → FieldType := fun k => match k with
  | 0 => .object "PileLifts$Yard"
  | 1 => .object "PileLifts$Search"
  | _ => .object "PileLifts$Wagons"
theorem n_P : ∀ a, a < 3 → ∀ b, b < 3 → a ≠ b → (F_P a).2.1 ≠ (F_P b).2.1 := by decide +kernel
theorem t_P_ok : ∀ k, k < 3 → parseFieldDescriptor (F_P k).2.2.1 = some (t_P k) := by decide +kernel
def R_Y : String := "PileLifts$Yard"
def F_Y : u_T := fun k => match k with
  | 0 => ("PileLifts$Yard", "pileCount", "I", false)
  | 1 => ("PileLifts$Yard", "levelCount", "I", false)
  | 2 => ("PileLifts$Yard", "pieceCount", "I", false)
  | 3 => ("PileLifts$Yard", "heights", "[I", true)
  | 4 => ("PileLifts$Yard", "lying", "[I", true)
  | 5 => ("PileLifts$Yard", "kilos", "[I", true)
  | 6 => ("PileLifts$Yard", "lengths", "[I", true)
  | 7 => ("PileLifts$Yard", "times", "[I", true)
  | 8 => ("PileLifts$Yard", "pileOf", "[I", true)
  | _ => ("PileLifts$Yard", "levelOf", "[I", true)
def t_Y : Nat → FieldType := fun k => match k with
  | 0 => .int
  | 1 => .int
  | 2 => .int
  | 3 => .array .int
  | 4 => .array .int
  | 5 => .array .int
  | 6 => .array .int
  | 7 => .array .int
  | 8 => .array .int
  | _ => .array .int
theorem n_Y : ∀ a, a < 10 → ∀ b, b < 10 → a ≠ b → (F_Y a).2.1 ≠ (F_Y b).2.1 := by decide +kernel
theorem t_Y_ok : ∀ k, k < 10 → parseFieldDescriptor (F_Y k).2.2.1 = some (t_Y k) := by decide +kernel
def R_S : String := "PileLifts$Search"
def F_S : u_T := fun k => match k with
  | 0 => ("PileLifts$Search", "isDone", "Z", false)
  | 1 => ("PileLifts$Search", "isProved", "Z", false)
  | 2 => ("PileLifts$Search", "hasPlan", "Z", false)
  | 3 => ("PileLifts$Search", "isCutShort", "Z", false)
  | 4 => ("PileLifts$Search", "nodesLeft", "I", false)
  | 5 => ("PileLifts$Search", "limit", "I", false)
  | 6 => ("PileLifts$Search", "moveCount", "I", false)
  | 7 => ("PileLifts$Search", "movedPiece", "[I", true)
  | 8 => ("PileLifts$Search", "movedFrom", "[I", true)
  | _ => ("PileLifts$Search", "movedTo", "[I", true)
def t_S : Nat → FieldType := fun k => match k with
  | 0 => .boolean
  | 1 => .boolean
  | 2 => .boolean
  | 3 => .boolean
  | 4 => .int
  | 5 => .int
  | 6 => .int
  | 7 => .array .int
  | 8 => .array .int
  | _ => .array .int
theorem n_S : ∀ a, a < 10 → ∀ b, b < 10 → a ≠ b → (F_S a).2.1 ≠ (F_S b).2.1 := by decide +kernel
theorem t_S_ok : ∀ k, k < 10 → parseFieldDescriptor (F_S k).2.2.1 = some (t_S k) := by decide +kernel
def R_W : String := "PileLifts$Wagons"
def F_W : u_T := fun k => match k with
  | 0 => ("PileLifts$Wagons", "count", "I", false)
  | 1 => ("PileLifts$Wagons", "axles", "[I", true)
  | 2 => ("PileLifts$Wagons", "loads", "[I", true)
  | _ => ("PileLifts$Wagons", "wagonOf", "[I", true)
def t_W : Nat → FieldType := fun k => match k with
  | 0 => .int
  | 1 => .array .int
  | 2 => .array .int
  | _ => .array .int
theorem n_W : ∀ a, a < 4 → ∀ b, b < 4 → a ≠ b → (F_W a).2.1 ≠ (F_W b).2.1 := by decide +kernel
theorem t_W_ok : ∀ k, k < 4 → parseFieldDescriptor (F_W k).2.2.1 = some (t_W k) := by decide +kernel
def R_M : String := "PileLiftsModel"
def F_M : u_T := fun k => match k with
  | 0 => ("PileLiftsModel", "thrown", "I", false)
  | 1 => ("PileLiftsModel", "piles", "I", false)
  | 2 => ("PileLiftsModel", "levels", "I", false)
  | 3 => ("PileLiftsModel", "pieces", "I", false)
  | 4 => ("PileLiftsModel", "kilos", "[I", true)
  | 5 => ("PileLiftsModel", "length", "[I", true)
  | 6 => ("PileLiftsModel", "time", "[I", true)
  | 7 => ("PileLiftsModel", "wagonOf", "[I", true)
  | 8 => ("PileLiftsModel", "lies", "[I", true)
  | 9 => ("PileLiftsModel", "high", "[I", true)
  | 10 => ("PileLiftsModel", "left", "[I", true)
  | 11 => ("PileLiftsModel", "choice", "[I", true)
  | 12 => ("PileLiftsModel", "movePiece", "[I", true)
  | 13 => ("PileLiftsModel", "moveTo", "[I", true)
  | 14 => ("PileLiftsModel", "many", "[I", true)
  | 15 => ("PileLiftsModel", "searched", "Z", false)
  | 16 => ("PileLiftsModel", "proved", "Z", false)
  | 17 => ("PileLiftsModel", "planned", "Z", false)
  | 18 => ("PileLiftsModel", "planMoves", "I", false)
  | 19 => ("PileLiftsModel", "wagons", "I", false)
  | 20 => ("PileLiftsModel", "axle", "[I", true)
  | _ => ("PileLiftsModel", "loaded", "[I", true)
def t_M : Nat → FieldType := fun k => match k with
  | 0 => .int
  | 1 => .int
  | 2 => .int
  | 3 => .int
  | 4 => .array .int
  | 5 => .array .int
  | 6 => .array .int
  | 7 => .array .int
  | 8 => .array .int
  | 9 => .array .int
  | 10 => .array .int
  | 11 => .array .int
  | 12 => .array .int
  | 13 => .array .int
  | 14 => .array .int
  | 15 => .boolean
  | 16 => .boolean
  | 17 => .boolean
  | 18 => .int
  | 19 => .int
  | 20 => .array .int
  | _ => .array .int
theorem n_M : ∀ a, a < 22 → ∀ b, b < 22 → a ≠ b → (F_M a).2.1 ≠ (F_M b).2.1 := by decide +kernel
theorem t_M_ok : ∀ k, k < 22 → parseFieldDescriptor (F_M k).2.2.1 = some (t_M k) := by decide +kernel
abbrev kcl : List vw_C := [(R_P, F_P, 3), (R_Y, F_Y, 10), (R_S, F_S, 10), (R_W, F_W, 4), (R_M, F_M, 22)]
abbrev b_P_init : ByteArray := prog_1_method_1_code
def y_P_init : MethodName := ⟨"PileLifts", "<init>", "()V"⟩
theorem q_P_init : y_P_init.cls ≠ "java/lang/invoke/MethodHandle" ∧ y_P_init.cls ≠ "java/lang/invoke/VarHandle" ∧ (parseMethodDescriptor y_P_init.desc).map (fun d => d.parameters.length) = some 0 := by decide +kernel
abbrev b_P_piles : ByteArray := prog_1_method_2_code
def y_P_piles : MethodName := ⟨"PileLifts", "piles", "(II)V"⟩
theorem q_P_piles : y_P_piles.cls ≠ "java/lang/invoke/MethodHandle" ∧ y_P_piles.cls ≠ "java/lang/invoke/VarHandle" ∧ (parseMethodDescriptor y_P_piles.desc).map (fun d => d.parameters.length) = some 2 := by decide +kernel
abbrev b_P_put : ByteArray := prog_1_method_3_code
def y_P_put : MethodName := ⟨"PileLifts", "put", "(III)I"⟩
theorem q_P_put : y_P_put.cls ≠ "java/lang/invoke/MethodHandle" ∧ y_P_put.cls ≠ "java/lang/invoke/VarHandle" ∧ (parseMethodDescriptor y_P_put.desc).map (fun d => d.parameters.length) = some 3 := by decide +kernel
abbrev b_P_want : ByteArray := prog_1_method_4_code
def y_P_want : MethodName := ⟨"PileLifts", "want", "(II)V"⟩
theorem q_P_want : y_P_want.cls ≠ "java/lang/invoke/MethodHandle" ∧ y_P_want.cls ≠ "java/lang/invoke/VarHandle" ∧ (parseMethodDescriptor y_P_want.desc).map (fun d => d.parameters.length) = some 2 := by decide +kernel
abbrev b_P_may : ByteArray := prog_1_method_5_code
def y_P_may : MethodName := ⟨"PileLifts", "may", "(II)Z"⟩
theorem q_P_may : y_P_may.cls ≠ "java/lang/invoke/MethodHandle" ∧ y_P_may.cls ≠ "java/lang/invoke/VarHandle" ∧ (parseMethodDescriptor y_P_may.desc).map (fun d => d.parameters.length) = some 2 := by decide +kernel
abbrev b_P_bound : ByteArray := prog_1_method_6_code
def y_P_bound : MethodName := ⟨"PileLifts", "bound", "()I"⟩
theorem q_P_bound : y_P_bound.cls ≠ "java/lang/invoke/MethodHandle" ∧ y_P_bound.cls ≠ "java/lang/invoke/VarHandle" ∧ (parseMethodDescriptor y_P_bound.desc).map (fun d => d.parameters.length) = some 0 := by decide +kernel
abbrev b_P_run : ByteArray := prog_1_method_7_code
def y_P_run : MethodName := ⟨"PileLifts", "run", "(I)I"⟩
theorem q_P_run : y_P_run.cls ≠ "java/lang/invoke/MethodHandle" ∧ y_P_run.cls ≠ "java/lang/invoke/VarHandle" ∧ (parseMethodDescriptor y_P_run.desc).map (fun d => d.parameters.length) = some 1 := by decide +kernel
abbrev b_P_proved : ByteArray := prog_1_method_8_code
def y_P_proved : MethodName := ⟨"PileLifts", "proved", "()Z"⟩
theorem q_P_proved : y_P_proved.cls ≠ "java/lang/invoke/MethodHandle" ∧ y_P_proved.cls ≠ "java/lang/invoke/VarHandle" ∧ (parseMethodDescriptor y_P_proved.desc).map (fun d => d.parameters.length) = some 0 := by decide +kernel
abbrev b_P_moves : ByteArray := prog_1_method_9_code
def y_P_moves : MethodName := ⟨"PileLifts", "moves", "()I"⟩
theorem q_P_moves : y_P_moves.cls ≠ "java/lang/invoke/MethodHandle" ∧ y_P_moves.cls ≠ "java/lang/invoke/VarHandle" ∧ (parseMethodDescriptor y_P_moves.desc).map (fun d => d.parameters.length) = some 0 := by decide +kernel
abbrev b_P_move : ByteArray := prog_1_method_10_code
def y_P_move : MethodName := ⟨"PileLifts", "move", "(II)I"⟩
theorem q_P_move : y_P_move.cls ≠ "java/lang/invoke/MethodHandle" ∧ y_P_move.cls ≠ "java/lang/invoke/VarHandle" ∧ (parseMethodDescriptor y_P_move.desc).map (fun d => d.parameters.length) = some 2 := by decide +kernel
abbrev b_P_replay : ByteArray := prog_1_method_11_code
def y_P_replay : MethodName := ⟨"PileLifts", "replay", "(I)I"⟩
theorem q_P_replay : y_P_replay.cls ≠ "java/lang/invoke/MethodHandle" ∧ y_P_replay.cls ≠ "java/lang/invoke/VarHandle" ∧ (parseMethodDescriptor y_P_replay.desc).map (fun d => d.parameters.length) = some 1 := by decide +kernel
abbrev b_P_at : ByteArray := prog_1_method_12_code
def y_P_at : MethodName := ⟨"PileLifts", "at", "(II)I"⟩
theorem q_P_at : y_P_at.cls ≠ "java/lang/invoke/MethodHandle" ∧ y_P_at.cls ≠ "java/lang/invoke/VarHandle" ∧ (parseMethodDescriptor y_P_at.desc).map (fun d => d.parameters.length) = some 2 := by decide +kernel
abbrev b_P_tidy : ByteArray := prog_1_method_13_code
def y_P_tidy : MethodName := ⟨"PileLifts", "tidy", "(I)I"⟩
theorem q_P_tidy : y_P_tidy.cls ≠ "java/lang/invoke/MethodHandle" ∧ y_P_tidy.cls ≠ "java/lang/invoke/VarHandle" ∧ (parseMethodDescriptor y_P_tidy.desc).map (fun d => d.parameters.length) = some 1 := by decide +kernel
abbrev b_P_wagon : ByteArray := prog_1_method_14_code
def y_P_wagon : MethodName := ⟨"PileLifts", "wagon", "(I)I"⟩
theorem q_P_wagon : y_P_wagon.cls ≠ "java/lang/invoke/MethodHandle" ∧ y_P_wagon.cls ≠ "java/lang/invoke/VarHandle" ∧ (parseMethodDescriptor y_P_wagon.desc).map (fun d => d.parameters.length) = some 1 := by decide +kernel
abbrev b_P_load : ByteArray := prog_1_method_15_code
def y_P_load : MethodName := ⟨"PileLifts", "load", "(I)I"⟩
theorem q_P_load : y_P_load.cls ≠ "java/lang/invoke/MethodHandle" ∧ y_P_load.cls ≠ "java/lang/invoke/VarHandle" ∧ (parseMethodDescriptor y_P_load.desc).map (fun d => d.parameters.length) = some 1 := by decide +kernel
abbrev b_P_checkPiece : ByteArray := prog_1_method_16_code
def y_P_checkPiece : MethodName := ⟨"PileLifts", "checkPiece", "(I)V"⟩
theorem q_P_checkPiece : y_P_checkPiece.cls ≠ "java/lang/invoke/MethodHandle" ∧ y_P_checkPiece.cls ≠ "java/lang/invoke/VarHandle" ∧ (parseMethodDescriptor y_P_checkPiece.desc).map (fun d => d.parameters.length) = some 1 := by decide +kernel
abbrev b_P_checkPlan : ByteArray := prog_1_method_17_code
def y_P_checkPlan : MethodName := ⟨"PileLifts", "checkPlan", "()V"⟩
theorem q_P_checkPlan : y_P_checkPlan.cls ≠ "java/lang/invoke/MethodHandle" ∧ y_P_checkPlan.cls ≠ "java/lang/invoke/VarHandle" ∧ (parseMethodDescriptor y_P_checkPlan.desc).map (fun d => d.parameters.length) = some 0 := by decide +kernel
abbrev b_P_isWithin : ByteArray := prog_1_method_18_code
def y_P_isWithin : MethodName := ⟨"PileLifts", "isWithin", "(III)Z"⟩
theorem q_P_isWithin : y_P_isWithin.cls ≠ "java/lang/invoke/MethodHandle" ∧ y_P_isWithin.cls ≠ "java/lang/invoke/VarHandle" ∧ (parseMethodDescriptor y_P_isWithin.desc).map (fun d => d.parameters.length) = some 3 := by decide +kernel
abbrev b_M_init : ByteArray := prog_6_method_1_code
def y_M_init : MethodName := ⟨"PileLiftsModel", "<init>", "()V"⟩
theorem q_M_init : y_M_init.cls ≠ "java/lang/invoke/MethodHandle" ∧ y_M_init.cls ≠ "java/lang/invoke/VarHandle" ∧ (parseMethodDescriptor y_M_init.desc).map (fun d => d.parameters.length) = some 0 := by decide +kernel
abbrev b_M_thrown : ByteArray := prog_6_method_2_code
def y_M_thrown : MethodName := ⟨"PileLiftsModel", "thrown", "()I"⟩
theorem q_M_thrown : y_M_thrown.cls ≠ "java/lang/invoke/MethodHandle" ∧ y_M_thrown.cls ≠ "java/lang/invoke/VarHandle" ∧ (parseMethodDescriptor y_M_thrown.desc).map (fun d => d.parameters.length) = some 0 := by decide +kernel
abbrev b_M_in : ByteArray := prog_6_method_3_code
def y_M_in : MethodName := ⟨"PileLiftsModel", "in", "(III)Z"⟩
theorem q_M_in : y_M_in.cls ≠ "java/lang/invoke/MethodHandle" ∧ y_M_in.cls ≠ "java/lang/invoke/VarHandle" ∧ (parseMethodDescriptor y_M_in.desc).map (fun d => d.parameters.length) = some 3 := by decide +kernel
abbrev b_M_goes : ByteArray := prog_6_method_4_code
def y_M_goes : MethodName := ⟨"PileLiftsModel", "goes", "(ZZZ)Z"⟩
theorem q_M_goes : y_M_goes.cls ≠ "java/lang/invoke/MethodHandle" ∧ y_M_goes.cls ≠ "java/lang/invoke/VarHandle" ∧ (parseMethodDescriptor y_M_goes.desc).map (fun d => d.parameters.length) = some 3 := by decide +kernel
abbrev b_M_isPiece : ByteArray := prog_6_method_5_code
def y_M_isPiece : MethodName := ⟨"PileLiftsModel", "isPiece", "(I)Z"⟩
theorem q_M_isPiece : y_M_isPiece.cls ≠ "java/lang/invoke/MethodHandle" ∧ y_M_isPiece.cls ≠ "java/lang/invoke/VarHandle" ∧ (parseMethodDescriptor y_M_isPiece.desc).map (fun d => d.parameters.length) = some 1 := by decide +kernel
abbrev b_M_changed : ByteArray := prog_6_method_6_code
def y_M_changed : MethodName := ⟨"PileLiftsModel", "changed", "()V"⟩
theorem q_M_changed : y_M_changed.cls ≠ "java/lang/invoke/MethodHandle" ∧ y_M_changed.cls ≠ "java/lang/invoke/VarHandle" ∧ (parseMethodDescriptor y_M_changed.desc).map (fun d => d.parameters.length) = some 0 := by decide +kernel
abbrev b_M_cell : ByteArray := prog_6_method_7_code
def y_M_cell : MethodName := ⟨"PileLiftsModel", "cell", "(III)I"⟩
theorem q_M_cell : y_M_cell.cls ≠ "java/lang/invoke/MethodHandle" ∧ y_M_cell.cls ≠ "java/lang/invoke/VarHandle" ∧ (parseMethodDescriptor y_M_cell.desc).map (fun d => d.parameters.length) = some 3 := by decide +kernel
abbrev b_M_piles : ByteArray := prog_6_method_8_code
def y_M_piles : MethodName := ⟨"PileLiftsModel", "piles", "(II)V"⟩
theorem q_M_piles : y_M_piles.cls ≠ "java/lang/invoke/MethodHandle" ∧ y_M_piles.cls ≠ "java/lang/invoke/VarHandle" ∧ (parseMethodDescriptor y_M_piles.desc).map (fun d => d.parameters.length) = some 2 := by decide +kernel
abbrev b_M_takes : ByteArray := prog_6_method_9_code
def y_M_takes : MethodName := ⟨"PileLiftsModel", "takes", "(III)Z"⟩
theorem q_M_takes : y_M_takes.cls ≠ "java/lang/invoke/MethodHandle" ∧ y_M_takes.cls ≠ "java/lang/invoke/VarHandle" ∧ (parseMethodDescriptor y_M_takes.desc).map (fun d => d.parameters.length) = some 3 := by decide +kernel
abbrev b_M_put : ByteArray := prog_6_method_10_code
def y_M_put : MethodName := ⟨"PileLiftsModel", "put", "(III)I"⟩
theorem q_M_put : y_M_put.cls ≠ "java/lang/invoke/MethodHandle" ∧ y_M_put.cls ≠ "java/lang/invoke/VarHandle" ∧ (parseMethodDescriptor y_M_put.desc).map (fun d => d.parameters.length) = some 3 := by decide +kernel
abbrev b_M_isGone : ByteArray := prog_6_method_11_code
def y_M_isGone : MethodName := ⟨"PileLiftsModel", "isGone", "(II)Z"⟩
theorem q_M_isGone : y_M_isGone.cls ≠ "java/lang/invoke/MethodHandle" ∧ y_M_isGone.cls ≠ "java/lang/invoke/VarHandle" ∧ (parseMethodDescriptor y_M_isGone.desc).map (fun d => d.parameters.length) = some 2 := by decide +kernel
abbrev b_M_want : ByteArray := prog_6_method_12_code
def y_M_want : MethodName := ⟨"PileLiftsModel", "want", "(II)V"⟩
theorem q_M_want : y_M_want.cls ≠ "java/lang/invoke/MethodHandle" ∧ y_M_want.cls ≠ "java/lang/invoke/VarHandle" ∧ (parseMethodDescriptor y_M_want.desc).map (fun d => d.parameters.length) = some 2 := by decide +kernel
abbrev b_M_may : ByteArray := prog_6_method_13_code
def y_M_may : MethodName := ⟨"PileLiftsModel", "may", "(II)Z"⟩
theorem q_M_may : y_M_may.cls ≠ "java/lang/invoke/MethodHandle" ∧ y_M_may.cls ≠ "java/lang/invoke/VarHandle" ∧ (parseMethodDescriptor y_M_may.desc).map (fun d => d.parameters.length) = some 2 := by decide +kernel
abbrev b_M_isAhead : ByteArray := prog_6_method_14_code
def y_M_isAhead : MethodName := ⟨"PileLiftsModel", "isAhead", "(II)Z"⟩
theorem q_M_isAhead : y_M_isAhead.cls ≠ "java/lang/invoke/MethodHandle" ∧ y_M_isAhead.cls ≠ "java/lang/invoke/VarHandle" ∧ (parseMethodDescriptor y_M_isAhead.desc).map (fun d => d.parameters.length) = some 2 := by decide +kernel
abbrev b_M_blocksOn : ByteArray := prog_6_method_15_code
def y_M_blocksOn : MethodName := ⟨"PileLiftsModel", "blocksOn", "(IIII)Z"⟩
theorem q_M_blocksOn : y_M_blocksOn.cls ≠ "java/lang/invoke/MethodHandle" ∧ y_M_blocksOn.cls ≠ "java/lang/invoke/VarHandle" ∧ (parseMethodDescriptor y_M_blocksOn.desc).map (fun d => d.parameters.length) = some 4 := by decide +kernel
abbrev b_M_boundAt : ByteArray := prog_6_method_16_code
def y_M_boundAt : MethodName := ⟨"PileLiftsModel", "boundAt", "(I)I"⟩
theorem q_M_boundAt : y_M_boundAt.cls ≠ "java/lang/invoke/MethodHandle" ∧ y_M_boundAt.cls ≠ "java/lang/invoke/VarHandle" ∧ (parseMethodDescriptor y_M_boundAt.desc).map (fun d => d.parameters.length) = some 1 := by decide +kernel
abbrev b_M_bound : ByteArray := prog_6_method_17_code
def y_M_bound : MethodName := ⟨"PileLiftsModel", "bound", "()I"⟩
theorem q_M_bound : y_M_bound.cls ≠ "java/lang/invoke/MethodHandle" ∧ y_M_bound.cls ≠ "java/lang/invoke/VarHandle" ∧ (parseMethodDescriptor y_M_bound.desc).map (fun d => d.parameters.length) = some 0 := by decide +kernel
abbrev b_M_copy : ByteArray := prog_6_method_18_code
def y_M_copy : MethodName := ⟨"PileLiftsModel", "copy", "(II)V"⟩
theorem q_M_copy : y_M_copy.cls ≠ "java/lang/invoke/MethodHandle" ∧ y_M_copy.cls ≠ "java/lang/invoke/VarHandle" ∧ (parseMethodDescriptor y_M_copy.desc).map (fun d => d.parameters.length) = some 2 := by decide +kernel
abbrev b_M_says : ByteArray := prog_6_method_19_code
def y_M_says : MethodName := ⟨"PileLiftsModel", "says", "(III)V"⟩
theorem q_M_says : y_M_says.cls ≠ "java/lang/invoke/MethodHandle" ∧ y_M_says.cls ≠ "java/lang/invoke/VarHandle" ∧ (parseMethodDescriptor y_M_says.desc).map (fun d => d.parameters.length) = some 3 := by decide +kernel
abbrev b_M_topOf : ByteArray := prog_6_method_20_code
def y_M_topOf : MethodName := ⟨"PileLiftsModel", "topOf", "(II)I"⟩
theorem q_M_topOf : y_M_topOf.cls ≠ "java/lang/invoke/MethodHandle" ∧ y_M_topOf.cls ≠ "java/lang/invoke/VarHandle" ∧ (parseMethodDescriptor y_M_topOf.desc).map (fun d => d.parameters.length) = some 2 := by decide +kernel
abbrev b_M_lift : ByteArray := prog_6_method_21_code
def y_M_lift : MethodName := ⟨"PileLiftsModel", "lift", "(III)V"⟩
theorem q_M_lift : y_M_lift.cls ≠ "java/lang/invoke/MethodHandle" ∧ y_M_lift.cls ≠ "java/lang/invoke/VarHandle" ∧ (parseMethodDescriptor y_M_lift.desc).map (fun d => d.parameters.length) = some 3 := by decide +kernel
abbrev b_M_nextWanted : ByteArray := prog_6_method_22_code
def y_M_nextWanted : MethodName := ⟨"PileLiftsModel", "nextWanted", "(I)I"⟩
theorem q_M_nextWanted : y_M_nextWanted.cls ≠ "java/lang/invoke/MethodHandle" ∧ y_M_nextWanted.cls ≠ "java/lang/invoke/VarHandle" ∧ (parseMethodDescriptor y_M_nextWanted.desc).map (fun d => d.parameters.length) = some 1 := by decide +kernel
abbrev b_M_leaves : ByteArray := prog_6_method_23_code
def y_M_leaves : MethodName := ⟨"PileLiftsModel", "leaves", "(I)Z"⟩
theorem q_M_leaves : y_M_leaves.cls ≠ "java/lang/invoke/MethodHandle" ∧ y_M_leaves.cls ≠ "java/lang/invoke/VarHandle" ∧ (parseMethodDescriptor y_M_leaves.desc).map (fun d => d.parameters.length) = some 1 := by decide +kernel
abbrev b_M_round : ByteArray := prog_6_method_24_code
def y_M_round : MethodName := ⟨"PileLiftsModel", "round", "(II)I"⟩
theorem q_M_round : y_M_round.cls ≠ "java/lang/invoke/MethodHandle" ∧ y_M_round.cls ≠ "java/lang/invoke/VarHandle" ∧ (parseMethodDescriptor y_M_round.desc).map (fun d => d.parameters.length) = some 2 := by decide +kernel
abbrev b_M_run : ByteArray := prog_6_method_25_code
def y_M_run : MethodName := ⟨"PileLiftsModel", "run", "(I)I"⟩
theorem q_M_run : y_M_run.cls ≠ "java/lang/invoke/MethodHandle" ∧ y_M_run.cls ≠ "java/lang/invoke/VarHandle" ∧ (parseMethodDescriptor y_M_run.desc).map (fun d => d.parameters.length) = some 1 := by decide +kernel
abbrev b_M_proved : ByteArray := prog_6_method_26_code
def y_M_proved : MethodName := ⟨"PileLiftsModel", "proved", "()Z"⟩
theorem q_M_proved : y_M_proved.cls ≠ "java/lang/invoke/MethodHandle" ∧ y_M_proved.cls ≠ "java/lang/invoke/VarHandle" ∧ (parseMethodDescriptor y_M_proved.desc).map (fun d => d.parameters.length) = some 0 := by decide +kernel
abbrev b_M_moves : ByteArray := prog_6_method_27_code
def y_M_moves : MethodName := ⟨"PileLiftsModel", "moves", "()I"⟩
theorem q_M_moves : y_M_moves.cls ≠ "java/lang/invoke/MethodHandle" ∧ y_M_moves.cls ≠ "java/lang/invoke/VarHandle" ∧ (parseMethodDescriptor y_M_moves.desc).map (fun d => d.parameters.length) = some 0 := by decide +kernel
abbrev b_M_move : ByteArray := prog_6_method_28_code
def y_M_move : MethodName := ⟨"PileLiftsModel", "move", "(II)I"⟩
theorem q_M_move : y_M_move.cls ≠ "java/lang/invoke/MethodHandle" ∧ y_M_move.cls ≠ "java/lang/invoke/VarHandle" ∧ (parseMethodDescriptor y_M_move.desc).map (fun d => d.parameters.length) = some 2 := by decide +kernel
abbrev b_M_replay : ByteArray := prog_6_method_29_code
def y_M_replay : MethodName := ⟨"PileLiftsModel", "replay", "(I)I"⟩
theorem q_M_replay : y_M_replay.cls ≠ "java/lang/invoke/MethodHandle" ∧ y_M_replay.cls ≠ "java/lang/invoke/VarHandle" ∧ (parseMethodDescriptor y_M_replay.desc).map (fun d => d.parameters.length) = some 1 := by decide +kernel
abbrev b_M_at : ByteArray := prog_6_method_30_code
def y_M_at : MethodName := ⟨"PileLiftsModel", "at", "(II)I"⟩
theorem q_M_at : y_M_at.cls ≠ "java/lang/invoke/MethodHandle" ∧ y_M_at.cls ≠ "java/lang/invoke/VarHandle" ∧ (parseMethodDescriptor y_M_at.desc).map (fun d => d.parameters.length) = some 2 := by decide +kernel
abbrev b_M_tidies : ByteArray := prog_6_method_31_code
def y_M_tidies : MethodName := ⟨"PileLiftsModel", "tidies", "()Z"⟩
theorem q_M_tidies : y_M_tidies.cls ≠ "java/lang/invoke/MethodHandle" ∧ y_M_tidies.cls ≠ "java/lang/invoke/VarHandle" ∧ (parseMethodDescriptor y_M_tidies.desc).map (fun d => d.parameters.length) = some 0 := by decide +kernel
abbrev b_M_tidy : ByteArray := prog_6_method_32_code
def y_M_tidy : MethodName := ⟨"PileLiftsModel", "tidy", "(I)I"⟩
theorem q_M_tidy : y_M_tidy.cls ≠ "java/lang/invoke/MethodHandle" ∧ y_M_tidy.cls ≠ "java/lang/invoke/VarHandle" ∧ (parseMethodDescriptor y_M_tidy.desc).map (fun d => d.parameters.length) = some 1 := by decide +kernel
abbrev b_M_wagon : ByteArray := prog_6_method_33_code
def y_M_wagon : MethodName := ⟨"PileLiftsModel", "wagon", "(I)I"⟩
theorem q_M_wagon : y_M_wagon.cls ≠ "java/lang/invoke/MethodHandle" ∧ y_M_wagon.cls ≠ "java/lang/invoke/VarHandle" ∧ (parseMethodDescriptor y_M_wagon.desc).map (fun d => d.parameters.length) = some 1 := by decide +kernel
abbrev b_M_load : ByteArray := prog_6_method_34_code
def y_M_load : MethodName := ⟨"PileLiftsModel", "load", "(I)I"⟩
theorem q_M_load : y_M_load.cls ≠ "java/lang/invoke/MethodHandle" ∧ y_M_load.cls ≠ "java/lang/invoke/VarHandle" ∧ (parseMethodDescriptor y_M_load.desc).map (fun d => d.parameters.length) = some 1 := by decide +kernel
abbrev b_S_init : ByteArray := prog_2_method_1_code
def y_S_init : MethodName := ⟨"PileLifts$Search", "<init>", "()V"⟩
theorem q_S_init : y_S_init.cls ≠ "java/lang/invoke/MethodHandle" ∧ y_S_init.cls ≠ "java/lang/invoke/VarHandle" ∧ (parseMethodDescriptor y_S_init.desc).map (fun d => d.parameters.length) = some 0 := by decide +kernel
abbrev b_S_forget : ByteArray := prog_2_method_2_code
def y_S_forget : MethodName := ⟨"PileLifts$Search", "forget", "()V"⟩
theorem q_S_forget : y_S_forget.cls ≠ "java/lang/invoke/MethodHandle" ∧ y_S_forget.cls ≠ "java/lang/invoke/VarHandle" ∧ (parseMethodDescriptor y_S_forget.desc).map (fun d => d.parameters.length) = some 0 := by decide +kernel
abbrev b_S_findBest : ByteArray := prog_2_method_3_code
def y_S_findBest : MethodName := ⟨"PileLifts$Search", "findBest", "(LPileLifts$Yard;I)I"⟩
theorem q_S_findBest : y_S_findBest.cls ≠ "java/lang/invoke/MethodHandle" ∧ y_S_findBest.cls ≠ "java/lang/invoke/VarHandle" ∧ (parseMethodDescriptor y_S_findBest.desc).map (fun d => d.parameters.length) = some 2 := by decide +kernel
abbrev b_S_goOn : ByteArray := prog_2_method_4_code
def y_S_goOn : MethodName := ⟨"PileLifts$Search", "goOn", "(LPileLifts$Yard;II)Z"⟩
theorem q_S_goOn : y_S_goOn.cls ≠ "java/lang/invoke/MethodHandle" ∧ y_S_goOn.cls ≠ "java/lang/invoke/VarHandle" ∧ (parseMethodDescriptor y_S_goOn.desc).map (fun d => d.parameters.length) = some 3 := by decide +kernel
abbrev b_S_tryFrom : ByteArray := prog_2_method_5_code
def y_S_tryFrom : MethodName := ⟨"PileLifts$Search", "tryFrom", "(LPileLifts$Yard;III)Z"⟩
theorem q_S_tryFrom : y_S_tryFrom.cls ≠ "java/lang/invoke/MethodHandle" ∧ y_S_tryFrom.cls ≠ "java/lang/invoke/VarHandle" ∧ (parseMethodDescriptor y_S_tryFrom.desc).map (fun d => d.parameters.length) = some 4 := by decide +kernel
abbrev b_S_tryOne : ByteArray := prog_2_method_6_code
def y_S_tryOne : MethodName := ⟨"PileLifts$Search", "tryOne", "(LPileLifts$Yard;IIII)Z"⟩
theorem q_S_tryOne : y_S_tryOne.cls ≠ "java/lang/invoke/MethodHandle" ∧ y_S_tryOne.cls ≠ "java/lang/invoke/VarHandle" ∧ (parseMethodDescriptor y_S_tryOne.desc).map (fun d => d.parameters.length) = some 5 := by decide +kernel
abbrev b_S_letLeave : ByteArray := prog_2_method_7_code
def y_S_letLeave : MethodName := ⟨"PileLifts$Search", "letLeave", "(LPileLifts$Yard;)V"⟩
theorem q_S_letLeave : y_S_letLeave.cls ≠ "java/lang/invoke/MethodHandle" ∧ y_S_letLeave.cls ≠ "java/lang/invoke/VarHandle" ∧ (parseMethodDescriptor y_S_letLeave.desc).map (fun d => d.parameters.length) = some 1 := by decide +kernel
abbrev b_S_note : ByteArray := prog_2_method_8_code
def y_S_note : MethodName := ⟨"PileLifts$Search", "note", "(III)V"⟩
theorem q_S_note : y_S_note.cls ≠ "java/lang/invoke/MethodHandle" ∧ y_S_note.cls ≠ "java/lang/invoke/VarHandle" ∧ (parseMethodDescriptor y_S_note.desc).map (fun d => d.parameters.length) = some 3 := by decide +kernel
abbrev b_S_takeBack : ByteArray := prog_2_method_9_code
def y_S_takeBack : MethodName := ⟨"PileLifts$Search", "takeBack", "(LPileLifts$Yard;I)V"⟩
theorem q_S_takeBack : y_S_takeBack.cls ≠ "java/lang/invoke/MethodHandle" ∧ y_S_takeBack.cls ≠ "java/lang/invoke/VarHandle" ∧ (parseMethodDescriptor y_S_takeBack.desc).map (fun d => d.parameters.length) = some 2 := by decide +kernel
abbrev b_S_doMoves : ByteArray := prog_2_method_10_code
def y_S_doMoves : MethodName := ⟨"PileLifts$Search", "doMoves", "(LPileLifts$Yard;I)V"⟩
theorem q_S_doMoves : y_S_doMoves.cls ≠ "java/lang/invoke/MethodHandle" ∧ y_S_doMoves.cls ≠ "java/lang/invoke/VarHandle" ∧ (parseMethodDescriptor y_S_doMoves.desc).map (fun d => d.parameters.length) = some 2 := by decide +kernel
abbrev b_S_countRelifts : ByteArray := prog_2_method_11_code
def y_S_countRelifts : MethodName := ⟨"PileLifts$Search", "countRelifts", "()I"⟩
theorem q_S_countRelifts : y_S_countRelifts.cls ≠ "java/lang/invoke/MethodHandle" ∧ y_S_countRelifts.cls ≠ "java/lang/invoke/VarHandle" ∧ (parseMethodDescriptor y_S_countRelifts.desc).map (fun d => d.parameters.length) = some 0 := by decide +kernel
abbrev b_W_init : ByteArray := prog_3_method_1_code
def y_W_init : MethodName := ⟨"PileLifts$Wagons", "<init>", "()V"⟩
theorem q_W_init : y_W_init.cls ≠ "java/lang/invoke/MethodHandle" ∧ y_W_init.cls ≠ "java/lang/invoke/VarHandle" ∧ (parseMethodDescriptor y_W_init.desc).map (fun d => d.parameters.length) = some 0 := by decide +kernel
abbrev b_W_clear : ByteArray := prog_3_method_2_code
def y_W_clear : MethodName := ⟨"PileLifts$Wagons", "clear", "()V"⟩
theorem q_W_clear : y_W_clear.cls ≠ "java/lang/invoke/MethodHandle" ∧ y_W_clear.cls ≠ "java/lang/invoke/VarHandle" ∧ (parseMethodDescriptor y_W_clear.desc).map (fun d => d.parameters.length) = some 0 := by decide +kernel
abbrev b_W_add : ByteArray := prog_3_method_3_code
def y_W_add : MethodName := ⟨"PileLifts$Wagons", "add", "(I)I"⟩
theorem q_W_add : y_W_add.cls ≠ "java/lang/invoke/MethodHandle" ∧ y_W_add.cls ≠ "java/lang/invoke/VarHandle" ∧ (parseMethodDescriptor y_W_add.desc).map (fun d => d.parameters.length) = some 1 := by decide +kernel
abbrev b_W_firstWithRoom : ByteArray := prog_3_method_4_code
def y_W_firstWithRoom : MethodName := ⟨"PileLifts$Wagons", "firstWithRoom", "(I)I"⟩
theorem q_W_firstWithRoom : y_W_firstWithRoom.cls ≠ "java/lang/invoke/MethodHandle" ∧ y_W_firstWithRoom.cls ≠ "java/lang/invoke/VarHandle" ∧ (parseMethodDescriptor y_W_firstWithRoom.desc).map (fun d => d.parameters.length) = some 1 := by decide +kernel
abbrev b_W_fill : ByteArray := prog_3_method_5_code
def y_W_fill : MethodName := ⟨"PileLifts$Wagons", "fill", "(III)V"⟩
theorem q_W_fill : y_W_fill.cls ≠ "java/lang/invoke/MethodHandle" ∧ y_W_fill.cls ≠ "java/lang/invoke/VarHandle" ∧ (parseMethodDescriptor y_W_fill.desc).map (fun d => d.parameters.length) = some 3 := by decide +kernel
abbrev b_Y_init : ByteArray := prog_4_method_1_code
def y_Y_init : MethodName := ⟨"PileLifts$Yard", "<init>", "()V"⟩
theorem q_Y_init : y_Y_init.cls ≠ "java/lang/invoke/MethodHandle" ∧ y_Y_init.cls ≠ "java/lang/invoke/VarHandle" ∧ (parseMethodDescriptor y_Y_init.desc).map (fun d => d.parameters.length) = some 0 := by decide +kernel
abbrev b_Y_clear : ByteArray := prog_4_method_2_code
def y_Y_clear : MethodName := ⟨"PileLifts$Yard", "clear", "(II)V"⟩
theorem q_Y_clear : y_Y_clear.cls ≠ "java/lang/invoke/MethodHandle" ∧ y_Y_clear.cls ≠ "java/lang/invoke/VarHandle" ∧ (parseMethodDescriptor y_Y_clear.desc).map (fun d => d.parameters.length) = some 2 := by decide +kernel
abbrev b_Y_hasPile : ByteArray := prog_4_method_3_code
def y_Y_hasPile : MethodName := ⟨"PileLifts$Yard", "hasPile", "(I)Z"⟩
theorem q_Y_hasPile : y_Y_hasPile.cls ≠ "java/lang/invoke/MethodHandle" ∧ y_Y_hasPile.cls ≠ "java/lang/invoke/VarHandle" ∧ (parseMethodDescriptor y_Y_hasPile.desc).map (fun d => d.parameters.length) = some 1 := by decide +kernel
abbrev b_Y_hasPiece : ByteArray := prog_4_method_4_code
def y_Y_hasPiece : MethodName := ⟨"PileLifts$Yard", "hasPiece", "(I)Z"⟩
theorem q_Y_hasPiece : y_Y_hasPiece.cls ≠ "java/lang/invoke/MethodHandle" ∧ y_Y_hasPiece.cls ≠ "java/lang/invoke/VarHandle" ∧ (parseMethodDescriptor y_Y_hasPiece.desc).map (fun d => d.parameters.length) = some 1 := by decide +kernel
abbrev b_Y_isGone : ByteArray := prog_4_method_5_code
def y_Y_isGone : MethodName := ⟨"PileLifts$Yard", "isGone", "(I)Z"⟩
theorem q_Y_isGone : y_Y_isGone.cls ≠ "java/lang/invoke/MethodHandle" ∧ y_Y_isGone.cls ≠ "java/lang/invoke/VarHandle" ∧ (parseMethodDescriptor y_Y_isGone.desc).map (fun d => d.parameters.length) = some 1 := by decide +kernel
abbrev b_Y_pieceAt : ByteArray := prog_4_method_6_code
def y_Y_pieceAt : MethodName := ⟨"PileLifts$Yard", "pieceAt", "(II)I"⟩
theorem q_Y_pieceAt : y_Y_pieceAt.cls ≠ "java/lang/invoke/MethodHandle" ∧ y_Y_pieceAt.cls ≠ "java/lang/invoke/VarHandle" ∧ (parseMethodDescriptor y_Y_pieceAt.desc).map (fun d => d.parameters.length) = some 2 := by decide +kernel
abbrev b_Y_topOf : ByteArray := prog_4_method_7_code
def y_Y_topOf : MethodName := ⟨"PileLifts$Yard", "topOf", "(I)I"⟩
theorem q_Y_topOf : y_Y_topOf.cls ≠ "java/lang/invoke/MethodHandle" ∧ y_Y_topOf.cls ≠ "java/lang/invoke/VarHandle" ∧ (parseMethodDescriptor y_Y_topOf.desc).map (fun d => d.parameters.length) = some 1 := by decide +kernel
abbrev b_Y_takes : ByteArray := prog_4_method_8_code
def y_Y_takes : MethodName := ⟨"PileLifts$Yard", "takes", "(II)Z"⟩
theorem q_Y_takes : y_Y_takes.cls ≠ "java/lang/invoke/MethodHandle" ∧ y_Y_takes.cls ≠ "java/lang/invoke/VarHandle" ∧ (parseMethodDescriptor y_Y_takes.desc).map (fun d => d.parameters.length) = some 2 := by decide +kernel
abbrev b_Y_add : ByteArray := prog_4_method_9_code
def y_Y_add : MethodName := ⟨"PileLifts$Yard", "add", "(III)I"⟩
theorem q_Y_add : y_Y_add.cls ≠ "java/lang/invoke/MethodHandle" ∧ y_Y_add.cls ≠ "java/lang/invoke/VarHandle" ∧ (parseMethodDescriptor y_Y_add.desc).map (fun d => d.parameters.length) = some 3 := by decide +kernel
abbrev b_Y_layOn : ByteArray := prog_4_method_10_code
def y_Y_layOn : MethodName := ⟨"PileLifts$Yard", "layOn", "(II)V"⟩
theorem q_Y_layOn : y_Y_layOn.cls ≠ "java/lang/invoke/MethodHandle" ∧ y_Y_layOn.cls ≠ "java/lang/invoke/VarHandle" ∧ (parseMethodDescriptor y_Y_layOn.desc).map (fun d => d.parameters.length) = some 2 := by decide +kernel
abbrev b_Y_takeOff : ByteArray := prog_4_method_11_code
def y_Y_takeOff : MethodName := ⟨"PileLifts$Yard", "takeOff", "(I)V"⟩
theorem q_Y_takeOff : y_Y_takeOff.cls ≠ "java/lang/invoke/MethodHandle" ∧ y_Y_takeOff.cls ≠ "java/lang/invoke/VarHandle" ∧ (parseMethodDescriptor y_Y_takeOff.desc).map (fun d => d.parameters.length) = some 1 := by decide +kernel
abbrev b_Y_relift : ByteArray := prog_4_method_12_code
def y_Y_relift : MethodName := ⟨"PileLifts$Yard", "relift", "(II)V"⟩
theorem q_Y_relift : y_Y_relift.cls ≠ "java/lang/invoke/MethodHandle" ∧ y_Y_relift.cls ≠ "java/lang/invoke/VarHandle" ∧ (parseMethodDescriptor y_Y_relift.desc).map (fun d => d.parameters.length) = some 2 := by decide +kernel
abbrev b_Y_turnOf : ByteArray := prog_4_method_13_code
def y_Y_turnOf : MethodName := ⟨"PileLifts$Yard", "turnOf", "(I)I"⟩
theorem q_Y_turnOf : y_Y_turnOf.cls ≠ "java/lang/invoke/MethodHandle" ∧ y_Y_turnOf.cls ≠ "java/lang/invoke/VarHandle" ∧ (parseMethodDescriptor y_Y_turnOf.desc).map (fun d => d.parameters.length) = some 1 := by decide +kernel
abbrev b_Y_wouldBlock : ByteArray := prog_4_method_14_code
def y_Y_wouldBlock : MethodName := ⟨"PileLifts$Yard", "wouldBlock", "(III)Z"⟩
theorem q_Y_wouldBlock : y_Y_wouldBlock.cls ≠ "java/lang/invoke/MethodHandle" ∧ y_Y_wouldBlock.cls ≠ "java/lang/invoke/VarHandle" ∧ (parseMethodDescriptor y_Y_wouldBlock.desc).map (fun d => d.parameters.length) = some 3 := by decide +kernel
abbrev b_Y_wouldBlockOn : ByteArray := prog_4_method_15_code
def y_Y_wouldBlockOn : MethodName := ⟨"PileLifts$Yard", "wouldBlockOn", "(II)Z"⟩
theorem q_Y_wouldBlockOn : y_Y_wouldBlockOn.cls ≠ "java/lang/invoke/MethodHandle" ∧ y_Y_wouldBlockOn.cls ≠ "java/lang/invoke/VarHandle" ∧ (parseMethodDescriptor y_Y_wouldBlockOn.desc).map (fun d => d.parameters.length) = some 2 := by decide +kernel
abbrev b_Y_isBlocking : ByteArray := prog_4_method_16_code
def y_Y_isBlocking : MethodName := ⟨"PileLifts$Yard", "isBlocking", "(I)Z"⟩
theorem q_Y_isBlocking : y_Y_isBlocking.cls ≠ "java/lang/invoke/MethodHandle" ∧ y_Y_isBlocking.cls ≠ "java/lang/invoke/VarHandle" ∧ (parseMethodDescriptor y_Y_isBlocking.desc).map (fun d => d.parameters.length) = some 1 := by decide +kernel
abbrev b_Y_countBlocking : ByteArray := prog_4_method_17_code
def y_Y_countBlocking : MethodName := ⟨"PileLifts$Yard", "countBlocking", "()I"⟩
theorem q_Y_countBlocking : y_Y_countBlocking.cls ≠ "java/lang/invoke/MethodHandle" ∧ y_Y_countBlocking.cls ≠ "java/lang/invoke/VarHandle" ∧ (parseMethodDescriptor y_Y_countBlocking.desc).map (fun d => d.parameters.length) = some 0 := by decide +kernel
abbrev b_Y_countGone : ByteArray := prog_4_method_18_code
def y_Y_countGone : MethodName := ⟨"PileLifts$Yard", "countGone", "()I"⟩
theorem q_Y_countGone : y_Y_countGone.cls ≠ "java/lang/invoke/MethodHandle" ∧ y_Y_countGone.cls ≠ "java/lang/invoke/VarHandle" ∧ (parseMethodDescriptor y_Y_countGone.desc).map (fun d => d.parameters.length) = some 0 := by decide +kernel
abbrev b_Y_nextWanted : ByteArray := prog_4_method_19_code
def y_Y_nextWanted : MethodName := ⟨"PileLifts$Yard", "nextWanted", "()I"⟩
theorem q_Y_nextWanted : y_Y_nextWanted.cls ≠ "java/lang/invoke/MethodHandle" ∧ y_Y_nextWanted.cls ≠ "java/lang/invoke/VarHandle" ∧ (parseMethodDescriptor y_Y_nextWanted.desc).map (fun d => d.parameters.length) = some 0 := by decide +kernel
abbrev b_Y_isTop : ByteArray := prog_4_method_20_code
def y_Y_isTop : MethodName := ⟨"PileLifts$Yard", "isTop", "(I)Z"⟩
theorem q_Y_isTop : y_Y_isTop.cls ≠ "java/lang/invoke/MethodHandle" ∧ y_Y_isTop.cls ≠ "java/lang/invoke/VarHandle" ∧ (parseMethodDescriptor y_Y_isTop.desc).map (fun d => d.parameters.length) = some 1 := by decide +kernel
abbrev b_Y_tidyOnce : ByteArray := prog_4_method_21_code
def y_Y_tidyOnce : MethodName := ⟨"PileLifts$Yard", "tidyOnce", "()Z"⟩
theorem q_Y_tidyOnce : y_Y_tidyOnce.cls ≠ "java/lang/invoke/MethodHandle" ∧ y_Y_tidyOnce.cls ≠ "java/lang/invoke/VarHandle" ∧ (parseMethodDescriptor y_Y_tidyOnce.desc).map (fun d => d.parameters.length) = some 0 := by decide +kernel
abbrev b_Y_tidyPlaceFor : ByteArray := prog_4_method_22_code
def y_Y_tidyPlaceFor : MethodName := ⟨"PileLifts$Yard", "tidyPlaceFor", "(I)I"⟩
theorem q_Y_tidyPlaceFor : y_Y_tidyPlaceFor.cls ≠ "java/lang/invoke/MethodHandle" ∧ y_Y_tidyPlaceFor.cls ≠ "java/lang/invoke/VarHandle" ∧ (parseMethodDescriptor y_Y_tidyPlaceFor.desc).map (fun d => d.parameters.length) = some 1 := by decide +kernel
def wsC_0 : List Cond := [Cond.initialized "PileLifts", Cond.initialized "PileLifts$Yard", Cond.initialized "PileLifts$Search", Cond.initialized "PileLifts$Wagons", Cond.instantiable "PileLifts" 3, Cond.instanceMethod y_P_init, Cond.code y_P_init prog_1_method_1_code 1 none, Cond.methodLink "PileLifts" 1 ⟨"java/lang/Object", "<init>", "()V"⟩, Cond.classLink "PileLifts" 7 "PileLifts$Yard", Cond.instantiable "PileLifts$Yard" 10, Cond.instanceMethod y_Y_init, Cond.code y_Y_init prog_4_method_1_code 1 none, Cond.methodLink "PileLifts$Yard" 3 ⟨"java/lang/Object", "<init>", "()V"⟩, Cond.methodLink "PileLifts$Yard" 33 y_Y_clear, Cond.instanceMethod y_Y_clear, Cond.code y_Y_clear prog_4_method_2_code 4 none, Cond.fieldLink "PileLifts$Yard" 37 "PileLifts$Yard" "pileCount" "I", Cond.fieldLink "PileLifts$Yard" 41 "PileLifts$Yard" "levelCount" "I", Cond.fieldLink "PileLifts$Yard" 44 "PileLifts$Yard" "pieceCount" "I", Cond.fieldLink "PileLifts$Yard" 9 "PileLifts$Yard" "heights" "[I", Cond.fieldLink "PileLifts$Yard" 15 "PileLifts$Yard" "lying" "[I", Cond.fieldLink "PileLifts$Yard" 18 "PileLifts$Yard" "kilos" "[I", Cond.fieldLink "PileLifts$Yard" 21 "PileLifts$Yard" "lengths" "[I", Cond.fieldLink "PileLifts$Yard" 24 "PileLifts$Yard" "times" "[I", Cond.fieldLink "PileLifts$Yard" 27 "PileLifts$Yard" "pileOf" "[I", Cond.fieldLink "PileLifts$Yard" 30 "PileLifts$Yard" "levelOf" "[I", Cond.lays "PileLifts$Yard" "PileLifts$Yard" "pileCount" "I", Cond.lays "PileLifts$Yard" "PileLifts$Yard" "levelCount" "I", Cond.lays "PileLifts$Yard" "PileLifts$Yard" "pieceCount" "I", Cond.laysFinal "PileLifts$Yard" "PileLifts$Yard" "heights" "[I", Cond.laysFinal "PileLifts$Yard" "PileLifts$Yard" "lying" "[I", Cond.laysFinal "PileLifts$Yard" "PileLifts$Yard" "kilos" "[I", Cond.laysFinal "PileLifts$Yard" "PileLifts$Yard" "lengths" "[I", Cond.laysFinal "PileLifts$Yard" "PileLifts$Yard" "times" "[I", Cond.laysFinal "PileLifts$Yard" "PileLifts$Yard" "pileOf" "[I", Cond.laysFinal "PileLifts$Yard" "PileLifts$Yard" "levelOf" "[I", Cond.classLink "PileLifts" 16 "PileLifts$Search", Cond.instantiable "PileLifts$Search" 10, Cond.instanceMethod y_S_init, Cond.code y_S_init prog_2_method_1_code 1 none]
def wsC_1 : List Cond := [Cond.methodLink "PileLifts$Search" 3 ⟨"java/lang/Object", "<init>", "()V"⟩, Cond.fieldLink "PileLifts$Search" 21 "PileLifts$Search" "isDone" "Z", Cond.fieldLink "PileLifts$Search" 25 "PileLifts$Search" "isProved" "Z", Cond.fieldLink "PileLifts$Search" 28 "PileLifts$Search" "hasPlan" "Z", Cond.fieldLink "PileLifts$Search" 41 "PileLifts$Search" "isCutShort" "Z", Cond.fieldLink "PileLifts$Search" 38 "PileLifts$Search" "nodesLeft" "I", Cond.fieldLink "PileLifts$Search" 50 "PileLifts$Search" "limit" "I", Cond.fieldLink "PileLifts$Search" 31 "PileLifts$Search" "moveCount" "I", Cond.fieldLink "PileLifts$Search" 11 "PileLifts$Search" "movedPiece" "[I", Cond.fieldLink "PileLifts$Search" 15 "PileLifts$Search" "movedFrom" "[I", Cond.fieldLink "PileLifts$Search" 18 "PileLifts$Search" "movedTo" "[I", Cond.lays "PileLifts$Search" "PileLifts$Search" "isDone" "Z", Cond.lays "PileLifts$Search" "PileLifts$Search" "isProved" "Z", Cond.lays "PileLifts$Search" "PileLifts$Search" "hasPlan" "Z", Cond.lays "PileLifts$Search" "PileLifts$Search" "isCutShort" "Z", Cond.lays "PileLifts$Search" "PileLifts$Search" "nodesLeft" "I", Cond.lays "PileLifts$Search" "PileLifts$Search" "limit" "I", Cond.lays "PileLifts$Search" "PileLifts$Search" "moveCount" "I", Cond.laysFinal "PileLifts$Search" "PileLifts$Search" "movedPiece" "[I", Cond.laysFinal "PileLifts$Search" "PileLifts$Search" "movedFrom" "[I", Cond.laysFinal "PileLifts$Search" "PileLifts$Search" "movedTo" "[I", Cond.classLink "PileLifts" 23 "PileLifts$Wagons", Cond.instantiable "PileLifts$Wagons" 4, Cond.instanceMethod y_W_init, Cond.code y_W_init prog_3_method_1_code 1 none, Cond.methodLink "PileLifts$Wagons" 3 ⟨"java/lang/Object", "<init>", "()V"⟩, Cond.methodLink "PileLifts$Wagons" 21 y_W_clear, Cond.instanceMethod y_W_clear, Cond.code y_W_clear prog_3_method_2_code 2 none, Cond.fieldLink "PileLifts$Wagons" 24 "PileLifts$Wagons" "count" "I", Cond.fieldLink "PileLifts$Wagons" 9 "PileLifts$Wagons" "axles" "[I", Cond.fieldLink "PileLifts$Wagons" 15 "PileLifts$Wagons" "loads" "[I", Cond.fieldLink "PileLifts$Wagons" 18 "PileLifts$Wagons" "wagonOf" "[I", Cond.lays "PileLifts$Wagons" "PileLifts$Wagons" "count" "I", Cond.laysFinal "PileLifts$Wagons" "PileLifts$Wagons" "axles" "[I", Cond.laysFinal "PileLifts$Wagons" "PileLifts$Wagons" "loads" "[I", Cond.laysFinal "PileLifts$Wagons" "PileLifts$Wagons" "wagonOf" "[I", Cond.fieldLink "PileLifts" 10 "PileLifts" "yard" "LPileLifts$Yard;", Cond.fieldLink "PileLifts" 19 "PileLifts" "search" "LPileLifts$Search;", Cond.fieldLink "PileLifts" 26 "PileLifts" "wagons" "LPileLifts$Wagons;"]
def wsC_2 : List Cond := [Cond.laysFinal "PileLifts" "PileLifts" "yard" "LPileLifts$Yard;", Cond.laysFinal "PileLifts" "PileLifts" "search" "LPileLifts$Search;", Cond.laysFinal "PileLifts" "PileLifts" "wagons" "LPileLifts$Wagons;", Cond.instanceMethod y_P_bound, Cond.selects "PileLifts" y_P_bound y_P_bound, Cond.code y_P_bound prog_1_method_6_code 1 (some .int), Cond.instanceMethod y_Y_countBlocking, Cond.code y_Y_countBlocking prog_4_method_17_code 3 (some .int), Cond.methodLink "PileLifts$Yard" 76 y_Y_isBlocking, Cond.instanceMethod y_Y_isBlocking, Cond.code y_Y_isBlocking prog_4_method_16_code 2 (some .boolean), Cond.methodLink "PileLifts$Yard" 72 y_Y_isGone, Cond.instanceMethod y_Y_isGone, Cond.code y_Y_isGone prog_4_method_5_code 2 (some .boolean), Cond.methodLink "PileLifts$Yard" 69 y_Y_wouldBlock, Cond.instanceMethod y_Y_wouldBlock, Cond.code y_Y_wouldBlock prog_4_method_14_code 6 (some .boolean), Cond.methodLink "PileLifts$Yard" 66 y_Y_turnOf, Cond.instanceMethod y_Y_turnOf, Cond.code y_Y_turnOf prog_4_method_13_code 2 (some .int), Cond.methodLink "PileLifts$Yard" 51 y_Y_pieceAt, Cond.instanceMethod y_Y_pieceAt, Cond.code y_Y_pieceAt prog_4_method_6_code 3 (some .int), Cond.instanceMethod y_P_piles, Cond.selects "PileLifts" y_P_piles y_P_piles, Cond.code y_P_piles prog_1_method_2_code 3 none, Cond.methodLink "PileLifts" 30 y_P_isWithin, Cond.static y_P_isWithin, Cond.code y_P_isWithin prog_1_method_18_code 3 (some .boolean), Cond.classLink "PileLifts" 34 "java/lang/IllegalArgumentException", Cond.methodLink "PileLifts" 38 ⟨"java/lang/IllegalArgumentException", "<init>", "(Ljava/lang/String;)V"⟩, Cond.instanceMethod y_S_forget, Cond.code y_S_forget prog_2_method_2_code 1 none, Cond.instanceMethod y_P_put, Cond.selects "PileLifts" y_P_put y_P_put, Cond.code y_P_put prog_1_method_3_code 4 (some .int), Cond.instanceMethod y_Y_hasPile, Cond.code y_Y_hasPile prog_4_method_3_code 2 (some .boolean), Cond.classLink "PileLifts" 54 "java/lang/IndexOutOfBoundsException", Cond.methodLink "PileLifts" 58 ⟨"java/lang/IndexOutOfBoundsException", "<init>", "(Ljava/lang/String;)V"⟩]
def wsC_3 : List Cond := [Cond.instanceMethod y_Y_takes, Cond.code y_Y_takes prog_4_method_8_code 4 (some .boolean), Cond.methodLink "PileLifts$Yard" 55 y_Y_topOf, Cond.instanceMethod y_Y_topOf, Cond.code y_Y_topOf prog_4_method_7_code 2 (some .int), Cond.classLink "PileLifts" 69 "java/lang/UnsupportedOperationException", Cond.methodLink "PileLifts" 73 ⟨"java/lang/UnsupportedOperationException", "<init>", "(Ljava/lang/String;)V"⟩, Cond.instanceMethod y_Y_add, Cond.code y_Y_add prog_4_method_9_code 5 (some .int), Cond.methodLink "PileLifts$Yard" 59 y_Y_layOn, Cond.instanceMethod y_Y_layOn, Cond.code y_Y_layOn prog_4_method_10_code 4 none, Cond.instanceMethod y_P_want, Cond.selects "PileLifts" y_P_want y_P_want, Cond.code y_P_want prog_1_method_4_code 3 none, Cond.methodLink "PileLifts" 78 y_P_checkPiece, Cond.instanceMethod y_P_checkPiece, Cond.code y_P_checkPiece prog_1_method_16_code 2 none, Cond.instanceMethod y_Y_hasPiece, Cond.code y_Y_hasPiece prog_4_method_4_code 2 (some .boolean), Cond.classLink "PileLifts" 85 "java/lang/IllegalStateException", Cond.methodLink "PileLifts" 89 ⟨"java/lang/IllegalStateException", "<init>", "(Ljava/lang/String;)V"⟩, Cond.instanceMethod y_P_may, Cond.selects "PileLifts" y_P_may y_P_may, Cond.code y_P_may prog_1_method_5_code 3 (some .boolean), Cond.instanceMethod y_P_run, Cond.selects "PileLifts" y_P_run y_P_run, Cond.code y_P_run prog_1_method_7_code 2 (some .int), Cond.constant "PileLifts" 103 (100000 : Int32), Cond.instanceMethod y_S_findBest, Cond.code y_S_findBest prog_2_method_3_code 5 (some .int), Cond.methodLink "PileLifts$Search" 35 y_S_forget, Cond.methodLink "PileLifts$Search" 53 y_S_goOn, Cond.instanceMethod y_S_goOn, Cond.code y_S_goOn prog_2_method_4_code 5 (some .boolean), Cond.methodLink "PileLifts$Search" 64 y_S_letLeave, Cond.instanceMethod y_S_letLeave, Cond.code y_S_letLeave prog_2_method_7_code 4 none, Cond.instanceMethod y_Y_nextWanted, Cond.code y_Y_nextWanted prog_4_method_19_code 4 (some .int)]
def wsC_4 : List Cond := [Cond.instanceMethod y_Y_isTop, Cond.code y_Y_isTop prog_4_method_20_code 2 (some .boolean), Cond.methodLink "PileLifts$Search" 103 y_S_note, Cond.instanceMethod y_S_note, Cond.code y_S_note prog_2_method_8_code 4 none, Cond.instanceMethod y_Y_takeOff, Cond.code y_Y_takeOff prog_4_method_11_code 3 none, Cond.methodLink "PileLifts$Search" 74 y_S_tryFrom, Cond.instanceMethod y_S_tryFrom, Cond.code y_S_tryFrom prog_2_method_5_code 9 (some .boolean), Cond.instanceMethod y_Y_wouldBlockOn, Cond.code y_Y_wouldBlockOn prog_4_method_15_code 3 (some .boolean), Cond.methodLink "PileLifts$Search" 96 y_S_tryOne, Cond.instanceMethod y_S_tryOne, Cond.code y_S_tryOne prog_2_method_6_code 7 (some .boolean), Cond.instanceMethod y_Y_relift, Cond.code y_Y_relift prog_4_method_12_code 3 none, Cond.methodLink "PileLifts$Yard" 62 y_Y_takeOff, Cond.methodLink "PileLifts$Search" 57 y_S_takeBack, Cond.instanceMethod y_S_takeBack, Cond.code y_S_takeBack prog_2_method_9_code 3 none, Cond.methodLink "PileLifts$Search" 61 y_S_countRelifts, Cond.instanceMethod y_S_countRelifts, Cond.code y_S_countRelifts prog_2_method_11_code 3 (some .int), Cond.instanceMethod y_P_proved, Cond.selects "PileLifts" y_P_proved y_P_proved, Cond.code y_P_proved prog_1_method_8_code 1 (some .boolean), Cond.instanceMethod y_P_moves, Cond.selects "PileLifts" y_P_moves y_P_moves, Cond.code y_P_moves prog_1_method_9_code 1 (some .int), Cond.methodLink "PileLifts" 119 y_P_checkPlan, Cond.instanceMethod y_P_checkPlan, Cond.code y_P_checkPlan prog_1_method_17_code 1 none, Cond.instanceMethod y_P_move, Cond.selects "PileLifts" y_P_move y_P_move, Cond.code y_P_move prog_1_method_10_code 3 (some .int), Cond.instanceMethod y_P_replay, Cond.selects "PileLifts" y_P_replay y_P_replay, Cond.code y_P_replay prog_1_method_11_code 2 (some .int), Cond.instanceMethod y_S_doMoves]
def wsC_5 : List Cond := [Cond.code y_S_doMoves prog_2_method_10_code 4 none, Cond.instanceMethod y_Y_countGone, Cond.code y_Y_countGone prog_4_method_18_code 3 (some .int), Cond.instanceMethod y_P_at, Cond.selects "PileLifts" y_P_at y_P_at, Cond.code y_P_at prog_1_method_12_code 3 (some .int), Cond.instanceMethod y_P_tidy, Cond.selects "PileLifts" y_P_tidy y_P_tidy, Cond.code y_P_tidy prog_1_method_13_code 3 (some .int), Cond.instanceMethod y_Y_tidyOnce, Cond.code y_Y_tidyOnce prog_4_method_21_code 4 (some .boolean), Cond.methodLink "PileLifts$Yard" 79 y_Y_tidyPlaceFor, Cond.instanceMethod y_Y_tidyPlaceFor, Cond.code y_Y_tidyPlaceFor prog_4_method_22_code 3 (some .int), Cond.methodLink "PileLifts$Yard" 85 y_Y_takes, Cond.methodLink "PileLifts$Yard" 89 y_Y_wouldBlockOn, Cond.methodLink "PileLifts$Yard" 82 y_Y_relift, Cond.instanceMethod y_P_wagon, Cond.selects "PileLifts" y_P_wagon y_P_wagon, Cond.code y_P_wagon prog_1_method_14_code 2 (some .int), Cond.instanceMethod y_W_add, Cond.code y_W_add prog_3_method_3_code 3 (some .int), Cond.instanceMethod y_P_load, Cond.selects "PileLifts" y_P_load y_P_load, Cond.code y_P_load prog_1_method_15_code 3 (some .int), Cond.instanceMethod y_W_firstWithRoom, Cond.code y_W_firstWithRoom prog_3_method_4_code 3 (some .int), Cond.instanceMethod y_W_fill, Cond.code y_W_fill prog_3_method_5_code 4 none, Cond.selects "PileLifts$Yard" y_Y_clear y_Y_clear, Cond.selects "PileLifts$Wagons" y_W_clear y_W_clear, Cond.selects "PileLifts$Yard" y_Y_countBlocking y_Y_countBlocking, Cond.selects "PileLifts$Yard" y_Y_isBlocking y_Y_isBlocking, Cond.selects "PileLifts$Yard" y_Y_isGone y_Y_isGone, Cond.selects "PileLifts$Yard" y_Y_wouldBlock y_Y_wouldBlock, Cond.selects "PileLifts$Yard" y_Y_turnOf y_Y_turnOf, Cond.selects "PileLifts$Yard" y_Y_pieceAt y_Y_pieceAt, Cond.selects "PileLifts$Search" y_S_forget y_S_forget, Cond.selects "PileLifts$Yard" y_Y_hasPile y_Y_hasPile, Cond.selects "PileLifts$Yard" y_Y_takes y_Y_takes]
def wsC_6 : List Cond := [Cond.selects "PileLifts$Yard" y_Y_topOf y_Y_topOf, Cond.selects "PileLifts$Yard" y_Y_add y_Y_add, Cond.selects "PileLifts$Yard" y_Y_layOn y_Y_layOn, Cond.selects "PileLifts" y_P_checkPiece y_P_checkPiece, Cond.selects "PileLifts$Yard" y_Y_hasPiece y_Y_hasPiece, Cond.selects "PileLifts$Search" y_S_findBest y_S_findBest, Cond.selects "PileLifts$Search" y_S_goOn y_S_goOn, Cond.selects "PileLifts$Search" y_S_letLeave y_S_letLeave, Cond.selects "PileLifts$Yard" y_Y_nextWanted y_Y_nextWanted, Cond.selects "PileLifts$Yard" y_Y_isTop y_Y_isTop, Cond.selects "PileLifts$Search" y_S_note y_S_note, Cond.selects "PileLifts$Yard" y_Y_takeOff y_Y_takeOff, Cond.selects "PileLifts$Search" y_S_tryFrom y_S_tryFrom, Cond.selects "PileLifts$Yard" y_Y_wouldBlockOn y_Y_wouldBlockOn, Cond.selects "PileLifts$Search" y_S_tryOne y_S_tryOne, Cond.selects "PileLifts$Yard" y_Y_relift y_Y_relift, Cond.selects "PileLifts$Search" y_S_takeBack y_S_takeBack, Cond.selects "PileLifts$Search" y_S_countRelifts y_S_countRelifts, Cond.selects "PileLifts" y_P_checkPlan y_P_checkPlan, Cond.selects "PileLifts$Search" y_S_doMoves y_S_doMoves, Cond.selects "PileLifts$Yard" y_Y_countGone y_Y_countGone, Cond.selects "PileLifts$Yard" y_Y_tidyOnce y_Y_tidyOnce, Cond.selects "PileLifts$Yard" y_Y_tidyPlaceFor y_Y_tidyPlaceFor, Cond.selects "PileLifts$Wagons" y_W_add y_W_add, Cond.selects "PileLifts$Wagons" y_W_firstWithRoom y_W_firstWithRoom, Cond.selects "PileLifts$Wagons" y_W_fill y_W_fill, Cond.instanceMethod objectInit, Cond.code objectInit ⟨#[0xb1]⟩ 1 none, Cond.arrayClass .int]
def wsC : List Cond := wsC_0 ++ (wsC_1 ++ (wsC_2 ++ (wsC_3 ++ (wsC_4 ++ (wsC_5 ++ (wsC_6))))))
theorem mC_0 : Cond.initialized "PileLifts" ∈ wsC := List.mem_append_left _ (List.mem_of_getElem? (i := 0) rfl)
theorem mC_1 : Cond.initialized "PileLifts$Yard" ∈ wsC := List.mem_append_left _ (List.mem_of_getElem? (i := 1) rfl)
theorem mC_2 : Cond.initialized "PileLifts$Search" ∈ wsC := List.mem_append_left _ (List.mem_of_getElem? (i := 2) rfl)
theorem mC_3 : Cond.initialized "PileLifts$Wagons" ∈ wsC := List.mem_append_left _ (List.mem_of_getElem? (i := 3) rfl)
theorem mC_4 : Cond.instantiable "PileLifts" 3 ∈ wsC := List.mem_append_left _ (List.mem_of_getElem? (i := 4) rfl)
theorem mC_5 : Cond.instanceMethod y_P_init ∈ wsC := List.mem_append_left _ (List.mem_of_getElem? (i := 5) rfl)
theorem mC_6 : Cond.code y_P_init prog_1_method_1_code 1 none ∈ wsC := List.mem_append_left _ (List.mem_of_getElem? (i := 6) rfl)
theorem mC_7 : Cond.methodLink "PileLifts" 1 ⟨"java/lang/Object", "<init>", "()V"⟩ ∈ wsC := List.mem_append_left _ (List.mem_of_getElem? (i := 7) rfl)
theorem mC_8 : Cond.classLink "PileLifts" 7 "PileLifts$Yard" ∈ wsC := List.mem_append_left _ (List.mem_of_getElem? (i := 8) rfl)
theorem mC_9 : Cond.instantiable "PileLifts$Yard" 10 ∈ wsC := List.mem_append_left _ (List.mem_of_getElem? (i := 9) rfl)
theorem mC_10 : Cond.instanceMethod y_Y_init ∈ wsC := List.mem_append_left _ (List.mem_of_getElem? (i := 10) rfl)
theorem mC_11 : Cond.code y_Y_init prog_4_method_1_code 1 none ∈ wsC := List.mem_append_left _ (List.mem_of_getElem? (i := 11) rfl)
theorem mC_12 : Cond.methodLink "PileLifts$Yard" 3 ⟨"java/lang/Object", "<init>", "()V"⟩ ∈ wsC := List.mem_append_left _ (List.mem_of_getElem? (i := 12) rfl)
theorem mC_13 : Cond.methodLink "PileLifts$Yard" 33 y_Y_clear ∈ wsC := List.mem_append_left _ (List.mem_of_getElem? (i := 13) rfl)
theorem mC_14 : Cond.instanceMethod y_Y_clear ∈ wsC := List.mem_append_left _ (List.mem_of_getElem? (i := 14) rfl)
theorem mC_15 : Cond.code y_Y_clear prog_4_method_2_code 4 none ∈ wsC := List.mem_append_left _ (List.mem_of_getElem? (i := 15) rfl)
theorem mC_16 : Cond.fieldLink "PileLifts$Yard" 37 "PileLifts$Yard" "pileCount" "I" ∈ wsC := List.mem_append_left _ (List.mem_of_getElem? (i := 16) rfl)
theorem mC_17 : Cond.fieldLink "PileLifts$Yard" 41 "PileLifts$Yard" "levelCount" "I" ∈ wsC := List.mem_append_left _ (List.mem_of_getElem? (i := 17) rfl)
theorem mC_18 : Cond.fieldLink "PileLifts$Yard" 44 "PileLifts$Yard" "pieceCount" "I" ∈ wsC := List.mem_append_left _ (List.mem_of_getElem? (i := 18) rfl)
theorem mC_19 : Cond.fieldLink "PileLifts$Yard" 9 "PileLifts$Yard" "heights" "[I" ∈ wsC := List.mem_append_left _ (List.mem_of_getElem? (i := 19) rfl)
theorem mC_20 : Cond.fieldLink "PileLifts$Yard" 15 "PileLifts$Yard" "lying" "[I" ∈ wsC := List.mem_append_left _ (List.mem_of_getElem? (i := 20) rfl)
theorem mC_21 : Cond.fieldLink "PileLifts$Yard" 18 "PileLifts$Yard" "kilos" "[I" ∈ wsC := List.mem_append_left _ (List.mem_of_getElem? (i := 21) rfl)
theorem mC_22 : Cond.fieldLink "PileLifts$Yard" 21 "PileLifts$Yard" "lengths" "[I" ∈ wsC := List.mem_append_left _ (List.mem_of_getElem? (i := 22) rfl)
theorem mC_23 : Cond.fieldLink "PileLifts$Yard" 24 "PileLifts$Yard" "times" "[I" ∈ wsC := List.mem_append_left _ (List.mem_of_getElem? (i := 23) rfl)
theorem mC_24 : Cond.fieldLink "PileLifts$Yard" 27 "PileLifts$Yard" "pileOf" "[I" ∈ wsC := List.mem_append_left _ (List.mem_of_getElem? (i := 24) rfl)
theorem mC_25 : Cond.fieldLink "PileLifts$Yard" 30 "PileLifts$Yard" "levelOf" "[I" ∈ wsC := List.mem_append_left _ (List.mem_of_getElem? (i := 25) rfl)
theorem mC_26 : Cond.lays "PileLifts$Yard" "PileLifts$Yard" "pileCount" "I" ∈ wsC := List.mem_append_left _ (List.mem_of_getElem? (i := 26) rfl)
theorem mC_27 : Cond.lays "PileLifts$Yard" "PileLifts$Yard" "levelCount" "I" ∈ wsC := List.mem_append_left _ (List.mem_of_getElem? (i := 27) rfl)
theorem mC_28 : Cond.lays "PileLifts$Yard" "PileLifts$Yard" "pieceCount" "I" ∈ wsC := List.mem_append_left _ (List.mem_of_getElem? (i := 28) rfl)
theorem mC_29 : Cond.laysFinal "PileLifts$Yard" "PileLifts$Yard" "heights" "[I" ∈ wsC := List.mem_append_left _ (List.mem_of_getElem? (i := 29) rfl)
theorem mC_30 : Cond.laysFinal "PileLifts$Yard" "PileLifts$Yard" "lying" "[I" ∈ wsC := List.mem_append_left _ (List.mem_of_getElem? (i := 30) rfl)
theorem mC_31 : Cond.laysFinal "PileLifts$Yard" "PileLifts$Yard" "kilos" "[I" ∈ wsC := List.mem_append_left _ (List.mem_of_getElem? (i := 31) rfl)
theorem mC_32 : Cond.laysFinal "PileLifts$Yard" "PileLifts$Yard" "lengths" "[I" ∈ wsC := List.mem_append_left _ (List.mem_of_getElem? (i := 32) rfl)
theorem mC_33 : Cond.laysFinal "PileLifts$Yard" "PileLifts$Yard" "times" "[I" ∈ wsC := List.mem_append_left _ (List.mem_of_getElem? (i := 33) rfl)
theorem mC_34 : Cond.laysFinal "PileLifts$Yard" "PileLifts$Yard" "pileOf" "[I" ∈ wsC := List.mem_append_left _ (List.mem_of_getElem? (i := 34) rfl)
theorem mC_35 : Cond.laysFinal "PileLifts$Yard" "PileLifts$Yard" "levelOf" "[I" ∈ wsC := List.mem_append_left _ (List.mem_of_getElem? (i := 35) rfl)
theorem mC_36 : Cond.classLink "PileLifts" 16 "PileLifts$Search" ∈ wsC := List.mem_append_left _ (List.mem_of_getElem? (i := 36) rfl)
theorem mC_37 : Cond.instantiable "PileLifts$Search" 10 ∈ wsC := List.mem_append_left _ (List.mem_of_getElem? (i := 37) rfl)
theorem mC_38 : Cond.instanceMethod y_S_init ∈ wsC := List.mem_append_left _ (List.mem_of_getElem? (i := 38) rfl)
theorem mC_39 : Cond.code y_S_init prog_2_method_1_code 1 none ∈ wsC := List.mem_append_left _ (List.mem_of_getElem? (i := 39) rfl)
theorem mC_40 : Cond.methodLink "PileLifts$Search" 3 ⟨"java/lang/Object", "<init>", "()V"⟩ ∈ wsC := List.mem_append_right _ (List.mem_append_left _ (List.mem_of_getElem? (i := 0) rfl))
theorem mC_41 : Cond.fieldLink "PileLifts$Search" 21 "PileLifts$Search" "isDone" "Z" ∈ wsC := List.mem_append_right _ (List.mem_append_left _ (List.mem_of_getElem? (i := 1) rfl))
theorem mC_42 : Cond.fieldLink "PileLifts$Search" 25 "PileLifts$Search" "isProved" "Z" ∈ wsC := List.mem_append_right _ (List.mem_append_left _ (List.mem_of_getElem? (i := 2) rfl))
theorem mC_43 : Cond.fieldLink "PileLifts$Search" 28 "PileLifts$Search" "hasPlan" "Z" ∈ wsC := List.mem_append_right _ (List.mem_append_left _ (List.mem_of_getElem? (i := 3) rfl))
theorem mC_44 : Cond.fieldLink "PileLifts$Search" 41 "PileLifts$Search" "isCutShort" "Z" ∈ wsC := List.mem_append_right _ (List.mem_append_left _ (List.mem_of_getElem? (i := 4) rfl))
theorem mC_45 : Cond.fieldLink "PileLifts$Search" 38 "PileLifts$Search" "nodesLeft" "I" ∈ wsC := List.mem_append_right _ (List.mem_append_left _ (List.mem_of_getElem? (i := 5) rfl))
theorem mC_46 : Cond.fieldLink "PileLifts$Search" 50 "PileLifts$Search" "limit" "I" ∈ wsC := List.mem_append_right _ (List.mem_append_left _ (List.mem_of_getElem? (i := 6) rfl))
theorem mC_47 : Cond.fieldLink "PileLifts$Search" 31 "PileLifts$Search" "moveCount" "I" ∈ wsC := List.mem_append_right _ (List.mem_append_left _ (List.mem_of_getElem? (i := 7) rfl))
theorem mC_48 : Cond.fieldLink "PileLifts$Search" 11 "PileLifts$Search" "movedPiece" "[I" ∈ wsC := List.mem_append_right _ (List.mem_append_left _ (List.mem_of_getElem? (i := 8) rfl))
theorem mC_49 : Cond.fieldLink "PileLifts$Search" 15 "PileLifts$Search" "movedFrom" "[I" ∈ wsC := List.mem_append_right _ (List.mem_append_left _ (List.mem_of_getElem? (i := 9) rfl))
theorem mC_50 : Cond.fieldLink "PileLifts$Search" 18 "PileLifts$Search" "movedTo" "[I" ∈ wsC := List.mem_append_right _ (List.mem_append_left _ (List.mem_of_getElem? (i := 10) rfl))
theorem mC_51 : Cond.lays "PileLifts$Search" "PileLifts$Search" "isDone" "Z" ∈ wsC := List.mem_append_right _ (List.mem_append_left _ (List.mem_of_getElem? (i := 11) rfl))
theorem mC_52 : Cond.lays "PileLifts$Search" "PileLifts$Search" "isProved" "Z" ∈ wsC := List.mem_append_right _ (List.mem_append_left _ (List.mem_of_getElem? (i := 12) rfl))
theorem mC_53 : Cond.lays "PileLifts$Search" "PileLifts$Search" "hasPlan" "Z" ∈ wsC := List.mem_append_right _ (List.mem_append_left _ (List.mem_of_getElem? (i := 13) rfl))
theorem mC_54 : Cond.lays "PileLifts$Search" "PileLifts$Search" "isCutShort" "Z" ∈ wsC := List.mem_append_right _ (List.mem_append_left _ (List.mem_of_getElem? (i := 14) rfl))
theorem mC_55 : Cond.lays "PileLifts$Search" "PileLifts$Search" "nodesLeft" "I" ∈ wsC := List.mem_append_right _ (List.mem_append_left _ (List.mem_of_getElem? (i := 15) rfl))
theorem mC_56 : Cond.lays "PileLifts$Search" "PileLifts$Search" "limit" "I" ∈ wsC := List.mem_append_right _ (List.mem_append_left _ (List.mem_of_getElem? (i := 16) rfl))
theorem mC_57 : Cond.lays "PileLifts$Search" "PileLifts$Search" "moveCount" "I" ∈ wsC := List.mem_append_right _ (List.mem_append_left _ (List.mem_of_getElem? (i := 17) rfl))
theorem mC_58 : Cond.laysFinal "PileLifts$Search" "PileLifts$Search" "movedPiece" "[I" ∈ wsC := List.mem_append_right _ (List.mem_append_left _ (List.mem_of_getElem? (i := 18) rfl))
theorem mC_59 : Cond.laysFinal "PileLifts$Search" "PileLifts$Search" "movedFrom" "[I" ∈ wsC := List.mem_append_right _ (List.mem_append_left _ (List.mem_of_getElem? (i := 19) rfl))
theorem mC_60 : Cond.laysFinal "PileLifts$Search" "PileLifts$Search" "movedTo" "[I" ∈ wsC := List.mem_append_right _ (List.mem_append_left _ (List.mem_of_getElem? (i := 20) rfl))
theorem mC_61 : Cond.classLink "PileLifts" 23 "PileLifts$Wagons" ∈ wsC := List.mem_append_right _ (List.mem_append_left _ (List.mem_of_getElem? (i := 21) rfl))
theorem mC_62 : Cond.instantiable "PileLifts$Wagons" 4 ∈ wsC := List.mem_append_right _ (List.mem_append_left _ (List.mem_of_getElem? (i := 22) rfl))
theorem mC_63 : Cond.instanceMethod y_W_init ∈ wsC := List.mem_append_right _ (List.mem_append_left _ (List.mem_of_getElem? (i := 23) rfl))
theorem mC_64 : Cond.code y_W_init prog_3_method_1_code 1 none ∈ wsC := List.mem_append_right _ (List.mem_append_left _ (List.mem_of_getElem? (i := 24) rfl))
theorem mC_65 : Cond.methodLink "PileLifts$Wagons" 3 ⟨"java/lang/Object", "<init>", "()V"⟩ ∈ wsC := List.mem_append_right _ (List.mem_append_left _ (List.mem_of_getElem? (i := 25) rfl))
theorem mC_66 : Cond.methodLink "PileLifts$Wagons" 21 y_W_clear ∈ wsC := List.mem_append_right _ (List.mem_append_left _ (List.mem_of_getElem? (i := 26) rfl))
theorem mC_67 : Cond.instanceMethod y_W_clear ∈ wsC := List.mem_append_right _ (List.mem_append_left _ (List.mem_of_getElem? (i := 27) rfl))
theorem mC_68 : Cond.code y_W_clear prog_3_method_2_code 2 none ∈ wsC := List.mem_append_right _ (List.mem_append_left _ (List.mem_of_getElem? (i := 28) rfl))
theorem mC_69 : Cond.fieldLink "PileLifts$Wagons" 24 "PileLifts$Wagons" "count" "I" ∈ wsC := List.mem_append_right _ (List.mem_append_left _ (List.mem_of_getElem? (i := 29) rfl))
theorem mC_70 : Cond.fieldLink "PileLifts$Wagons" 9 "PileLifts$Wagons" "axles" "[I" ∈ wsC := List.mem_append_right _ (List.mem_append_left _ (List.mem_of_getElem? (i := 30) rfl))
theorem mC_71 : Cond.fieldLink "PileLifts$Wagons" 15 "PileLifts$Wagons" "loads" "[I" ∈ wsC := List.mem_append_right _ (List.mem_append_left _ (List.mem_of_getElem? (i := 31) rfl))
theorem mC_72 : Cond.fieldLink "PileLifts$Wagons" 18 "PileLifts$Wagons" "wagonOf" "[I" ∈ wsC := List.mem_append_right _ (List.mem_append_left _ (List.mem_of_getElem? (i := 32) rfl))
theorem mC_73 : Cond.lays "PileLifts$Wagons" "PileLifts$Wagons" "count" "I" ∈ wsC := List.mem_append_right _ (List.mem_append_left _ (List.mem_of_getElem? (i := 33) rfl))
theorem mC_74 : Cond.laysFinal "PileLifts$Wagons" "PileLifts$Wagons" "axles" "[I" ∈ wsC := List.mem_append_right _ (List.mem_append_left _ (List.mem_of_getElem? (i := 34) rfl))
theorem mC_75 : Cond.laysFinal "PileLifts$Wagons" "PileLifts$Wagons" "loads" "[I" ∈ wsC := List.mem_append_right _ (List.mem_append_left _ (List.mem_of_getElem? (i := 35) rfl))
theorem mC_76 : Cond.laysFinal "PileLifts$Wagons" "PileLifts$Wagons" "wagonOf" "[I" ∈ wsC := List.mem_append_right _ (List.mem_append_left _ (List.mem_of_getElem? (i := 36) rfl))
theorem mC_77 : Cond.fieldLink "PileLifts" 10 "PileLifts" "yard" "LPileLifts$Yard;" ∈ wsC := List.mem_append_right _ (List.mem_append_left _ (List.mem_of_getElem? (i := 37) rfl))
theorem mC_78 : Cond.fieldLink "PileLifts" 19 "PileLifts" "search" "LPileLifts$Search;" ∈ wsC := List.mem_append_right _ (List.mem_append_left _ (List.mem_of_getElem? (i := 38) rfl))
theorem mC_79 : Cond.fieldLink "PileLifts" 26 "PileLifts" "wagons" "LPileLifts$Wagons;" ∈ wsC := List.mem_append_right _ (List.mem_append_left _ (List.mem_of_getElem? (i := 39) rfl))
theorem mC_80 : Cond.laysFinal "PileLifts" "PileLifts" "yard" "LPileLifts$Yard;" ∈ wsC := List.mem_append_right _ (List.mem_append_right _ (List.mem_append_left _ (List.mem_of_getElem? (i := 0) rfl)))
theorem mC_81 : Cond.laysFinal "PileLifts" "PileLifts" "search" "LPileLifts$Search;" ∈ wsC := List.mem_append_right _ (List.mem_append_right _ (List.mem_append_left _ (List.mem_of_getElem? (i := 1) rfl)))
theorem mC_82 : Cond.laysFinal "PileLifts" "PileLifts" "wagons" "LPileLifts$Wagons;" ∈ wsC := List.mem_append_right _ (List.mem_append_right _ (List.mem_append_left _ (List.mem_of_getElem? (i := 2) rfl)))
theorem mC_83 : Cond.instanceMethod y_P_bound ∈ wsC := List.mem_append_right _ (List.mem_append_right _ (List.mem_append_left _ (List.mem_of_getElem? (i := 3) rfl)))
theorem mC_84 : Cond.selects "PileLifts" y_P_bound y_P_bound ∈ wsC := List.mem_append_right _ (List.mem_append_right _ (List.mem_append_left _ (List.mem_of_getElem? (i := 4) rfl)))
theorem mC_85 : Cond.code y_P_bound prog_1_method_6_code 1 (some .int) ∈ wsC := List.mem_append_right _ (List.mem_append_right _ (List.mem_append_left _ (List.mem_of_getElem? (i := 5) rfl)))
theorem mC_86 : Cond.instanceMethod y_Y_countBlocking ∈ wsC := List.mem_append_right _ (List.mem_append_right _ (List.mem_append_left _ (List.mem_of_getElem? (i := 6) rfl)))
theorem mC_87 : Cond.code y_Y_countBlocking prog_4_method_17_code 3 (some .int) ∈ wsC := List.mem_append_right _ (List.mem_append_right _ (List.mem_append_left _ (List.mem_of_getElem? (i := 7) rfl)))
theorem mC_88 : Cond.methodLink "PileLifts$Yard" 76 y_Y_isBlocking ∈ wsC := List.mem_append_right _ (List.mem_append_right _ (List.mem_append_left _ (List.mem_of_getElem? (i := 8) rfl)))
theorem mC_89 : Cond.instanceMethod y_Y_isBlocking ∈ wsC := List.mem_append_right _ (List.mem_append_right _ (List.mem_append_left _ (List.mem_of_getElem? (i := 9) rfl)))
theorem mC_90 : Cond.code y_Y_isBlocking prog_4_method_16_code 2 (some .boolean) ∈ wsC := List.mem_append_right _ (List.mem_append_right _ (List.mem_append_left _ (List.mem_of_getElem? (i := 10) rfl)))
theorem mC_91 : Cond.methodLink "PileLifts$Yard" 72 y_Y_isGone ∈ wsC := List.mem_append_right _ (List.mem_append_right _ (List.mem_append_left _ (List.mem_of_getElem? (i := 11) rfl)))
theorem mC_92 : Cond.instanceMethod y_Y_isGone ∈ wsC := List.mem_append_right _ (List.mem_append_right _ (List.mem_append_left _ (List.mem_of_getElem? (i := 12) rfl)))
theorem mC_93 : Cond.code y_Y_isGone prog_4_method_5_code 2 (some .boolean) ∈ wsC := List.mem_append_right _ (List.mem_append_right _ (List.mem_append_left _ (List.mem_of_getElem? (i := 13) rfl)))
theorem mC_94 : Cond.methodLink "PileLifts$Yard" 69 y_Y_wouldBlock ∈ wsC := List.mem_append_right _ (List.mem_append_right _ (List.mem_append_left _ (List.mem_of_getElem? (i := 14) rfl)))
theorem mC_95 : Cond.instanceMethod y_Y_wouldBlock ∈ wsC := List.mem_append_right _ (List.mem_append_right _ (List.mem_append_left _ (List.mem_of_getElem? (i := 15) rfl)))
theorem mC_96 : Cond.code y_Y_wouldBlock prog_4_method_14_code 6 (some .boolean) ∈ wsC := List.mem_append_right _ (List.mem_append_right _ (List.mem_append_left _ (List.mem_of_getElem? (i := 16) rfl)))
theorem mC_97 : Cond.methodLink "PileLifts$Yard" 66 y_Y_turnOf ∈ wsC := List.mem_append_right _ (List.mem_append_right _ (List.mem_append_left _ (List.mem_of_getElem? (i := 17) rfl)))
theorem mC_98 : Cond.instanceMethod y_Y_turnOf ∈ wsC := List.mem_append_right _ (List.mem_append_right _ (List.mem_append_left _ (List.mem_of_getElem? (i := 18) rfl)))
theorem mC_99 : Cond.code y_Y_turnOf prog_4_method_13_code 2 (some .int) ∈ wsC := List.mem_append_right _ (List.mem_append_right _ (List.mem_append_left _ (List.mem_of_getElem? (i := 19) rfl)))
theorem mC_100 : Cond.methodLink "PileLifts$Yard" 51 y_Y_pieceAt ∈ wsC := List.mem_append_right _ (List.mem_append_right _ (List.mem_append_left _ (List.mem_of_getElem? (i := 20) rfl)))
theorem mC_101 : Cond.instanceMethod y_Y_pieceAt ∈ wsC := List.mem_append_right _ (List.mem_append_right _ (List.mem_append_left _ (List.mem_of_getElem? (i := 21) rfl)))
theorem mC_102 : Cond.code y_Y_pieceAt prog_4_method_6_code 3 (some .int) ∈ wsC := List.mem_append_right _ (List.mem_append_right _ (List.mem_append_left _ (List.mem_of_getElem? (i := 22) rfl)))
theorem mC_103 : Cond.instanceMethod y_P_piles ∈ wsC := List.mem_append_right _ (List.mem_append_right _ (List.mem_append_left _ (List.mem_of_getElem? (i := 23) rfl)))
theorem mC_104 : Cond.selects "PileLifts" y_P_piles y_P_piles ∈ wsC := List.mem_append_right _ (List.mem_append_right _ (List.mem_append_left _ (List.mem_of_getElem? (i := 24) rfl)))
theorem mC_105 : Cond.code y_P_piles prog_1_method_2_code 3 none ∈ wsC := List.mem_append_right _ (List.mem_append_right _ (List.mem_append_left _ (List.mem_of_getElem? (i := 25) rfl)))
theorem mC_106 : Cond.methodLink "PileLifts" 30 y_P_isWithin ∈ wsC := List.mem_append_right _ (List.mem_append_right _ (List.mem_append_left _ (List.mem_of_getElem? (i := 26) rfl)))
theorem mC_107 : Cond.static y_P_isWithin ∈ wsC := List.mem_append_right _ (List.mem_append_right _ (List.mem_append_left _ (List.mem_of_getElem? (i := 27) rfl)))
theorem mC_108 : Cond.code y_P_isWithin prog_1_method_18_code 3 (some .boolean) ∈ wsC := List.mem_append_right _ (List.mem_append_right _ (List.mem_append_left _ (List.mem_of_getElem? (i := 28) rfl)))
theorem mC_109 : Cond.classLink "PileLifts" 34 "java/lang/IllegalArgumentException" ∈ wsC := List.mem_append_right _ (List.mem_append_right _ (List.mem_append_left _ (List.mem_of_getElem? (i := 29) rfl)))
theorem mC_110 : Cond.methodLink "PileLifts" 38 ⟨"java/lang/IllegalArgumentException", "<init>", "(Ljava/lang/String;)V"⟩ ∈ wsC := List.mem_append_right _ (List.mem_append_right _ (List.mem_append_left _ (List.mem_of_getElem? (i := 30) rfl)))
theorem mC_111 : Cond.instanceMethod y_S_forget ∈ wsC := List.mem_append_right _ (List.mem_append_right _ (List.mem_append_left _ (List.mem_of_getElem? (i := 31) rfl)))
theorem mC_112 : Cond.code y_S_forget prog_2_method_2_code 1 none ∈ wsC := List.mem_append_right _ (List.mem_append_right _ (List.mem_append_left _ (List.mem_of_getElem? (i := 32) rfl)))
theorem mC_113 : Cond.instanceMethod y_P_put ∈ wsC := List.mem_append_right _ (List.mem_append_right _ (List.mem_append_left _ (List.mem_of_getElem? (i := 33) rfl)))
theorem mC_114 : Cond.selects "PileLifts" y_P_put y_P_put ∈ wsC := List.mem_append_right _ (List.mem_append_right _ (List.mem_append_left _ (List.mem_of_getElem? (i := 34) rfl)))
theorem mC_115 : Cond.code y_P_put prog_1_method_3_code 4 (some .int) ∈ wsC := List.mem_append_right _ (List.mem_append_right _ (List.mem_append_left _ (List.mem_of_getElem? (i := 35) rfl)))
theorem mC_116 : Cond.instanceMethod y_Y_hasPile ∈ wsC := List.mem_append_right _ (List.mem_append_right _ (List.mem_append_left _ (List.mem_of_getElem? (i := 36) rfl)))
theorem mC_117 : Cond.code y_Y_hasPile prog_4_method_3_code 2 (some .boolean) ∈ wsC := List.mem_append_right _ (List.mem_append_right _ (List.mem_append_left _ (List.mem_of_getElem? (i := 37) rfl)))
theorem mC_118 : Cond.classLink "PileLifts" 54 "java/lang/IndexOutOfBoundsException" ∈ wsC := List.mem_append_right _ (List.mem_append_right _ (List.mem_append_left _ (List.mem_of_getElem? (i := 38) rfl)))
theorem mC_119 : Cond.methodLink "PileLifts" 58 ⟨"java/lang/IndexOutOfBoundsException", "<init>", "(Ljava/lang/String;)V"⟩ ∈ wsC := List.mem_append_right _ (List.mem_append_right _ (List.mem_append_left _ (List.mem_of_getElem? (i := 39) rfl)))
theorem mC_120 : Cond.instanceMethod y_Y_takes ∈ wsC := List.mem_append_right _ (List.mem_append_right _ (List.mem_append_right _ (List.mem_append_left _ (List.mem_of_getElem? (i := 0) rfl))))
theorem mC_121 : Cond.code y_Y_takes prog_4_method_8_code 4 (some .boolean) ∈ wsC := List.mem_append_right _ (List.mem_append_right _ (List.mem_append_right _ (List.mem_append_left _ (List.mem_of_getElem? (i := 1) rfl))))
theorem mC_122 : Cond.methodLink "PileLifts$Yard" 55 y_Y_topOf ∈ wsC := List.mem_append_right _ (List.mem_append_right _ (List.mem_append_right _ (List.mem_append_left _ (List.mem_of_getElem? (i := 2) rfl))))
theorem mC_123 : Cond.instanceMethod y_Y_topOf ∈ wsC := List.mem_append_right _ (List.mem_append_right _ (List.mem_append_right _ (List.mem_append_left _ (List.mem_of_getElem? (i := 3) rfl))))
theorem mC_124 : Cond.code y_Y_topOf prog_4_method_7_code 2 (some .int) ∈ wsC := List.mem_append_right _ (List.mem_append_right _ (List.mem_append_right _ (List.mem_append_left _ (List.mem_of_getElem? (i := 4) rfl))))
theorem mC_125 : Cond.classLink "PileLifts" 69 "java/lang/UnsupportedOperationException" ∈ wsC := List.mem_append_right _ (List.mem_append_right _ (List.mem_append_right _ (List.mem_append_left _ (List.mem_of_getElem? (i := 5) rfl))))
theorem mC_126 : Cond.methodLink "PileLifts" 73 ⟨"java/lang/UnsupportedOperationException", "<init>", "(Ljava/lang/String;)V"⟩ ∈ wsC := List.mem_append_right _ (List.mem_append_right _ (List.mem_append_right _ (List.mem_append_left _ (List.mem_of_getElem? (i := 6) rfl))))
theorem mC_127 : Cond.instanceMethod y_Y_add ∈ wsC := List.mem_append_right _ (List.mem_append_right _ (List.mem_append_right _ (List.mem_append_left _ (List.mem_of_getElem? (i := 7) rfl))))
theorem mC_128 : Cond.code y_Y_add prog_4_method_9_code 5 (some .int) ∈ wsC := List.mem_append_right _ (List.mem_append_right _ (List.mem_append_right _ (List.mem_append_left _ (List.mem_of_getElem? (i := 8) rfl))))
theorem mC_129 : Cond.methodLink "PileLifts$Yard" 59 y_Y_layOn ∈ wsC := List.mem_append_right _ (List.mem_append_right _ (List.mem_append_right _ (List.mem_append_left _ (List.mem_of_getElem? (i := 9) rfl))))
theorem mC_130 : Cond.instanceMethod y_Y_layOn ∈ wsC := List.mem_append_right _ (List.mem_append_right _ (List.mem_append_right _ (List.mem_append_left _ (List.mem_of_getElem? (i := 10) rfl))))
theorem mC_131 : Cond.code y_Y_layOn prog_4_method_10_code 4 none ∈ wsC := List.mem_append_right _ (List.mem_append_right _ (List.mem_append_right _ (List.mem_append_left _ (List.mem_of_getElem? (i := 11) rfl))))
theorem mC_132 : Cond.instanceMethod y_P_want ∈ wsC := List.mem_append_right _ (List.mem_append_right _ (List.mem_append_right _ (List.mem_append_left _ (List.mem_of_getElem? (i := 12) rfl))))
theorem mC_133 : Cond.selects "PileLifts" y_P_want y_P_want ∈ wsC := List.mem_append_right _ (List.mem_append_right _ (List.mem_append_right _ (List.mem_append_left _ (List.mem_of_getElem? (i := 13) rfl))))
theorem mC_134 : Cond.code y_P_want prog_1_method_4_code 3 none ∈ wsC := List.mem_append_right _ (List.mem_append_right _ (List.mem_append_right _ (List.mem_append_left _ (List.mem_of_getElem? (i := 14) rfl))))
theorem mC_135 : Cond.methodLink "PileLifts" 78 y_P_checkPiece ∈ wsC := List.mem_append_right _ (List.mem_append_right _ (List.mem_append_right _ (List.mem_append_left _ (List.mem_of_getElem? (i := 15) rfl))))
theorem mC_136 : Cond.instanceMethod y_P_checkPiece ∈ wsC := List.mem_append_right _ (List.mem_append_right _ (List.mem_append_right _ (List.mem_append_left _ (List.mem_of_getElem? (i := 16) rfl))))
theorem mC_137 : Cond.code y_P_checkPiece prog_1_method_16_code 2 none ∈ wsC := List.mem_append_right _ (List.mem_append_right _ (List.mem_append_right _ (List.mem_append_left _ (List.mem_of_getElem? (i := 17) rfl))))
theorem mC_138 : Cond.instanceMethod y_Y_hasPiece ∈ wsC := List.mem_append_right _ (List.mem_append_right _ (List.mem_append_right _ (List.mem_append_left _ (List.mem_of_getElem? (i := 18) rfl))))
theorem mC_139 : Cond.code y_Y_hasPiece prog_4_method_4_code 2 (some .boolean) ∈ wsC := List.mem_append_right _ (List.mem_append_right _ (List.mem_append_right _ (List.mem_append_left _ (List.mem_of_getElem? (i := 19) rfl))))
theorem mC_140 : Cond.classLink "PileLifts" 85 "java/lang/IllegalStateException" ∈ wsC := List.mem_append_right _ (List.mem_append_right _ (List.mem_append_right _ (List.mem_append_left _ (List.mem_of_getElem? (i := 20) rfl))))
theorem mC_141 : Cond.methodLink "PileLifts" 89 ⟨"java/lang/IllegalStateException", "<init>", "(Ljava/lang/String;)V"⟩ ∈ wsC := List.mem_append_right _ (List.mem_append_right _ (List.mem_append_right _ (List.mem_append_left _ (List.mem_of_getElem? (i := 21) rfl))))
theorem mC_142 : Cond.instanceMethod y_P_may ∈ wsC := List.mem_append_right _ (List.mem_append_right _ (List.mem_append_right _ (List.mem_append_left _ (List.mem_of_getElem? (i := 22) rfl))))
theorem mC_143 : Cond.selects "PileLifts" y_P_may y_P_may ∈ wsC := List.mem_append_right _ (List.mem_append_right _ (List.mem_append_right _ (List.mem_append_left _ (List.mem_of_getElem? (i := 23) rfl))))
theorem mC_144 : Cond.code y_P_may prog_1_method_5_code 3 (some .boolean) ∈ wsC := List.mem_append_right _ (List.mem_append_right _ (List.mem_append_right _ (List.mem_append_left _ (List.mem_of_getElem? (i := 24) rfl))))
theorem mC_145 : Cond.instanceMethod y_P_run ∈ wsC := List.mem_append_right _ (List.mem_append_right _ (List.mem_append_right _ (List.mem_append_left _ (List.mem_of_getElem? (i := 25) rfl))))
theorem mC_146 : Cond.selects "PileLifts" y_P_run y_P_run ∈ wsC := List.mem_append_right _ (List.mem_append_right _ (List.mem_append_right _ (List.mem_append_left _ (List.mem_of_getElem? (i := 26) rfl))))
theorem mC_147 : Cond.code y_P_run prog_1_method_7_code 2 (some .int) ∈ wsC := List.mem_append_right _ (List.mem_append_right _ (List.mem_append_right _ (List.mem_append_left _ (List.mem_of_getElem? (i := 27) rfl))))
theorem mC_148 : Cond.constant "PileLifts" 103 (100000 : Int32) ∈ wsC := List.mem_append_right _ (List.mem_append_right _ (List.mem_append_right _ (List.mem_append_left _ (List.mem_of_getElem? (i := 28) rfl))))
theorem mC_149 : Cond.instanceMethod y_S_findBest ∈ wsC := List.mem_append_right _ (List.mem_append_right _ (List.mem_append_right _ (List.mem_append_left _ (List.mem_of_getElem? (i := 29) rfl))))
theorem mC_150 : Cond.code y_S_findBest prog_2_method_3_code 5 (some .int) ∈ wsC := List.mem_append_right _ (List.mem_append_right _ (List.mem_append_right _ (List.mem_append_left _ (List.mem_of_getElem? (i := 30) rfl))))
theorem mC_151 : Cond.methodLink "PileLifts$Search" 35 y_S_forget ∈ wsC := List.mem_append_right _ (List.mem_append_right _ (List.mem_append_right _ (List.mem_append_left _ (List.mem_of_getElem? (i := 31) rfl))))
theorem mC_152 : Cond.methodLink "PileLifts$Search" 53 y_S_goOn ∈ wsC := List.mem_append_right _ (List.mem_append_right _ (List.mem_append_right _ (List.mem_append_left _ (List.mem_of_getElem? (i := 32) rfl))))
theorem mC_153 : Cond.instanceMethod y_S_goOn ∈ wsC := List.mem_append_right _ (List.mem_append_right _ (List.mem_append_right _ (List.mem_append_left _ (List.mem_of_getElem? (i := 33) rfl))))
theorem mC_154 : Cond.code y_S_goOn prog_2_method_4_code 5 (some .boolean) ∈ wsC := List.mem_append_right _ (List.mem_append_right _ (List.mem_append_right _ (List.mem_append_left _ (List.mem_of_getElem? (i := 34) rfl))))
theorem mC_155 : Cond.methodLink "PileLifts$Search" 64 y_S_letLeave ∈ wsC := List.mem_append_right _ (List.mem_append_right _ (List.mem_append_right _ (List.mem_append_left _ (List.mem_of_getElem? (i := 35) rfl))))
theorem mC_156 : Cond.instanceMethod y_S_letLeave ∈ wsC := List.mem_append_right _ (List.mem_append_right _ (List.mem_append_right _ (List.mem_append_left _ (List.mem_of_getElem? (i := 36) rfl))))
theorem mC_157 : Cond.code y_S_letLeave prog_2_method_7_code 4 none ∈ wsC := List.mem_append_right _ (List.mem_append_right _ (List.mem_append_right _ (List.mem_append_left _ (List.mem_of_getElem? (i := 37) rfl))))
theorem mC_158 : Cond.instanceMethod y_Y_nextWanted ∈ wsC := List.mem_append_right _ (List.mem_append_right _ (List.mem_append_right _ (List.mem_append_left _ (List.mem_of_getElem? (i := 38) rfl))))
theorem mC_159 : Cond.code y_Y_nextWanted prog_4_method_19_code 4 (some .int) ∈ wsC := List.mem_append_right _ (List.mem_append_right _ (List.mem_append_right _ (List.mem_append_left _ (List.mem_of_getElem? (i := 39) rfl))))
theorem mC_160 : Cond.instanceMethod y_Y_isTop ∈ wsC := List.mem_append_right _ (List.mem_append_right _ (List.mem_append_right _ (List.mem_append_right _ (List.mem_append_left _ (List.mem_of_getElem? (i := 0) rfl)))))
theorem mC_161 : Cond.code y_Y_isTop prog_4_method_20_code 2 (some .boolean) ∈ wsC := List.mem_append_right _ (List.mem_append_right _ (List.mem_append_right _ (List.mem_append_right _ (List.mem_append_left _ (List.mem_of_getElem? (i := 1) rfl)))))
theorem mC_162 : Cond.methodLink "PileLifts$Search" 103 y_S_note ∈ wsC := List.mem_append_right _ (List.mem_append_right _ (List.mem_append_right _ (List.mem_append_right _ (List.mem_append_left _ (List.mem_of_getElem? (i := 2) rfl)))))
theorem mC_163 : Cond.instanceMethod y_S_note ∈ wsC := List.mem_append_right _ (List.mem_append_right _ (List.mem_append_right _ (List.mem_append_right _ (List.mem_append_left _ (List.mem_of_getElem? (i := 3) rfl)))))
theorem mC_164 : Cond.code y_S_note prog_2_method_8_code 4 none ∈ wsC := List.mem_append_right _ (List.mem_append_right _ (List.mem_append_right _ (List.mem_append_right _ (List.mem_append_left _ (List.mem_of_getElem? (i := 4) rfl)))))
theorem mC_165 : Cond.instanceMethod y_Y_takeOff ∈ wsC := List.mem_append_right _ (List.mem_append_right _ (List.mem_append_right _ (List.mem_append_right _ (List.mem_append_left _ (List.mem_of_getElem? (i := 5) rfl)))))
theorem mC_166 : Cond.code y_Y_takeOff prog_4_method_11_code 3 none ∈ wsC := List.mem_append_right _ (List.mem_append_right _ (List.mem_append_right _ (List.mem_append_right _ (List.mem_append_left _ (List.mem_of_getElem? (i := 6) rfl)))))
theorem mC_167 : Cond.methodLink "PileLifts$Search" 74 y_S_tryFrom ∈ wsC := List.mem_append_right _ (List.mem_append_right _ (List.mem_append_right _ (List.mem_append_right _ (List.mem_append_left _ (List.mem_of_getElem? (i := 7) rfl)))))
theorem mC_168 : Cond.instanceMethod y_S_tryFrom ∈ wsC := List.mem_append_right _ (List.mem_append_right _ (List.mem_append_right _ (List.mem_append_right _ (List.mem_append_left _ (List.mem_of_getElem? (i := 8) rfl)))))
theorem mC_169 : Cond.code y_S_tryFrom prog_2_method_5_code 9 (some .boolean) ∈ wsC := List.mem_append_right _ (List.mem_append_right _ (List.mem_append_right _ (List.mem_append_right _ (List.mem_append_left _ (List.mem_of_getElem? (i := 9) rfl)))))
theorem mC_170 : Cond.instanceMethod y_Y_wouldBlockOn ∈ wsC := List.mem_append_right _ (List.mem_append_right _ (List.mem_append_right _ (List.mem_append_right _ (List.mem_append_left _ (List.mem_of_getElem? (i := 10) rfl)))))
theorem mC_171 : Cond.code y_Y_wouldBlockOn prog_4_method_15_code 3 (some .boolean) ∈ wsC := List.mem_append_right _ (List.mem_append_right _ (List.mem_append_right _ (List.mem_append_right _ (List.mem_append_left _ (List.mem_of_getElem? (i := 11) rfl)))))
theorem mC_172 : Cond.methodLink "PileLifts$Search" 96 y_S_tryOne ∈ wsC := List.mem_append_right _ (List.mem_append_right _ (List.mem_append_right _ (List.mem_append_right _ (List.mem_append_left _ (List.mem_of_getElem? (i := 12) rfl)))))
theorem mC_173 : Cond.instanceMethod y_S_tryOne ∈ wsC := List.mem_append_right _ (List.mem_append_right _ (List.mem_append_right _ (List.mem_append_right _ (List.mem_append_left _ (List.mem_of_getElem? (i := 13) rfl)))))
theorem mC_174 : Cond.code y_S_tryOne prog_2_method_6_code 7 (some .boolean) ∈ wsC := List.mem_append_right _ (List.mem_append_right _ (List.mem_append_right _ (List.mem_append_right _ (List.mem_append_left _ (List.mem_of_getElem? (i := 14) rfl)))))
theorem mC_175 : Cond.instanceMethod y_Y_relift ∈ wsC := List.mem_append_right _ (List.mem_append_right _ (List.mem_append_right _ (List.mem_append_right _ (List.mem_append_left _ (List.mem_of_getElem? (i := 15) rfl)))))
theorem mC_176 : Cond.code y_Y_relift prog_4_method_12_code 3 none ∈ wsC := List.mem_append_right _ (List.mem_append_right _ (List.mem_append_right _ (List.mem_append_right _ (List.mem_append_left _ (List.mem_of_getElem? (i := 16) rfl)))))
theorem mC_177 : Cond.methodLink "PileLifts$Yard" 62 y_Y_takeOff ∈ wsC := List.mem_append_right _ (List.mem_append_right _ (List.mem_append_right _ (List.mem_append_right _ (List.mem_append_left _ (List.mem_of_getElem? (i := 17) rfl)))))
theorem mC_178 : Cond.methodLink "PileLifts$Search" 57 y_S_takeBack ∈ wsC := List.mem_append_right _ (List.mem_append_right _ (List.mem_append_right _ (List.mem_append_right _ (List.mem_append_left _ (List.mem_of_getElem? (i := 18) rfl)))))
theorem mC_179 : Cond.instanceMethod y_S_takeBack ∈ wsC := List.mem_append_right _ (List.mem_append_right _ (List.mem_append_right _ (List.mem_append_right _ (List.mem_append_left _ (List.mem_of_getElem? (i := 19) rfl)))))
theorem mC_180 : Cond.code y_S_takeBack prog_2_method_9_code 3 none ∈ wsC := List.mem_append_right _ (List.mem_append_right _ (List.mem_append_right _ (List.mem_append_right _ (List.mem_append_left _ (List.mem_of_getElem? (i := 20) rfl)))))
theorem mC_181 : Cond.methodLink "PileLifts$Search" 61 y_S_countRelifts ∈ wsC := List.mem_append_right _ (List.mem_append_right _ (List.mem_append_right _ (List.mem_append_right _ (List.mem_append_left _ (List.mem_of_getElem? (i := 21) rfl)))))
theorem mC_182 : Cond.instanceMethod y_S_countRelifts ∈ wsC := List.mem_append_right _ (List.mem_append_right _ (List.mem_append_right _ (List.mem_append_right _ (List.mem_append_left _ (List.mem_of_getElem? (i := 22) rfl)))))
theorem mC_183 : Cond.code y_S_countRelifts prog_2_method_11_code 3 (some .int) ∈ wsC := List.mem_append_right _ (List.mem_append_right _ (List.mem_append_right _ (List.mem_append_right _ (List.mem_append_left _ (List.mem_of_getElem? (i := 23) rfl)))))
theorem mC_184 : Cond.instanceMethod y_P_proved ∈ wsC := List.mem_append_right _ (List.mem_append_right _ (List.mem_append_right _ (List.mem_append_right _ (List.mem_append_left _ (List.mem_of_getElem? (i := 24) rfl)))))
theorem mC_185 : Cond.selects "PileLifts" y_P_proved y_P_proved ∈ wsC := List.mem_append_right _ (List.mem_append_right _ (List.mem_append_right _ (List.mem_append_right _ (List.mem_append_left _ (List.mem_of_getElem? (i := 25) rfl)))))
theorem mC_186 : Cond.code y_P_proved prog_1_method_8_code 1 (some .boolean) ∈ wsC := List.mem_append_right _ (List.mem_append_right _ (List.mem_append_right _ (List.mem_append_right _ (List.mem_append_left _ (List.mem_of_getElem? (i := 26) rfl)))))
theorem mC_187 : Cond.instanceMethod y_P_moves ∈ wsC := List.mem_append_right _ (List.mem_append_right _ (List.mem_append_right _ (List.mem_append_right _ (List.mem_append_left _ (List.mem_of_getElem? (i := 27) rfl)))))
theorem mC_188 : Cond.selects "PileLifts" y_P_moves y_P_moves ∈ wsC := List.mem_append_right _ (List.mem_append_right _ (List.mem_append_right _ (List.mem_append_right _ (List.mem_append_left _ (List.mem_of_getElem? (i := 28) rfl)))))
theorem mC_189 : Cond.code y_P_moves prog_1_method_9_code 1 (some .int) ∈ wsC := List.mem_append_right _ (List.mem_append_right _ (List.mem_append_right _ (List.mem_append_right _ (List.mem_append_left _ (List.mem_of_getElem? (i := 29) rfl)))))
theorem mC_190 : Cond.methodLink "PileLifts" 119 y_P_checkPlan ∈ wsC := List.mem_append_right _ (List.mem_append_right _ (List.mem_append_right _ (List.mem_append_right _ (List.mem_append_left _ (List.mem_of_getElem? (i := 30) rfl)))))
theorem mC_191 : Cond.instanceMethod y_P_checkPlan ∈ wsC := List.mem_append_right _ (List.mem_append_right _ (List.mem_append_right _ (List.mem_append_right _ (List.mem_append_left _ (List.mem_of_getElem? (i := 31) rfl)))))
theorem mC_192 : Cond.code y_P_checkPlan prog_1_method_17_code 1 none ∈ wsC := List.mem_append_right _ (List.mem_append_right _ (List.mem_append_right _ (List.mem_append_right _ (List.mem_append_left _ (List.mem_of_getElem? (i := 32) rfl)))))
theorem mC_193 : Cond.instanceMethod y_P_move ∈ wsC := List.mem_append_right _ (List.mem_append_right _ (List.mem_append_right _ (List.mem_append_right _ (List.mem_append_left _ (List.mem_of_getElem? (i := 33) rfl)))))
theorem mC_194 : Cond.selects "PileLifts" y_P_move y_P_move ∈ wsC := List.mem_append_right _ (List.mem_append_right _ (List.mem_append_right _ (List.mem_append_right _ (List.mem_append_left _ (List.mem_of_getElem? (i := 34) rfl)))))
theorem mC_195 : Cond.code y_P_move prog_1_method_10_code 3 (some .int) ∈ wsC := List.mem_append_right _ (List.mem_append_right _ (List.mem_append_right _ (List.mem_append_right _ (List.mem_append_left _ (List.mem_of_getElem? (i := 35) rfl)))))
theorem mC_196 : Cond.instanceMethod y_P_replay ∈ wsC := List.mem_append_right _ (List.mem_append_right _ (List.mem_append_right _ (List.mem_append_right _ (List.mem_append_left _ (List.mem_of_getElem? (i := 36) rfl)))))
theorem mC_197 : Cond.selects "PileLifts" y_P_replay y_P_replay ∈ wsC := List.mem_append_right _ (List.mem_append_right _ (List.mem_append_right _ (List.mem_append_right _ (List.mem_append_left _ (List.mem_of_getElem? (i := 37) rfl)))))
theorem mC_198 : Cond.code y_P_replay prog_1_method_11_code 2 (some .int) ∈ wsC := List.mem_append_right _ (List.mem_append_right _ (List.mem_append_right _ (List.mem_append_right _ (List.mem_append_left _ (List.mem_of_getElem? (i := 38) rfl)))))
theorem mC_199 : Cond.instanceMethod y_S_doMoves ∈ wsC := List.mem_append_right _ (List.mem_append_right _ (List.mem_append_right _ (List.mem_append_right _ (List.mem_append_left _ (List.mem_of_getElem? (i := 39) rfl)))))
theorem mC_200 : Cond.code y_S_doMoves prog_2_method_10_code 4 none ∈ wsC := List.mem_append_right _ (List.mem_append_right _ (List.mem_append_right _ (List.mem_append_right _ (List.mem_append_right _ (List.mem_append_left _ (List.mem_of_getElem? (i := 0) rfl))))))
theorem mC_201 : Cond.instanceMethod y_Y_countGone ∈ wsC := List.mem_append_right _ (List.mem_append_right _ (List.mem_append_right _ (List.mem_append_right _ (List.mem_append_right _ (List.mem_append_left _ (List.mem_of_getElem? (i := 1) rfl))))))
theorem mC_202 : Cond.code y_Y_countGone prog_4_method_18_code 3 (some .int) ∈ wsC := List.mem_append_right _ (List.mem_append_right _ (List.mem_append_right _ (List.mem_append_right _ (List.mem_append_right _ (List.mem_append_left _ (List.mem_of_getElem? (i := 2) rfl))))))
theorem mC_203 : Cond.instanceMethod y_P_at ∈ wsC := List.mem_append_right _ (List.mem_append_right _ (List.mem_append_right _ (List.mem_append_right _ (List.mem_append_right _ (List.mem_append_left _ (List.mem_of_getElem? (i := 3) rfl))))))
theorem mC_204 : Cond.selects "PileLifts" y_P_at y_P_at ∈ wsC := List.mem_append_right _ (List.mem_append_right _ (List.mem_append_right _ (List.mem_append_right _ (List.mem_append_right _ (List.mem_append_left _ (List.mem_of_getElem? (i := 4) rfl))))))
theorem mC_205 : Cond.code y_P_at prog_1_method_12_code 3 (some .int) ∈ wsC := List.mem_append_right _ (List.mem_append_right _ (List.mem_append_right _ (List.mem_append_right _ (List.mem_append_right _ (List.mem_append_left _ (List.mem_of_getElem? (i := 5) rfl))))))
theorem mC_206 : Cond.instanceMethod y_P_tidy ∈ wsC := List.mem_append_right _ (List.mem_append_right _ (List.mem_append_right _ (List.mem_append_right _ (List.mem_append_right _ (List.mem_append_left _ (List.mem_of_getElem? (i := 6) rfl))))))
theorem mC_207 : Cond.selects "PileLifts" y_P_tidy y_P_tidy ∈ wsC := List.mem_append_right _ (List.mem_append_right _ (List.mem_append_right _ (List.mem_append_right _ (List.mem_append_right _ (List.mem_append_left _ (List.mem_of_getElem? (i := 7) rfl))))))
theorem mC_208 : Cond.code y_P_tidy prog_1_method_13_code 3 (some .int) ∈ wsC := List.mem_append_right _ (List.mem_append_right _ (List.mem_append_right _ (List.mem_append_right _ (List.mem_append_right _ (List.mem_append_left _ (List.mem_of_getElem? (i := 8) rfl))))))
theorem mC_209 : Cond.instanceMethod y_Y_tidyOnce ∈ wsC := List.mem_append_right _ (List.mem_append_right _ (List.mem_append_right _ (List.mem_append_right _ (List.mem_append_right _ (List.mem_append_left _ (List.mem_of_getElem? (i := 9) rfl))))))
theorem mC_210 : Cond.code y_Y_tidyOnce prog_4_method_21_code 4 (some .boolean) ∈ wsC := List.mem_append_right _ (List.mem_append_right _ (List.mem_append_right _ (List.mem_append_right _ (List.mem_append_right _ (List.mem_append_left _ (List.mem_of_getElem? (i := 10) rfl))))))
theorem mC_211 : Cond.methodLink "PileLifts$Yard" 79 y_Y_tidyPlaceFor ∈ wsC := List.mem_append_right _ (List.mem_append_right _ (List.mem_append_right _ (List.mem_append_right _ (List.mem_append_right _ (List.mem_append_left _ (List.mem_of_getElem? (i := 11) rfl))))))
theorem mC_212 : Cond.instanceMethod y_Y_tidyPlaceFor ∈ wsC := List.mem_append_right _ (List.mem_append_right _ (List.mem_append_right _ (List.mem_append_right _ (List.mem_append_right _ (List.mem_append_left _ (List.mem_of_getElem? (i := 12) rfl))))))
theorem mC_213 : Cond.code y_Y_tidyPlaceFor prog_4_method_22_code 3 (some .int) ∈ wsC := List.mem_append_right _ (List.mem_append_right _ (List.mem_append_right _ (List.mem_append_right _ (List.mem_append_right _ (List.mem_append_left _ (List.mem_of_getElem? (i := 13) rfl))))))
theorem mC_214 : Cond.methodLink "PileLifts$Yard" 85 y_Y_takes ∈ wsC := List.mem_append_right _ (List.mem_append_right _ (List.mem_append_right _ (List.mem_append_right _ (List.mem_append_right _ (List.mem_append_left _ (List.mem_of_getElem? (i := 14) rfl))))))
theorem mC_215 : Cond.methodLink "PileLifts$Yard" 89 y_Y_wouldBlockOn ∈ wsC := List.mem_append_right _ (List.mem_append_right _ (List.mem_append_right _ (List.mem_append_right _ (List.mem_append_right _ (List.mem_append_left _ (List.mem_of_getElem? (i := 15) rfl))))))
theorem mC_216 : Cond.methodLink "PileLifts$Yard" 82 y_Y_relift ∈ wsC := List.mem_append_right _ (List.mem_append_right _ (List.mem_append_right _ (List.mem_append_right _ (List.mem_append_right _ (List.mem_append_left _ (List.mem_of_getElem? (i := 16) rfl))))))
theorem mC_217 : Cond.instanceMethod y_P_wagon ∈ wsC := List.mem_append_right _ (List.mem_append_right _ (List.mem_append_right _ (List.mem_append_right _ (List.mem_append_right _ (List.mem_append_left _ (List.mem_of_getElem? (i := 17) rfl))))))
theorem mC_218 : Cond.selects "PileLifts" y_P_wagon y_P_wagon ∈ wsC := List.mem_append_right _ (List.mem_append_right _ (List.mem_append_right _ (List.mem_append_right _ (List.mem_append_right _ (List.mem_append_left _ (List.mem_of_getElem? (i := 18) rfl))))))
theorem mC_219 : Cond.code y_P_wagon prog_1_method_14_code 2 (some .int) ∈ wsC := List.mem_append_right _ (List.mem_append_right _ (List.mem_append_right _ (List.mem_append_right _ (List.mem_append_right _ (List.mem_append_left _ (List.mem_of_getElem? (i := 19) rfl))))))
theorem mC_220 : Cond.instanceMethod y_W_add ∈ wsC := List.mem_append_right _ (List.mem_append_right _ (List.mem_append_right _ (List.mem_append_right _ (List.mem_append_right _ (List.mem_append_left _ (List.mem_of_getElem? (i := 20) rfl))))))
theorem mC_221 : Cond.code y_W_add prog_3_method_3_code 3 (some .int) ∈ wsC := List.mem_append_right _ (List.mem_append_right _ (List.mem_append_right _ (List.mem_append_right _ (List.mem_append_right _ (List.mem_append_left _ (List.mem_of_getElem? (i := 21) rfl))))))
theorem mC_222 : Cond.instanceMethod y_P_load ∈ wsC := List.mem_append_right _ (List.mem_append_right _ (List.mem_append_right _ (List.mem_append_right _ (List.mem_append_right _ (List.mem_append_left _ (List.mem_of_getElem? (i := 22) rfl))))))
theorem mC_223 : Cond.selects "PileLifts" y_P_load y_P_load ∈ wsC := List.mem_append_right _ (List.mem_append_right _ (List.mem_append_right _ (List.mem_append_right _ (List.mem_append_right _ (List.mem_append_left _ (List.mem_of_getElem? (i := 23) rfl))))))
theorem mC_224 : Cond.code y_P_load prog_1_method_15_code 3 (some .int) ∈ wsC := List.mem_append_right _ (List.mem_append_right _ (List.mem_append_right _ (List.mem_append_right _ (List.mem_append_right _ (List.mem_append_left _ (List.mem_of_getElem? (i := 24) rfl))))))
theorem mC_225 : Cond.instanceMethod y_W_firstWithRoom ∈ wsC := List.mem_append_right _ (List.mem_append_right _ (List.mem_append_right _ (List.mem_append_right _ (List.mem_append_right _ (List.mem_append_left _ (List.mem_of_getElem? (i := 25) rfl))))))
theorem mC_226 : Cond.code y_W_firstWithRoom prog_3_method_4_code 3 (some .int) ∈ wsC := List.mem_append_right _ (List.mem_append_right _ (List.mem_append_right _ (List.mem_append_right _ (List.mem_append_right _ (List.mem_append_left _ (List.mem_of_getElem? (i := 26) rfl))))))
theorem mC_227 : Cond.instanceMethod y_W_fill ∈ wsC := List.mem_append_right _ (List.mem_append_right _ (List.mem_append_right _ (List.mem_append_right _ (List.mem_append_right _ (List.mem_append_left _ (List.mem_of_getElem? (i := 27) rfl))))))
theorem mC_228 : Cond.code y_W_fill prog_3_method_5_code 4 none ∈ wsC := List.mem_append_right _ (List.mem_append_right _ (List.mem_append_right _ (List.mem_append_right _ (List.mem_append_right _ (List.mem_append_left _ (List.mem_of_getElem? (i := 28) rfl))))))
theorem mC_229 : Cond.selects "PileLifts$Yard" y_Y_clear y_Y_clear ∈ wsC := List.mem_append_right _ (List.mem_append_right _ (List.mem_append_right _ (List.mem_append_right _ (List.mem_append_right _ (List.mem_append_left _ (List.mem_of_getElem? (i := 29) rfl))))))
theorem mC_230 : Cond.selects "PileLifts$Wagons" y_W_clear y_W_clear ∈ wsC := List.mem_append_right _ (List.mem_append_right _ (List.mem_append_right _ (List.mem_append_right _ (List.mem_append_right _ (List.mem_append_left _ (List.mem_of_getElem? (i := 30) rfl))))))
theorem mC_231 : Cond.selects "PileLifts$Yard" y_Y_countBlocking y_Y_countBlocking ∈ wsC := List.mem_append_right _ (List.mem_append_right _ (List.mem_append_right _ (List.mem_append_right _ (List.mem_append_right _ (List.mem_append_left _ (List.mem_of_getElem? (i := 31) rfl))))))
theorem mC_232 : Cond.selects "PileLifts$Yard" y_Y_isBlocking y_Y_isBlocking ∈ wsC := List.mem_append_right _ (List.mem_append_right _ (List.mem_append_right _ (List.mem_append_right _ (List.mem_append_right _ (List.mem_append_left _ (List.mem_of_getElem? (i := 32) rfl))))))
theorem mC_233 : Cond.selects "PileLifts$Yard" y_Y_isGone y_Y_isGone ∈ wsC := List.mem_append_right _ (List.mem_append_right _ (List.mem_append_right _ (List.mem_append_right _ (List.mem_append_right _ (List.mem_append_left _ (List.mem_of_getElem? (i := 33) rfl))))))
theorem mC_234 : Cond.selects "PileLifts$Yard" y_Y_wouldBlock y_Y_wouldBlock ∈ wsC := List.mem_append_right _ (List.mem_append_right _ (List.mem_append_right _ (List.mem_append_right _ (List.mem_append_right _ (List.mem_append_left _ (List.mem_of_getElem? (i := 34) rfl))))))
theorem mC_235 : Cond.selects "PileLifts$Yard" y_Y_turnOf y_Y_turnOf ∈ wsC := List.mem_append_right _ (List.mem_append_right _ (List.mem_append_right _ (List.mem_append_right _ (List.mem_append_right _ (List.mem_append_left _ (List.mem_of_getElem? (i := 35) rfl))))))
theorem mC_236 : Cond.selects "PileLifts$Yard" y_Y_pieceAt y_Y_pieceAt ∈ wsC := List.mem_append_right _ (List.mem_append_right _ (List.mem_append_right _ (List.mem_append_right _ (List.mem_append_right _ (List.mem_append_left _ (List.mem_of_getElem? (i := 36) rfl))))))
theorem mC_237 : Cond.selects "PileLifts$Search" y_S_forget y_S_forget ∈ wsC := List.mem_append_right _ (List.mem_append_right _ (List.mem_append_right _ (List.mem_append_right _ (List.mem_append_right _ (List.mem_append_left _ (List.mem_of_getElem? (i := 37) rfl))))))
theorem mC_238 : Cond.selects "PileLifts$Yard" y_Y_hasPile y_Y_hasPile ∈ wsC := List.mem_append_right _ (List.mem_append_right _ (List.mem_append_right _ (List.mem_append_right _ (List.mem_append_right _ (List.mem_append_left _ (List.mem_of_getElem? (i := 38) rfl))))))
theorem mC_239 : Cond.selects "PileLifts$Yard" y_Y_takes y_Y_takes ∈ wsC := List.mem_append_right _ (List.mem_append_right _ (List.mem_append_right _ (List.mem_append_right _ (List.mem_append_right _ (List.mem_append_left _ (List.mem_of_getElem? (i := 39) rfl))))))
theorem mC_240 : Cond.selects "PileLifts$Yard" y_Y_topOf y_Y_topOf ∈ wsC := List.mem_append_right _ (List.mem_append_right _ (List.mem_append_right _ (List.mem_append_right _ (List.mem_append_right _ (List.mem_append_right _ ((List.mem_of_getElem? (i := 0) rfl)))))))
theorem mC_241 : Cond.selects "PileLifts$Yard" y_Y_add y_Y_add ∈ wsC := List.mem_append_right _ (List.mem_append_right _ (List.mem_append_right _ (List.mem_append_right _ (List.mem_append_right _ (List.mem_append_right _ ((List.mem_of_getElem? (i := 1) rfl)))))))
theorem mC_242 : Cond.selects "PileLifts$Yard" y_Y_layOn y_Y_layOn ∈ wsC := List.mem_append_right _ (List.mem_append_right _ (List.mem_append_right _ (List.mem_append_right _ (List.mem_append_right _ (List.mem_append_right _ ((List.mem_of_getElem? (i := 2) rfl)))))))
theorem mC_243 : Cond.selects "PileLifts" y_P_checkPiece y_P_checkPiece ∈ wsC := List.mem_append_right _ (List.mem_append_right _ (List.mem_append_right _ (List.mem_append_right _ (List.mem_append_right _ (List.mem_append_right _ ((List.mem_of_getElem? (i := 3) rfl)))))))
theorem mC_244 : Cond.selects "PileLifts$Yard" y_Y_hasPiece y_Y_hasPiece ∈ wsC := List.mem_append_right _ (List.mem_append_right _ (List.mem_append_right _ (List.mem_append_right _ (List.mem_append_right _ (List.mem_append_right _ ((List.mem_of_getElem? (i := 4) rfl)))))))
theorem mC_245 : Cond.selects "PileLifts$Search" y_S_findBest y_S_findBest ∈ wsC := List.mem_append_right _ (List.mem_append_right _ (List.mem_append_right _ (List.mem_append_right _ (List.mem_append_right _ (List.mem_append_right _ ((List.mem_of_getElem? (i := 5) rfl)))))))
theorem mC_246 : Cond.selects "PileLifts$Search" y_S_goOn y_S_goOn ∈ wsC := List.mem_append_right _ (List.mem_append_right _ (List.mem_append_right _ (List.mem_append_right _ (List.mem_append_right _ (List.mem_append_right _ ((List.mem_of_getElem? (i := 6) rfl)))))))
theorem mC_247 : Cond.selects "PileLifts$Search" y_S_letLeave y_S_letLeave ∈ wsC := List.mem_append_right _ (List.mem_append_right _ (List.mem_append_right _ (List.mem_append_right _ (List.mem_append_right _ (List.mem_append_right _ ((List.mem_of_getElem? (i := 7) rfl)))))))
theorem mC_248 : Cond.selects "PileLifts$Yard" y_Y_nextWanted y_Y_nextWanted ∈ wsC := List.mem_append_right _ (List.mem_append_right _ (List.mem_append_right _ (List.mem_append_right _ (List.mem_append_right _ (List.mem_append_right _ ((List.mem_of_getElem? (i := 8) rfl)))))))
theorem mC_249 : Cond.selects "PileLifts$Yard" y_Y_isTop y_Y_isTop ∈ wsC := List.mem_append_right _ (List.mem_append_right _ (List.mem_append_right _ (List.mem_append_right _ (List.mem_append_right _ (List.mem_append_right _ ((List.mem_of_getElem? (i := 9) rfl)))))))
theorem mC_250 : Cond.selects "PileLifts$Search" y_S_note y_S_note ∈ wsC := List.mem_append_right _ (List.mem_append_right _ (List.mem_append_right _ (List.mem_append_right _ (List.mem_append_right _ (List.mem_append_right _ ((List.mem_of_getElem? (i := 10) rfl)))))))
theorem mC_251 : Cond.selects "PileLifts$Yard" y_Y_takeOff y_Y_takeOff ∈ wsC := List.mem_append_right _ (List.mem_append_right _ (List.mem_append_right _ (List.mem_append_right _ (List.mem_append_right _ (List.mem_append_right _ ((List.mem_of_getElem? (i := 11) rfl)))))))
theorem mC_252 : Cond.selects "PileLifts$Search" y_S_tryFrom y_S_tryFrom ∈ wsC := List.mem_append_right _ (List.mem_append_right _ (List.mem_append_right _ (List.mem_append_right _ (List.mem_append_right _ (List.mem_append_right _ ((List.mem_of_getElem? (i := 12) rfl)))))))
theorem mC_253 : Cond.selects "PileLifts$Yard" y_Y_wouldBlockOn y_Y_wouldBlockOn ∈ wsC := List.mem_append_right _ (List.mem_append_right _ (List.mem_append_right _ (List.mem_append_right _ (List.mem_append_right _ (List.mem_append_right _ ((List.mem_of_getElem? (i := 13) rfl)))))))
theorem mC_254 : Cond.selects "PileLifts$Search" y_S_tryOne y_S_tryOne ∈ wsC := List.mem_append_right _ (List.mem_append_right _ (List.mem_append_right _ (List.mem_append_right _ (List.mem_append_right _ (List.mem_append_right _ ((List.mem_of_getElem? (i := 14) rfl)))))))
theorem mC_255 : Cond.selects "PileLifts$Yard" y_Y_relift y_Y_relift ∈ wsC := List.mem_append_right _ (List.mem_append_right _ (List.mem_append_right _ (List.mem_append_right _ (List.mem_append_right _ (List.mem_append_right _ ((List.mem_of_getElem? (i := 15) rfl)))))))
theorem mC_256 : Cond.selects "PileLifts$Search" y_S_takeBack y_S_takeBack ∈ wsC := List.mem_append_right _ (List.mem_append_right _ (List.mem_append_right _ (List.mem_append_right _ (List.mem_append_right _ (List.mem_append_right _ ((List.mem_of_getElem? (i := 16) rfl)))))))
theorem mC_257 : Cond.selects "PileLifts$Search" y_S_countRelifts y_S_countRelifts ∈ wsC := List.mem_append_right _ (List.mem_append_right _ (List.mem_append_right _ (List.mem_append_right _ (List.mem_append_right _ (List.mem_append_right _ ((List.mem_of_getElem? (i := 17) rfl)))))))
theorem mC_258 : Cond.selects "PileLifts" y_P_checkPlan y_P_checkPlan ∈ wsC := List.mem_append_right _ (List.mem_append_right _ (List.mem_append_right _ (List.mem_append_right _ (List.mem_append_right _ (List.mem_append_right _ ((List.mem_of_getElem? (i := 18) rfl)))))))
theorem mC_259 : Cond.selects "PileLifts$Search" y_S_doMoves y_S_doMoves ∈ wsC := List.mem_append_right _ (List.mem_append_right _ (List.mem_append_right _ (List.mem_append_right _ (List.mem_append_right _ (List.mem_append_right _ ((List.mem_of_getElem? (i := 19) rfl)))))))
theorem mC_260 : Cond.selects "PileLifts$Yard" y_Y_countGone y_Y_countGone ∈ wsC := List.mem_append_right _ (List.mem_append_right _ (List.mem_append_right _ (List.mem_append_right _ (List.mem_append_right _ (List.mem_append_right _ ((List.mem_of_getElem? (i := 20) rfl)))))))
theorem mC_261 : Cond.selects "PileLifts$Yard" y_Y_tidyOnce y_Y_tidyOnce ∈ wsC := List.mem_append_right _ (List.mem_append_right _ (List.mem_append_right _ (List.mem_append_right _ (List.mem_append_right _ (List.mem_append_right _ ((List.mem_of_getElem? (i := 21) rfl)))))))
theorem mC_262 : Cond.selects "PileLifts$Yard" y_Y_tidyPlaceFor y_Y_tidyPlaceFor ∈ wsC := List.mem_append_right _ (List.mem_append_right _ (List.mem_append_right _ (List.mem_append_right _ (List.mem_append_right _ (List.mem_append_right _ ((List.mem_of_getElem? (i := 22) rfl)))))))
theorem mC_263 : Cond.selects "PileLifts$Wagons" y_W_add y_W_add ∈ wsC := List.mem_append_right _ (List.mem_append_right _ (List.mem_append_right _ (List.mem_append_right _ (List.mem_append_right _ (List.mem_append_right _ ((List.mem_of_getElem? (i := 23) rfl)))))))
theorem mC_264 : Cond.selects "PileLifts$Wagons" y_W_firstWithRoom y_W_firstWithRoom ∈ wsC := List.mem_append_right _ (List.mem_append_right _ (List.mem_append_right _ (List.mem_append_right _ (List.mem_append_right _ (List.mem_append_right _ ((List.mem_of_getElem? (i := 24) rfl)))))))
theorem mC_265 : Cond.selects "PileLifts$Wagons" y_W_fill y_W_fill ∈ wsC := List.mem_append_right _ (List.mem_append_right _ (List.mem_append_right _ (List.mem_append_right _ (List.mem_append_right _ (List.mem_append_right _ ((List.mem_of_getElem? (i := 25) rfl)))))))
theorem mC_266 : Cond.instanceMethod objectInit ∈ wsC := List.mem_append_right _ (List.mem_append_right _ (List.mem_append_right _ (List.mem_append_right _ (List.mem_append_right _ (List.mem_append_right _ ((List.mem_of_getElem? (i := 26) rfl)))))))
theorem mC_267 : Cond.code objectInit ⟨#[0xb1]⟩ 1 none ∈ wsC := List.mem_append_right _ (List.mem_append_right _ (List.mem_append_right _ (List.mem_append_right _ (List.mem_append_right _ (List.mem_append_right _ ((List.mem_of_getElem? (i := 27) rfl)))))))
theorem mC_268 : Cond.arrayClass .int ∈ wsC := List.mem_append_right _ (List.mem_append_right _ (List.mem_append_right _ (List.mem_append_right _ (List.mem_append_right _ (List.mem_append_right _ ((List.mem_of_getElem? (i := 28) rfl)))))))
theorem wsC_good : wsC.all goodWord = true := by decide +kernel
theorem wsC_self {w0 : Cond} (h : w0 ∈ wsC) : GoodIn wsC (w0 :: wsC) := fun w hw => by
  have h1 : w ∈ wsC := (List.mem_cons.mp hw).elim (fun e => e ▸ h) id
  exact ⟨h1, good_of_word (List.all_eq_true.mp wsC_good w h1)⟩
theorem i_P : ∀ w ∈ u_ws R_P F_P 3, w ∈ wsC := by
  intro w h
  have h : w ∈ [Cond.laysFinal "PileLifts" "PileLifts" "yard" "LPileLifts$Yard;", Cond.laysFinal "PileLifts" "PileLifts" "search" "LPileLifts$Search;", Cond.laysFinal "PileLifts" "PileLifts" "wagons" "LPileLifts$Wagons;"] := h
  simp only [List.mem_cons, List.not_mem_nil, or_false] at h
  rcases h with rfl | rfl | rfl
  · exact mC_80
  · exact mC_81
  · exact mC_82
theorem i_Y : ∀ w ∈ u_ws R_Y F_Y 10, w ∈ wsC := by
  intro w h
  have h : w ∈ [Cond.lays "PileLifts$Yard" "PileLifts$Yard" "pileCount" "I", Cond.lays "PileLifts$Yard" "PileLifts$Yard" "levelCount" "I", Cond.lays "PileLifts$Yard" "PileLifts$Yard" "pieceCount" "I", Cond.laysFinal "PileLifts$Yard" "PileLifts$Yard" "heights" "[I", Cond.laysFinal "PileLifts$Yard" "PileLifts$Yard" "lying" "[I", Cond.laysFinal "PileLifts$Yard" "PileLifts$Yard" "kilos" "[I", Cond.laysFinal "PileLifts$Yard" "PileLifts$Yard" "lengths" "[I", Cond.laysFinal "PileLifts$Yard" "PileLifts$Yard" "times" "[I", Cond.laysFinal "PileLifts$Yard" "PileLifts$Yard" "pileOf" "[I", Cond.laysFinal "PileLifts$Yard" "PileLifts$Yard" "levelOf" "[I"] := h
  simp only [List.mem_cons, List.not_mem_nil, or_false] at h
  rcases h with rfl | rfl | rfl | rfl | rfl | rfl | rfl | rfl | rfl | rfl
  · exact mC_26
  · exact mC_27
  · exact mC_28
  · exact mC_29
  · exact mC_30
  · exact mC_31
  · exact mC_32
  · exact mC_33
  · exact mC_34
  · exact mC_35
theorem i_S : ∀ w ∈ u_ws R_S F_S 10, w ∈ wsC := by
  intro w h
  have h : w ∈ [Cond.lays "PileLifts$Search" "PileLifts$Search" "isDone" "Z", Cond.lays "PileLifts$Search" "PileLifts$Search" "isProved" "Z", Cond.lays "PileLifts$Search" "PileLifts$Search" "hasPlan" "Z", Cond.lays "PileLifts$Search" "PileLifts$Search" "isCutShort" "Z", Cond.lays "PileLifts$Search" "PileLifts$Search" "nodesLeft" "I", Cond.lays "PileLifts$Search" "PileLifts$Search" "limit" "I", Cond.lays "PileLifts$Search" "PileLifts$Search" "moveCount" "I", Cond.laysFinal "PileLifts$Search" "PileLifts$Search" "movedPiece" "[I", Cond.laysFinal "PileLifts$Search" "PileLifts$Search" "movedFrom" "[I", Cond.laysFinal "PileLifts$Search" "PileLifts$Search" "movedTo" "[I"] := h
  simp only [List.mem_cons, List.not_mem_nil, or_false] at h
  rcases h with rfl | rfl | rfl | rfl | rfl | rfl | rfl | rfl | rfl | rfl
  · exact mC_51
  · exact mC_52
  · exact mC_53
  · exact mC_54
  · exact mC_55
  · exact mC_56
  · exact mC_57
  · exact mC_58
  · exact mC_59
  · exact mC_60
theorem i_W : ∀ w ∈ u_ws R_W F_W 4, w ∈ wsC := by
  intro w h
  have h : w ∈ [Cond.lays "PileLifts$Wagons" "PileLifts$Wagons" "count" "I", Cond.laysFinal "PileLifts$Wagons" "PileLifts$Wagons" "axles" "[I", Cond.laysFinal "PileLifts$Wagons" "PileLifts$Wagons" "loads" "[I", Cond.laysFinal "PileLifts$Wagons" "PileLifts$Wagons" "wagonOf" "[I"] := h
  simp only [List.mem_cons, List.not_mem_nil, or_false] at h
  rcases h with rfl | rfl | rfl | rfl
  · exact mC_73
  · exact mC_74
  · exact mC_75
  · exact mC_76
def wsM_0 : List Cond := [Cond.initialized "PileLiftsModel", Cond.instantiable "PileLiftsModel" 22, Cond.instanceMethod y_M_init, Cond.code y_M_init prog_6_method_1_code 1 none, Cond.methodLink "PileLiftsModel" 1 ⟨"java/lang/Object", "<init>", "()V"⟩, Cond.fieldLink "PileLiftsModel" 56 "PileLiftsModel" "thrown" "I", Cond.fieldLink "PileLiftsModel" 7 "PileLiftsModel" "piles" "I", Cond.fieldLink "PileLiftsModel" 13 "PileLiftsModel" "levels" "I", Cond.fieldLink "PileLiftsModel" 59 "PileLiftsModel" "pieces" "I", Cond.fieldLink "PileLiftsModel" 16 "PileLiftsModel" "kilos" "[I", Cond.fieldLink "PileLiftsModel" 20 "PileLiftsModel" "length" "[I", Cond.fieldLink "PileLiftsModel" 23 "PileLiftsModel" "time" "[I", Cond.fieldLink "PileLiftsModel" 26 "PileLiftsModel" "wagonOf" "[I", Cond.fieldLink "PileLiftsModel" 29 "PileLiftsModel" "lies" "[I", Cond.fieldLink "PileLiftsModel" 32 "PileLiftsModel" "high" "[I", Cond.fieldLink "PileLiftsModel" 35 "PileLiftsModel" "left" "[I", Cond.fieldLink "PileLiftsModel" 38 "PileLiftsModel" "choice" "[I", Cond.fieldLink "PileLiftsModel" 41 "PileLiftsModel" "movePiece" "[I", Cond.fieldLink "PileLiftsModel" 44 "PileLiftsModel" "moveTo" "[I", Cond.fieldLink "PileLiftsModel" 47 "PileLiftsModel" "many" "[I", Cond.fieldLink "PileLiftsModel" 66 "PileLiftsModel" "searched" "Z", Cond.fieldLink "PileLiftsModel" 134 "PileLiftsModel" "proved" "Z", Cond.fieldLink "PileLiftsModel" 70 "PileLiftsModel" "planned" "Z", Cond.fieldLink "PileLiftsModel" 127 "PileLiftsModel" "planMoves" "I", Cond.fieldLink "PileLiftsModel" 77 "PileLiftsModel" "wagons" "I", Cond.fieldLink "PileLiftsModel" 50 "PileLiftsModel" "axle" "[I", Cond.fieldLink "PileLiftsModel" 53 "PileLiftsModel" "loaded" "[I", Cond.lays "PileLiftsModel" "PileLiftsModel" "thrown" "I", Cond.lays "PileLiftsModel" "PileLiftsModel" "piles" "I", Cond.lays "PileLiftsModel" "PileLiftsModel" "levels" "I", Cond.lays "PileLiftsModel" "PileLiftsModel" "pieces" "I", Cond.laysFinal "PileLiftsModel" "PileLiftsModel" "kilos" "[I", Cond.laysFinal "PileLiftsModel" "PileLiftsModel" "length" "[I", Cond.laysFinal "PileLiftsModel" "PileLiftsModel" "time" "[I", Cond.laysFinal "PileLiftsModel" "PileLiftsModel" "wagonOf" "[I", Cond.laysFinal "PileLiftsModel" "PileLiftsModel" "lies" "[I", Cond.laysFinal "PileLiftsModel" "PileLiftsModel" "high" "[I", Cond.laysFinal "PileLiftsModel" "PileLiftsModel" "left" "[I", Cond.laysFinal "PileLiftsModel" "PileLiftsModel" "choice" "[I", Cond.laysFinal "PileLiftsModel" "PileLiftsModel" "movePiece" "[I"]
def wsM_1 : List Cond := [Cond.laysFinal "PileLiftsModel" "PileLiftsModel" "moveTo" "[I", Cond.laysFinal "PileLiftsModel" "PileLiftsModel" "many" "[I", Cond.lays "PileLiftsModel" "PileLiftsModel" "searched" "Z", Cond.lays "PileLiftsModel" "PileLiftsModel" "proved" "Z", Cond.lays "PileLiftsModel" "PileLiftsModel" "planned" "Z", Cond.lays "PileLiftsModel" "PileLiftsModel" "planMoves" "I", Cond.lays "PileLiftsModel" "PileLiftsModel" "wagons" "I", Cond.laysFinal "PileLiftsModel" "PileLiftsModel" "axle" "[I", Cond.laysFinal "PileLiftsModel" "PileLiftsModel" "loaded" "[I", Cond.instanceMethod y_M_thrown, Cond.selects "PileLiftsModel" y_M_thrown y_M_thrown, Cond.code y_M_thrown prog_6_method_2_code 1 (some .int), Cond.instanceMethod y_M_piles, Cond.selects "PileLiftsModel" y_M_piles y_M_piles, Cond.code y_M_piles prog_6_method_8_code 4 none, Cond.methodLink "PileLiftsModel" 62 y_M_in, Cond.static y_M_in, Cond.code y_M_in prog_6_method_3_code 3 (some .boolean), Cond.methodLink "PileLiftsModel" 73 y_M_goes, Cond.instanceMethod y_M_goes, Cond.code y_M_goes prog_6_method_4_code 4 (some .boolean), Cond.methodLink "PileLiftsModel" 80 y_M_changed, Cond.instanceMethod y_M_changed, Cond.code y_M_changed prog_6_method_6_code 1 none, Cond.instanceMethod y_M_put, Cond.selects "PileLiftsModel" y_M_put y_M_put, Cond.code y_M_put prog_6_method_10_code 5 (some .int), Cond.methodLink "PileLiftsModel" 87 y_M_takes, Cond.instanceMethod y_M_takes, Cond.code y_M_takes prog_6_method_9_code 5 (some .boolean), Cond.methodLink "PileLiftsModel" 83 y_M_cell, Cond.static y_M_cell, Cond.code y_M_cell prog_6_method_7_code 3 (some .int), Cond.instanceMethod y_M_want, Cond.selects "PileLiftsModel" y_M_want y_M_want, Cond.code y_M_want prog_6_method_12_code 3 none, Cond.methodLink "PileLiftsModel" 90 y_M_isPiece, Cond.instanceMethod y_M_isPiece, Cond.code y_M_isPiece prog_6_method_5_code 2 (some .boolean), Cond.methodLink "PileLiftsModel" 94 y_M_isGone]
def wsM_2 : List Cond := [Cond.instanceMethod y_M_isGone, Cond.code y_M_isGone prog_6_method_11_code 3 (some .boolean), Cond.instanceMethod y_M_may, Cond.selects "PileLiftsModel" y_M_may y_M_may, Cond.code y_M_may prog_6_method_13_code 3 (some .boolean), Cond.instanceMethod y_M_bound, Cond.selects "PileLiftsModel" y_M_bound y_M_bound, Cond.code y_M_bound prog_6_method_17_code 1 (some .int), Cond.methodLink "PileLiftsModel" 105 y_M_boundAt, Cond.instanceMethod y_M_boundAt, Cond.code y_M_boundAt prog_6_method_16_code 5 (some .int), Cond.methodLink "PileLiftsModel" 101 y_M_blocksOn, Cond.instanceMethod y_M_blocksOn, Cond.code y_M_blocksOn prog_6_method_15_code 6 (some .boolean), Cond.methodLink "PileLiftsModel" 98 y_M_isAhead, Cond.instanceMethod y_M_isAhead, Cond.code y_M_isAhead prog_6_method_14_code 3 (some .boolean), Cond.instanceMethod y_M_run, Cond.selects "PileLiftsModel" y_M_run y_M_run, Cond.code y_M_run prog_6_method_25_code 5 (some .int), Cond.constant "PileLiftsModel" 133 (100000 : Int32), Cond.methodLink "PileLiftsModel" 137 y_M_round, Cond.instanceMethod y_M_round, Cond.code y_M_round prog_6_method_24_code 9 (some .int), Cond.methodLink "PileLiftsModel" 120 y_M_copy, Cond.instanceMethod y_M_copy, Cond.code y_M_copy prog_6_method_18_code 4 none, Cond.methodLink "PileLiftsModel" 124 y_M_leaves, Cond.instanceMethod y_M_leaves, Cond.code y_M_leaves prog_6_method_23_code 5 (some .boolean), Cond.methodLink "PileLiftsModel" 113 y_M_nextWanted, Cond.instanceMethod y_M_nextWanted, Cond.code y_M_nextWanted prog_6_method_22_code 4 (some .int), Cond.methodLink "PileLiftsModel" 109 y_M_topOf, Cond.instanceMethod y_M_topOf, Cond.code y_M_topOf prog_6_method_20_code 3 (some .int), Cond.methodLink "PileLiftsModel" 116 y_M_says, Cond.instanceMethod y_M_says, Cond.code y_M_says prog_6_method_19_code 4 none, Cond.methodLink "PileLiftsModel" 130 y_M_lift]
def wsM_3 : List Cond := [Cond.instanceMethod y_M_lift, Cond.code y_M_lift prog_6_method_21_code 5 none, Cond.instanceMethod y_M_proved, Cond.selects "PileLiftsModel" y_M_proved y_M_proved, Cond.code y_M_proved prog_6_method_26_code 1 (some .boolean), Cond.instanceMethod y_M_moves, Cond.selects "PileLiftsModel" y_M_moves y_M_moves, Cond.code y_M_moves prog_6_method_27_code 1 (some .int), Cond.instanceMethod y_M_move, Cond.selects "PileLiftsModel" y_M_move y_M_move, Cond.code y_M_move prog_6_method_28_code 3 (some .int), Cond.instanceMethod y_M_replay, Cond.selects "PileLiftsModel" y_M_replay y_M_replay, Cond.code y_M_replay prog_6_method_29_code 4 (some .int), Cond.instanceMethod y_M_at, Cond.selects "PileLiftsModel" y_M_at y_M_at, Cond.code y_M_at prog_6_method_30_code 5 (some .int), Cond.instanceMethod y_M_tidy, Cond.selects "PileLiftsModel" y_M_tidy y_M_tidy, Cond.code y_M_tidy prog_6_method_32_code 3 (some .int), Cond.methodLink "PileLiftsModel" 140 y_M_tidies, Cond.instanceMethod y_M_tidies, Cond.code y_M_tidies prog_6_method_31_code 4 (some .boolean), Cond.instanceMethod y_M_wagon, Cond.selects "PileLiftsModel" y_M_wagon y_M_wagon, Cond.code y_M_wagon prog_6_method_33_code 2 (some .int), Cond.instanceMethod y_M_load, Cond.selects "PileLiftsModel" y_M_load y_M_load, Cond.code y_M_load prog_6_method_34_code 4 (some .int), Cond.selects "PileLiftsModel" y_M_goes y_M_goes, Cond.selects "PileLiftsModel" y_M_changed y_M_changed, Cond.selects "PileLiftsModel" y_M_takes y_M_takes, Cond.selects "PileLiftsModel" y_M_isPiece y_M_isPiece, Cond.selects "PileLiftsModel" y_M_isGone y_M_isGone, Cond.selects "PileLiftsModel" y_M_boundAt y_M_boundAt, Cond.selects "PileLiftsModel" y_M_blocksOn y_M_blocksOn, Cond.selects "PileLiftsModel" y_M_isAhead y_M_isAhead, Cond.selects "PileLiftsModel" y_M_round y_M_round, Cond.selects "PileLiftsModel" y_M_copy y_M_copy, Cond.selects "PileLiftsModel" y_M_leaves y_M_leaves]
def wsM_4 : List Cond := [Cond.selects "PileLiftsModel" y_M_nextWanted y_M_nextWanted, Cond.selects "PileLiftsModel" y_M_topOf y_M_topOf, Cond.selects "PileLiftsModel" y_M_says y_M_says, Cond.selects "PileLiftsModel" y_M_lift y_M_lift, Cond.selects "PileLiftsModel" y_M_tidies y_M_tidies, Cond.instanceMethod objectInit, Cond.code objectInit ⟨#[0xb1]⟩ 1 none, Cond.arrayClass .int]
def wsM : List Cond := wsM_0 ++ (wsM_1 ++ (wsM_2 ++ (wsM_3 ++ (wsM_4))))
theorem mM_0 : Cond.initialized "PileLiftsModel" ∈ wsM := List.mem_append_left _ (List.mem_of_getElem? (i := 0) rfl)
theorem mM_1 : Cond.instantiable "PileLiftsModel" 22 ∈ wsM := List.mem_append_left _ (List.mem_of_getElem? (i := 1) rfl)
theorem mM_2 : Cond.instanceMethod y_M_init ∈ wsM := List.mem_append_left _ (List.mem_of_getElem? (i := 2) rfl)
theorem mM_3 : Cond.code y_M_init prog_6_method_1_code 1 none ∈ wsM := List.mem_append_left _ (List.mem_of_getElem? (i := 3) rfl)
theorem mM_4 : Cond.methodLink "PileLiftsModel" 1 ⟨"java/lang/Object", "<init>", "()V"⟩ ∈ wsM := List.mem_append_left _ (List.mem_of_getElem? (i := 4) rfl)
theorem mM_5 : Cond.fieldLink "PileLiftsModel" 56 "PileLiftsModel" "thrown" "I" ∈ wsM := List.mem_append_left _ (List.mem_of_getElem? (i := 5) rfl)
theorem mM_6 : Cond.fieldLink "PileLiftsModel" 7 "PileLiftsModel" "piles" "I" ∈ wsM := List.mem_append_left _ (List.mem_of_getElem? (i := 6) rfl)
theorem mM_7 : Cond.fieldLink "PileLiftsModel" 13 "PileLiftsModel" "levels" "I" ∈ wsM := List.mem_append_left _ (List.mem_of_getElem? (i := 7) rfl)
theorem mM_8 : Cond.fieldLink "PileLiftsModel" 59 "PileLiftsModel" "pieces" "I" ∈ wsM := List.mem_append_left _ (List.mem_of_getElem? (i := 8) rfl)
theorem mM_9 : Cond.fieldLink "PileLiftsModel" 16 "PileLiftsModel" "kilos" "[I" ∈ wsM := List.mem_append_left _ (List.mem_of_getElem? (i := 9) rfl)
theorem mM_10 : Cond.fieldLink "PileLiftsModel" 20 "PileLiftsModel" "length" "[I" ∈ wsM := List.mem_append_left _ (List.mem_of_getElem? (i := 10) rfl)
theorem mM_11 : Cond.fieldLink "PileLiftsModel" 23 "PileLiftsModel" "time" "[I" ∈ wsM := List.mem_append_left _ (List.mem_of_getElem? (i := 11) rfl)
theorem mM_12 : Cond.fieldLink "PileLiftsModel" 26 "PileLiftsModel" "wagonOf" "[I" ∈ wsM := List.mem_append_left _ (List.mem_of_getElem? (i := 12) rfl)
theorem mM_13 : Cond.fieldLink "PileLiftsModel" 29 "PileLiftsModel" "lies" "[I" ∈ wsM := List.mem_append_left _ (List.mem_of_getElem? (i := 13) rfl)
theorem mM_14 : Cond.fieldLink "PileLiftsModel" 32 "PileLiftsModel" "high" "[I" ∈ wsM := List.mem_append_left _ (List.mem_of_getElem? (i := 14) rfl)
theorem mM_15 : Cond.fieldLink "PileLiftsModel" 35 "PileLiftsModel" "left" "[I" ∈ wsM := List.mem_append_left _ (List.mem_of_getElem? (i := 15) rfl)
theorem mM_16 : Cond.fieldLink "PileLiftsModel" 38 "PileLiftsModel" "choice" "[I" ∈ wsM := List.mem_append_left _ (List.mem_of_getElem? (i := 16) rfl)
theorem mM_17 : Cond.fieldLink "PileLiftsModel" 41 "PileLiftsModel" "movePiece" "[I" ∈ wsM := List.mem_append_left _ (List.mem_of_getElem? (i := 17) rfl)
theorem mM_18 : Cond.fieldLink "PileLiftsModel" 44 "PileLiftsModel" "moveTo" "[I" ∈ wsM := List.mem_append_left _ (List.mem_of_getElem? (i := 18) rfl)
theorem mM_19 : Cond.fieldLink "PileLiftsModel" 47 "PileLiftsModel" "many" "[I" ∈ wsM := List.mem_append_left _ (List.mem_of_getElem? (i := 19) rfl)
theorem mM_20 : Cond.fieldLink "PileLiftsModel" 66 "PileLiftsModel" "searched" "Z" ∈ wsM := List.mem_append_left _ (List.mem_of_getElem? (i := 20) rfl)
theorem mM_21 : Cond.fieldLink "PileLiftsModel" 134 "PileLiftsModel" "proved" "Z" ∈ wsM := List.mem_append_left _ (List.mem_of_getElem? (i := 21) rfl)
theorem mM_22 : Cond.fieldLink "PileLiftsModel" 70 "PileLiftsModel" "planned" "Z" ∈ wsM := List.mem_append_left _ (List.mem_of_getElem? (i := 22) rfl)
theorem mM_23 : Cond.fieldLink "PileLiftsModel" 127 "PileLiftsModel" "planMoves" "I" ∈ wsM := List.mem_append_left _ (List.mem_of_getElem? (i := 23) rfl)
theorem mM_24 : Cond.fieldLink "PileLiftsModel" 77 "PileLiftsModel" "wagons" "I" ∈ wsM := List.mem_append_left _ (List.mem_of_getElem? (i := 24) rfl)
theorem mM_25 : Cond.fieldLink "PileLiftsModel" 50 "PileLiftsModel" "axle" "[I" ∈ wsM := List.mem_append_left _ (List.mem_of_getElem? (i := 25) rfl)
theorem mM_26 : Cond.fieldLink "PileLiftsModel" 53 "PileLiftsModel" "loaded" "[I" ∈ wsM := List.mem_append_left _ (List.mem_of_getElem? (i := 26) rfl)
theorem mM_27 : Cond.lays "PileLiftsModel" "PileLiftsModel" "thrown" "I" ∈ wsM := List.mem_append_left _ (List.mem_of_getElem? (i := 27) rfl)
theorem mM_28 : Cond.lays "PileLiftsModel" "PileLiftsModel" "piles" "I" ∈ wsM := List.mem_append_left _ (List.mem_of_getElem? (i := 28) rfl)
theorem mM_29 : Cond.lays "PileLiftsModel" "PileLiftsModel" "levels" "I" ∈ wsM := List.mem_append_left _ (List.mem_of_getElem? (i := 29) rfl)
theorem mM_30 : Cond.lays "PileLiftsModel" "PileLiftsModel" "pieces" "I" ∈ wsM := List.mem_append_left _ (List.mem_of_getElem? (i := 30) rfl)
theorem mM_31 : Cond.laysFinal "PileLiftsModel" "PileLiftsModel" "kilos" "[I" ∈ wsM := List.mem_append_left _ (List.mem_of_getElem? (i := 31) rfl)
theorem mM_32 : Cond.laysFinal "PileLiftsModel" "PileLiftsModel" "length" "[I" ∈ wsM := List.mem_append_left _ (List.mem_of_getElem? (i := 32) rfl)
theorem mM_33 : Cond.laysFinal "PileLiftsModel" "PileLiftsModel" "time" "[I" ∈ wsM := List.mem_append_left _ (List.mem_of_getElem? (i := 33) rfl)
theorem mM_34 : Cond.laysFinal "PileLiftsModel" "PileLiftsModel" "wagonOf" "[I" ∈ wsM := List.mem_append_left _ (List.mem_of_getElem? (i := 34) rfl)
theorem mM_35 : Cond.laysFinal "PileLiftsModel" "PileLiftsModel" "lies" "[I" ∈ wsM := List.mem_append_left _ (List.mem_of_getElem? (i := 35) rfl)
theorem mM_36 : Cond.laysFinal "PileLiftsModel" "PileLiftsModel" "high" "[I" ∈ wsM := List.mem_append_left _ (List.mem_of_getElem? (i := 36) rfl)
theorem mM_37 : Cond.laysFinal "PileLiftsModel" "PileLiftsModel" "left" "[I" ∈ wsM := List.mem_append_left _ (List.mem_of_getElem? (i := 37) rfl)
theorem mM_38 : Cond.laysFinal "PileLiftsModel" "PileLiftsModel" "choice" "[I" ∈ wsM := List.mem_append_left _ (List.mem_of_getElem? (i := 38) rfl)
theorem mM_39 : Cond.laysFinal "PileLiftsModel" "PileLiftsModel" "movePiece" "[I" ∈ wsM := List.mem_append_left _ (List.mem_of_getElem? (i := 39) rfl)
theorem mM_40 : Cond.laysFinal "PileLiftsModel" "PileLiftsModel" "moveTo" "[I" ∈ wsM := List.mem_append_right _ (List.mem_append_left _ (List.mem_of_getElem? (i := 0) rfl))
theorem mM_41 : Cond.laysFinal "PileLiftsModel" "PileLiftsModel" "many" "[I" ∈ wsM := List.mem_append_right _ (List.mem_append_left _ (List.mem_of_getElem? (i := 1) rfl))
theorem mM_42 : Cond.lays "PileLiftsModel" "PileLiftsModel" "searched" "Z" ∈ wsM := List.mem_append_right _ (List.mem_append_left _ (List.mem_of_getElem? (i := 2) rfl))
theorem mM_43 : Cond.lays "PileLiftsModel" "PileLiftsModel" "proved" "Z" ∈ wsM := List.mem_append_right _ (List.mem_append_left _ (List.mem_of_getElem? (i := 3) rfl))
theorem mM_44 : Cond.lays "PileLiftsModel" "PileLiftsModel" "planned" "Z" ∈ wsM := List.mem_append_right _ (List.mem_append_left _ (List.mem_of_getElem? (i := 4) rfl))
theorem mM_45 : Cond.lays "PileLiftsModel" "PileLiftsModel" "planMoves" "I" ∈ wsM := List.mem_append_right _ (List.mem_append_left _ (List.mem_of_getElem? (i := 5) rfl))
theorem mM_46 : Cond.lays "PileLiftsModel" "PileLiftsModel" "wagons" "I" ∈ wsM := List.mem_append_right _ (List.mem_append_left _ (List.mem_of_getElem? (i := 6) rfl))
theorem mM_47 : Cond.laysFinal "PileLiftsModel" "PileLiftsModel" "axle" "[I" ∈ wsM := List.mem_append_right _ (List.mem_append_left _ (List.mem_of_getElem? (i := 7) rfl))
theorem mM_48 : Cond.laysFinal "PileLiftsModel" "PileLiftsModel" "loaded" "[I" ∈ wsM := List.mem_append_right _ (List.mem_append_left _ (List.mem_of_getElem? (i := 8) rfl))
theorem mM_49 : Cond.instanceMethod y_M_thrown ∈ wsM := List.mem_append_right _ (List.mem_append_left _ (List.mem_of_getElem? (i := 9) rfl))
theorem mM_50 : Cond.selects "PileLiftsModel" y_M_thrown y_M_thrown ∈ wsM := List.mem_append_right _ (List.mem_append_left _ (List.mem_of_getElem? (i := 10) rfl))
theorem mM_51 : Cond.code y_M_thrown prog_6_method_2_code 1 (some .int) ∈ wsM := List.mem_append_right _ (List.mem_append_left _ (List.mem_of_getElem? (i := 11) rfl))
theorem mM_52 : Cond.instanceMethod y_M_piles ∈ wsM := List.mem_append_right _ (List.mem_append_left _ (List.mem_of_getElem? (i := 12) rfl))
theorem mM_53 : Cond.selects "PileLiftsModel" y_M_piles y_M_piles ∈ wsM := List.mem_append_right _ (List.mem_append_left _ (List.mem_of_getElem? (i := 13) rfl))
theorem mM_54 : Cond.code y_M_piles prog_6_method_8_code 4 none ∈ wsM := List.mem_append_right _ (List.mem_append_left _ (List.mem_of_getElem? (i := 14) rfl))
theorem mM_55 : Cond.methodLink "PileLiftsModel" 62 y_M_in ∈ wsM := List.mem_append_right _ (List.mem_append_left _ (List.mem_of_getElem? (i := 15) rfl))
theorem mM_56 : Cond.static y_M_in ∈ wsM := List.mem_append_right _ (List.mem_append_left _ (List.mem_of_getElem? (i := 16) rfl))
theorem mM_57 : Cond.code y_M_in prog_6_method_3_code 3 (some .boolean) ∈ wsM := List.mem_append_right _ (List.mem_append_left _ (List.mem_of_getElem? (i := 17) rfl))
theorem mM_58 : Cond.methodLink "PileLiftsModel" 73 y_M_goes ∈ wsM := List.mem_append_right _ (List.mem_append_left _ (List.mem_of_getElem? (i := 18) rfl))
theorem mM_59 : Cond.instanceMethod y_M_goes ∈ wsM := List.mem_append_right _ (List.mem_append_left _ (List.mem_of_getElem? (i := 19) rfl))
theorem mM_60 : Cond.code y_M_goes prog_6_method_4_code 4 (some .boolean) ∈ wsM := List.mem_append_right _ (List.mem_append_left _ (List.mem_of_getElem? (i := 20) rfl))
theorem mM_61 : Cond.methodLink "PileLiftsModel" 80 y_M_changed ∈ wsM := List.mem_append_right _ (List.mem_append_left _ (List.mem_of_getElem? (i := 21) rfl))
theorem mM_62 : Cond.instanceMethod y_M_changed ∈ wsM := List.mem_append_right _ (List.mem_append_left _ (List.mem_of_getElem? (i := 22) rfl))
theorem mM_63 : Cond.code y_M_changed prog_6_method_6_code 1 none ∈ wsM := List.mem_append_right _ (List.mem_append_left _ (List.mem_of_getElem? (i := 23) rfl))
theorem mM_64 : Cond.instanceMethod y_M_put ∈ wsM := List.mem_append_right _ (List.mem_append_left _ (List.mem_of_getElem? (i := 24) rfl))
theorem mM_65 : Cond.selects "PileLiftsModel" y_M_put y_M_put ∈ wsM := List.mem_append_right _ (List.mem_append_left _ (List.mem_of_getElem? (i := 25) rfl))
theorem mM_66 : Cond.code y_M_put prog_6_method_10_code 5 (some .int) ∈ wsM := List.mem_append_right _ (List.mem_append_left _ (List.mem_of_getElem? (i := 26) rfl))
theorem mM_67 : Cond.methodLink "PileLiftsModel" 87 y_M_takes ∈ wsM := List.mem_append_right _ (List.mem_append_left _ (List.mem_of_getElem? (i := 27) rfl))
theorem mM_68 : Cond.instanceMethod y_M_takes ∈ wsM := List.mem_append_right _ (List.mem_append_left _ (List.mem_of_getElem? (i := 28) rfl))
theorem mM_69 : Cond.code y_M_takes prog_6_method_9_code 5 (some .boolean) ∈ wsM := List.mem_append_right _ (List.mem_append_left _ (List.mem_of_getElem? (i := 29) rfl))
theorem mM_70 : Cond.methodLink "PileLiftsModel" 83 y_M_cell ∈ wsM := List.mem_append_right _ (List.mem_append_left _ (List.mem_of_getElem? (i := 30) rfl))
theorem mM_71 : Cond.static y_M_cell ∈ wsM := List.mem_append_right _ (List.mem_append_left _ (List.mem_of_getElem? (i := 31) rfl))
theorem mM_72 : Cond.code y_M_cell prog_6_method_7_code 3 (some .int) ∈ wsM := List.mem_append_right _ (List.mem_append_left _ (List.mem_of_getElem? (i := 32) rfl))
theorem mM_73 : Cond.instanceMethod y_M_want ∈ wsM := List.mem_append_right _ (List.mem_append_left _ (List.mem_of_getElem? (i := 33) rfl))
theorem mM_74 : Cond.selects "PileLiftsModel" y_M_want y_M_want ∈ wsM := List.mem_append_right _ (List.mem_append_left _ (List.mem_of_getElem? (i := 34) rfl))
theorem mM_75 : Cond.code y_M_want prog_6_method_12_code 3 none ∈ wsM := List.mem_append_right _ (List.mem_append_left _ (List.mem_of_getElem? (i := 35) rfl))
theorem mM_76 : Cond.methodLink "PileLiftsModel" 90 y_M_isPiece ∈ wsM := List.mem_append_right _ (List.mem_append_left _ (List.mem_of_getElem? (i := 36) rfl))
theorem mM_77 : Cond.instanceMethod y_M_isPiece ∈ wsM := List.mem_append_right _ (List.mem_append_left _ (List.mem_of_getElem? (i := 37) rfl))
theorem mM_78 : Cond.code y_M_isPiece prog_6_method_5_code 2 (some .boolean) ∈ wsM := List.mem_append_right _ (List.mem_append_left _ (List.mem_of_getElem? (i := 38) rfl))
theorem mM_79 : Cond.methodLink "PileLiftsModel" 94 y_M_isGone ∈ wsM := List.mem_append_right _ (List.mem_append_left _ (List.mem_of_getElem? (i := 39) rfl))
theorem mM_80 : Cond.instanceMethod y_M_isGone ∈ wsM := List.mem_append_right _ (List.mem_append_right _ (List.mem_append_left _ (List.mem_of_getElem? (i := 0) rfl)))
theorem mM_81 : Cond.code y_M_isGone prog_6_method_11_code 3 (some .boolean) ∈ wsM := List.mem_append_right _ (List.mem_append_right _ (List.mem_append_left _ (List.mem_of_getElem? (i := 1) rfl)))
theorem mM_82 : Cond.instanceMethod y_M_may ∈ wsM := List.mem_append_right _ (List.mem_append_right _ (List.mem_append_left _ (List.mem_of_getElem? (i := 2) rfl)))
theorem mM_83 : Cond.selects "PileLiftsModel" y_M_may y_M_may ∈ wsM := List.mem_append_right _ (List.mem_append_right _ (List.mem_append_left _ (List.mem_of_getElem? (i := 3) rfl)))
theorem mM_84 : Cond.code y_M_may prog_6_method_13_code 3 (some .boolean) ∈ wsM := List.mem_append_right _ (List.mem_append_right _ (List.mem_append_left _ (List.mem_of_getElem? (i := 4) rfl)))
theorem mM_85 : Cond.instanceMethod y_M_bound ∈ wsM := List.mem_append_right _ (List.mem_append_right _ (List.mem_append_left _ (List.mem_of_getElem? (i := 5) rfl)))
theorem mM_86 : Cond.selects "PileLiftsModel" y_M_bound y_M_bound ∈ wsM := List.mem_append_right _ (List.mem_append_right _ (List.mem_append_left _ (List.mem_of_getElem? (i := 6) rfl)))
theorem mM_87 : Cond.code y_M_bound prog_6_method_17_code 1 (some .int) ∈ wsM := List.mem_append_right _ (List.mem_append_right _ (List.mem_append_left _ (List.mem_of_getElem? (i := 7) rfl)))
theorem mM_88 : Cond.methodLink "PileLiftsModel" 105 y_M_boundAt ∈ wsM := List.mem_append_right _ (List.mem_append_right _ (List.mem_append_left _ (List.mem_of_getElem? (i := 8) rfl)))
theorem mM_89 : Cond.instanceMethod y_M_boundAt ∈ wsM := List.mem_append_right _ (List.mem_append_right _ (List.mem_append_left _ (List.mem_of_getElem? (i := 9) rfl)))
theorem mM_90 : Cond.code y_M_boundAt prog_6_method_16_code 5 (some .int) ∈ wsM := List.mem_append_right _ (List.mem_append_right _ (List.mem_append_left _ (List.mem_of_getElem? (i := 10) rfl)))
theorem mM_91 : Cond.methodLink "PileLiftsModel" 101 y_M_blocksOn ∈ wsM := List.mem_append_right _ (List.mem_append_right _ (List.mem_append_left _ (List.mem_of_getElem? (i := 11) rfl)))
theorem mM_92 : Cond.instanceMethod y_M_blocksOn ∈ wsM := List.mem_append_right _ (List.mem_append_right _ (List.mem_append_left _ (List.mem_of_getElem? (i := 12) rfl)))
theorem mM_93 : Cond.code y_M_blocksOn prog_6_method_15_code 6 (some .boolean) ∈ wsM := List.mem_append_right _ (List.mem_append_right _ (List.mem_append_left _ (List.mem_of_getElem? (i := 13) rfl)))
theorem mM_94 : Cond.methodLink "PileLiftsModel" 98 y_M_isAhead ∈ wsM := List.mem_append_right _ (List.mem_append_right _ (List.mem_append_left _ (List.mem_of_getElem? (i := 14) rfl)))
theorem mM_95 : Cond.instanceMethod y_M_isAhead ∈ wsM := List.mem_append_right _ (List.mem_append_right _ (List.mem_append_left _ (List.mem_of_getElem? (i := 15) rfl)))
theorem mM_96 : Cond.code y_M_isAhead prog_6_method_14_code 3 (some .boolean) ∈ wsM := List.mem_append_right _ (List.mem_append_right _ (List.mem_append_left _ (List.mem_of_getElem? (i := 16) rfl)))
theorem mM_97 : Cond.instanceMethod y_M_run ∈ wsM := List.mem_append_right _ (List.mem_append_right _ (List.mem_append_left _ (List.mem_of_getElem? (i := 17) rfl)))
theorem mM_98 : Cond.selects "PileLiftsModel" y_M_run y_M_run ∈ wsM := List.mem_append_right _ (List.mem_append_right _ (List.mem_append_left _ (List.mem_of_getElem? (i := 18) rfl)))
theorem mM_99 : Cond.code y_M_run prog_6_method_25_code 5 (some .int) ∈ wsM := List.mem_append_right _ (List.mem_append_right _ (List.mem_append_left _ (List.mem_of_getElem? (i := 19) rfl)))
theorem mM_100 : Cond.constant "PileLiftsModel" 133 (100000 : Int32) ∈ wsM := List.mem_append_right _ (List.mem_append_right _ (List.mem_append_left _ (List.mem_of_getElem? (i := 20) rfl)))
theorem mM_101 : Cond.methodLink "PileLiftsModel" 137 y_M_round ∈ wsM := List.mem_append_right _ (List.mem_append_right _ (List.mem_append_left _ (List.mem_of_getElem? (i := 21) rfl)))
theorem mM_102 : Cond.instanceMethod y_M_round ∈ wsM := List.mem_append_right _ (List.mem_append_right _ (List.mem_append_left _ (List.mem_of_getElem? (i := 22) rfl)))
theorem mM_103 : Cond.code y_M_round prog_6_method_24_code 9 (some .int) ∈ wsM := List.mem_append_right _ (List.mem_append_right _ (List.mem_append_left _ (List.mem_of_getElem? (i := 23) rfl)))
theorem mM_104 : Cond.methodLink "PileLiftsModel" 120 y_M_copy ∈ wsM := List.mem_append_right _ (List.mem_append_right _ (List.mem_append_left _ (List.mem_of_getElem? (i := 24) rfl)))
theorem mM_105 : Cond.instanceMethod y_M_copy ∈ wsM := List.mem_append_right _ (List.mem_append_right _ (List.mem_append_left _ (List.mem_of_getElem? (i := 25) rfl)))
theorem mM_106 : Cond.code y_M_copy prog_6_method_18_code 4 none ∈ wsM := List.mem_append_right _ (List.mem_append_right _ (List.mem_append_left _ (List.mem_of_getElem? (i := 26) rfl)))
theorem mM_107 : Cond.methodLink "PileLiftsModel" 124 y_M_leaves ∈ wsM := List.mem_append_right _ (List.mem_append_right _ (List.mem_append_left _ (List.mem_of_getElem? (i := 27) rfl)))
theorem mM_108 : Cond.instanceMethod y_M_leaves ∈ wsM := List.mem_append_right _ (List.mem_append_right _ (List.mem_append_left _ (List.mem_of_getElem? (i := 28) rfl)))
theorem mM_109 : Cond.code y_M_leaves prog_6_method_23_code 5 (some .boolean) ∈ wsM := List.mem_append_right _ (List.mem_append_right _ (List.mem_append_left _ (List.mem_of_getElem? (i := 29) rfl)))
theorem mM_110 : Cond.methodLink "PileLiftsModel" 113 y_M_nextWanted ∈ wsM := List.mem_append_right _ (List.mem_append_right _ (List.mem_append_left _ (List.mem_of_getElem? (i := 30) rfl)))
theorem mM_111 : Cond.instanceMethod y_M_nextWanted ∈ wsM := List.mem_append_right _ (List.mem_append_right _ (List.mem_append_left _ (List.mem_of_getElem? (i := 31) rfl)))
theorem mM_112 : Cond.code y_M_nextWanted prog_6_method_22_code 4 (some .int) ∈ wsM := List.mem_append_right _ (List.mem_append_right _ (List.mem_append_left _ (List.mem_of_getElem? (i := 32) rfl)))
theorem mM_113 : Cond.methodLink "PileLiftsModel" 109 y_M_topOf ∈ wsM := List.mem_append_right _ (List.mem_append_right _ (List.mem_append_left _ (List.mem_of_getElem? (i := 33) rfl)))
theorem mM_114 : Cond.instanceMethod y_M_topOf ∈ wsM := List.mem_append_right _ (List.mem_append_right _ (List.mem_append_left _ (List.mem_of_getElem? (i := 34) rfl)))
theorem mM_115 : Cond.code y_M_topOf prog_6_method_20_code 3 (some .int) ∈ wsM := List.mem_append_right _ (List.mem_append_right _ (List.mem_append_left _ (List.mem_of_getElem? (i := 35) rfl)))
theorem mM_116 : Cond.methodLink "PileLiftsModel" 116 y_M_says ∈ wsM := List.mem_append_right _ (List.mem_append_right _ (List.mem_append_left _ (List.mem_of_getElem? (i := 36) rfl)))
theorem mM_117 : Cond.instanceMethod y_M_says ∈ wsM := List.mem_append_right _ (List.mem_append_right _ (List.mem_append_left _ (List.mem_of_getElem? (i := 37) rfl)))
theorem mM_118 : Cond.code y_M_says prog_6_method_19_code 4 none ∈ wsM := List.mem_append_right _ (List.mem_append_right _ (List.mem_append_left _ (List.mem_of_getElem? (i := 38) rfl)))
theorem mM_119 : Cond.methodLink "PileLiftsModel" 130 y_M_lift ∈ wsM := List.mem_append_right _ (List.mem_append_right _ (List.mem_append_left _ (List.mem_of_getElem? (i := 39) rfl)))
theorem mM_120 : Cond.instanceMethod y_M_lift ∈ wsM := List.mem_append_right _ (List.mem_append_right _ (List.mem_append_right _ (List.mem_append_left _ (List.mem_of_getElem? (i := 0) rfl))))
theorem mM_121 : Cond.code y_M_lift prog_6_method_21_code 5 none ∈ wsM := List.mem_append_right _ (List.mem_append_right _ (List.mem_append_right _ (List.mem_append_left _ (List.mem_of_getElem? (i := 1) rfl))))
theorem mM_122 : Cond.instanceMethod y_M_proved ∈ wsM := List.mem_append_right _ (List.mem_append_right _ (List.mem_append_right _ (List.mem_append_left _ (List.mem_of_getElem? (i := 2) rfl))))
theorem mM_123 : Cond.selects "PileLiftsModel" y_M_proved y_M_proved ∈ wsM := List.mem_append_right _ (List.mem_append_right _ (List.mem_append_right _ (List.mem_append_left _ (List.mem_of_getElem? (i := 3) rfl))))
theorem mM_124 : Cond.code y_M_proved prog_6_method_26_code 1 (some .boolean) ∈ wsM := List.mem_append_right _ (List.mem_append_right _ (List.mem_append_right _ (List.mem_append_left _ (List.mem_of_getElem? (i := 4) rfl))))
theorem mM_125 : Cond.instanceMethod y_M_moves ∈ wsM := List.mem_append_right _ (List.mem_append_right _ (List.mem_append_right _ (List.mem_append_left _ (List.mem_of_getElem? (i := 5) rfl))))
theorem mM_126 : Cond.selects "PileLiftsModel" y_M_moves y_M_moves ∈ wsM := List.mem_append_right _ (List.mem_append_right _ (List.mem_append_right _ (List.mem_append_left _ (List.mem_of_getElem? (i := 6) rfl))))
theorem mM_127 : Cond.code y_M_moves prog_6_method_27_code 1 (some .int) ∈ wsM := List.mem_append_right _ (List.mem_append_right _ (List.mem_append_right _ (List.mem_append_left _ (List.mem_of_getElem? (i := 7) rfl))))
theorem mM_128 : Cond.instanceMethod y_M_move ∈ wsM := List.mem_append_right _ (List.mem_append_right _ (List.mem_append_right _ (List.mem_append_left _ (List.mem_of_getElem? (i := 8) rfl))))
theorem mM_129 : Cond.selects "PileLiftsModel" y_M_move y_M_move ∈ wsM := List.mem_append_right _ (List.mem_append_right _ (List.mem_append_right _ (List.mem_append_left _ (List.mem_of_getElem? (i := 9) rfl))))
theorem mM_130 : Cond.code y_M_move prog_6_method_28_code 3 (some .int) ∈ wsM := List.mem_append_right _ (List.mem_append_right _ (List.mem_append_right _ (List.mem_append_left _ (List.mem_of_getElem? (i := 10) rfl))))
theorem mM_131 : Cond.instanceMethod y_M_replay ∈ wsM := List.mem_append_right _ (List.mem_append_right _ (List.mem_append_right _ (List.mem_append_left _ (List.mem_of_getElem? (i := 11) rfl))))
theorem mM_132 : Cond.selects "PileLiftsModel" y_M_replay y_M_replay ∈ wsM := List.mem_append_right _ (List.mem_append_right _ (List.mem_append_right _ (List.mem_append_left _ (List.mem_of_getElem? (i := 12) rfl))))
theorem mM_133 : Cond.code y_M_replay prog_6_method_29_code 4 (some .int) ∈ wsM := List.mem_append_right _ (List.mem_append_right _ (List.mem_append_right _ (List.mem_append_left _ (List.mem_of_getElem? (i := 13) rfl))))
theorem mM_134 : Cond.instanceMethod y_M_at ∈ wsM := List.mem_append_right _ (List.mem_append_right _ (List.mem_append_right _ (List.mem_append_left _ (List.mem_of_getElem? (i := 14) rfl))))
theorem mM_135 : Cond.selects "PileLiftsModel" y_M_at y_M_at ∈ wsM := List.mem_append_right _ (List.mem_append_right _ (List.mem_append_right _ (List.mem_append_left _ (List.mem_of_getElem? (i := 15) rfl))))
theorem mM_136 : Cond.code y_M_at prog_6_method_30_code 5 (some .int) ∈ wsM := List.mem_append_right _ (List.mem_append_right _ (List.mem_append_right _ (List.mem_append_left _ (List.mem_of_getElem? (i := 16) rfl))))
theorem mM_137 : Cond.instanceMethod y_M_tidy ∈ wsM := List.mem_append_right _ (List.mem_append_right _ (List.mem_append_right _ (List.mem_append_left _ (List.mem_of_getElem? (i := 17) rfl))))
theorem mM_138 : Cond.selects "PileLiftsModel" y_M_tidy y_M_tidy ∈ wsM := List.mem_append_right _ (List.mem_append_right _ (List.mem_append_right _ (List.mem_append_left _ (List.mem_of_getElem? (i := 18) rfl))))
theorem mM_139 : Cond.code y_M_tidy prog_6_method_32_code 3 (some .int) ∈ wsM := List.mem_append_right _ (List.mem_append_right _ (List.mem_append_right _ (List.mem_append_left _ (List.mem_of_getElem? (i := 19) rfl))))
theorem mM_140 : Cond.methodLink "PileLiftsModel" 140 y_M_tidies ∈ wsM := List.mem_append_right _ (List.mem_append_right _ (List.mem_append_right _ (List.mem_append_left _ (List.mem_of_getElem? (i := 20) rfl))))
theorem mM_141 : Cond.instanceMethod y_M_tidies ∈ wsM := List.mem_append_right _ (List.mem_append_right _ (List.mem_append_right _ (List.mem_append_left _ (List.mem_of_getElem? (i := 21) rfl))))
theorem mM_142 : Cond.code y_M_tidies prog_6_method_31_code 4 (some .boolean) ∈ wsM := List.mem_append_right _ (List.mem_append_right _ (List.mem_append_right _ (List.mem_append_left _ (List.mem_of_getElem? (i := 22) rfl))))
theorem mM_143 : Cond.instanceMethod y_M_wagon ∈ wsM := List.mem_append_right _ (List.mem_append_right _ (List.mem_append_right _ (List.mem_append_left _ (List.mem_of_getElem? (i := 23) rfl))))
theorem mM_144 : Cond.selects "PileLiftsModel" y_M_wagon y_M_wagon ∈ wsM := List.mem_append_right _ (List.mem_append_right _ (List.mem_append_right _ (List.mem_append_left _ (List.mem_of_getElem? (i := 24) rfl))))
theorem mM_145 : Cond.code y_M_wagon prog_6_method_33_code 2 (some .int) ∈ wsM := List.mem_append_right _ (List.mem_append_right _ (List.mem_append_right _ (List.mem_append_left _ (List.mem_of_getElem? (i := 25) rfl))))
theorem mM_146 : Cond.instanceMethod y_M_load ∈ wsM := List.mem_append_right _ (List.mem_append_right _ (List.mem_append_right _ (List.mem_append_left _ (List.mem_of_getElem? (i := 26) rfl))))
theorem mM_147 : Cond.selects "PileLiftsModel" y_M_load y_M_load ∈ wsM := List.mem_append_right _ (List.mem_append_right _ (List.mem_append_right _ (List.mem_append_left _ (List.mem_of_getElem? (i := 27) rfl))))
theorem mM_148 : Cond.code y_M_load prog_6_method_34_code 4 (some .int) ∈ wsM := List.mem_append_right _ (List.mem_append_right _ (List.mem_append_right _ (List.mem_append_left _ (List.mem_of_getElem? (i := 28) rfl))))
theorem mM_149 : Cond.selects "PileLiftsModel" y_M_goes y_M_goes ∈ wsM := List.mem_append_right _ (List.mem_append_right _ (List.mem_append_right _ (List.mem_append_left _ (List.mem_of_getElem? (i := 29) rfl))))
theorem mM_150 : Cond.selects "PileLiftsModel" y_M_changed y_M_changed ∈ wsM := List.mem_append_right _ (List.mem_append_right _ (List.mem_append_right _ (List.mem_append_left _ (List.mem_of_getElem? (i := 30) rfl))))
theorem mM_151 : Cond.selects "PileLiftsModel" y_M_takes y_M_takes ∈ wsM := List.mem_append_right _ (List.mem_append_right _ (List.mem_append_right _ (List.mem_append_left _ (List.mem_of_getElem? (i := 31) rfl))))
theorem mM_152 : Cond.selects "PileLiftsModel" y_M_isPiece y_M_isPiece ∈ wsM := List.mem_append_right _ (List.mem_append_right _ (List.mem_append_right _ (List.mem_append_left _ (List.mem_of_getElem? (i := 32) rfl))))
theorem mM_153 : Cond.selects "PileLiftsModel" y_M_isGone y_M_isGone ∈ wsM := List.mem_append_right _ (List.mem_append_right _ (List.mem_append_right _ (List.mem_append_left _ (List.mem_of_getElem? (i := 33) rfl))))
theorem mM_154 : Cond.selects "PileLiftsModel" y_M_boundAt y_M_boundAt ∈ wsM := List.mem_append_right _ (List.mem_append_right _ (List.mem_append_right _ (List.mem_append_left _ (List.mem_of_getElem? (i := 34) rfl))))
theorem mM_155 : Cond.selects "PileLiftsModel" y_M_blocksOn y_M_blocksOn ∈ wsM := List.mem_append_right _ (List.mem_append_right _ (List.mem_append_right _ (List.mem_append_left _ (List.mem_of_getElem? (i := 35) rfl))))
theorem mM_156 : Cond.selects "PileLiftsModel" y_M_isAhead y_M_isAhead ∈ wsM := List.mem_append_right _ (List.mem_append_right _ (List.mem_append_right _ (List.mem_append_left _ (List.mem_of_getElem? (i := 36) rfl))))
theorem mM_157 : Cond.selects "PileLiftsModel" y_M_round y_M_round ∈ wsM := List.mem_append_right _ (List.mem_append_right _ (List.mem_append_right _ (List.mem_append_left _ (List.mem_of_getElem? (i := 37) rfl))))
theorem mM_158 : Cond.selects "PileLiftsModel" y_M_copy y_M_copy ∈ wsM := List.mem_append_right _ (List.mem_append_right _ (List.mem_append_right _ (List.mem_append_left _ (List.mem_of_getElem? (i := 38) rfl))))
theorem mM_159 : Cond.selects "PileLiftsModel" y_M_leaves y_M_leaves ∈ wsM := List.mem_append_right _ (List.mem_append_right _ (List.mem_append_right _ (List.mem_append_left _ (List.mem_of_getElem? (i := 39) rfl))))
theorem mM_160 : Cond.selects "PileLiftsModel" y_M_nextWanted y_M_nextWanted ∈ wsM := List.mem_append_right _ (List.mem_append_right _ (List.mem_append_right _ (List.mem_append_right _ ((List.mem_of_getElem? (i := 0) rfl)))))
theorem mM_161 : Cond.selects "PileLiftsModel" y_M_topOf y_M_topOf ∈ wsM := List.mem_append_right _ (List.mem_append_right _ (List.mem_append_right _ (List.mem_append_right _ ((List.mem_of_getElem? (i := 1) rfl)))))
theorem mM_162 : Cond.selects "PileLiftsModel" y_M_says y_M_says ∈ wsM := List.mem_append_right _ (List.mem_append_right _ (List.mem_append_right _ (List.mem_append_right _ ((List.mem_of_getElem? (i := 2) rfl)))))
theorem mM_163 : Cond.selects "PileLiftsModel" y_M_lift y_M_lift ∈ wsM := List.mem_append_right _ (List.mem_append_right _ (List.mem_append_right _ (List.mem_append_right _ ((List.mem_of_getElem? (i := 3) rfl)))))
theorem mM_164 : Cond.selects "PileLiftsModel" y_M_tidies y_M_tidies ∈ wsM := List.mem_append_right _ (List.mem_append_right _ (List.mem_append_right _ (List.mem_append_right _ ((List.mem_of_getElem? (i := 4) rfl)))))
theorem mM_165 : Cond.instanceMethod objectInit ∈ wsM := List.mem_append_right _ (List.mem_append_right _ (List.mem_append_right _ (List.mem_append_right _ ((List.mem_of_getElem? (i := 5) rfl)))))
theorem mM_166 : Cond.code objectInit ⟨#[0xb1]⟩ 1 none ∈ wsM := List.mem_append_right _ (List.mem_append_right _ (List.mem_append_right _ (List.mem_append_right _ ((List.mem_of_getElem? (i := 6) rfl)))))
theorem mM_167 : Cond.arrayClass .int ∈ wsM := List.mem_append_right _ (List.mem_append_right _ (List.mem_append_right _ (List.mem_append_right _ ((List.mem_of_getElem? (i := 7) rfl)))))
theorem wsM_good : wsM.all goodWord = true := by decide +kernel
theorem wsM_self {w0 : Cond} (h : w0 ∈ wsM) : GoodIn wsM (w0 :: wsM) := fun w hw => by
  have h1 : w ∈ wsM := (List.mem_cons.mp hw).elim (fun e => e ▸ h) id
  exact ⟨h1, good_of_word (List.all_eq_true.mp wsM_good w h1)⟩
theorem i_M : ∀ w ∈ u_ws R_M F_M 22, w ∈ wsM := by
  intro w h
  have h : w ∈ [Cond.lays "PileLiftsModel" "PileLiftsModel" "thrown" "I", Cond.lays "PileLiftsModel" "PileLiftsModel" "piles" "I", Cond.lays "PileLiftsModel" "PileLiftsModel" "levels" "I", Cond.lays "PileLiftsModel" "PileLiftsModel" "pieces" "I", Cond.laysFinal "PileLiftsModel" "PileLiftsModel" "kilos" "[I", Cond.laysFinal "PileLiftsModel" "PileLiftsModel" "length" "[I", Cond.laysFinal "PileLiftsModel" "PileLiftsModel" "time" "[I", Cond.laysFinal "PileLiftsModel" "PileLiftsModel" "wagonOf" "[I", Cond.laysFinal "PileLiftsModel" "PileLiftsModel" "lies" "[I", Cond.laysFinal "PileLiftsModel" "PileLiftsModel" "high" "[I", Cond.laysFinal "PileLiftsModel" "PileLiftsModel" "left" "[I", Cond.laysFinal "PileLiftsModel" "PileLiftsModel" "choice" "[I", Cond.laysFinal "PileLiftsModel" "PileLiftsModel" "movePiece" "[I", Cond.laysFinal "PileLiftsModel" "PileLiftsModel" "moveTo" "[I", Cond.laysFinal "PileLiftsModel" "PileLiftsModel" "many" "[I", Cond.lays "PileLiftsModel" "PileLiftsModel" "searched" "Z", Cond.lays "PileLiftsModel" "PileLiftsModel" "proved" "Z", Cond.lays "PileLiftsModel" "PileLiftsModel" "planned" "Z", Cond.lays "PileLiftsModel" "PileLiftsModel" "planMoves" "I", Cond.lays "PileLiftsModel" "PileLiftsModel" "wagons" "I", Cond.laysFinal "PileLiftsModel" "PileLiftsModel" "axle" "[I", Cond.laysFinal "PileLiftsModel" "PileLiftsModel" "loaded" "[I"] := h
  simp only [List.mem_cons, List.not_mem_nil, or_false] at h
  rcases h with rfl | rfl | rfl | rfl | rfl | rfl | rfl | rfl | rfl | rfl | rfl | rfl | rfl | rfl | rfl | rfl | rfl | rfl | rfl | rfl | rfl | rfl
  · exact mM_27
  · exact mM_28
  · exact mM_29
  · exact mM_30
  · exact mM_31
  · exact mM_32
  · exact mM_33
  · exact mM_34
  · exact mM_35
  · exact mM_36
  · exact mM_37
  · exact mM_38
  · exact mM_39
  · exact mM_40
  · exact mM_41
  · exact mM_42
  · exact mM_43
  · exact mM_44
  · exact mM_45
  · exact mM_46
  · exact mM_47
  · exact mM_48
def nfC : List (String × Nat × String × String × String × String) := [("PileLifts$Search", 71, "PileLifts$Yard", "pileCount", "I", "PileLifts"), ("PileLifts", 61, "PileLifts$Yard", "pieceCount", "I", "PileLifts"), ("PileLifts", 176, "PileLifts$Yard", "kilos", "[I", "PileLifts"), ("PileLifts", 96, "PileLifts$Yard", "lengths", "[I", "PileLifts"), ("PileLifts$Search", 86, "PileLifts$Yard", "lengths", "[I", "PileLifts"), ("PileLifts", 92, "PileLifts$Yard", "times", "[I", "PileLifts"), ("PileLifts$Search", 100, "PileLifts$Yard", "pileOf", "[I", "PileLifts"), ("PileLifts", 144, "PileLifts$Yard", "pileOf", "[I", "PileLifts"), ("PileLifts", 147, "PileLifts$Yard", "levelOf", "[I", "PileLifts"), ("PileLifts", 110, "PileLifts$Search", "isDone", "Z", "PileLifts"), ("PileLifts", 116, "PileLifts$Search", "isProved", "Z", "PileLifts"), ("PileLifts", 193, "PileLifts$Search", "hasPlan", "Z", "PileLifts"), ("PileLifts", 122, "PileLifts$Search", "moveCount", "I", "PileLifts"), ("PileLifts", 129, "PileLifts$Search", "movedPiece", "[I", "PileLifts"), ("PileLifts", 132, "PileLifts$Search", "movedTo", "[I", "PileLifts"), ("PileLifts", 166, "PileLifts$Wagons", "count", "I", "PileLifts"), ("PileLifts", 153, "PileLifts$Wagons", "wagonOf", "[I", "PileLifts")]
def nmC : List (String × Nat × MethodName × String) := [("PileLifts", 9, y_Y_init, "PileLifts"), ("PileLifts", 18, y_S_init, "PileLifts"), ("PileLifts", 25, y_W_init, "PileLifts"), ("PileLifts", 99, y_Y_countBlocking, "PileLifts"), ("PileLifts", 41, y_Y_clear, "PileLifts"), ("PileLifts", 45, y_W_clear, "PileLifts"), ("PileLifts", 47, y_S_forget, "PileLifts"), ("PileLifts", 50, y_Y_hasPile, "PileLifts"), ("PileLifts$Yard", 47, y_P_isWithin, "PileLifts"), ("PileLifts", 65, y_Y_takes, "PileLifts"), ("PileLifts", 74, y_Y_add, "PileLifts"), ("PileLifts", 188, y_Y_hasPiece, "PileLifts"), ("PileLifts", 82, y_Y_isGone, "PileLifts"), ("PileLifts", 106, y_S_findBest, "PileLifts"), ("PileLifts$Search", 44, y_Y_countBlocking, "PileLifts"), ("PileLifts$Search", 68, y_Y_nextWanted, "PileLifts"), ("PileLifts$Search", 111, y_Y_isTop, "PileLifts"), ("PileLifts$Search", 114, y_Y_takeOff, "PileLifts"), ("PileLifts$Search", 78, y_Y_topOf, "PileLifts"), ("PileLifts$Search", 82, y_Y_isBlocking, "PileLifts"), ("PileLifts$Search", 89, y_Y_takes, "PileLifts"), ("PileLifts$Search", 93, y_Y_wouldBlockOn, "PileLifts"), ("PileLifts$Search", 107, y_Y_relift, "PileLifts"), ("PileLifts$Search", 118, y_Y_layOn, "PileLifts"), ("PileLifts", 137, y_S_doMoves, "PileLifts"), ("PileLifts", 141, y_Y_countGone, "PileLifts"), ("PileLifts", 150, y_Y_isBlocking, "PileLifts"), ("PileLifts", 160, y_Y_tidyOnce, "PileLifts"), ("PileLifts", 171, y_W_add, "PileLifts"), ("PileLifts", 179, y_W_firstWithRoom, "PileLifts"), ("PileLifts", 184, y_W_fill, "PileLifts")]
def nnC (U : State) : Prop := (∀ q ∈ nfC, va_Nw (.fieldLinkNest q.1 q.2.1 q.2.2.1 q.2.2.2.1 q.2.2.2.2.1 q.2.2.2.2.2) U) ∧ ∀ q ∈ nmC, va_Nw (.methodLinkNest q.1 q.2.1 q.2.2.1 q.2.2.2) U
theorem nnC_warm (s U : State) (hW : s.WarmedH U.vm) (h : nnC s) : nnC U := ⟨fun q hq => va_Nw.warmF hW (h.1 q hq), fun q hq => va_Nw.warmM hW (h.2 q hq)⟩
theorem nnC_same (u U : State) (hv : u.vm = U.vm) (h : nnC u) : nnC U := ⟨fun q hq => va_Nw.same rfl hv (h.1 q hq), fun q hq => va_Nw.same rfl hv (h.2 q hq)⟩
theorem nf_S_71 {U : State} (h : nnC U) : va_Nw (.fieldLinkNest "PileLifts$Search" 71 "PileLifts$Yard" "pileCount" "I" "PileLifts") U := h.1 ("PileLifts$Search", 71, "PileLifts$Yard", "pileCount", "I", "PileLifts") (List.mem_of_getElem? (i := 0) rfl)
theorem nf_P_61 {U : State} (h : nnC U) : va_Nw (.fieldLinkNest "PileLifts" 61 "PileLifts$Yard" "pieceCount" "I" "PileLifts") U := h.1 ("PileLifts", 61, "PileLifts$Yard", "pieceCount", "I", "PileLifts") (List.mem_of_getElem? (i := 1) rfl)
theorem nf_P_176 {U : State} (h : nnC U) : va_Nw (.fieldLinkNest "PileLifts" 176 "PileLifts$Yard" "kilos" "[I" "PileLifts") U := h.1 ("PileLifts", 176, "PileLifts$Yard", "kilos", "[I", "PileLifts") (List.mem_of_getElem? (i := 2) rfl)
theorem nf_P_96 {U : State} (h : nnC U) : va_Nw (.fieldLinkNest "PileLifts" 96 "PileLifts$Yard" "lengths" "[I" "PileLifts") U := h.1 ("PileLifts", 96, "PileLifts$Yard", "lengths", "[I", "PileLifts") (List.mem_of_getElem? (i := 3) rfl)
theorem nf_S_86 {U : State} (h : nnC U) : va_Nw (.fieldLinkNest "PileLifts$Search" 86 "PileLifts$Yard" "lengths" "[I" "PileLifts") U := h.1 ("PileLifts$Search", 86, "PileLifts$Yard", "lengths", "[I", "PileLifts") (List.mem_of_getElem? (i := 4) rfl)
theorem nf_P_92 {U : State} (h : nnC U) : va_Nw (.fieldLinkNest "PileLifts" 92 "PileLifts$Yard" "times" "[I" "PileLifts") U := h.1 ("PileLifts", 92, "PileLifts$Yard", "times", "[I", "PileLifts") (List.mem_of_getElem? (i := 5) rfl)
theorem nf_S_100 {U : State} (h : nnC U) : va_Nw (.fieldLinkNest "PileLifts$Search" 100 "PileLifts$Yard" "pileOf" "[I" "PileLifts") U := h.1 ("PileLifts$Search", 100, "PileLifts$Yard", "pileOf", "[I", "PileLifts") (List.mem_of_getElem? (i := 6) rfl)
theorem nf_P_144 {U : State} (h : nnC U) : va_Nw (.fieldLinkNest "PileLifts" 144 "PileLifts$Yard" "pileOf" "[I" "PileLifts") U := h.1 ("PileLifts", 144, "PileLifts$Yard", "pileOf", "[I", "PileLifts") (List.mem_of_getElem? (i := 7) rfl)
theorem nf_P_147 {U : State} (h : nnC U) : va_Nw (.fieldLinkNest "PileLifts" 147 "PileLifts$Yard" "levelOf" "[I" "PileLifts") U := h.1 ("PileLifts", 147, "PileLifts$Yard", "levelOf", "[I", "PileLifts") (List.mem_of_getElem? (i := 8) rfl)
theorem nf_P_110 {U : State} (h : nnC U) : va_Nw (.fieldLinkNest "PileLifts" 110 "PileLifts$Search" "isDone" "Z" "PileLifts") U := h.1 ("PileLifts", 110, "PileLifts$Search", "isDone", "Z", "PileLifts") (List.mem_of_getElem? (i := 9) rfl)
theorem nf_P_116 {U : State} (h : nnC U) : va_Nw (.fieldLinkNest "PileLifts" 116 "PileLifts$Search" "isProved" "Z" "PileLifts") U := h.1 ("PileLifts", 116, "PileLifts$Search", "isProved", "Z", "PileLifts") (List.mem_of_getElem? (i := 10) rfl)
theorem nf_P_193 {U : State} (h : nnC U) : va_Nw (.fieldLinkNest "PileLifts" 193 "PileLifts$Search" "hasPlan" "Z" "PileLifts") U := h.1 ("PileLifts", 193, "PileLifts$Search", "hasPlan", "Z", "PileLifts") (List.mem_of_getElem? (i := 11) rfl)
theorem nf_P_122 {U : State} (h : nnC U) : va_Nw (.fieldLinkNest "PileLifts" 122 "PileLifts$Search" "moveCount" "I" "PileLifts") U := h.1 ("PileLifts", 122, "PileLifts$Search", "moveCount", "I", "PileLifts") (List.mem_of_getElem? (i := 12) rfl)
theorem nf_P_129 {U : State} (h : nnC U) : va_Nw (.fieldLinkNest "PileLifts" 129 "PileLifts$Search" "movedPiece" "[I" "PileLifts") U := h.1 ("PileLifts", 129, "PileLifts$Search", "movedPiece", "[I", "PileLifts") (List.mem_of_getElem? (i := 13) rfl)
theorem nf_P_132 {U : State} (h : nnC U) : va_Nw (.fieldLinkNest "PileLifts" 132 "PileLifts$Search" "movedTo" "[I" "PileLifts") U := h.1 ("PileLifts", 132, "PileLifts$Search", "movedTo", "[I", "PileLifts") (List.mem_of_getElem? (i := 14) rfl)
theorem nf_P_166 {U : State} (h : nnC U) : va_Nw (.fieldLinkNest "PileLifts" 166 "PileLifts$Wagons" "count" "I" "PileLifts") U := h.1 ("PileLifts", 166, "PileLifts$Wagons", "count", "I", "PileLifts") (List.mem_of_getElem? (i := 15) rfl)
theorem nf_P_153 {U : State} (h : nnC U) : va_Nw (.fieldLinkNest "PileLifts" 153 "PileLifts$Wagons" "wagonOf" "[I" "PileLifts") U := h.1 ("PileLifts", 153, "PileLifts$Wagons", "wagonOf", "[I", "PileLifts") (List.mem_of_getElem? (i := 16) rfl)
theorem nm_P_9 {U : State} (h : nnC U) : va_Nw (.methodLinkNest "PileLifts" 9 y_Y_init "PileLifts") U := h.2 ("PileLifts", 9, y_Y_init, "PileLifts") (List.mem_of_getElem? (i := 0) rfl)
theorem nm_P_18 {U : State} (h : nnC U) : va_Nw (.methodLinkNest "PileLifts" 18 y_S_init "PileLifts") U := h.2 ("PileLifts", 18, y_S_init, "PileLifts") (List.mem_of_getElem? (i := 1) rfl)
theorem nm_P_25 {U : State} (h : nnC U) : va_Nw (.methodLinkNest "PileLifts" 25 y_W_init "PileLifts") U := h.2 ("PileLifts", 25, y_W_init, "PileLifts") (List.mem_of_getElem? (i := 2) rfl)
theorem nm_P_99 {U : State} (h : nnC U) : va_Nw (.methodLinkNest "PileLifts" 99 y_Y_countBlocking "PileLifts") U := h.2 ("PileLifts", 99, y_Y_countBlocking, "PileLifts") (List.mem_of_getElem? (i := 3) rfl)
theorem nm_P_41 {U : State} (h : nnC U) : va_Nw (.methodLinkNest "PileLifts" 41 y_Y_clear "PileLifts") U := h.2 ("PileLifts", 41, y_Y_clear, "PileLifts") (List.mem_of_getElem? (i := 4) rfl)
theorem nm_P_45 {U : State} (h : nnC U) : va_Nw (.methodLinkNest "PileLifts" 45 y_W_clear "PileLifts") U := h.2 ("PileLifts", 45, y_W_clear, "PileLifts") (List.mem_of_getElem? (i := 5) rfl)
theorem nm_P_47 {U : State} (h : nnC U) : va_Nw (.methodLinkNest "PileLifts" 47 y_S_forget "PileLifts") U := h.2 ("PileLifts", 47, y_S_forget, "PileLifts") (List.mem_of_getElem? (i := 6) rfl)
theorem nm_P_50 {U : State} (h : nnC U) : va_Nw (.methodLinkNest "PileLifts" 50 y_Y_hasPile "PileLifts") U := h.2 ("PileLifts", 50, y_Y_hasPile, "PileLifts") (List.mem_of_getElem? (i := 7) rfl)
theorem nm_Y_47 {U : State} (h : nnC U) : va_Nw (.methodLinkNest "PileLifts$Yard" 47 y_P_isWithin "PileLifts") U := h.2 ("PileLifts$Yard", 47, y_P_isWithin, "PileLifts") (List.mem_of_getElem? (i := 8) rfl)
theorem nm_P_65 {U : State} (h : nnC U) : va_Nw (.methodLinkNest "PileLifts" 65 y_Y_takes "PileLifts") U := h.2 ("PileLifts", 65, y_Y_takes, "PileLifts") (List.mem_of_getElem? (i := 9) rfl)
theorem nm_P_74 {U : State} (h : nnC U) : va_Nw (.methodLinkNest "PileLifts" 74 y_Y_add "PileLifts") U := h.2 ("PileLifts", 74, y_Y_add, "PileLifts") (List.mem_of_getElem? (i := 10) rfl)
theorem nm_P_188 {U : State} (h : nnC U) : va_Nw (.methodLinkNest "PileLifts" 188 y_Y_hasPiece "PileLifts") U := h.2 ("PileLifts", 188, y_Y_hasPiece, "PileLifts") (List.mem_of_getElem? (i := 11) rfl)
theorem nm_P_82 {U : State} (h : nnC U) : va_Nw (.methodLinkNest "PileLifts" 82 y_Y_isGone "PileLifts") U := h.2 ("PileLifts", 82, y_Y_isGone, "PileLifts") (List.mem_of_getElem? (i := 12) rfl)
theorem nm_P_106 {U : State} (h : nnC U) : va_Nw (.methodLinkNest "PileLifts" 106 y_S_findBest "PileLifts") U := h.2 ("PileLifts", 106, y_S_findBest, "PileLifts") (List.mem_of_getElem? (i := 13) rfl)
theorem nm_S_44 {U : State} (h : nnC U) : va_Nw (.methodLinkNest "PileLifts$Search" 44 y_Y_countBlocking "PileLifts") U := h.2 ("PileLifts$Search", 44, y_Y_countBlocking, "PileLifts") (List.mem_of_getElem? (i := 14) rfl)
theorem nm_S_68 {U : State} (h : nnC U) : va_Nw (.methodLinkNest "PileLifts$Search" 68 y_Y_nextWanted "PileLifts") U := h.2 ("PileLifts$Search", 68, y_Y_nextWanted, "PileLifts") (List.mem_of_getElem? (i := 15) rfl)
theorem nm_S_111 {U : State} (h : nnC U) : va_Nw (.methodLinkNest "PileLifts$Search" 111 y_Y_isTop "PileLifts") U := h.2 ("PileLifts$Search", 111, y_Y_isTop, "PileLifts") (List.mem_of_getElem? (i := 16) rfl)
theorem nm_S_114 {U : State} (h : nnC U) : va_Nw (.methodLinkNest "PileLifts$Search" 114 y_Y_takeOff "PileLifts") U := h.2 ("PileLifts$Search", 114, y_Y_takeOff, "PileLifts") (List.mem_of_getElem? (i := 17) rfl)
theorem nm_S_78 {U : State} (h : nnC U) : va_Nw (.methodLinkNest "PileLifts$Search" 78 y_Y_topOf "PileLifts") U := h.2 ("PileLifts$Search", 78, y_Y_topOf, "PileLifts") (List.mem_of_getElem? (i := 18) rfl)
theorem nm_S_82 {U : State} (h : nnC U) : va_Nw (.methodLinkNest "PileLifts$Search" 82 y_Y_isBlocking "PileLifts") U := h.2 ("PileLifts$Search", 82, y_Y_isBlocking, "PileLifts") (List.mem_of_getElem? (i := 19) rfl)
theorem nm_S_89 {U : State} (h : nnC U) : va_Nw (.methodLinkNest "PileLifts$Search" 89 y_Y_takes "PileLifts") U := h.2 ("PileLifts$Search", 89, y_Y_takes, "PileLifts") (List.mem_of_getElem? (i := 20) rfl)
theorem nm_S_93 {U : State} (h : nnC U) : va_Nw (.methodLinkNest "PileLifts$Search" 93 y_Y_wouldBlockOn "PileLifts") U := h.2 ("PileLifts$Search", 93, y_Y_wouldBlockOn, "PileLifts") (List.mem_of_getElem? (i := 21) rfl)
theorem nm_S_107 {U : State} (h : nnC U) : va_Nw (.methodLinkNest "PileLifts$Search" 107 y_Y_relift "PileLifts") U := h.2 ("PileLifts$Search", 107, y_Y_relift, "PileLifts") (List.mem_of_getElem? (i := 22) rfl)
theorem nm_S_118 {U : State} (h : nnC U) : va_Nw (.methodLinkNest "PileLifts$Search" 118 y_Y_layOn "PileLifts") U := h.2 ("PileLifts$Search", 118, y_Y_layOn, "PileLifts") (List.mem_of_getElem? (i := 23) rfl)
theorem nm_P_137 {U : State} (h : nnC U) : va_Nw (.methodLinkNest "PileLifts" 137 y_S_doMoves "PileLifts") U := h.2 ("PileLifts", 137, y_S_doMoves, "PileLifts") (List.mem_of_getElem? (i := 24) rfl)
theorem nm_P_141 {U : State} (h : nnC U) : va_Nw (.methodLinkNest "PileLifts" 141 y_Y_countGone "PileLifts") U := h.2 ("PileLifts", 141, y_Y_countGone, "PileLifts") (List.mem_of_getElem? (i := 25) rfl)
theorem nm_P_150 {U : State} (h : nnC U) : va_Nw (.methodLinkNest "PileLifts" 150 y_Y_isBlocking "PileLifts") U := h.2 ("PileLifts", 150, y_Y_isBlocking, "PileLifts") (List.mem_of_getElem? (i := 26) rfl)
theorem nm_P_160 {U : State} (h : nnC U) : va_Nw (.methodLinkNest "PileLifts" 160 y_Y_tidyOnce "PileLifts") U := h.2 ("PileLifts", 160, y_Y_tidyOnce, "PileLifts") (List.mem_of_getElem? (i := 27) rfl)
theorem nm_P_171 {U : State} (h : nnC U) : va_Nw (.methodLinkNest "PileLifts" 171 y_W_add "PileLifts") U := h.2 ("PileLifts", 171, y_W_add, "PileLifts") (List.mem_of_getElem? (i := 28) rfl)
theorem nm_P_179 {U : State} (h : nnC U) : va_Nw (.methodLinkNest "PileLifts" 179 y_W_firstWithRoom "PileLifts") U := h.2 ("PileLifts", 179, y_W_firstWithRoom, "PileLifts") (List.mem_of_getElem? (i := 29) rfl)
theorem nm_P_184 {U : State} (h : nnC U) : va_Nw (.methodLinkNest "PileLifts" 184 y_W_fill "PileLifts") U := h.2 ("PileLifts", 184, y_W_fill, "PileLifts") (List.mem_of_getElem? (i := 30) rfl)
def nnM (_ : State) : Prop := True
theorem nnM_warm (s U : State) (_ : s.WarmedH U.vm) (_ : nnM s) : nnM U := trivial
theorem nnM_same (u U : State) (_ : u.vm = U.vm) (_ : nnM u) : nnM U := trivial
end
section
theorem d_P_init_0 : decode b_P_init 0 = .ok (.aload_n 0, 1) := by decide +kernel
theorem d_P_init_1 : decode b_P_init 1 = .ok (.invokespecial 1, 3) := by decide +kernel
theorem d_P_init_4 : decode b_P_init 4 = .ok (.aload_n 0, 1) := by decide +kernel
theorem d_P_init_5 : decode b_P_init 5 = .ok (.new 7, 3) := by decide +kernel
theorem d_P_init_8 : decode b_P_init 8 = .ok (.dup, 1) := by decide +kernel
theorem d_P_init_9 : decode b_P_init 9 = .ok (.invokespecial 9, 3) := by decide +kernel
theorem d_P_init_12 : decode b_P_init 12 = .ok (.putfield 10, 3) := by decide +kernel
theorem d_P_init_15 : decode b_P_init 15 = .ok (.aload_n 0, 1) := by decide +kernel
theorem d_P_init_16 : decode b_P_init 16 = .ok (.new 16, 3) := by decide +kernel
theorem d_P_init_19 : decode b_P_init 19 = .ok (.dup, 1) := by decide +kernel
theorem d_P_init_20 : decode b_P_init 20 = .ok (.invokespecial 18, 3) := by decide +kernel
theorem d_P_init_23 : decode b_P_init 23 = .ok (.putfield 19, 3) := by decide +kernel
theorem d_P_init_26 : decode b_P_init 26 = .ok (.aload_n 0, 1) := by decide +kernel
theorem d_P_init_27 : decode b_P_init 27 = .ok (.new 23, 3) := by decide +kernel
theorem d_P_init_30 : decode b_P_init 30 = .ok (.dup, 1) := by decide +kernel
theorem d_P_init_31 : decode b_P_init 31 = .ok (.invokespecial 25, 3) := by decide +kernel
theorem d_P_init_34 : decode b_P_init 34 = .ok (.putfield 26, 3) := by decide +kernel
theorem d_P_init_37 : decode b_P_init 37 = .ok (.return_, 1) := by decide +kernel
theorem d_P_piles_0 : decode b_P_piles 0 = .ok (.iload_n 1, 1) := by decide +kernel
theorem d_P_piles_1 : decode b_P_piles 1 = .ok (.iconst 1, 1) := by decide +kernel
theorem d_P_piles_2 : decode b_P_piles 2 = .ok (.iconst 4, 1) := by decide +kernel
theorem d_P_piles_3 : decode b_P_piles 3 = .ok (.invokestatic 30, 3) := by decide +kernel
theorem d_P_piles_6 : decode b_P_piles 6 = .ok (.ifCond .eq 12, 3) := by decide +kernel
theorem d_P_piles_9 : decode b_P_piles 9 = .ok (.iload_n 2, 1) := by decide +kernel
theorem d_P_piles_10 : decode b_P_piles 10 = .ok (.iconst 1, 1) := by decide +kernel
theorem d_P_piles_11 : decode b_P_piles 11 = .ok (.iconst 5, 1) := by decide +kernel
theorem d_P_piles_12 : decode b_P_piles 12 = .ok (.invokestatic 30, 3) := by decide +kernel
theorem d_P_piles_15 : decode b_P_piles 15 = .ok (.ifCond .ne 13, 3) := by decide +kernel
theorem d_P_piles_18 : decode b_P_piles 18 = .ok (.new 34, 3) := by decide +kernel
theorem d_P_piles_21 : decode b_P_piles 21 = .ok (.dup, 1) := by decide +kernel
theorem d_P_piles_22 : decode b_P_piles 22 = .ok (.ldc 36, 2) := by decide +kernel
theorem d_P_piles_24 : decode b_P_piles 24 = .ok (.invokespecial 38, 3) := by decide +kernel
theorem d_P_piles_27 : decode b_P_piles 27 = .ok (.athrow, 1) := by decide +kernel
theorem d_P_piles_28 : decode b_P_piles 28 = .ok (.aload_n 0, 1) := by decide +kernel
theorem d_P_piles_29 : decode b_P_piles 29 = .ok (.getfield 10, 3) := by decide +kernel
theorem d_P_piles_32 : decode b_P_piles 32 = .ok (.iload_n 1, 1) := by decide +kernel
theorem d_P_piles_33 : decode b_P_piles 33 = .ok (.iload_n 2, 1) := by decide +kernel
theorem d_P_piles_34 : decode b_P_piles 34 = .ok (.invokevirtual 41, 3) := by decide +kernel
theorem d_P_piles_37 : decode b_P_piles 37 = .ok (.aload_n 0, 1) := by decide +kernel
theorem d_P_piles_38 : decode b_P_piles 38 = .ok (.getfield 26, 3) := by decide +kernel
theorem d_P_piles_41 : decode b_P_piles 41 = .ok (.invokevirtual 45, 3) := by decide +kernel
theorem d_P_piles_44 : decode b_P_piles 44 = .ok (.aload_n 0, 1) := by decide +kernel
theorem d_P_piles_45 : decode b_P_piles 45 = .ok (.getfield 19, 3) := by decide +kernel
theorem d_P_piles_48 : decode b_P_piles 48 = .ok (.invokevirtual 47, 3) := by decide +kernel
theorem d_P_piles_51 : decode b_P_piles 51 = .ok (.return_, 1) := by decide +kernel
theorem d_P_put_0 : decode b_P_put 0 = .ok (.aload_n 0, 1) := by decide +kernel
theorem d_P_put_1 : decode b_P_put 1 = .ok (.getfield 10, 3) := by decide +kernel
theorem d_P_put_4 : decode b_P_put 4 = .ok (.iload_n 1, 1) := by decide +kernel
theorem d_P_put_5 : decode b_P_put 5 = .ok (.invokevirtual 50, 3) := by decide +kernel
theorem d_P_put_8 : decode b_P_put 8 = .ok (.ifCond .ne 13, 3) := by decide +kernel
theorem d_P_put_11 : decode b_P_put 11 = .ok (.new 54, 3) := by decide +kernel
theorem d_P_put_14 : decode b_P_put 14 = .ok (.dup, 1) := by decide +kernel
theorem d_P_put_15 : decode b_P_put 15 = .ok (.ldc 56, 2) := by decide +kernel
theorem d_P_put_17 : decode b_P_put 17 = .ok (.invokespecial 58, 3) := by decide +kernel
theorem d_P_put_20 : decode b_P_put 20 = .ok (.athrow, 1) := by decide +kernel
theorem d_P_put_21 : decode b_P_put 21 = .ok (.iload_n 2, 1) := by decide +kernel
theorem d_P_put_22 : decode b_P_put 22 = .ok (.iconst 1, 1) := by decide +kernel
theorem d_P_put_23 : decode b_P_put 23 = .ok (.sipush 1000, 3) := by decide +kernel
theorem d_P_put_26 : decode b_P_put 26 = .ok (.invokestatic 30, 3) := by decide +kernel
theorem d_P_put_29 : decode b_P_put 29 = .ok (.ifCond .eq 13, 3) := by decide +kernel
theorem d_P_put_32 : decode b_P_put 32 = .ok (.iload_n 3, 1) := by decide +kernel
theorem d_P_put_33 : decode b_P_put 33 = .ok (.iconst 1, 1) := by decide +kernel
theorem d_P_put_34 : decode b_P_put 34 = .ok (.bipush 100, 2) := by decide +kernel
theorem d_P_put_36 : decode b_P_put 36 = .ok (.invokestatic 30, 3) := by decide +kernel
theorem d_P_put_39 : decode b_P_put 39 = .ok (.ifCond .ne 13, 3) := by decide +kernel
theorem d_P_put_42 : decode b_P_put 42 = .ok (.new 34, 3) := by decide +kernel
theorem d_P_put_45 : decode b_P_put 45 = .ok (.dup, 1) := by decide +kernel
theorem d_P_put_46 : decode b_P_put 46 = .ok (.ldc 59, 2) := by decide +kernel
theorem d_P_put_48 : decode b_P_put 48 = .ok (.invokespecial 38, 3) := by decide +kernel
theorem d_P_put_51 : decode b_P_put 51 = .ok (.athrow, 1) := by decide +kernel
theorem d_P_put_52 : decode b_P_put 52 = .ok (.aload_n 0, 1) := by decide +kernel
theorem d_P_put_53 : decode b_P_put 53 = .ok (.getfield 10, 3) := by decide +kernel
theorem d_P_put_56 : decode b_P_put 56 = .ok (.getfield 61, 3) := by decide +kernel
theorem d_P_put_59 : decode b_P_put 59 = .ok (.bipush 10, 2) := by decide +kernel
theorem d_P_put_61 : decode b_P_put 61 = .ok (.if_icmp .ge 15, 3) := by decide +kernel
theorem d_P_put_64 : decode b_P_put 64 = .ok (.aload_n 0, 1) := by decide +kernel
theorem d_P_put_65 : decode b_P_put 65 = .ok (.getfield 10, 3) := by decide +kernel
theorem d_P_put_68 : decode b_P_put 68 = .ok (.iload_n 1, 1) := by decide +kernel
theorem d_P_put_69 : decode b_P_put 69 = .ok (.iload_n 3, 1) := by decide +kernel
theorem d_P_put_70 : decode b_P_put 70 = .ok (.invokevirtual 65, 3) := by decide +kernel
theorem d_P_put_73 : decode b_P_put 73 = .ok (.ifCond .ne 13, 3) := by decide +kernel
theorem d_P_put_76 : decode b_P_put 76 = .ok (.new 69, 3) := by decide +kernel
theorem d_P_put_79 : decode b_P_put 79 = .ok (.dup, 1) := by decide +kernel
theorem d_P_put_80 : decode b_P_put 80 = .ok (.ldc 71, 2) := by decide +kernel
theorem d_P_put_82 : decode b_P_put 82 = .ok (.invokespecial 73, 3) := by decide +kernel
theorem d_P_put_85 : decode b_P_put 85 = .ok (.athrow, 1) := by decide +kernel
theorem d_P_put_86 : decode b_P_put 86 = .ok (.aload_n 0, 1) := by decide +kernel
theorem d_P_put_87 : decode b_P_put 87 = .ok (.getfield 19, 3) := by decide +kernel
theorem d_P_put_90 : decode b_P_put 90 = .ok (.invokevirtual 47, 3) := by decide +kernel
theorem d_P_put_93 : decode b_P_put 93 = .ok (.aload_n 0, 1) := by decide +kernel
theorem d_P_put_94 : decode b_P_put 94 = .ok (.getfield 10, 3) := by decide +kernel
theorem d_P_put_97 : decode b_P_put 97 = .ok (.iload_n 1, 1) := by decide +kernel
theorem d_P_put_98 : decode b_P_put 98 = .ok (.iload_n 2, 1) := by decide +kernel
theorem d_P_put_99 : decode b_P_put 99 = .ok (.iload_n 3, 1) := by decide +kernel
theorem d_P_put_100 : decode b_P_put 100 = .ok (.invokevirtual 74, 3) := by decide +kernel
theorem d_P_put_103 : decode b_P_put 103 = .ok (.ireturn, 1) := by decide +kernel
theorem d_P_want_0 : decode b_P_want 0 = .ok (.aload_n 0, 1) := by decide +kernel
theorem d_P_want_1 : decode b_P_want 1 = .ok (.iload_n 1, 1) := by decide +kernel
theorem d_P_want_2 : decode b_P_want 2 = .ok (.invokevirtual 78, 3) := by decide +kernel
theorem d_P_want_5 : decode b_P_want 5 = .ok (.aload_n 0, 1) := by decide +kernel
theorem d_P_want_6 : decode b_P_want 6 = .ok (.getfield 10, 3) := by decide +kernel
theorem d_P_want_9 : decode b_P_want 9 = .ok (.iload_n 1, 1) := by decide +kernel
theorem d_P_want_10 : decode b_P_want 10 = .ok (.invokevirtual 82, 3) := by decide +kernel
theorem d_P_want_13 : decode b_P_want 13 = .ok (.ifCond .eq 13, 3) := by decide +kernel
theorem d_P_want_16 : decode b_P_want 16 = .ok (.new 85, 3) := by decide +kernel
theorem d_P_want_19 : decode b_P_want 19 = .ok (.dup, 1) := by decide +kernel
theorem d_P_want_20 : decode b_P_want 20 = .ok (.ldc 87, 2) := by decide +kernel
theorem d_P_want_22 : decode b_P_want 22 = .ok (.invokespecial 89, 3) := by decide +kernel
theorem d_P_want_25 : decode b_P_want 25 = .ok (.athrow, 1) := by decide +kernel
theorem d_P_want_26 : decode b_P_want 26 = .ok (.iload_n 2, 1) := by decide +kernel
theorem d_P_want_27 : decode b_P_want 27 = .ok (.iconst (-1), 1) := by decide +kernel
theorem d_P_want_28 : decode b_P_want 28 = .ok (.bipush 99, 2) := by decide +kernel
theorem d_P_want_30 : decode b_P_want 30 = .ok (.invokestatic 30, 3) := by decide +kernel
theorem d_P_want_33 : decode b_P_want 33 = .ok (.ifCond .ne 13, 3) := by decide +kernel
theorem d_P_want_36 : decode b_P_want 36 = .ok (.new 34, 3) := by decide +kernel
theorem d_P_want_39 : decode b_P_want 39 = .ok (.dup, 1) := by decide +kernel
theorem d_P_want_40 : decode b_P_want 40 = .ok (.ldc 90, 2) := by decide +kernel
theorem d_P_want_42 : decode b_P_want 42 = .ok (.invokespecial 38, 3) := by decide +kernel
theorem d_P_want_45 : decode b_P_want 45 = .ok (.athrow, 1) := by decide +kernel
theorem d_P_want_46 : decode b_P_want 46 = .ok (.aload_n 0, 1) := by decide +kernel
theorem d_P_want_47 : decode b_P_want 47 = .ok (.getfield 19, 3) := by decide +kernel
theorem d_P_want_50 : decode b_P_want 50 = .ok (.invokevirtual 47, 3) := by decide +kernel
theorem d_P_want_53 : decode b_P_want 53 = .ok (.aload_n 0, 1) := by decide +kernel
theorem d_P_want_54 : decode b_P_want 54 = .ok (.getfield 10, 3) := by decide +kernel
theorem d_P_want_57 : decode b_P_want 57 = .ok (.getfield 92, 3) := by decide +kernel
theorem d_P_want_60 : decode b_P_want 60 = .ok (.iload_n 1, 1) := by decide +kernel
theorem d_P_want_61 : decode b_P_want 61 = .ok (.iload_n 2, 1) := by decide +kernel
theorem d_P_want_62 : decode b_P_want 62 = .ok (.iastore, 1) := by decide +kernel
theorem d_P_want_63 : decode b_P_want 63 = .ok (.return_, 1) := by decide +kernel
theorem d_P_may_0 : decode b_P_may 0 = .ok (.aload_n 0, 1) := by decide +kernel
theorem d_P_may_1 : decode b_P_may 1 = .ok (.iload_n 1, 1) := by decide +kernel
theorem d_P_may_2 : decode b_P_may 2 = .ok (.invokevirtual 78, 3) := by decide +kernel
theorem d_P_may_5 : decode b_P_may 5 = .ok (.aload_n 0, 1) := by decide +kernel
theorem d_P_may_6 : decode b_P_may 6 = .ok (.iload_n 2, 1) := by decide +kernel
theorem d_P_may_7 : decode b_P_may 7 = .ok (.invokevirtual 78, 3) := by decide +kernel
theorem d_P_may_10 : decode b_P_may 10 = .ok (.aload_n 0, 1) := by decide +kernel
theorem d_P_may_11 : decode b_P_may 11 = .ok (.getfield 10, 3) := by decide +kernel
theorem d_P_may_14 : decode b_P_may 14 = .ok (.getfield 96, 3) := by decide +kernel
theorem d_P_may_17 : decode b_P_may 17 = .ok (.iload_n 1, 1) := by decide +kernel
theorem d_P_may_18 : decode b_P_may 18 = .ok (.iaload, 1) := by decide +kernel
theorem d_P_may_19 : decode b_P_may 19 = .ok (.aload_n 0, 1) := by decide +kernel
theorem d_P_may_20 : decode b_P_may 20 = .ok (.getfield 10, 3) := by decide +kernel
theorem d_P_may_23 : decode b_P_may 23 = .ok (.getfield 96, 3) := by decide +kernel
theorem d_P_may_26 : decode b_P_may 26 = .ok (.iload_n 2, 1) := by decide +kernel
theorem d_P_may_27 : decode b_P_may 27 = .ok (.iaload, 1) := by decide +kernel
theorem d_P_may_28 : decode b_P_may 28 = .ok (.if_icmp .lt 7, 3) := by decide +kernel
theorem d_P_may_31 : decode b_P_may 31 = .ok (.iconst 1, 1) := by decide +kernel
theorem d_P_may_32 : decode b_P_may 32 = .ok (.goto 4, 3) := by decide +kernel
theorem d_P_may_35 : decode b_P_may 35 = .ok (.iconst 0, 1) := by decide +kernel
theorem d_P_may_36 : decode b_P_may 36 = .ok (.ireturn, 1) := by decide +kernel
theorem d_P_bound_0 : decode b_P_bound 0 = .ok (.aload_n 0, 1) := by decide +kernel
theorem d_P_bound_1 : decode b_P_bound 1 = .ok (.getfield 10, 3) := by decide +kernel
theorem d_P_bound_4 : decode b_P_bound 4 = .ok (.invokevirtual 99, 3) := by decide +kernel
theorem d_P_bound_7 : decode b_P_bound 7 = .ok (.ireturn, 1) := by decide +kernel
theorem d_P_run_0 : decode b_P_run 0 = .ok (.iload_n 1, 1) := by decide +kernel
theorem d_P_run_1 : decode b_P_run 1 = .ok (.iconst 0, 1) := by decide +kernel
theorem d_P_run_2 : decode b_P_run 2 = .ok (.ldc 103, 2) := by decide +kernel
theorem d_P_run_4 : decode b_P_run 4 = .ok (.invokestatic 30, 3) := by decide +kernel
theorem d_P_run_7 : decode b_P_run 7 = .ok (.ifCond .ne 13, 3) := by decide +kernel
theorem d_P_run_10 : decode b_P_run 10 = .ok (.new 34, 3) := by decide +kernel
theorem d_P_run_13 : decode b_P_run 13 = .ok (.dup, 1) := by decide +kernel
theorem d_P_run_14 : decode b_P_run 14 = .ok (.ldc 104, 2) := by decide +kernel
theorem d_P_run_16 : decode b_P_run 16 = .ok (.invokespecial 38, 3) := by decide +kernel
theorem d_P_run_19 : decode b_P_run 19 = .ok (.athrow, 1) := by decide +kernel
theorem d_P_run_20 : decode b_P_run 20 = .ok (.aload_n 0, 1) := by decide +kernel
theorem d_P_run_21 : decode b_P_run 21 = .ok (.getfield 19, 3) := by decide +kernel
theorem d_P_run_24 : decode b_P_run 24 = .ok (.aload_n 0, 1) := by decide +kernel
theorem d_P_run_25 : decode b_P_run 25 = .ok (.getfield 10, 3) := by decide +kernel
theorem d_P_run_28 : decode b_P_run 28 = .ok (.iload_n 1, 1) := by decide +kernel
theorem d_P_run_29 : decode b_P_run 29 = .ok (.invokevirtual 106, 3) := by decide +kernel
theorem d_P_run_32 : decode b_P_run 32 = .ok (.ireturn, 1) := by decide +kernel
theorem d_P_proved_0 : decode b_P_proved 0 = .ok (.aload_n 0, 1) := by decide +kernel
theorem d_P_proved_1 : decode b_P_proved 1 = .ok (.getfield 19, 3) := by decide +kernel
theorem d_P_proved_4 : decode b_P_proved 4 = .ok (.getfield 110, 3) := by decide +kernel
theorem d_P_proved_7 : decode b_P_proved 7 = .ok (.ifCond .ne 13, 3) := by decide +kernel
theorem d_P_proved_10 : decode b_P_proved 10 = .ok (.new 85, 3) := by decide +kernel
theorem d_P_proved_13 : decode b_P_proved 13 = .ok (.dup, 1) := by decide +kernel
theorem d_P_proved_14 : decode b_P_proved 14 = .ok (.ldc 114, 2) := by decide +kernel
theorem d_P_proved_16 : decode b_P_proved 16 = .ok (.invokespecial 89, 3) := by decide +kernel
theorem d_P_proved_19 : decode b_P_proved 19 = .ok (.athrow, 1) := by decide +kernel
theorem d_P_proved_20 : decode b_P_proved 20 = .ok (.aload_n 0, 1) := by decide +kernel
theorem d_P_proved_21 : decode b_P_proved 21 = .ok (.getfield 19, 3) := by decide +kernel
theorem d_P_proved_24 : decode b_P_proved 24 = .ok (.getfield 116, 3) := by decide +kernel
theorem d_P_proved_27 : decode b_P_proved 27 = .ok (.ireturn, 1) := by decide +kernel
theorem d_P_moves_0 : decode b_P_moves 0 = .ok (.aload_n 0, 1) := by decide +kernel
theorem d_P_moves_1 : decode b_P_moves 1 = .ok (.invokevirtual 119, 3) := by decide +kernel
theorem d_P_moves_4 : decode b_P_moves 4 = .ok (.aload_n 0, 1) := by decide +kernel
theorem d_P_moves_5 : decode b_P_moves 5 = .ok (.getfield 19, 3) := by decide +kernel
theorem d_P_moves_8 : decode b_P_moves 8 = .ok (.getfield 122, 3) := by decide +kernel
theorem d_P_moves_11 : decode b_P_moves 11 = .ok (.ireturn, 1) := by decide +kernel
theorem d_P_move_0 : decode b_P_move 0 = .ok (.iload_n 2, 1) := by decide +kernel
theorem d_P_move_1 : decode b_P_move 1 = .ok (.iconst 0, 1) := by decide +kernel
theorem d_P_move_2 : decode b_P_move 2 = .ok (.iconst 1, 1) := by decide +kernel
theorem d_P_move_3 : decode b_P_move 3 = .ok (.invokestatic 30, 3) := by decide +kernel
theorem d_P_move_6 : decode b_P_move 6 = .ok (.ifCond .ne 13, 3) := by decide +kernel
theorem d_P_move_9 : decode b_P_move 9 = .ok (.new 54, 3) := by decide +kernel
theorem d_P_move_12 : decode b_P_move 12 = .ok (.dup, 1) := by decide +kernel
theorem d_P_move_13 : decode b_P_move 13 = .ok (.ldc 125, 2) := by decide +kernel
theorem d_P_move_15 : decode b_P_move 15 = .ok (.invokespecial 58, 3) := by decide +kernel
theorem d_P_move_18 : decode b_P_move 18 = .ok (.athrow, 1) := by decide +kernel
theorem d_P_move_19 : decode b_P_move 19 = .ok (.aload_n 0, 1) := by decide +kernel
theorem d_P_move_20 : decode b_P_move 20 = .ok (.invokevirtual 119, 3) := by decide +kernel
theorem d_P_move_23 : decode b_P_move 23 = .ok (.iload_n 1, 1) := by decide +kernel
theorem d_P_move_24 : decode b_P_move 24 = .ok (.iconst 0, 1) := by decide +kernel
theorem d_P_move_25 : decode b_P_move 25 = .ok (.aload_n 0, 1) := by decide +kernel
theorem d_P_move_26 : decode b_P_move 26 = .ok (.getfield 19, 3) := by decide +kernel
theorem d_P_move_29 : decode b_P_move 29 = .ok (.getfield 122, 3) := by decide +kernel
theorem d_P_move_32 : decode b_P_move 32 = .ok (.iconst 1, 1) := by decide +kernel
theorem d_P_move_33 : decode b_P_move 33 = .ok (.isub, 1) := by decide +kernel
theorem d_P_move_34 : decode b_P_move 34 = .ok (.invokestatic 30, 3) := by decide +kernel
theorem d_P_move_37 : decode b_P_move 37 = .ok (.ifCond .ne 13, 3) := by decide +kernel
theorem d_P_move_40 : decode b_P_move 40 = .ok (.new 34, 3) := by decide +kernel
theorem d_P_move_43 : decode b_P_move 43 = .ok (.dup, 1) := by decide +kernel
theorem d_P_move_44 : decode b_P_move 44 = .ok (.ldc 127, 2) := by decide +kernel
theorem d_P_move_46 : decode b_P_move 46 = .ok (.invokespecial 38, 3) := by decide +kernel
theorem d_P_move_49 : decode b_P_move 49 = .ok (.athrow, 1) := by decide +kernel
theorem d_P_move_50 : decode b_P_move 50 = .ok (.iload_n 2, 1) := by decide +kernel
theorem d_P_move_51 : decode b_P_move 51 = .ok (.ifCond .ne 15, 3) := by decide +kernel
theorem d_P_move_54 : decode b_P_move 54 = .ok (.aload_n 0, 1) := by decide +kernel
theorem d_P_move_55 : decode b_P_move 55 = .ok (.getfield 19, 3) := by decide +kernel
theorem d_P_move_58 : decode b_P_move 58 = .ok (.getfield 129, 3) := by decide +kernel
theorem d_P_move_61 : decode b_P_move 61 = .ok (.iload_n 1, 1) := by decide +kernel
theorem d_P_move_62 : decode b_P_move 62 = .ok (.iaload, 1) := by decide +kernel
theorem d_P_move_63 : decode b_P_move 63 = .ok (.goto 12, 3) := by decide +kernel
theorem d_P_move_66 : decode b_P_move 66 = .ok (.aload_n 0, 1) := by decide +kernel
theorem d_P_move_67 : decode b_P_move 67 = .ok (.getfield 19, 3) := by decide +kernel
theorem d_P_move_70 : decode b_P_move 70 = .ok (.getfield 132, 3) := by decide +kernel
theorem d_P_move_73 : decode b_P_move 73 = .ok (.iload_n 1, 1) := by decide +kernel
theorem d_P_move_74 : decode b_P_move 74 = .ok (.iaload, 1) := by decide +kernel
theorem d_P_move_75 : decode b_P_move 75 = .ok (.ireturn, 1) := by decide +kernel
theorem d_P_replay_0 : decode b_P_replay 0 = .ok (.aload_n 0, 1) := by decide +kernel
theorem d_P_replay_1 : decode b_P_replay 1 = .ok (.invokevirtual 119, 3) := by decide +kernel
theorem d_P_replay_4 : decode b_P_replay 4 = .ok (.iload_n 1, 1) := by decide +kernel
theorem d_P_replay_5 : decode b_P_replay 5 = .ok (.iconst 0, 1) := by decide +kernel
theorem d_P_replay_6 : decode b_P_replay 6 = .ok (.aload_n 0, 1) := by decide +kernel
theorem d_P_replay_7 : decode b_P_replay 7 = .ok (.getfield 19, 3) := by decide +kernel
theorem d_P_replay_10 : decode b_P_replay 10 = .ok (.getfield 122, 3) := by decide +kernel
theorem d_P_replay_13 : decode b_P_replay 13 = .ok (.invokestatic 30, 3) := by decide +kernel
theorem d_P_replay_16 : decode b_P_replay 16 = .ok (.ifCond .ne 13, 3) := by decide +kernel
theorem d_P_replay_19 : decode b_P_replay 19 = .ok (.new 34, 3) := by decide +kernel
theorem d_P_replay_22 : decode b_P_replay 22 = .ok (.dup, 1) := by decide +kernel
theorem d_P_replay_23 : decode b_P_replay 23 = .ok (.ldc 135, 2) := by decide +kernel
theorem d_P_replay_25 : decode b_P_replay 25 = .ok (.invokespecial 38, 3) := by decide +kernel
theorem d_P_replay_28 : decode b_P_replay 28 = .ok (.athrow, 1) := by decide +kernel
theorem d_P_replay_29 : decode b_P_replay 29 = .ok (.aload_n 0, 1) := by decide +kernel
theorem d_P_replay_30 : decode b_P_replay 30 = .ok (.getfield 19, 3) := by decide +kernel
theorem d_P_replay_33 : decode b_P_replay 33 = .ok (.aload_n 0, 1) := by decide +kernel
theorem d_P_replay_34 : decode b_P_replay 34 = .ok (.getfield 10, 3) := by decide +kernel
theorem d_P_replay_37 : decode b_P_replay 37 = .ok (.iload_n 1, 1) := by decide +kernel
theorem d_P_replay_38 : decode b_P_replay 38 = .ok (.invokevirtual 137, 3) := by decide +kernel
theorem d_P_replay_41 : decode b_P_replay 41 = .ok (.aload_n 0, 1) := by decide +kernel
theorem d_P_replay_42 : decode b_P_replay 42 = .ok (.getfield 19, 3) := by decide +kernel
theorem d_P_replay_45 : decode b_P_replay 45 = .ok (.invokevirtual 47, 3) := by decide +kernel
theorem d_P_replay_48 : decode b_P_replay 48 = .ok (.aload_n 0, 1) := by decide +kernel
theorem d_P_replay_49 : decode b_P_replay 49 = .ok (.getfield 10, 3) := by decide +kernel
theorem d_P_replay_52 : decode b_P_replay 52 = .ok (.invokevirtual 141, 3) := by decide +kernel
theorem d_P_replay_55 : decode b_P_replay 55 = .ok (.ireturn, 1) := by decide +kernel
theorem d_P_at_0 : decode b_P_at 0 = .ok (.aload_n 0, 1) := by decide +kernel
theorem d_P_at_1 : decode b_P_at 1 = .ok (.iload_n 1, 1) := by decide +kernel
theorem d_P_at_2 : decode b_P_at 2 = .ok (.invokevirtual 78, 3) := by decide +kernel
theorem d_P_at_5 : decode b_P_at 5 = .ok (.iload_n 2, 1) := by decide +kernel
theorem d_P_at_6 : decode b_P_at 6 = .ok (.tableswitch 91 0 4 #[34, 44, 54, 71, 81], 34) := by decide +kernel
theorem d_P_at_40 : decode b_P_at 40 = .ok (.aload_n 0, 1) := by decide +kernel
theorem d_P_at_41 : decode b_P_at 41 = .ok (.getfield 10, 3) := by decide +kernel
theorem d_P_at_44 : decode b_P_at 44 = .ok (.getfield 144, 3) := by decide +kernel
theorem d_P_at_47 : decode b_P_at 47 = .ok (.iload_n 1, 1) := by decide +kernel
theorem d_P_at_48 : decode b_P_at 48 = .ok (.iaload, 1) := by decide +kernel
theorem d_P_at_49 : decode b_P_at 49 = .ok (.ireturn, 1) := by decide +kernel
theorem d_P_at_50 : decode b_P_at 50 = .ok (.aload_n 0, 1) := by decide +kernel
theorem d_P_at_51 : decode b_P_at 51 = .ok (.getfield 10, 3) := by decide +kernel
theorem d_P_at_54 : decode b_P_at 54 = .ok (.getfield 147, 3) := by decide +kernel
theorem d_P_at_57 : decode b_P_at 57 = .ok (.iload_n 1, 1) := by decide +kernel
theorem d_P_at_58 : decode b_P_at 58 = .ok (.iaload, 1) := by decide +kernel
theorem d_P_at_59 : decode b_P_at 59 = .ok (.ireturn, 1) := by decide +kernel
theorem d_P_at_60 : decode b_P_at 60 = .ok (.aload_n 0, 1) := by decide +kernel
theorem d_P_at_61 : decode b_P_at 61 = .ok (.getfield 10, 3) := by decide +kernel
theorem d_P_at_64 : decode b_P_at 64 = .ok (.iload_n 1, 1) := by decide +kernel
theorem d_P_at_65 : decode b_P_at 65 = .ok (.invokevirtual 150, 3) := by decide +kernel
theorem d_P_at_68 : decode b_P_at 68 = .ok (.ifCond .eq 7, 3) := by decide +kernel
theorem d_P_at_71 : decode b_P_at 71 = .ok (.iconst 1, 1) := by decide +kernel
theorem d_P_at_72 : decode b_P_at 72 = .ok (.goto 4, 3) := by decide +kernel
theorem d_P_at_75 : decode b_P_at 75 = .ok (.iconst 0, 1) := by decide +kernel
theorem d_P_at_76 : decode b_P_at 76 = .ok (.ireturn, 1) := by decide +kernel
theorem d_P_at_77 : decode b_P_at 77 = .ok (.aload_n 0, 1) := by decide +kernel
theorem d_P_at_78 : decode b_P_at 78 = .ok (.getfield 10, 3) := by decide +kernel
theorem d_P_at_81 : decode b_P_at 81 = .ok (.getfield 92, 3) := by decide +kernel
theorem d_P_at_84 : decode b_P_at 84 = .ok (.iload_n 1, 1) := by decide +kernel
theorem d_P_at_85 : decode b_P_at 85 = .ok (.iaload, 1) := by decide +kernel
theorem d_P_at_86 : decode b_P_at 86 = .ok (.ireturn, 1) := by decide +kernel
theorem d_P_at_87 : decode b_P_at 87 = .ok (.aload_n 0, 1) := by decide +kernel
theorem d_P_at_88 : decode b_P_at 88 = .ok (.getfield 26, 3) := by decide +kernel
theorem d_P_at_91 : decode b_P_at 91 = .ok (.getfield 153, 3) := by decide +kernel
theorem d_P_at_94 : decode b_P_at 94 = .ok (.iload_n 1, 1) := by decide +kernel
theorem d_P_at_95 : decode b_P_at 95 = .ok (.iaload, 1) := by decide +kernel
theorem d_P_at_96 : decode b_P_at 96 = .ok (.ireturn, 1) := by decide +kernel
theorem d_P_at_97 : decode b_P_at 97 = .ok (.new 54, 3) := by decide +kernel
theorem d_P_at_100 : decode b_P_at 100 = .ok (.dup, 1) := by decide +kernel
theorem d_P_at_101 : decode b_P_at 101 = .ok (.ldc 156, 2) := by decide +kernel
theorem d_P_at_103 : decode b_P_at 103 = .ok (.invokespecial 58, 3) := by decide +kernel
theorem d_P_at_106 : decode b_P_at 106 = .ok (.athrow, 1) := by decide +kernel
theorem d_P_tidy_0 : decode b_P_tidy 0 = .ok (.iload_n 1, 1) := by decide +kernel
theorem d_P_tidy_1 : decode b_P_tidy 1 = .ok (.iconst 0, 1) := by decide +kernel
theorem d_P_tidy_2 : decode b_P_tidy 2 = .ok (.bipush 20, 2) := by decide +kernel
theorem d_P_tidy_4 : decode b_P_tidy 4 = .ok (.invokestatic 30, 3) := by decide +kernel
theorem d_P_tidy_7 : decode b_P_tidy 7 = .ok (.ifCond .ne 13, 3) := by decide +kernel
theorem d_P_tidy_10 : decode b_P_tidy 10 = .ok (.new 34, 3) := by decide +kernel
theorem d_P_tidy_13 : decode b_P_tidy 13 = .ok (.dup, 1) := by decide +kernel
theorem d_P_tidy_14 : decode b_P_tidy 14 = .ok (.ldc 158, 2) := by decide +kernel
theorem d_P_tidy_16 : decode b_P_tidy 16 = .ok (.invokespecial 38, 3) := by decide +kernel
theorem d_P_tidy_19 : decode b_P_tidy 19 = .ok (.athrow, 1) := by decide +kernel
theorem d_P_tidy_20 : decode b_P_tidy 20 = .ok (.iconst 0, 1) := by decide +kernel
theorem d_P_tidy_21 : decode b_P_tidy 21 = .ok (.istore_n 2, 1) := by decide +kernel
theorem d_P_tidy_22 : decode b_P_tidy 22 = .ok (.iload_n 2, 1) := by decide +kernel
theorem d_P_tidy_23 : decode b_P_tidy 23 = .ok (.iload_n 1, 1) := by decide +kernel
theorem d_P_tidy_24 : decode b_P_tidy 24 = .ok (.if_icmp .ge 19, 3) := by decide +kernel
theorem d_P_tidy_27 : decode b_P_tidy 27 = .ok (.aload_n 0, 1) := by decide +kernel
theorem d_P_tidy_28 : decode b_P_tidy 28 = .ok (.getfield 10, 3) := by decide +kernel
theorem d_P_tidy_31 : decode b_P_tidy 31 = .ok (.invokevirtual 160, 3) := by decide +kernel
theorem d_P_tidy_34 : decode b_P_tidy 34 = .ok (.ifCond .eq 9, 3) := by decide +kernel
theorem d_P_tidy_37 : decode b_P_tidy 37 = .ok (.iinc 2 1, 3) := by decide +kernel
theorem d_P_tidy_40 : decode b_P_tidy 40 = .ok (.goto (-18), 3) := by decide +kernel
theorem d_P_tidy_43 : decode b_P_tidy 43 = .ok (.iload_n 2, 1) := by decide +kernel
theorem d_P_tidy_44 : decode b_P_tidy 44 = .ok (.ifCond .le 10, 3) := by decide +kernel
theorem d_P_tidy_47 : decode b_P_tidy 47 = .ok (.aload_n 0, 1) := by decide +kernel
theorem d_P_tidy_48 : decode b_P_tidy 48 = .ok (.getfield 19, 3) := by decide +kernel
theorem d_P_tidy_51 : decode b_P_tidy 51 = .ok (.invokevirtual 47, 3) := by decide +kernel
theorem d_P_tidy_54 : decode b_P_tidy 54 = .ok (.iload_n 2, 1) := by decide +kernel
theorem d_P_tidy_55 : decode b_P_tidy 55 = .ok (.ireturn, 1) := by decide +kernel
theorem d_P_wagon_0 : decode b_P_wagon 0 = .ok (.iload_n 1, 1) := by decide +kernel
theorem d_P_wagon_1 : decode b_P_wagon 1 = .ok (.iconst 1, 1) := by decide +kernel
theorem d_P_wagon_2 : decode b_P_wagon 2 = .ok (.sipush 5000, 3) := by decide +kernel
theorem d_P_wagon_5 : decode b_P_wagon 5 = .ok (.invokestatic 30, 3) := by decide +kernel
theorem d_P_wagon_8 : decode b_P_wagon 8 = .ok (.ifCond .ne 13, 3) := by decide +kernel
theorem d_P_wagon_11 : decode b_P_wagon 11 = .ok (.new 34, 3) := by decide +kernel
theorem d_P_wagon_14 : decode b_P_wagon 14 = .ok (.dup, 1) := by decide +kernel
theorem d_P_wagon_15 : decode b_P_wagon 15 = .ok (.ldc 164, 2) := by decide +kernel
theorem d_P_wagon_17 : decode b_P_wagon 17 = .ok (.invokespecial 38, 3) := by decide +kernel
theorem d_P_wagon_20 : decode b_P_wagon 20 = .ok (.athrow, 1) := by decide +kernel
theorem d_P_wagon_21 : decode b_P_wagon 21 = .ok (.aload_n 0, 1) := by decide +kernel
theorem d_P_wagon_22 : decode b_P_wagon 22 = .ok (.getfield 26, 3) := by decide +kernel
theorem d_P_wagon_25 : decode b_P_wagon 25 = .ok (.getfield 166, 3) := by decide +kernel
theorem d_P_wagon_28 : decode b_P_wagon 28 = .ok (.iconst 4, 1) := by decide +kernel
theorem d_P_wagon_29 : decode b_P_wagon 29 = .ok (.if_icmp .lt 13, 3) := by decide +kernel
theorem d_P_wagon_32 : decode b_P_wagon 32 = .ok (.new 69, 3) := by decide +kernel
theorem d_P_wagon_35 : decode b_P_wagon 35 = .ok (.dup, 1) := by decide +kernel
theorem d_P_wagon_36 : decode b_P_wagon 36 = .ok (.ldc 169, 2) := by decide +kernel
theorem d_P_wagon_38 : decode b_P_wagon 38 = .ok (.invokespecial 73, 3) := by decide +kernel
theorem d_P_wagon_41 : decode b_P_wagon 41 = .ok (.athrow, 1) := by decide +kernel
theorem d_P_wagon_42 : decode b_P_wagon 42 = .ok (.aload_n 0, 1) := by decide +kernel
theorem d_P_wagon_43 : decode b_P_wagon 43 = .ok (.getfield 26, 3) := by decide +kernel
theorem d_P_wagon_46 : decode b_P_wagon 46 = .ok (.iload_n 1, 1) := by decide +kernel
theorem d_P_wagon_47 : decode b_P_wagon 47 = .ok (.invokevirtual 171, 3) := by decide +kernel
theorem d_P_wagon_50 : decode b_P_wagon 50 = .ok (.ireturn, 1) := by decide +kernel
theorem d_P_load_0 : decode b_P_load 0 = .ok (.aload_n 0, 1) := by decide +kernel
theorem d_P_load_1 : decode b_P_load 1 = .ok (.iload_n 1, 1) := by decide +kernel
theorem d_P_load_2 : decode b_P_load 2 = .ok (.invokevirtual 78, 3) := by decide +kernel
theorem d_P_load_5 : decode b_P_load 5 = .ok (.aload_n 0, 1) := by decide +kernel
theorem d_P_load_6 : decode b_P_load 6 = .ok (.getfield 10, 3) := by decide +kernel
theorem d_P_load_9 : decode b_P_load 9 = .ok (.iload_n 1, 1) := by decide +kernel
theorem d_P_load_10 : decode b_P_load 10 = .ok (.invokevirtual 82, 3) := by decide +kernel
theorem d_P_load_13 : decode b_P_load 13 = .ok (.ifCond .eq 16, 3) := by decide +kernel
theorem d_P_load_16 : decode b_P_load 16 = .ok (.aload_n 0, 1) := by decide +kernel
theorem d_P_load_17 : decode b_P_load 17 = .ok (.getfield 26, 3) := by decide +kernel
theorem d_P_load_20 : decode b_P_load 20 = .ok (.getfield 153, 3) := by decide +kernel
theorem d_P_load_23 : decode b_P_load 23 = .ok (.iload_n 1, 1) := by decide +kernel
theorem d_P_load_24 : decode b_P_load 24 = .ok (.iaload, 1) := by decide +kernel
theorem d_P_load_25 : decode b_P_load 25 = .ok (.iconst (-1), 1) := by decide +kernel
theorem d_P_load_26 : decode b_P_load 26 = .ok (.if_icmp .eq 13, 3) := by decide +kernel
theorem d_P_load_29 : decode b_P_load 29 = .ok (.new 85, 3) := by decide +kernel
theorem d_P_load_32 : decode b_P_load 32 = .ok (.dup, 1) := by decide +kernel
theorem d_P_load_33 : decode b_P_load 33 = .ok (.ldc 174, 2) := by decide +kernel
theorem d_P_load_35 : decode b_P_load 35 = .ok (.invokespecial 89, 3) := by decide +kernel
theorem d_P_load_38 : decode b_P_load 38 = .ok (.athrow, 1) := by decide +kernel
theorem d_P_load_39 : decode b_P_load 39 = .ok (.aload_n 0, 1) := by decide +kernel
theorem d_P_load_40 : decode b_P_load 40 = .ok (.getfield 26, 3) := by decide +kernel
theorem d_P_load_43 : decode b_P_load 43 = .ok (.aload_n 0, 1) := by decide +kernel
theorem d_P_load_44 : decode b_P_load 44 = .ok (.getfield 10, 3) := by decide +kernel
theorem d_P_load_47 : decode b_P_load 47 = .ok (.getfield 176, 3) := by decide +kernel
theorem d_P_load_50 : decode b_P_load 50 = .ok (.iload_n 1, 1) := by decide +kernel
theorem d_P_load_51 : decode b_P_load 51 = .ok (.iaload, 1) := by decide +kernel
theorem d_P_load_52 : decode b_P_load 52 = .ok (.invokevirtual 179, 3) := by decide +kernel
theorem d_P_load_55 : decode b_P_load 55 = .ok (.istore_n 2, 1) := by decide +kernel
theorem d_P_load_56 : decode b_P_load 56 = .ok (.iload_n 2, 1) := by decide +kernel
theorem d_P_load_57 : decode b_P_load 57 = .ok (.iconst (-1), 1) := by decide +kernel
theorem d_P_load_58 : decode b_P_load 58 = .ok (.if_icmp .ne 13, 3) := by decide +kernel
theorem d_P_load_61 : decode b_P_load 61 = .ok (.new 69, 3) := by decide +kernel
theorem d_P_load_64 : decode b_P_load 64 = .ok (.dup, 1) := by decide +kernel
theorem d_P_load_65 : decode b_P_load 65 = .ok (.ldc 182, 2) := by decide +kernel
theorem d_P_load_67 : decode b_P_load 67 = .ok (.invokespecial 73, 3) := by decide +kernel
theorem d_P_load_70 : decode b_P_load 70 = .ok (.athrow, 1) := by decide +kernel
theorem d_P_load_71 : decode b_P_load 71 = .ok (.aload_n 0, 1) := by decide +kernel
theorem d_P_load_72 : decode b_P_load 72 = .ok (.getfield 26, 3) := by decide +kernel
theorem d_P_load_75 : decode b_P_load 75 = .ok (.iload_n 2, 1) := by decide +kernel
theorem d_P_load_76 : decode b_P_load 76 = .ok (.iload_n 1, 1) := by decide +kernel
theorem d_P_load_77 : decode b_P_load 77 = .ok (.aload_n 0, 1) := by decide +kernel
theorem d_P_load_78 : decode b_P_load 78 = .ok (.getfield 10, 3) := by decide +kernel
theorem d_P_load_81 : decode b_P_load 81 = .ok (.getfield 176, 3) := by decide +kernel
theorem d_P_load_84 : decode b_P_load 84 = .ok (.iload_n 1, 1) := by decide +kernel
theorem d_P_load_85 : decode b_P_load 85 = .ok (.iaload, 1) := by decide +kernel
theorem d_P_load_86 : decode b_P_load 86 = .ok (.invokevirtual 184, 3) := by decide +kernel
theorem d_P_load_89 : decode b_P_load 89 = .ok (.iload_n 2, 1) := by decide +kernel
theorem d_P_load_90 : decode b_P_load 90 = .ok (.ireturn, 1) := by decide +kernel
theorem d_P_checkPiece_0 : decode b_P_checkPiece 0 = .ok (.aload_n 0, 1) := by decide +kernel
theorem d_P_checkPiece_1 : decode b_P_checkPiece 1 = .ok (.getfield 10, 3) := by decide +kernel
theorem d_P_checkPiece_4 : decode b_P_checkPiece 4 = .ok (.iload_n 1, 1) := by decide +kernel
theorem d_P_checkPiece_5 : decode b_P_checkPiece 5 = .ok (.invokevirtual 188, 3) := by decide +kernel
theorem d_P_checkPiece_8 : decode b_P_checkPiece 8 = .ok (.ifCond .ne 13, 3) := by decide +kernel
theorem d_P_checkPiece_11 : decode b_P_checkPiece 11 = .ok (.new 54, 3) := by decide +kernel
theorem d_P_checkPiece_14 : decode b_P_checkPiece 14 = .ok (.dup, 1) := by decide +kernel
theorem d_P_checkPiece_15 : decode b_P_checkPiece 15 = .ok (.ldc 191, 2) := by decide +kernel
theorem d_P_checkPiece_17 : decode b_P_checkPiece 17 = .ok (.invokespecial 58, 3) := by decide +kernel
theorem d_P_checkPiece_20 : decode b_P_checkPiece 20 = .ok (.athrow, 1) := by decide +kernel
theorem d_P_checkPiece_21 : decode b_P_checkPiece 21 = .ok (.return_, 1) := by decide +kernel
theorem d_P_checkPlan_0 : decode b_P_checkPlan 0 = .ok (.aload_n 0, 1) := by decide +kernel
theorem d_P_checkPlan_1 : decode b_P_checkPlan 1 = .ok (.getfield 19, 3) := by decide +kernel
theorem d_P_checkPlan_4 : decode b_P_checkPlan 4 = .ok (.getfield 193, 3) := by decide +kernel
theorem d_P_checkPlan_7 : decode b_P_checkPlan 7 = .ok (.ifCond .ne 13, 3) := by decide +kernel
theorem d_P_checkPlan_10 : decode b_P_checkPlan 10 = .ok (.new 85, 3) := by decide +kernel
theorem d_P_checkPlan_13 : decode b_P_checkPlan 13 = .ok (.dup, 1) := by decide +kernel
theorem d_P_checkPlan_14 : decode b_P_checkPlan 14 = .ok (.ldc 196, 2) := by decide +kernel
theorem d_P_checkPlan_16 : decode b_P_checkPlan 16 = .ok (.invokespecial 89, 3) := by decide +kernel
theorem d_P_checkPlan_19 : decode b_P_checkPlan 19 = .ok (.athrow, 1) := by decide +kernel
theorem d_P_checkPlan_20 : decode b_P_checkPlan 20 = .ok (.return_, 1) := by decide +kernel
theorem d_P_isWithin_0 : decode b_P_isWithin 0 = .ok (.iload_n 0, 1) := by decide +kernel
theorem d_P_isWithin_1 : decode b_P_isWithin 1 = .ok (.iload_n 1, 1) := by decide +kernel
theorem d_P_isWithin_2 : decode b_P_isWithin 2 = .ok (.if_icmp .lt 12, 3) := by decide +kernel
theorem d_P_isWithin_5 : decode b_P_isWithin 5 = .ok (.iload_n 0, 1) := by decide +kernel
theorem d_P_isWithin_6 : decode b_P_isWithin 6 = .ok (.iload_n 2, 1) := by decide +kernel
theorem d_P_isWithin_7 : decode b_P_isWithin 7 = .ok (.if_icmp .gt 7, 3) := by decide +kernel
theorem d_P_isWithin_10 : decode b_P_isWithin 10 = .ok (.iconst 1, 1) := by decide +kernel
theorem d_P_isWithin_11 : decode b_P_isWithin 11 = .ok (.goto 4, 3) := by decide +kernel
theorem d_P_isWithin_14 : decode b_P_isWithin 14 = .ok (.iconst 0, 1) := by decide +kernel
theorem d_P_isWithin_15 : decode b_P_isWithin 15 = .ok (.ireturn, 1) := by decide +kernel
theorem d_M_init_0 : decode b_M_init 0 = .ok (.aload_n 0, 1) := by decide +kernel
theorem d_M_init_1 : decode b_M_init 1 = .ok (.invokespecial 1, 3) := by decide +kernel
theorem d_M_init_4 : decode b_M_init 4 = .ok (.aload_n 0, 1) := by decide +kernel
theorem d_M_init_5 : decode b_M_init 5 = .ok (.iconst 2, 1) := by decide +kernel
theorem d_M_init_6 : decode b_M_init 6 = .ok (.putfield 7, 3) := by decide +kernel
theorem d_M_init_9 : decode b_M_init 9 = .ok (.aload_n 0, 1) := by decide +kernel
theorem d_M_init_10 : decode b_M_init 10 = .ok (.iconst 4, 1) := by decide +kernel
theorem d_M_init_11 : decode b_M_init 11 = .ok (.putfield 13, 3) := by decide +kernel
theorem d_M_init_14 : decode b_M_init 14 = .ok (.aload_n 0, 1) := by decide +kernel
theorem d_M_init_15 : decode b_M_init 15 = .ok (.bipush 10, 2) := by decide +kernel
theorem d_M_init_17 : decode b_M_init 17 = .ok (.newarray .int, 2) := by decide +kernel
theorem d_M_init_19 : decode b_M_init 19 = .ok (.putfield 16, 3) := by decide +kernel
theorem d_M_init_22 : decode b_M_init 22 = .ok (.aload_n 0, 1) := by decide +kernel
theorem d_M_init_23 : decode b_M_init 23 = .ok (.bipush 10, 2) := by decide +kernel
theorem d_M_init_25 : decode b_M_init 25 = .ok (.newarray .int, 2) := by decide +kernel
theorem d_M_init_27 : decode b_M_init 27 = .ok (.putfield 20, 3) := by decide +kernel
theorem d_M_init_30 : decode b_M_init 30 = .ok (.aload_n 0, 1) := by decide +kernel
theorem d_M_init_31 : decode b_M_init 31 = .ok (.bipush 10, 2) := by decide +kernel
theorem d_M_init_33 : decode b_M_init 33 = .ok (.newarray .int, 2) := by decide +kernel
theorem d_M_init_35 : decode b_M_init 35 = .ok (.putfield 23, 3) := by decide +kernel
theorem d_M_init_38 : decode b_M_init 38 = .ok (.aload_n 0, 1) := by decide +kernel
theorem d_M_init_39 : decode b_M_init 39 = .ok (.bipush 10, 2) := by decide +kernel
theorem d_M_init_41 : decode b_M_init 41 = .ok (.newarray .int, 2) := by decide +kernel
theorem d_M_init_43 : decode b_M_init 43 = .ok (.putfield 26, 3) := by decide +kernel
theorem d_M_init_46 : decode b_M_init 46 = .ok (.aload_n 0, 1) := by decide +kernel
theorem d_M_init_47 : decode b_M_init 47 = .ok (.sipush 300, 3) := by decide +kernel
theorem d_M_init_50 : decode b_M_init 50 = .ok (.newarray .int, 2) := by decide +kernel
theorem d_M_init_52 : decode b_M_init 52 = .ok (.putfield 29, 3) := by decide +kernel
theorem d_M_init_55 : decode b_M_init 55 = .ok (.aload_n 0, 1) := by decide +kernel
theorem d_M_init_56 : decode b_M_init 56 = .ok (.bipush 60, 2) := by decide +kernel
theorem d_M_init_58 : decode b_M_init 58 = .ok (.newarray .int, 2) := by decide +kernel
theorem d_M_init_60 : decode b_M_init 60 = .ok (.putfield 32, 3) := by decide +kernel
theorem d_M_init_63 : decode b_M_init 63 = .ok (.aload_n 0, 1) := by decide +kernel
theorem d_M_init_64 : decode b_M_init 64 = .ok (.bipush 15, 2) := by decide +kernel
theorem d_M_init_66 : decode b_M_init 66 = .ok (.newarray .int, 2) := by decide +kernel
theorem d_M_init_68 : decode b_M_init 68 = .ok (.putfield 35, 3) := by decide +kernel
theorem d_M_init_71 : decode b_M_init 71 = .ok (.aload_n 0, 1) := by decide +kernel
theorem d_M_init_72 : decode b_M_init 72 = .ok (.bipush 15, 2) := by decide +kernel
theorem d_M_init_74 : decode b_M_init 74 = .ok (.newarray .int, 2) := by decide +kernel
theorem d_M_init_76 : decode b_M_init 76 = .ok (.putfield 38, 3) := by decide +kernel
theorem d_M_init_79 : decode b_M_init 79 = .ok (.aload_n 0, 1) := by decide +kernel
theorem d_M_init_80 : decode b_M_init 80 = .ok (.bipush 40, 2) := by decide +kernel
theorem d_M_init_82 : decode b_M_init 82 = .ok (.newarray .int, 2) := by decide +kernel
theorem d_M_init_84 : decode b_M_init 84 = .ok (.putfield 41, 3) := by decide +kernel
theorem d_M_init_87 : decode b_M_init 87 = .ok (.aload_n 0, 1) := by decide +kernel
theorem d_M_init_88 : decode b_M_init 88 = .ok (.bipush 40, 2) := by decide +kernel
theorem d_M_init_90 : decode b_M_init 90 = .ok (.newarray .int, 2) := by decide +kernel
theorem d_M_init_92 : decode b_M_init 92 = .ok (.putfield 44, 3) := by decide +kernel
theorem d_M_init_95 : decode b_M_init 95 = .ok (.aload_n 0, 1) := by decide +kernel
theorem d_M_init_96 : decode b_M_init 96 = .ok (.bipush 15, 2) := by decide +kernel
theorem d_M_init_98 : decode b_M_init 98 = .ok (.newarray .int, 2) := by decide +kernel
theorem d_M_init_100 : decode b_M_init 100 = .ok (.putfield 47, 3) := by decide +kernel
theorem d_M_init_103 : decode b_M_init 103 = .ok (.aload_n 0, 1) := by decide +kernel
theorem d_M_init_104 : decode b_M_init 104 = .ok (.iconst 4, 1) := by decide +kernel
theorem d_M_init_105 : decode b_M_init 105 = .ok (.newarray .int, 2) := by decide +kernel
theorem d_M_init_107 : decode b_M_init 107 = .ok (.putfield 50, 3) := by decide +kernel
theorem d_M_init_110 : decode b_M_init 110 = .ok (.aload_n 0, 1) := by decide +kernel
theorem d_M_init_111 : decode b_M_init 111 = .ok (.iconst 4, 1) := by decide +kernel
theorem d_M_init_112 : decode b_M_init 112 = .ok (.newarray .int, 2) := by decide +kernel
theorem d_M_init_114 : decode b_M_init 114 = .ok (.putfield 53, 3) := by decide +kernel
theorem d_M_init_117 : decode b_M_init 117 = .ok (.return_, 1) := by decide +kernel
theorem d_M_thrown_0 : decode b_M_thrown 0 = .ok (.aload_n 0, 1) := by decide +kernel
theorem d_M_thrown_1 : decode b_M_thrown 1 = .ok (.getfield 56, 3) := by decide +kernel
theorem d_M_thrown_4 : decode b_M_thrown 4 = .ok (.ireturn, 1) := by decide +kernel
theorem d_M_in_0 : decode b_M_in 0 = .ok (.iload_n 0, 1) := by decide +kernel
theorem d_M_in_1 : decode b_M_in 1 = .ok (.iload_n 1, 1) := by decide +kernel
theorem d_M_in_2 : decode b_M_in 2 = .ok (.if_icmp .lt 12, 3) := by decide +kernel
end
section
theorem d_M_in_5 : decode b_M_in 5 = .ok (.iload_n 0, 1) := by decide +kernel
theorem d_M_in_6 : decode b_M_in 6 = .ok (.iload_n 2, 1) := by decide +kernel
theorem d_M_in_7 : decode b_M_in 7 = .ok (.if_icmp .gt 7, 3) := by decide +kernel
theorem d_M_in_10 : decode b_M_in 10 = .ok (.iconst 1, 1) := by decide +kernel
theorem d_M_in_11 : decode b_M_in 11 = .ok (.goto 4, 3) := by decide +kernel
theorem d_M_in_14 : decode b_M_in 14 = .ok (.iconst 0, 1) := by decide +kernel
theorem d_M_in_15 : decode b_M_in 15 = .ok (.ireturn, 1) := by decide +kernel
theorem d_M_goes_0 : decode b_M_goes 0 = .ok (.aload_n 0, 1) := by decide +kernel
theorem d_M_goes_1 : decode b_M_goes 1 = .ok (.iload_n 1, 1) := by decide +kernel
theorem d_M_goes_2 : decode b_M_goes 2 = .ok (.ifCond .ne 7, 3) := by decide +kernel
theorem d_M_goes_5 : decode b_M_goes 5 = .ok (.iconst 1, 1) := by decide +kernel
theorem d_M_goes_6 : decode b_M_goes 6 = .ok (.goto 20, 3) := by decide +kernel
theorem d_M_goes_9 : decode b_M_goes 9 = .ok (.iload_n 2, 1) := by decide +kernel
theorem d_M_goes_10 : decode b_M_goes 10 = .ok (.ifCond .ne 7, 3) := by decide +kernel
theorem d_M_goes_13 : decode b_M_goes 13 = .ok (.iconst 2, 1) := by decide +kernel
theorem d_M_goes_14 : decode b_M_goes 14 = .ok (.goto 12, 3) := by decide +kernel
theorem d_M_goes_17 : decode b_M_goes 17 = .ok (.iload_n 3, 1) := by decide +kernel
theorem d_M_goes_18 : decode b_M_goes 18 = .ok (.ifCond .ne 7, 3) := by decide +kernel
theorem d_M_goes_21 : decode b_M_goes 21 = .ok (.iconst 3, 1) := by decide +kernel
theorem d_M_goes_22 : decode b_M_goes 22 = .ok (.goto 4, 3) := by decide +kernel
theorem d_M_goes_25 : decode b_M_goes 25 = .ok (.iconst 0, 1) := by decide +kernel
theorem d_M_goes_26 : decode b_M_goes 26 = .ok (.putfield 56, 3) := by decide +kernel
theorem d_M_goes_29 : decode b_M_goes 29 = .ok (.aload_n 0, 1) := by decide +kernel
theorem d_M_goes_30 : decode b_M_goes 30 = .ok (.getfield 56, 3) := by decide +kernel
theorem d_M_goes_33 : decode b_M_goes 33 = .ok (.ifCond .ne 7, 3) := by decide +kernel
theorem d_M_goes_36 : decode b_M_goes 36 = .ok (.iconst 1, 1) := by decide +kernel
theorem d_M_goes_37 : decode b_M_goes 37 = .ok (.goto 4, 3) := by decide +kernel
theorem d_M_goes_40 : decode b_M_goes 40 = .ok (.iconst 0, 1) := by decide +kernel
theorem d_M_goes_41 : decode b_M_goes 41 = .ok (.ireturn, 1) := by decide +kernel
theorem d_M_isPiece_0 : decode b_M_isPiece 0 = .ok (.iload_n 1, 1) := by decide +kernel
theorem d_M_isPiece_1 : decode b_M_isPiece 1 = .ok (.iconst 0, 1) := by decide +kernel
theorem d_M_isPiece_2 : decode b_M_isPiece 2 = .ok (.aload_n 0, 1) := by decide +kernel
theorem d_M_isPiece_3 : decode b_M_isPiece 3 = .ok (.getfield 59, 3) := by decide +kernel
theorem d_M_isPiece_6 : decode b_M_isPiece 6 = .ok (.iconst 1, 1) := by decide +kernel
theorem d_M_isPiece_7 : decode b_M_isPiece 7 = .ok (.isub, 1) := by decide +kernel
theorem d_M_isPiece_8 : decode b_M_isPiece 8 = .ok (.invokestatic 62, 3) := by decide +kernel
theorem d_M_isPiece_11 : decode b_M_isPiece 11 = .ok (.ireturn, 1) := by decide +kernel
theorem d_M_changed_0 : decode b_M_changed 0 = .ok (.aload_n 0, 1) := by decide +kernel
theorem d_M_changed_1 : decode b_M_changed 1 = .ok (.iconst 0, 1) := by decide +kernel
theorem d_M_changed_2 : decode b_M_changed 2 = .ok (.putfield 66, 3) := by decide +kernel
theorem d_M_changed_5 : decode b_M_changed 5 = .ok (.aload_n 0, 1) := by decide +kernel
theorem d_M_changed_6 : decode b_M_changed 6 = .ok (.iconst 0, 1) := by decide +kernel
theorem d_M_changed_7 : decode b_M_changed 7 = .ok (.putfield 70, 3) := by decide +kernel
theorem d_M_changed_10 : decode b_M_changed 10 = .ok (.return_, 1) := by decide +kernel
theorem d_M_cell_0 : decode b_M_cell 0 = .ok (.bipush 20, 2) := by decide +kernel
theorem d_M_cell_2 : decode b_M_cell 2 = .ok (.iload_n 0, 1) := by decide +kernel
theorem d_M_cell_3 : decode b_M_cell 3 = .ok (.imul, 1) := by decide +kernel
theorem d_M_cell_4 : decode b_M_cell 4 = .ok (.iconst 5, 1) := by decide +kernel
theorem d_M_cell_5 : decode b_M_cell 5 = .ok (.iload_n 1, 1) := by decide +kernel
theorem d_M_cell_6 : decode b_M_cell 6 = .ok (.imul, 1) := by decide +kernel
theorem d_M_cell_7 : decode b_M_cell 7 = .ok (.iadd, 1) := by decide +kernel
theorem d_M_cell_8 : decode b_M_cell 8 = .ok (.iload_n 2, 1) := by decide +kernel
theorem d_M_cell_9 : decode b_M_cell 9 = .ok (.iadd, 1) := by decide +kernel
theorem d_M_cell_10 : decode b_M_cell 10 = .ok (.ireturn, 1) := by decide +kernel
theorem d_M_piles_0 : decode b_M_piles 0 = .ok (.aload_n 0, 1) := by decide +kernel
theorem d_M_piles_1 : decode b_M_piles 1 = .ok (.iload_n 1, 1) := by decide +kernel
theorem d_M_piles_2 : decode b_M_piles 2 = .ok (.iconst 1, 1) := by decide +kernel
theorem d_M_piles_3 : decode b_M_piles 3 = .ok (.iconst 4, 1) := by decide +kernel
theorem d_M_piles_4 : decode b_M_piles 4 = .ok (.invokestatic 62, 3) := by decide +kernel
theorem d_M_piles_7 : decode b_M_piles 7 = .ok (.ifCond .eq 16, 3) := by decide +kernel
theorem d_M_piles_10 : decode b_M_piles 10 = .ok (.iload_n 2, 1) := by decide +kernel
theorem d_M_piles_11 : decode b_M_piles 11 = .ok (.iconst 1, 1) := by decide +kernel
theorem d_M_piles_12 : decode b_M_piles 12 = .ok (.iconst 5, 1) := by decide +kernel
theorem d_M_piles_13 : decode b_M_piles 13 = .ok (.invokestatic 62, 3) := by decide +kernel
theorem d_M_piles_16 : decode b_M_piles 16 = .ok (.ifCond .eq 7, 3) := by decide +kernel
theorem d_M_piles_19 : decode b_M_piles 19 = .ok (.iconst 1, 1) := by decide +kernel
theorem d_M_piles_20 : decode b_M_piles 20 = .ok (.goto 4, 3) := by decide +kernel
theorem d_M_piles_23 : decode b_M_piles 23 = .ok (.iconst 0, 1) := by decide +kernel
theorem d_M_piles_24 : decode b_M_piles 24 = .ok (.iconst 1, 1) := by decide +kernel
theorem d_M_piles_25 : decode b_M_piles 25 = .ok (.iconst 1, 1) := by decide +kernel
theorem d_M_piles_26 : decode b_M_piles 26 = .ok (.invokevirtual 73, 3) := by decide +kernel
theorem d_M_piles_29 : decode b_M_piles 29 = .ok (.ifCond .ne 4, 3) := by decide +kernel
theorem d_M_piles_32 : decode b_M_piles 32 = .ok (.return_, 1) := by decide +kernel
theorem d_M_piles_33 : decode b_M_piles 33 = .ok (.aload_n 0, 1) := by decide +kernel
theorem d_M_piles_34 : decode b_M_piles 34 = .ok (.iload_n 1, 1) := by decide +kernel
theorem d_M_piles_35 : decode b_M_piles 35 = .ok (.putfield 7, 3) := by decide +kernel
theorem d_M_piles_38 : decode b_M_piles 38 = .ok (.aload_n 0, 1) := by decide +kernel
theorem d_M_piles_39 : decode b_M_piles 39 = .ok (.iload_n 2, 1) := by decide +kernel
theorem d_M_piles_40 : decode b_M_piles 40 = .ok (.putfield 13, 3) := by decide +kernel
theorem d_M_piles_43 : decode b_M_piles 43 = .ok (.aload_n 0, 1) := by decide +kernel
theorem d_M_piles_44 : decode b_M_piles 44 = .ok (.iconst 0, 1) := by decide +kernel
theorem d_M_piles_45 : decode b_M_piles 45 = .ok (.putfield 59, 3) := by decide +kernel
theorem d_M_piles_48 : decode b_M_piles 48 = .ok (.aload_n 0, 1) := by decide +kernel
theorem d_M_piles_49 : decode b_M_piles 49 = .ok (.iconst 0, 1) := by decide +kernel
theorem d_M_piles_50 : decode b_M_piles 50 = .ok (.putfield 77, 3) := by decide +kernel
theorem d_M_piles_53 : decode b_M_piles 53 = .ok (.aload_n 0, 1) := by decide +kernel
theorem d_M_piles_54 : decode b_M_piles 54 = .ok (.getfield 35, 3) := by decide +kernel
theorem d_M_piles_57 : decode b_M_piles 57 = .ok (.iconst 0, 1) := by decide +kernel
theorem d_M_piles_58 : decode b_M_piles 58 = .ok (.iconst 0, 1) := by decide +kernel
theorem d_M_piles_59 : decode b_M_piles 59 = .ok (.iastore, 1) := by decide +kernel
theorem d_M_piles_60 : decode b_M_piles 60 = .ok (.iconst 0, 1) := by decide +kernel
theorem d_M_piles_61 : decode b_M_piles 61 = .ok (.istore_n 3, 1) := by decide +kernel
theorem d_M_piles_62 : decode b_M_piles 62 = .ok (.iload_n 3, 1) := by decide +kernel
theorem d_M_piles_63 : decode b_M_piles 63 = .ok (.iconst 4, 1) := by decide +kernel
theorem d_M_piles_64 : decode b_M_piles 64 = .ok (.if_icmp .ge 16, 3) := by decide +kernel
theorem d_M_piles_67 : decode b_M_piles 67 = .ok (.aload_n 0, 1) := by decide +kernel
theorem d_M_piles_68 : decode b_M_piles 68 = .ok (.getfield 32, 3) := by decide +kernel
theorem d_M_piles_71 : decode b_M_piles 71 = .ok (.iload_n 3, 1) := by decide +kernel
theorem d_M_piles_72 : decode b_M_piles 72 = .ok (.iconst 0, 1) := by decide +kernel
theorem d_M_piles_73 : decode b_M_piles 73 = .ok (.iastore, 1) := by decide +kernel
theorem d_M_piles_74 : decode b_M_piles 74 = .ok (.iinc 3 1, 3) := by decide +kernel
theorem d_M_piles_77 : decode b_M_piles 77 = .ok (.goto (-15), 3) := by decide +kernel
theorem d_M_piles_80 : decode b_M_piles 80 = .ok (.aload_n 0, 1) := by decide +kernel
theorem d_M_piles_81 : decode b_M_piles 81 = .ok (.invokevirtual 80, 3) := by decide +kernel
theorem d_M_piles_84 : decode b_M_piles 84 = .ok (.return_, 1) := by decide +kernel
theorem d_M_takes_0 : decode b_M_takes 0 = .ok (.aload_n 0, 1) := by decide +kernel
theorem d_M_takes_1 : decode b_M_takes 1 = .ok (.getfield 32, 3) := by decide +kernel
theorem d_M_takes_4 : decode b_M_takes 4 = .ok (.iconst 4, 1) := by decide +kernel
theorem d_M_takes_5 : decode b_M_takes 5 = .ok (.iload_n 1, 1) := by decide +kernel
theorem d_M_takes_6 : decode b_M_takes 6 = .ok (.imul, 1) := by decide +kernel
theorem d_M_takes_7 : decode b_M_takes 7 = .ok (.iload_n 2, 1) := by decide +kernel
theorem d_M_takes_8 : decode b_M_takes 8 = .ok (.iadd, 1) := by decide +kernel
theorem d_M_takes_9 : decode b_M_takes 9 = .ok (.iaload, 1) := by decide +kernel
theorem d_M_takes_10 : decode b_M_takes 10 = .ok (.istore 4, 2) := by decide +kernel
theorem d_M_takes_12 : decode b_M_takes 12 = .ok (.iload 4, 2) := by decide +kernel
theorem d_M_takes_14 : decode b_M_takes 14 = .ok (.aload_n 0, 1) := by decide +kernel
theorem d_M_takes_15 : decode b_M_takes 15 = .ok (.getfield 13, 3) := by decide +kernel
theorem d_M_takes_18 : decode b_M_takes 18 = .ok (.if_icmp .ge 35, 3) := by decide +kernel
theorem d_M_takes_21 : decode b_M_takes 21 = .ok (.iload 4, 2) := by decide +kernel
theorem d_M_takes_23 : decode b_M_takes 23 = .ok (.ifCond .eq 26, 3) := by decide +kernel
theorem d_M_takes_26 : decode b_M_takes 26 = .ok (.aload_n 0, 1) := by decide +kernel
theorem d_M_takes_27 : decode b_M_takes 27 = .ok (.getfield 20, 3) := by decide +kernel
theorem d_M_takes_30 : decode b_M_takes 30 = .ok (.aload_n 0, 1) := by decide +kernel
theorem d_M_takes_31 : decode b_M_takes 31 = .ok (.getfield 29, 3) := by decide +kernel
theorem d_M_takes_34 : decode b_M_takes 34 = .ok (.iload_n 1, 1) := by decide +kernel
theorem d_M_takes_35 : decode b_M_takes 35 = .ok (.iload_n 2, 1) := by decide +kernel
theorem d_M_takes_36 : decode b_M_takes 36 = .ok (.iload 4, 2) := by decide +kernel
theorem d_M_takes_38 : decode b_M_takes 38 = .ok (.iconst 1, 1) := by decide +kernel
theorem d_M_takes_39 : decode b_M_takes 39 = .ok (.isub, 1) := by decide +kernel
theorem d_M_takes_40 : decode b_M_takes 40 = .ok (.invokestatic 83, 3) := by decide +kernel
theorem d_M_takes_43 : decode b_M_takes 43 = .ok (.iaload, 1) := by decide +kernel
theorem d_M_takes_44 : decode b_M_takes 44 = .ok (.iaload, 1) := by decide +kernel
theorem d_M_takes_45 : decode b_M_takes 45 = .ok (.iload_n 3, 1) := by decide +kernel
theorem d_M_takes_46 : decode b_M_takes 46 = .ok (.if_icmp .lt 7, 3) := by decide +kernel
theorem d_M_takes_49 : decode b_M_takes 49 = .ok (.iconst 1, 1) := by decide +kernel
theorem d_M_takes_50 : decode b_M_takes 50 = .ok (.goto 4, 3) := by decide +kernel
theorem d_M_takes_53 : decode b_M_takes 53 = .ok (.iconst 0, 1) := by decide +kernel
theorem d_M_takes_54 : decode b_M_takes 54 = .ok (.ireturn, 1) := by decide +kernel
theorem d_M_put_0 : decode b_M_put 0 = .ok (.iload_n 1, 1) := by decide +kernel
theorem d_M_put_1 : decode b_M_put 1 = .ok (.iconst 0, 1) := by decide +kernel
theorem d_M_put_2 : decode b_M_put 2 = .ok (.aload_n 0, 1) := by decide +kernel
theorem d_M_put_3 : decode b_M_put 3 = .ok (.getfield 7, 3) := by decide +kernel
theorem d_M_put_6 : decode b_M_put 6 = .ok (.iconst 1, 1) := by decide +kernel
theorem d_M_put_7 : decode b_M_put 7 = .ok (.isub, 1) := by decide +kernel
theorem d_M_put_8 : decode b_M_put 8 = .ok (.invokestatic 62, 3) := by decide +kernel
theorem d_M_put_11 : decode b_M_put 11 = .ok (.istore 4, 2) := by decide +kernel
theorem d_M_put_13 : decode b_M_put 13 = .ok (.aload_n 0, 1) := by decide +kernel
theorem d_M_put_14 : decode b_M_put 14 = .ok (.iload 4, 2) := by decide +kernel
theorem d_M_put_16 : decode b_M_put 16 = .ok (.iload_n 2, 1) := by decide +kernel
theorem d_M_put_17 : decode b_M_put 17 = .ok (.iconst 1, 1) := by decide +kernel
theorem d_M_put_18 : decode b_M_put 18 = .ok (.sipush 1000, 3) := by decide +kernel
theorem d_M_put_21 : decode b_M_put 21 = .ok (.invokestatic 62, 3) := by decide +kernel
theorem d_M_put_24 : decode b_M_put 24 = .ok (.ifCond .eq 17, 3) := by decide +kernel
theorem d_M_put_27 : decode b_M_put 27 = .ok (.iload_n 3, 1) := by decide +kernel
theorem d_M_put_28 : decode b_M_put 28 = .ok (.iconst 1, 1) := by decide +kernel
theorem d_M_put_29 : decode b_M_put 29 = .ok (.bipush 100, 2) := by decide +kernel
theorem d_M_put_31 : decode b_M_put 31 = .ok (.invokestatic 62, 3) := by decide +kernel
theorem d_M_put_34 : decode b_M_put 34 = .ok (.ifCond .eq 7, 3) := by decide +kernel
theorem d_M_put_37 : decode b_M_put 37 = .ok (.iconst 1, 1) := by decide +kernel
theorem d_M_put_38 : decode b_M_put 38 = .ok (.goto 4, 3) := by decide +kernel
theorem d_M_put_41 : decode b_M_put 41 = .ok (.iconst 0, 1) := by decide +kernel
theorem d_M_put_42 : decode b_M_put 42 = .ok (.iload 4, 2) := by decide +kernel
theorem d_M_put_44 : decode b_M_put 44 = .ok (.ifCond .eq 26, 3) := by decide +kernel
theorem d_M_put_47 : decode b_M_put 47 = .ok (.aload_n 0, 1) := by decide +kernel
theorem d_M_put_48 : decode b_M_put 48 = .ok (.getfield 59, 3) := by decide +kernel
theorem d_M_put_51 : decode b_M_put 51 = .ok (.bipush 10, 2) := by decide +kernel
theorem d_M_put_53 : decode b_M_put 53 = .ok (.if_icmp .ge 17, 3) := by decide +kernel
theorem d_M_put_56 : decode b_M_put 56 = .ok (.aload_n 0, 1) := by decide +kernel
theorem d_M_put_57 : decode b_M_put 57 = .ok (.iconst 0, 1) := by decide +kernel
theorem d_M_put_58 : decode b_M_put 58 = .ok (.iload_n 1, 1) := by decide +kernel
theorem d_M_put_59 : decode b_M_put 59 = .ok (.iload_n 3, 1) := by decide +kernel
theorem d_M_put_60 : decode b_M_put 60 = .ok (.invokevirtual 87, 3) := by decide +kernel
theorem d_M_put_63 : decode b_M_put 63 = .ok (.ifCond .eq 7, 3) := by decide +kernel
theorem d_M_put_66 : decode b_M_put 66 = .ok (.iconst 1, 1) := by decide +kernel
theorem d_M_put_67 : decode b_M_put 67 = .ok (.goto 4, 3) := by decide +kernel
theorem d_M_put_70 : decode b_M_put 70 = .ok (.iconst 0, 1) := by decide +kernel
theorem d_M_put_71 : decode b_M_put 71 = .ok (.invokevirtual 73, 3) := by decide +kernel
theorem d_M_put_74 : decode b_M_put 74 = .ok (.ifCond .ne 5, 3) := by decide +kernel
theorem d_M_put_77 : decode b_M_put 77 = .ok (.iconst 0, 1) := by decide +kernel
theorem d_M_put_78 : decode b_M_put 78 = .ok (.ireturn, 1) := by decide +kernel
theorem d_M_put_79 : decode b_M_put 79 = .ok (.aload_n 0, 1) := by decide +kernel
theorem d_M_put_80 : decode b_M_put 80 = .ok (.getfield 16, 3) := by decide +kernel
theorem d_M_put_83 : decode b_M_put 83 = .ok (.aload_n 0, 1) := by decide +kernel
theorem d_M_put_84 : decode b_M_put 84 = .ok (.getfield 59, 3) := by decide +kernel
theorem d_M_put_87 : decode b_M_put 87 = .ok (.iload_n 2, 1) := by decide +kernel
theorem d_M_put_88 : decode b_M_put 88 = .ok (.iastore, 1) := by decide +kernel
theorem d_M_put_89 : decode b_M_put 89 = .ok (.aload_n 0, 1) := by decide +kernel
theorem d_M_put_90 : decode b_M_put 90 = .ok (.getfield 20, 3) := by decide +kernel
theorem d_M_put_93 : decode b_M_put 93 = .ok (.aload_n 0, 1) := by decide +kernel
theorem d_M_put_94 : decode b_M_put 94 = .ok (.getfield 59, 3) := by decide +kernel
theorem d_M_put_97 : decode b_M_put 97 = .ok (.iload_n 3, 1) := by decide +kernel
theorem d_M_put_98 : decode b_M_put 98 = .ok (.iastore, 1) := by decide +kernel
theorem d_M_put_99 : decode b_M_put 99 = .ok (.aload_n 0, 1) := by decide +kernel
theorem d_M_put_100 : decode b_M_put 100 = .ok (.getfield 23, 3) := by decide +kernel
theorem d_M_put_103 : decode b_M_put 103 = .ok (.aload_n 0, 1) := by decide +kernel
theorem d_M_put_104 : decode b_M_put 104 = .ok (.getfield 59, 3) := by decide +kernel
theorem d_M_put_107 : decode b_M_put 107 = .ok (.iconst (-1), 1) := by decide +kernel
theorem d_M_put_108 : decode b_M_put 108 = .ok (.iastore, 1) := by decide +kernel
theorem d_M_put_109 : decode b_M_put 109 = .ok (.aload_n 0, 1) := by decide +kernel
theorem d_M_put_110 : decode b_M_put 110 = .ok (.getfield 26, 3) := by decide +kernel
theorem d_M_put_113 : decode b_M_put 113 = .ok (.aload_n 0, 1) := by decide +kernel
theorem d_M_put_114 : decode b_M_put 114 = .ok (.getfield 59, 3) := by decide +kernel
theorem d_M_put_117 : decode b_M_put 117 = .ok (.iconst (-1), 1) := by decide +kernel
theorem d_M_put_118 : decode b_M_put 118 = .ok (.iastore, 1) := by decide +kernel
theorem d_M_put_119 : decode b_M_put 119 = .ok (.aload_n 0, 1) := by decide +kernel
theorem d_M_put_120 : decode b_M_put 120 = .ok (.getfield 29, 3) := by decide +kernel
theorem d_M_put_123 : decode b_M_put 123 = .ok (.iconst 0, 1) := by decide +kernel
theorem d_M_put_124 : decode b_M_put 124 = .ok (.iload_n 1, 1) := by decide +kernel
theorem d_M_put_125 : decode b_M_put 125 = .ok (.aload_n 0, 1) := by decide +kernel
theorem d_M_put_126 : decode b_M_put 126 = .ok (.getfield 32, 3) := by decide +kernel
theorem d_M_put_129 : decode b_M_put 129 = .ok (.iload_n 1, 1) := by decide +kernel
theorem d_M_put_130 : decode b_M_put 130 = .ok (.iaload, 1) := by decide +kernel
theorem d_M_put_131 : decode b_M_put 131 = .ok (.invokestatic 83, 3) := by decide +kernel
theorem d_M_put_134 : decode b_M_put 134 = .ok (.aload_n 0, 1) := by decide +kernel
theorem d_M_put_135 : decode b_M_put 135 = .ok (.getfield 59, 3) := by decide +kernel
theorem d_M_put_138 : decode b_M_put 138 = .ok (.iastore, 1) := by decide +kernel
theorem d_M_put_139 : decode b_M_put 139 = .ok (.aload_n 0, 1) := by decide +kernel
theorem d_M_put_140 : decode b_M_put 140 = .ok (.getfield 32, 3) := by decide +kernel
theorem d_M_put_143 : decode b_M_put 143 = .ok (.iload_n 1, 1) := by decide +kernel
theorem d_M_put_144 : decode b_M_put 144 = .ok (.dup2, 1) := by decide +kernel
theorem d_M_put_145 : decode b_M_put 145 = .ok (.iaload, 1) := by decide +kernel
theorem d_M_put_146 : decode b_M_put 146 = .ok (.iconst 1, 1) := by decide +kernel
theorem d_M_put_147 : decode b_M_put 147 = .ok (.iadd, 1) := by decide +kernel
theorem d_M_put_148 : decode b_M_put 148 = .ok (.iastore, 1) := by decide +kernel
theorem d_M_put_149 : decode b_M_put 149 = .ok (.aload_n 0, 1) := by decide +kernel
theorem d_M_put_150 : decode b_M_put 150 = .ok (.dup, 1) := by decide +kernel
theorem d_M_put_151 : decode b_M_put 151 = .ok (.getfield 59, 3) := by decide +kernel
theorem d_M_put_154 : decode b_M_put 154 = .ok (.iconst 1, 1) := by decide +kernel
theorem d_M_put_155 : decode b_M_put 155 = .ok (.iadd, 1) := by decide +kernel
theorem d_M_put_156 : decode b_M_put 156 = .ok (.putfield 59, 3) := by decide +kernel
theorem d_M_put_159 : decode b_M_put 159 = .ok (.aload_n 0, 1) := by decide +kernel
theorem d_M_put_160 : decode b_M_put 160 = .ok (.invokevirtual 80, 3) := by decide +kernel
theorem d_M_put_163 : decode b_M_put 163 = .ok (.aload_n 0, 1) := by decide +kernel
theorem d_M_put_164 : decode b_M_put 164 = .ok (.getfield 59, 3) := by decide +kernel
theorem d_M_put_167 : decode b_M_put 167 = .ok (.iconst 1, 1) := by decide +kernel
theorem d_M_put_168 : decode b_M_put 168 = .ok (.isub, 1) := by decide +kernel
theorem d_M_put_169 : decode b_M_put 169 = .ok (.ireturn, 1) := by decide +kernel
theorem d_M_isGone_0 : decode b_M_isGone 0 = .ok (.aload_n 0, 1) := by decide +kernel
theorem d_M_isGone_1 : decode b_M_isGone 1 = .ok (.getfield 35, 3) := by decide +kernel
theorem d_M_isGone_4 : decode b_M_isGone 4 = .ok (.iload_n 1, 1) := by decide +kernel
theorem d_M_isGone_5 : decode b_M_isGone 5 = .ok (.iaload, 1) := by decide +kernel
theorem d_M_isGone_6 : decode b_M_isGone 6 = .ok (.iload_n 2, 1) := by decide +kernel
theorem d_M_isGone_7 : decode b_M_isGone 7 = .ok (.ishr, 1) := by decide +kernel
theorem d_M_isGone_8 : decode b_M_isGone 8 = .ok (.iconst 1, 1) := by decide +kernel
theorem d_M_isGone_9 : decode b_M_isGone 9 = .ok (.iand, 1) := by decide +kernel
theorem d_M_isGone_10 : decode b_M_isGone 10 = .ok (.iconst 1, 1) := by decide +kernel
theorem d_M_isGone_11 : decode b_M_isGone 11 = .ok (.if_icmp .ne 7, 3) := by decide +kernel
theorem d_M_isGone_14 : decode b_M_isGone 14 = .ok (.iconst 1, 1) := by decide +kernel
theorem d_M_isGone_15 : decode b_M_isGone 15 = .ok (.goto 4, 3) := by decide +kernel
theorem d_M_isGone_18 : decode b_M_isGone 18 = .ok (.iconst 0, 1) := by decide +kernel
theorem d_M_isGone_19 : decode b_M_isGone 19 = .ok (.ireturn, 1) := by decide +kernel
theorem d_M_want_0 : decode b_M_want 0 = .ok (.aload_n 0, 1) := by decide +kernel
theorem d_M_want_1 : decode b_M_want 1 = .ok (.aload_n 0, 1) := by decide +kernel
theorem d_M_want_2 : decode b_M_want 2 = .ok (.iload_n 1, 1) := by decide +kernel
theorem d_M_want_3 : decode b_M_want 3 = .ok (.invokevirtual 90, 3) := by decide +kernel
theorem d_M_want_6 : decode b_M_want 6 = .ok (.aload_n 0, 1) := by decide +kernel
theorem d_M_want_7 : decode b_M_want 7 = .ok (.iload_n 1, 1) := by decide +kernel
theorem d_M_want_8 : decode b_M_want 8 = .ok (.invokevirtual 90, 3) := by decide +kernel
theorem d_M_want_11 : decode b_M_want 11 = .ok (.ifCond .eq 16, 3) := by decide +kernel
theorem d_M_want_14 : decode b_M_want 14 = .ok (.aload_n 0, 1) := by decide +kernel
theorem d_M_want_15 : decode b_M_want 15 = .ok (.iconst 0, 1) := by decide +kernel
theorem d_M_want_16 : decode b_M_want 16 = .ok (.iload_n 1, 1) := by decide +kernel
theorem d_M_want_17 : decode b_M_want 17 = .ok (.invokevirtual 94, 3) := by decide +kernel
theorem d_M_want_20 : decode b_M_want 20 = .ok (.ifCond .ne 7, 3) := by decide +kernel
theorem d_M_want_23 : decode b_M_want 23 = .ok (.iconst 1, 1) := by decide +kernel
theorem d_M_want_24 : decode b_M_want 24 = .ok (.goto 4, 3) := by decide +kernel
theorem d_M_want_27 : decode b_M_want 27 = .ok (.iconst 0, 1) := by decide +kernel
theorem d_M_want_28 : decode b_M_want 28 = .ok (.iload_n 2, 1) := by decide +kernel
theorem d_M_want_29 : decode b_M_want 29 = .ok (.iconst (-1), 1) := by decide +kernel
theorem d_M_want_30 : decode b_M_want 30 = .ok (.bipush 99, 2) := by decide +kernel
theorem d_M_want_32 : decode b_M_want 32 = .ok (.invokestatic 62, 3) := by decide +kernel
theorem d_M_want_35 : decode b_M_want 35 = .ok (.invokevirtual 73, 3) := by decide +kernel
theorem d_M_want_38 : decode b_M_want 38 = .ok (.ifCond .ne 4, 3) := by decide +kernel
theorem d_M_want_41 : decode b_M_want 41 = .ok (.return_, 1) := by decide +kernel
theorem d_M_want_42 : decode b_M_want 42 = .ok (.aload_n 0, 1) := by decide +kernel
theorem d_M_want_43 : decode b_M_want 43 = .ok (.getfield 23, 3) := by decide +kernel
theorem d_M_want_46 : decode b_M_want 46 = .ok (.iload_n 1, 1) := by decide +kernel
theorem d_M_want_47 : decode b_M_want 47 = .ok (.iload_n 2, 1) := by decide +kernel
theorem d_M_want_48 : decode b_M_want 48 = .ok (.iastore, 1) := by decide +kernel
theorem d_M_want_49 : decode b_M_want 49 = .ok (.aload_n 0, 1) := by decide +kernel
theorem d_M_want_50 : decode b_M_want 50 = .ok (.invokevirtual 80, 3) := by decide +kernel
theorem d_M_want_53 : decode b_M_want 53 = .ok (.return_, 1) := by decide +kernel
theorem d_M_may_0 : decode b_M_may 0 = .ok (.aload_n 0, 1) := by decide +kernel
theorem d_M_may_1 : decode b_M_may 1 = .ok (.aload_n 0, 1) := by decide +kernel
theorem d_M_may_2 : decode b_M_may 2 = .ok (.iload_n 1, 1) := by decide +kernel
theorem d_M_may_3 : decode b_M_may 3 = .ok (.invokevirtual 90, 3) := by decide +kernel
theorem d_M_may_6 : decode b_M_may 6 = .ok (.ifCond .eq 15, 3) := by decide +kernel
theorem d_M_may_9 : decode b_M_may 9 = .ok (.aload_n 0, 1) := by decide +kernel
theorem d_M_may_10 : decode b_M_may 10 = .ok (.iload_n 2, 1) := by decide +kernel
theorem d_M_may_11 : decode b_M_may 11 = .ok (.invokevirtual 90, 3) := by decide +kernel
theorem d_M_may_14 : decode b_M_may 14 = .ok (.ifCond .eq 7, 3) := by decide +kernel
theorem d_M_may_17 : decode b_M_may 17 = .ok (.iconst 1, 1) := by decide +kernel
theorem d_M_may_18 : decode b_M_may 18 = .ok (.goto 4, 3) := by decide +kernel
theorem d_M_may_21 : decode b_M_may 21 = .ok (.iconst 0, 1) := by decide +kernel
theorem d_M_may_22 : decode b_M_may 22 = .ok (.iconst 1, 1) := by decide +kernel
theorem d_M_may_23 : decode b_M_may 23 = .ok (.iconst 1, 1) := by decide +kernel
theorem d_M_may_24 : decode b_M_may 24 = .ok (.invokevirtual 73, 3) := by decide +kernel
theorem d_M_may_27 : decode b_M_may 27 = .ok (.ifCond .eq 22, 3) := by decide +kernel
theorem d_M_may_30 : decode b_M_may 30 = .ok (.aload_n 0, 1) := by decide +kernel
theorem d_M_may_31 : decode b_M_may 31 = .ok (.getfield 20, 3) := by decide +kernel
theorem d_M_may_34 : decode b_M_may 34 = .ok (.iload_n 1, 1) := by decide +kernel
theorem d_M_may_35 : decode b_M_may 35 = .ok (.iaload, 1) := by decide +kernel
theorem d_M_may_36 : decode b_M_may 36 = .ok (.aload_n 0, 1) := by decide +kernel
theorem d_M_may_37 : decode b_M_may 37 = .ok (.getfield 20, 3) := by decide +kernel
theorem d_M_may_40 : decode b_M_may 40 = .ok (.iload_n 2, 1) := by decide +kernel
theorem d_M_may_41 : decode b_M_may 41 = .ok (.iaload, 1) := by decide +kernel
theorem d_M_may_42 : decode b_M_may 42 = .ok (.if_icmp .lt 7, 3) := by decide +kernel
theorem d_M_may_45 : decode b_M_may 45 = .ok (.iconst 1, 1) := by decide +kernel
theorem d_M_may_46 : decode b_M_may 46 = .ok (.goto 4, 3) := by decide +kernel
theorem d_M_may_49 : decode b_M_may 49 = .ok (.iconst 0, 1) := by decide +kernel
theorem d_M_may_50 : decode b_M_may 50 = .ok (.ireturn, 1) := by decide +kernel
theorem d_M_isAhead_0 : decode b_M_isAhead 0 = .ok (.aload_n 0, 1) := by decide +kernel
theorem d_M_isAhead_1 : decode b_M_isAhead 1 = .ok (.getfield 23, 3) := by decide +kernel
theorem d_M_isAhead_4 : decode b_M_isAhead 4 = .ok (.iload_n 1, 1) := by decide +kernel
theorem d_M_isAhead_5 : decode b_M_isAhead 5 = .ok (.iaload, 1) := by decide +kernel
theorem d_M_isAhead_6 : decode b_M_isAhead 6 = .ok (.ifCond .ge 5, 3) := by decide +kernel
theorem d_M_isAhead_9 : decode b_M_isAhead 9 = .ok (.iconst 0, 1) := by decide +kernel
theorem d_M_isAhead_10 : decode b_M_isAhead 10 = .ok (.ireturn, 1) := by decide +kernel
theorem d_M_isAhead_11 : decode b_M_isAhead 11 = .ok (.aload_n 0, 1) := by decide +kernel
theorem d_M_isAhead_12 : decode b_M_isAhead 12 = .ok (.getfield 23, 3) := by decide +kernel
theorem d_M_isAhead_15 : decode b_M_isAhead 15 = .ok (.iload_n 2, 1) := by decide +kernel
theorem d_M_isAhead_16 : decode b_M_isAhead 16 = .ok (.iaload, 1) := by decide +kernel
theorem d_M_isAhead_17 : decode b_M_isAhead 17 = .ok (.ifCond .lt 38, 3) := by decide +kernel
theorem d_M_isAhead_20 : decode b_M_isAhead 20 = .ok (.aload_n 0, 1) := by decide +kernel
theorem d_M_isAhead_21 : decode b_M_isAhead 21 = .ok (.getfield 23, 3) := by decide +kernel
theorem d_M_isAhead_24 : decode b_M_isAhead 24 = .ok (.iload_n 1, 1) := by decide +kernel
theorem d_M_isAhead_25 : decode b_M_isAhead 25 = .ok (.iaload, 1) := by decide +kernel
theorem d_M_isAhead_26 : decode b_M_isAhead 26 = .ok (.aload_n 0, 1) := by decide +kernel
theorem d_M_isAhead_27 : decode b_M_isAhead 27 = .ok (.getfield 23, 3) := by decide +kernel
theorem d_M_isAhead_30 : decode b_M_isAhead 30 = .ok (.iload_n 2, 1) := by decide +kernel
theorem d_M_isAhead_31 : decode b_M_isAhead 31 = .ok (.iaload, 1) := by decide +kernel
theorem d_M_isAhead_32 : decode b_M_isAhead 32 = .ok (.if_icmp .lt 23, 3) := by decide +kernel
theorem d_M_isAhead_35 : decode b_M_isAhead 35 = .ok (.aload_n 0, 1) := by decide +kernel
theorem d_M_isAhead_36 : decode b_M_isAhead 36 = .ok (.getfield 23, 3) := by decide +kernel
theorem d_M_isAhead_39 : decode b_M_isAhead 39 = .ok (.iload_n 1, 1) := by decide +kernel
theorem d_M_isAhead_40 : decode b_M_isAhead 40 = .ok (.iaload, 1) := by decide +kernel
theorem d_M_isAhead_41 : decode b_M_isAhead 41 = .ok (.aload_n 0, 1) := by decide +kernel
theorem d_M_isAhead_42 : decode b_M_isAhead 42 = .ok (.getfield 23, 3) := by decide +kernel
theorem d_M_isAhead_45 : decode b_M_isAhead 45 = .ok (.iload_n 2, 1) := by decide +kernel
theorem d_M_isAhead_46 : decode b_M_isAhead 46 = .ok (.iaload, 1) := by decide +kernel
theorem d_M_isAhead_47 : decode b_M_isAhead 47 = .ok (.if_icmp .ne 12, 3) := by decide +kernel
theorem d_M_isAhead_50 : decode b_M_isAhead 50 = .ok (.iload_n 1, 1) := by decide +kernel
theorem d_M_isAhead_51 : decode b_M_isAhead 51 = .ok (.iload_n 2, 1) := by decide +kernel
theorem d_M_isAhead_52 : decode b_M_isAhead 52 = .ok (.if_icmp .ge 7, 3) := by decide +kernel
theorem d_M_isAhead_55 : decode b_M_isAhead 55 = .ok (.iconst 1, 1) := by decide +kernel
theorem d_M_isAhead_56 : decode b_M_isAhead 56 = .ok (.goto 4, 3) := by decide +kernel
theorem d_M_isAhead_59 : decode b_M_isAhead 59 = .ok (.iconst 0, 1) := by decide +kernel
theorem d_M_isAhead_60 : decode b_M_isAhead 60 = .ok (.ireturn, 1) := by decide +kernel
theorem d_M_blocksOn_0 : decode b_M_blocksOn 0 = .ok (.iconst 0, 1) := by decide +kernel
theorem d_M_blocksOn_1 : decode b_M_blocksOn 1 = .ok (.istore 5, 2) := by decide +kernel
theorem d_M_blocksOn_3 : decode b_M_blocksOn 3 = .ok (.iload 5, 2) := by decide +kernel
theorem d_M_blocksOn_5 : decode b_M_blocksOn 5 = .ok (.iload_n 3, 1) := by decide +kernel
theorem d_M_blocksOn_6 : decode b_M_blocksOn 6 = .ok (.if_icmp .ge 32, 3) := by decide +kernel
theorem d_M_blocksOn_9 : decode b_M_blocksOn 9 = .ok (.aload_n 0, 1) := by decide +kernel
theorem d_M_blocksOn_10 : decode b_M_blocksOn 10 = .ok (.aload_n 0, 1) := by decide +kernel
theorem d_M_blocksOn_11 : decode b_M_blocksOn 11 = .ok (.getfield 29, 3) := by decide +kernel
theorem d_M_blocksOn_14 : decode b_M_blocksOn 14 = .ok (.iload_n 1, 1) := by decide +kernel
theorem d_M_blocksOn_15 : decode b_M_blocksOn 15 = .ok (.iload_n 2, 1) := by decide +kernel
theorem d_M_blocksOn_16 : decode b_M_blocksOn 16 = .ok (.iload 5, 2) := by decide +kernel
theorem d_M_blocksOn_18 : decode b_M_blocksOn 18 = .ok (.invokestatic 83, 3) := by decide +kernel
theorem d_M_blocksOn_21 : decode b_M_blocksOn 21 = .ok (.iaload, 1) := by decide +kernel
theorem d_M_blocksOn_22 : decode b_M_blocksOn 22 = .ok (.iload 4, 2) := by decide +kernel
theorem d_M_blocksOn_24 : decode b_M_blocksOn 24 = .ok (.invokevirtual 98, 3) := by decide +kernel
theorem d_M_blocksOn_27 : decode b_M_blocksOn 27 = .ok (.ifCond .eq 5, 3) := by decide +kernel
theorem d_M_blocksOn_30 : decode b_M_blocksOn 30 = .ok (.iconst 1, 1) := by decide +kernel
theorem d_M_blocksOn_31 : decode b_M_blocksOn 31 = .ok (.ireturn, 1) := by decide +kernel
theorem d_M_blocksOn_32 : decode b_M_blocksOn 32 = .ok (.iinc 5 1, 3) := by decide +kernel
theorem d_M_blocksOn_35 : decode b_M_blocksOn 35 = .ok (.goto (-32), 3) := by decide +kernel
theorem d_M_blocksOn_38 : decode b_M_blocksOn 38 = .ok (.iconst 0, 1) := by decide +kernel
theorem d_M_blocksOn_39 : decode b_M_blocksOn 39 = .ok (.ireturn, 1) := by decide +kernel
theorem d_M_boundAt_0 : decode b_M_boundAt 0 = .ok (.iconst 0, 1) := by decide +kernel
theorem d_M_boundAt_1 : decode b_M_boundAt 1 = .ok (.istore_n 2, 1) := by decide +kernel
theorem d_M_boundAt_2 : decode b_M_boundAt 2 = .ok (.iconst 0, 1) := by decide +kernel
theorem d_M_boundAt_3 : decode b_M_boundAt 3 = .ok (.istore_n 3, 1) := by decide +kernel
theorem d_M_boundAt_4 : decode b_M_boundAt 4 = .ok (.iload_n 3, 1) := by decide +kernel
theorem d_M_boundAt_5 : decode b_M_boundAt 5 = .ok (.aload_n 0, 1) := by decide +kernel
theorem d_M_boundAt_6 : decode b_M_boundAt 6 = .ok (.getfield 7, 3) := by decide +kernel
theorem d_M_boundAt_9 : decode b_M_boundAt 9 = .ok (.if_icmp .ge 59, 3) := by decide +kernel
theorem d_M_boundAt_12 : decode b_M_boundAt 12 = .ok (.iconst 0, 1) := by decide +kernel
theorem d_M_boundAt_13 : decode b_M_boundAt 13 = .ok (.istore 4, 2) := by decide +kernel
theorem d_M_boundAt_15 : decode b_M_boundAt 15 = .ok (.iload 4, 2) := by decide +kernel
theorem d_M_boundAt_17 : decode b_M_boundAt 17 = .ok (.aload_n 0, 1) := by decide +kernel
theorem d_M_boundAt_18 : decode b_M_boundAt 18 = .ok (.getfield 32, 3) := by decide +kernel
theorem d_M_boundAt_21 : decode b_M_boundAt 21 = .ok (.iconst 4, 1) := by decide +kernel
theorem d_M_boundAt_22 : decode b_M_boundAt 22 = .ok (.iload_n 1, 1) := by decide +kernel
theorem d_M_boundAt_23 : decode b_M_boundAt 23 = .ok (.imul, 1) := by decide +kernel
theorem d_M_boundAt_24 : decode b_M_boundAt 24 = .ok (.iload_n 3, 1) := by decide +kernel
theorem d_M_boundAt_25 : decode b_M_boundAt 25 = .ok (.iadd, 1) := by decide +kernel
theorem d_M_boundAt_26 : decode b_M_boundAt 26 = .ok (.iaload, 1) := by decide +kernel
theorem d_M_boundAt_27 : decode b_M_boundAt 27 = .ok (.if_icmp .ge 35, 3) := by decide +kernel
theorem d_M_boundAt_30 : decode b_M_boundAt 30 = .ok (.aload_n 0, 1) := by decide +kernel
theorem d_M_boundAt_31 : decode b_M_boundAt 31 = .ok (.iload_n 1, 1) := by decide +kernel
theorem d_M_boundAt_32 : decode b_M_boundAt 32 = .ok (.iload_n 3, 1) := by decide +kernel
theorem d_M_boundAt_33 : decode b_M_boundAt 33 = .ok (.iload 4, 2) := by decide +kernel
theorem d_M_boundAt_35 : decode b_M_boundAt 35 = .ok (.aload_n 0, 1) := by decide +kernel
theorem d_M_boundAt_36 : decode b_M_boundAt 36 = .ok (.getfield 29, 3) := by decide +kernel
theorem d_M_boundAt_39 : decode b_M_boundAt 39 = .ok (.iload_n 1, 1) := by decide +kernel
theorem d_M_boundAt_40 : decode b_M_boundAt 40 = .ok (.iload_n 3, 1) := by decide +kernel
theorem d_M_boundAt_41 : decode b_M_boundAt 41 = .ok (.iload 4, 2) := by decide +kernel
theorem d_M_boundAt_43 : decode b_M_boundAt 43 = .ok (.invokestatic 83, 3) := by decide +kernel
theorem d_M_boundAt_46 : decode b_M_boundAt 46 = .ok (.iaload, 1) := by decide +kernel
theorem d_M_boundAt_47 : decode b_M_boundAt 47 = .ok (.invokevirtual 101, 3) := by decide +kernel
theorem d_M_boundAt_50 : decode b_M_boundAt 50 = .ok (.ifCond .eq 6, 3) := by decide +kernel
theorem d_M_boundAt_53 : decode b_M_boundAt 53 = .ok (.iinc 2 1, 3) := by decide +kernel
theorem d_M_boundAt_56 : decode b_M_boundAt 56 = .ok (.iinc 4 1, 3) := by decide +kernel
theorem d_M_boundAt_59 : decode b_M_boundAt 59 = .ok (.goto (-44), 3) := by decide +kernel
theorem d_M_boundAt_62 : decode b_M_boundAt 62 = .ok (.iinc 3 1, 3) := by decide +kernel
theorem d_M_boundAt_65 : decode b_M_boundAt 65 = .ok (.goto (-61), 3) := by decide +kernel
theorem d_M_boundAt_68 : decode b_M_boundAt 68 = .ok (.iload_n 2, 1) := by decide +kernel
theorem d_M_boundAt_69 : decode b_M_boundAt 69 = .ok (.ireturn, 1) := by decide +kernel
theorem d_M_bound_0 : decode b_M_bound 0 = .ok (.aload_n 0, 1) := by decide +kernel
theorem d_M_bound_1 : decode b_M_bound 1 = .ok (.iconst 0, 1) := by decide +kernel
theorem d_M_bound_2 : decode b_M_bound 2 = .ok (.putfield 56, 3) := by decide +kernel
theorem d_M_bound_5 : decode b_M_bound 5 = .ok (.aload_n 0, 1) := by decide +kernel
theorem d_M_bound_6 : decode b_M_bound 6 = .ok (.iconst 0, 1) := by decide +kernel
theorem d_M_bound_7 : decode b_M_bound 7 = .ok (.invokevirtual 105, 3) := by decide +kernel
theorem d_M_bound_10 : decode b_M_bound 10 = .ok (.ireturn, 1) := by decide +kernel
theorem d_M_copy_0 : decode b_M_copy 0 = .ok (.iconst 0, 1) := by decide +kernel
theorem d_M_copy_1 : decode b_M_copy 1 = .ok (.istore_n 3, 1) := by decide +kernel
theorem d_M_copy_2 : decode b_M_copy 2 = .ok (.iload_n 3, 1) := by decide +kernel
theorem d_M_copy_3 : decode b_M_copy 3 = .ok (.bipush 20, 2) := by decide +kernel
theorem d_M_copy_5 : decode b_M_copy 5 = .ok (.if_icmp .ge 31, 3) := by decide +kernel
theorem d_M_copy_8 : decode b_M_copy 8 = .ok (.aload_n 0, 1) := by decide +kernel
theorem d_M_copy_9 : decode b_M_copy 9 = .ok (.getfield 29, 3) := by decide +kernel
theorem d_M_copy_12 : decode b_M_copy 12 = .ok (.bipush 20, 2) := by decide +kernel
theorem d_M_copy_14 : decode b_M_copy 14 = .ok (.iload_n 2, 1) := by decide +kernel
theorem d_M_copy_15 : decode b_M_copy 15 = .ok (.imul, 1) := by decide +kernel
theorem d_M_copy_16 : decode b_M_copy 16 = .ok (.iload_n 3, 1) := by decide +kernel
theorem d_M_copy_17 : decode b_M_copy 17 = .ok (.iadd, 1) := by decide +kernel
theorem d_M_copy_18 : decode b_M_copy 18 = .ok (.aload_n 0, 1) := by decide +kernel
theorem d_M_copy_19 : decode b_M_copy 19 = .ok (.getfield 29, 3) := by decide +kernel
theorem d_M_copy_22 : decode b_M_copy 22 = .ok (.bipush 20, 2) := by decide +kernel
theorem d_M_copy_24 : decode b_M_copy 24 = .ok (.iload_n 1, 1) := by decide +kernel
theorem d_M_copy_25 : decode b_M_copy 25 = .ok (.imul, 1) := by decide +kernel
theorem d_M_copy_26 : decode b_M_copy 26 = .ok (.iload_n 3, 1) := by decide +kernel
theorem d_M_copy_27 : decode b_M_copy 27 = .ok (.iadd, 1) := by decide +kernel
theorem d_M_copy_28 : decode b_M_copy 28 = .ok (.iaload, 1) := by decide +kernel
theorem d_M_copy_29 : decode b_M_copy 29 = .ok (.iastore, 1) := by decide +kernel
theorem d_M_copy_30 : decode b_M_copy 30 = .ok (.iinc 3 1, 3) := by decide +kernel
theorem d_M_copy_33 : decode b_M_copy 33 = .ok (.goto (-31), 3) := by decide +kernel
theorem d_M_copy_36 : decode b_M_copy 36 = .ok (.iconst 0, 1) := by decide +kernel
theorem d_M_copy_37 : decode b_M_copy 37 = .ok (.istore_n 3, 1) := by decide +kernel
theorem d_M_copy_38 : decode b_M_copy 38 = .ok (.iload_n 3, 1) := by decide +kernel
theorem d_M_copy_39 : decode b_M_copy 39 = .ok (.iconst 4, 1) := by decide +kernel
theorem d_M_copy_40 : decode b_M_copy 40 = .ok (.if_icmp .ge 29, 3) := by decide +kernel
theorem d_M_copy_43 : decode b_M_copy 43 = .ok (.aload_n 0, 1) := by decide +kernel
theorem d_M_copy_44 : decode b_M_copy 44 = .ok (.getfield 32, 3) := by decide +kernel
theorem d_M_copy_47 : decode b_M_copy 47 = .ok (.iconst 4, 1) := by decide +kernel
theorem d_M_copy_48 : decode b_M_copy 48 = .ok (.iload_n 2, 1) := by decide +kernel
theorem d_M_copy_49 : decode b_M_copy 49 = .ok (.imul, 1) := by decide +kernel
theorem d_M_copy_50 : decode b_M_copy 50 = .ok (.iload_n 3, 1) := by decide +kernel
theorem d_M_copy_51 : decode b_M_copy 51 = .ok (.iadd, 1) := by decide +kernel
theorem d_M_copy_52 : decode b_M_copy 52 = .ok (.aload_n 0, 1) := by decide +kernel
theorem d_M_copy_53 : decode b_M_copy 53 = .ok (.getfield 32, 3) := by decide +kernel
theorem d_M_copy_56 : decode b_M_copy 56 = .ok (.iconst 4, 1) := by decide +kernel
theorem d_M_copy_57 : decode b_M_copy 57 = .ok (.iload_n 1, 1) := by decide +kernel
theorem d_M_copy_58 : decode b_M_copy 58 = .ok (.imul, 1) := by decide +kernel
theorem d_M_copy_59 : decode b_M_copy 59 = .ok (.iload_n 3, 1) := by decide +kernel
theorem d_M_copy_60 : decode b_M_copy 60 = .ok (.iadd, 1) := by decide +kernel
theorem d_M_copy_61 : decode b_M_copy 61 = .ok (.iaload, 1) := by decide +kernel
theorem d_M_copy_62 : decode b_M_copy 62 = .ok (.iastore, 1) := by decide +kernel
theorem d_M_copy_63 : decode b_M_copy 63 = .ok (.iinc 3 1, 3) := by decide +kernel
theorem d_M_copy_66 : decode b_M_copy 66 = .ok (.goto (-28), 3) := by decide +kernel
theorem d_M_copy_69 : decode b_M_copy 69 = .ok (.aload_n 0, 1) := by decide +kernel
theorem d_M_copy_70 : decode b_M_copy 70 = .ok (.getfield 35, 3) := by decide +kernel
theorem d_M_copy_73 : decode b_M_copy 73 = .ok (.iload_n 2, 1) := by decide +kernel
theorem d_M_copy_74 : decode b_M_copy 74 = .ok (.aload_n 0, 1) := by decide +kernel
theorem d_M_copy_75 : decode b_M_copy 75 = .ok (.getfield 35, 3) := by decide +kernel
theorem d_M_copy_78 : decode b_M_copy 78 = .ok (.iload_n 1, 1) := by decide +kernel
theorem d_M_copy_79 : decode b_M_copy 79 = .ok (.iaload, 1) := by decide +kernel
theorem d_M_copy_80 : decode b_M_copy 80 = .ok (.iastore, 1) := by decide +kernel
theorem d_M_copy_81 : decode b_M_copy 81 = .ok (.aload_n 0, 1) := by decide +kernel
theorem d_M_copy_82 : decode b_M_copy 82 = .ok (.getfield 47, 3) := by decide +kernel
theorem d_M_copy_85 : decode b_M_copy 85 = .ok (.iload_n 2, 1) := by decide +kernel
theorem d_M_copy_86 : decode b_M_copy 86 = .ok (.aload_n 0, 1) := by decide +kernel
theorem d_M_copy_87 : decode b_M_copy 87 = .ok (.getfield 47, 3) := by decide +kernel
theorem d_M_copy_90 : decode b_M_copy 90 = .ok (.iload_n 1, 1) := by decide +kernel
theorem d_M_copy_91 : decode b_M_copy 91 = .ok (.iaload, 1) := by decide +kernel
theorem d_M_copy_92 : decode b_M_copy 92 = .ok (.iastore, 1) := by decide +kernel
theorem d_M_copy_93 : decode b_M_copy 93 = .ok (.return_, 1) := by decide +kernel
theorem d_M_says_0 : decode b_M_says 0 = .ok (.aload_n 0, 1) := by decide +kernel
theorem d_M_says_1 : decode b_M_says 1 = .ok (.getfield 41, 3) := by decide +kernel
theorem d_M_says_4 : decode b_M_says 4 = .ok (.aload_n 0, 1) := by decide +kernel
theorem d_M_says_5 : decode b_M_says 5 = .ok (.getfield 47, 3) := by decide +kernel
theorem d_M_says_8 : decode b_M_says 8 = .ok (.iload_n 1, 1) := by decide +kernel
theorem d_M_says_9 : decode b_M_says 9 = .ok (.iaload, 1) := by decide +kernel
theorem d_M_says_10 : decode b_M_says 10 = .ok (.iload_n 2, 1) := by decide +kernel
theorem d_M_says_11 : decode b_M_says 11 = .ok (.iastore, 1) := by decide +kernel
theorem d_M_says_12 : decode b_M_says 12 = .ok (.aload_n 0, 1) := by decide +kernel
theorem d_M_says_13 : decode b_M_says 13 = .ok (.getfield 44, 3) := by decide +kernel
theorem d_M_says_16 : decode b_M_says 16 = .ok (.aload_n 0, 1) := by decide +kernel
theorem d_M_says_17 : decode b_M_says 17 = .ok (.getfield 47, 3) := by decide +kernel
theorem d_M_says_20 : decode b_M_says 20 = .ok (.iload_n 1, 1) := by decide +kernel
theorem d_M_says_21 : decode b_M_says 21 = .ok (.iaload, 1) := by decide +kernel
theorem d_M_says_22 : decode b_M_says 22 = .ok (.iload_n 3, 1) := by decide +kernel
theorem d_M_says_23 : decode b_M_says 23 = .ok (.iastore, 1) := by decide +kernel
theorem d_M_says_24 : decode b_M_says 24 = .ok (.aload_n 0, 1) := by decide +kernel
theorem d_M_says_25 : decode b_M_says 25 = .ok (.getfield 47, 3) := by decide +kernel
theorem d_M_says_28 : decode b_M_says 28 = .ok (.iload_n 1, 1) := by decide +kernel
theorem d_M_says_29 : decode b_M_says 29 = .ok (.dup2, 1) := by decide +kernel
end
section
theorem d_M_says_30 : decode b_M_says 30 = .ok (.iaload, 1) := by decide +kernel
theorem d_M_says_31 : decode b_M_says 31 = .ok (.iconst 1, 1) := by decide +kernel
theorem d_M_says_32 : decode b_M_says 32 = .ok (.iadd, 1) := by decide +kernel
theorem d_M_says_33 : decode b_M_says 33 = .ok (.iastore, 1) := by decide +kernel
theorem d_M_says_34 : decode b_M_says 34 = .ok (.return_, 1) := by decide +kernel
theorem d_M_topOf_0 : decode b_M_topOf 0 = .ok (.aload_n 0, 1) := by decide +kernel
theorem d_M_topOf_1 : decode b_M_topOf 1 = .ok (.getfield 32, 3) := by decide +kernel
theorem d_M_topOf_4 : decode b_M_topOf 4 = .ok (.iconst 4, 1) := by decide +kernel
theorem d_M_topOf_5 : decode b_M_topOf 5 = .ok (.iload_n 1, 1) := by decide +kernel
theorem d_M_topOf_6 : decode b_M_topOf 6 = .ok (.imul, 1) := by decide +kernel
theorem d_M_topOf_7 : decode b_M_topOf 7 = .ok (.iload_n 2, 1) := by decide +kernel
theorem d_M_topOf_8 : decode b_M_topOf 8 = .ok (.iadd, 1) := by decide +kernel
theorem d_M_topOf_9 : decode b_M_topOf 9 = .ok (.iaload, 1) := by decide +kernel
theorem d_M_topOf_10 : decode b_M_topOf 10 = .ok (.ifCond .ne 7, 3) := by decide +kernel
theorem d_M_topOf_13 : decode b_M_topOf 13 = .ok (.iconst (-1), 1) := by decide +kernel
theorem d_M_topOf_14 : decode b_M_topOf 14 = .ok (.goto 25, 3) := by decide +kernel
theorem d_M_topOf_17 : decode b_M_topOf 17 = .ok (.aload_n 0, 1) := by decide +kernel
theorem d_M_topOf_18 : decode b_M_topOf 18 = .ok (.getfield 29, 3) := by decide +kernel
theorem d_M_topOf_21 : decode b_M_topOf 21 = .ok (.iload_n 1, 1) := by decide +kernel
theorem d_M_topOf_22 : decode b_M_topOf 22 = .ok (.iload_n 2, 1) := by decide +kernel
theorem d_M_topOf_23 : decode b_M_topOf 23 = .ok (.aload_n 0, 1) := by decide +kernel
theorem d_M_topOf_24 : decode b_M_topOf 24 = .ok (.getfield 32, 3) := by decide +kernel
theorem d_M_topOf_27 : decode b_M_topOf 27 = .ok (.iconst 4, 1) := by decide +kernel
theorem d_M_topOf_28 : decode b_M_topOf 28 = .ok (.iload_n 1, 1) := by decide +kernel
theorem d_M_topOf_29 : decode b_M_topOf 29 = .ok (.imul, 1) := by decide +kernel
theorem d_M_topOf_30 : decode b_M_topOf 30 = .ok (.iload_n 2, 1) := by decide +kernel
theorem d_M_topOf_31 : decode b_M_topOf 31 = .ok (.iadd, 1) := by decide +kernel
theorem d_M_topOf_32 : decode b_M_topOf 32 = .ok (.iaload, 1) := by decide +kernel
theorem d_M_topOf_33 : decode b_M_topOf 33 = .ok (.iconst 1, 1) := by decide +kernel
theorem d_M_topOf_34 : decode b_M_topOf 34 = .ok (.isub, 1) := by decide +kernel
theorem d_M_topOf_35 : decode b_M_topOf 35 = .ok (.invokestatic 83, 3) := by decide +kernel
theorem d_M_topOf_38 : decode b_M_topOf 38 = .ok (.iaload, 1) := by decide +kernel
theorem d_M_topOf_39 : decode b_M_topOf 39 = .ok (.ireturn, 1) := by decide +kernel
theorem d_M_lift_0 : decode b_M_lift 0 = .ok (.aload_n 0, 1) := by decide +kernel
theorem d_M_lift_1 : decode b_M_lift 1 = .ok (.iload_n 1, 1) := by decide +kernel
theorem d_M_lift_2 : decode b_M_lift 2 = .ok (.iload_n 2, 1) := by decide +kernel
theorem d_M_lift_3 : decode b_M_lift 3 = .ok (.invokevirtual 109, 3) := by decide +kernel
theorem d_M_lift_6 : decode b_M_lift 6 = .ok (.istore 4, 2) := by decide +kernel
theorem d_M_lift_8 : decode b_M_lift 8 = .ok (.aload_n 0, 1) := by decide +kernel
theorem d_M_lift_9 : decode b_M_lift 9 = .ok (.getfield 32, 3) := by decide +kernel
theorem d_M_lift_12 : decode b_M_lift 12 = .ok (.iconst 4, 1) := by decide +kernel
theorem d_M_lift_13 : decode b_M_lift 13 = .ok (.iload_n 1, 1) := by decide +kernel
theorem d_M_lift_14 : decode b_M_lift 14 = .ok (.imul, 1) := by decide +kernel
theorem d_M_lift_15 : decode b_M_lift 15 = .ok (.iload_n 2, 1) := by decide +kernel
theorem d_M_lift_16 : decode b_M_lift 16 = .ok (.iadd, 1) := by decide +kernel
theorem d_M_lift_17 : decode b_M_lift 17 = .ok (.dup2, 1) := by decide +kernel
theorem d_M_lift_18 : decode b_M_lift 18 = .ok (.iaload, 1) := by decide +kernel
theorem d_M_lift_19 : decode b_M_lift 19 = .ok (.iconst 1, 1) := by decide +kernel
theorem d_M_lift_20 : decode b_M_lift 20 = .ok (.isub, 1) := by decide +kernel
theorem d_M_lift_21 : decode b_M_lift 21 = .ok (.iastore, 1) := by decide +kernel
theorem d_M_lift_22 : decode b_M_lift 22 = .ok (.aload_n 0, 1) := by decide +kernel
theorem d_M_lift_23 : decode b_M_lift 23 = .ok (.getfield 29, 3) := by decide +kernel
theorem d_M_lift_26 : decode b_M_lift 26 = .ok (.iload_n 1, 1) := by decide +kernel
theorem d_M_lift_27 : decode b_M_lift 27 = .ok (.iload_n 3, 1) := by decide +kernel
theorem d_M_lift_28 : decode b_M_lift 28 = .ok (.aload_n 0, 1) := by decide +kernel
theorem d_M_lift_29 : decode b_M_lift 29 = .ok (.getfield 32, 3) := by decide +kernel
theorem d_M_lift_32 : decode b_M_lift 32 = .ok (.iconst 4, 1) := by decide +kernel
theorem d_M_lift_33 : decode b_M_lift 33 = .ok (.iload_n 1, 1) := by decide +kernel
theorem d_M_lift_34 : decode b_M_lift 34 = .ok (.imul, 1) := by decide +kernel
theorem d_M_lift_35 : decode b_M_lift 35 = .ok (.iload_n 3, 1) := by decide +kernel
theorem d_M_lift_36 : decode b_M_lift 36 = .ok (.iadd, 1) := by decide +kernel
theorem d_M_lift_37 : decode b_M_lift 37 = .ok (.iaload, 1) := by decide +kernel
theorem d_M_lift_38 : decode b_M_lift 38 = .ok (.invokestatic 83, 3) := by decide +kernel
theorem d_M_lift_41 : decode b_M_lift 41 = .ok (.iload 4, 2) := by decide +kernel
theorem d_M_lift_43 : decode b_M_lift 43 = .ok (.iastore, 1) := by decide +kernel
theorem d_M_lift_44 : decode b_M_lift 44 = .ok (.aload_n 0, 1) := by decide +kernel
theorem d_M_lift_45 : decode b_M_lift 45 = .ok (.getfield 32, 3) := by decide +kernel
theorem d_M_lift_48 : decode b_M_lift 48 = .ok (.iconst 4, 1) := by decide +kernel
theorem d_M_lift_49 : decode b_M_lift 49 = .ok (.iload_n 1, 1) := by decide +kernel
theorem d_M_lift_50 : decode b_M_lift 50 = .ok (.imul, 1) := by decide +kernel
theorem d_M_lift_51 : decode b_M_lift 51 = .ok (.iload_n 3, 1) := by decide +kernel
theorem d_M_lift_52 : decode b_M_lift 52 = .ok (.iadd, 1) := by decide +kernel
theorem d_M_lift_53 : decode b_M_lift 53 = .ok (.dup2, 1) := by decide +kernel
theorem d_M_lift_54 : decode b_M_lift 54 = .ok (.iaload, 1) := by decide +kernel
theorem d_M_lift_55 : decode b_M_lift 55 = .ok (.iconst 1, 1) := by decide +kernel
theorem d_M_lift_56 : decode b_M_lift 56 = .ok (.iadd, 1) := by decide +kernel
theorem d_M_lift_57 : decode b_M_lift 57 = .ok (.iastore, 1) := by decide +kernel
theorem d_M_lift_58 : decode b_M_lift 58 = .ok (.return_, 1) := by decide +kernel
theorem d_M_nextWanted_0 : decode b_M_nextWanted 0 = .ok (.iconst (-1), 1) := by decide +kernel
theorem d_M_nextWanted_1 : decode b_M_nextWanted 1 = .ok (.istore_n 2, 1) := by decide +kernel
theorem d_M_nextWanted_2 : decode b_M_nextWanted 2 = .ok (.iconst 0, 1) := by decide +kernel
theorem d_M_nextWanted_3 : decode b_M_nextWanted 3 = .ok (.istore_n 3, 1) := by decide +kernel
theorem d_M_nextWanted_4 : decode b_M_nextWanted 4 = .ok (.iload_n 3, 1) := by decide +kernel
theorem d_M_nextWanted_5 : decode b_M_nextWanted 5 = .ok (.aload_n 0, 1) := by decide +kernel
theorem d_M_nextWanted_6 : decode b_M_nextWanted 6 = .ok (.getfield 59, 3) := by decide +kernel
theorem d_M_nextWanted_9 : decode b_M_nextWanted 9 = .ok (.if_icmp .ge 42, 3) := by decide +kernel
theorem d_M_nextWanted_12 : decode b_M_nextWanted 12 = .ok (.aload_n 0, 1) := by decide +kernel
theorem d_M_nextWanted_13 : decode b_M_nextWanted 13 = .ok (.iload_n 1, 1) := by decide +kernel
theorem d_M_nextWanted_14 : decode b_M_nextWanted 14 = .ok (.iload_n 3, 1) := by decide +kernel
theorem d_M_nextWanted_15 : decode b_M_nextWanted 15 = .ok (.invokevirtual 94, 3) := by decide +kernel
theorem d_M_nextWanted_18 : decode b_M_nextWanted 18 = .ok (.ifCond .ne 27, 3) := by decide +kernel
theorem d_M_nextWanted_21 : decode b_M_nextWanted 21 = .ok (.aload_n 0, 1) := by decide +kernel
theorem d_M_nextWanted_22 : decode b_M_nextWanted 22 = .ok (.getfield 23, 3) := by decide +kernel
theorem d_M_nextWanted_25 : decode b_M_nextWanted 25 = .ok (.iload_n 3, 1) := by decide +kernel
theorem d_M_nextWanted_26 : decode b_M_nextWanted 26 = .ok (.iaload, 1) := by decide +kernel
theorem d_M_nextWanted_27 : decode b_M_nextWanted 27 = .ok (.ifCond .lt 18, 3) := by decide +kernel
theorem d_M_nextWanted_30 : decode b_M_nextWanted 30 = .ok (.iload_n 2, 1) := by decide +kernel
theorem d_M_nextWanted_31 : decode b_M_nextWanted 31 = .ok (.ifCond .lt 12, 3) := by decide +kernel
theorem d_M_nextWanted_34 : decode b_M_nextWanted 34 = .ok (.aload_n 0, 1) := by decide +kernel
theorem d_M_nextWanted_35 : decode b_M_nextWanted 35 = .ok (.iload_n 3, 1) := by decide +kernel
theorem d_M_nextWanted_36 : decode b_M_nextWanted 36 = .ok (.iload_n 2, 1) := by decide +kernel
theorem d_M_nextWanted_37 : decode b_M_nextWanted 37 = .ok (.invokevirtual 98, 3) := by decide +kernel
theorem d_M_nextWanted_40 : decode b_M_nextWanted 40 = .ok (.ifCond .eq 5, 3) := by decide +kernel
theorem d_M_nextWanted_43 : decode b_M_nextWanted 43 = .ok (.iload_n 3, 1) := by decide +kernel
theorem d_M_nextWanted_44 : decode b_M_nextWanted 44 = .ok (.istore_n 2, 1) := by decide +kernel
theorem d_M_nextWanted_45 : decode b_M_nextWanted 45 = .ok (.iinc 3 1, 3) := by decide +kernel
theorem d_M_nextWanted_48 : decode b_M_nextWanted 48 = .ok (.goto (-44), 3) := by decide +kernel
theorem d_M_nextWanted_51 : decode b_M_nextWanted 51 = .ok (.iload_n 2, 1) := by decide +kernel
theorem d_M_nextWanted_52 : decode b_M_nextWanted 52 = .ok (.ireturn, 1) := by decide +kernel
theorem d_M_leaves_0 : decode b_M_leaves 0 = .ok (.aload_n 0, 1) := by decide +kernel
theorem d_M_leaves_1 : decode b_M_leaves 1 = .ok (.iload_n 1, 1) := by decide +kernel
theorem d_M_leaves_2 : decode b_M_leaves 2 = .ok (.invokevirtual 113, 3) := by decide +kernel
theorem d_M_leaves_5 : decode b_M_leaves 5 = .ok (.istore_n 2, 1) := by decide +kernel
theorem d_M_leaves_6 : decode b_M_leaves 6 = .ok (.iload_n 2, 1) := by decide +kernel
theorem d_M_leaves_7 : decode b_M_leaves 7 = .ok (.ifCond .ge 5, 3) := by decide +kernel
theorem d_M_leaves_10 : decode b_M_leaves 10 = .ok (.iconst 1, 1) := by decide +kernel
theorem d_M_leaves_11 : decode b_M_leaves 11 = .ok (.ireturn, 1) := by decide +kernel
theorem d_M_leaves_12 : decode b_M_leaves 12 = .ok (.iconst (-1), 1) := by decide +kernel
theorem d_M_leaves_13 : decode b_M_leaves 13 = .ok (.istore_n 3, 1) := by decide +kernel
theorem d_M_leaves_14 : decode b_M_leaves 14 = .ok (.iconst 0, 1) := by decide +kernel
theorem d_M_leaves_15 : decode b_M_leaves 15 = .ok (.istore 4, 2) := by decide +kernel
theorem d_M_leaves_17 : decode b_M_leaves 17 = .ok (.iload 4, 2) := by decide +kernel
theorem d_M_leaves_19 : decode b_M_leaves 19 = .ok (.aload_n 0, 1) := by decide +kernel
theorem d_M_leaves_20 : decode b_M_leaves 20 = .ok (.getfield 7, 3) := by decide +kernel
theorem d_M_leaves_23 : decode b_M_leaves 23 = .ok (.if_icmp .ge 23, 3) := by decide +kernel
theorem d_M_leaves_26 : decode b_M_leaves 26 = .ok (.aload_n 0, 1) := by decide +kernel
theorem d_M_leaves_27 : decode b_M_leaves 27 = .ok (.iload_n 1, 1) := by decide +kernel
theorem d_M_leaves_28 : decode b_M_leaves 28 = .ok (.iload 4, 2) := by decide +kernel
theorem d_M_leaves_30 : decode b_M_leaves 30 = .ok (.invokevirtual 109, 3) := by decide +kernel
theorem d_M_leaves_33 : decode b_M_leaves 33 = .ok (.iload_n 2, 1) := by decide +kernel
theorem d_M_leaves_34 : decode b_M_leaves 34 = .ok (.if_icmp .ne 6, 3) := by decide +kernel
theorem d_M_leaves_37 : decode b_M_leaves 37 = .ok (.iload 4, 2) := by decide +kernel
theorem d_M_leaves_39 : decode b_M_leaves 39 = .ok (.istore_n 3, 1) := by decide +kernel
theorem d_M_leaves_40 : decode b_M_leaves 40 = .ok (.iinc 4 1, 3) := by decide +kernel
theorem d_M_leaves_43 : decode b_M_leaves 43 = .ok (.goto (-26), 3) := by decide +kernel
theorem d_M_leaves_46 : decode b_M_leaves 46 = .ok (.iload_n 3, 1) := by decide +kernel
theorem d_M_leaves_47 : decode b_M_leaves 47 = .ok (.ifCond .ge 5, 3) := by decide +kernel
theorem d_M_leaves_50 : decode b_M_leaves 50 = .ok (.iconst 0, 1) := by decide +kernel
theorem d_M_leaves_51 : decode b_M_leaves 51 = .ok (.ireturn, 1) := by decide +kernel
theorem d_M_leaves_52 : decode b_M_leaves 52 = .ok (.aload_n 0, 1) := by decide +kernel
theorem d_M_leaves_53 : decode b_M_leaves 53 = .ok (.getfield 32, 3) := by decide +kernel
theorem d_M_leaves_56 : decode b_M_leaves 56 = .ok (.iconst 4, 1) := by decide +kernel
theorem d_M_leaves_57 : decode b_M_leaves 57 = .ok (.iload_n 1, 1) := by decide +kernel
theorem d_M_leaves_58 : decode b_M_leaves 58 = .ok (.imul, 1) := by decide +kernel
theorem d_M_leaves_59 : decode b_M_leaves 59 = .ok (.iload_n 3, 1) := by decide +kernel
theorem d_M_leaves_60 : decode b_M_leaves 60 = .ok (.iadd, 1) := by decide +kernel
theorem d_M_leaves_61 : decode b_M_leaves 61 = .ok (.dup2, 1) := by decide +kernel
theorem d_M_leaves_62 : decode b_M_leaves 62 = .ok (.iaload, 1) := by decide +kernel
theorem d_M_leaves_63 : decode b_M_leaves 63 = .ok (.iconst 1, 1) := by decide +kernel
theorem d_M_leaves_64 : decode b_M_leaves 64 = .ok (.isub, 1) := by decide +kernel
theorem d_M_leaves_65 : decode b_M_leaves 65 = .ok (.iastore, 1) := by decide +kernel
theorem d_M_leaves_66 : decode b_M_leaves 66 = .ok (.aload_n 0, 1) := by decide +kernel
theorem d_M_leaves_67 : decode b_M_leaves 67 = .ok (.getfield 35, 3) := by decide +kernel
theorem d_M_leaves_70 : decode b_M_leaves 70 = .ok (.iload_n 1, 1) := by decide +kernel
theorem d_M_leaves_71 : decode b_M_leaves 71 = .ok (.aload_n 0, 1) := by decide +kernel
theorem d_M_leaves_72 : decode b_M_leaves 72 = .ok (.getfield 35, 3) := by decide +kernel
theorem d_M_leaves_75 : decode b_M_leaves 75 = .ok (.iload_n 1, 1) := by decide +kernel
theorem d_M_leaves_76 : decode b_M_leaves 76 = .ok (.iaload, 1) := by decide +kernel
theorem d_M_leaves_77 : decode b_M_leaves 77 = .ok (.iconst 1, 1) := by decide +kernel
theorem d_M_leaves_78 : decode b_M_leaves 78 = .ok (.iload_n 2, 1) := by decide +kernel
theorem d_M_leaves_79 : decode b_M_leaves 79 = .ok (.ishl, 1) := by decide +kernel
theorem d_M_leaves_80 : decode b_M_leaves 80 = .ok (.ior, 1) := by decide +kernel
theorem d_M_leaves_81 : decode b_M_leaves 81 = .ok (.iastore, 1) := by decide +kernel
theorem d_M_leaves_82 : decode b_M_leaves 82 = .ok (.aload_n 0, 1) := by decide +kernel
theorem d_M_leaves_83 : decode b_M_leaves 83 = .ok (.iload_n 1, 1) := by decide +kernel
theorem d_M_leaves_84 : decode b_M_leaves 84 = .ok (.iload_n 2, 1) := by decide +kernel
theorem d_M_leaves_85 : decode b_M_leaves 85 = .ok (.iconst (-1), 1) := by decide +kernel
theorem d_M_leaves_86 : decode b_M_leaves 86 = .ok (.invokevirtual 116, 3) := by decide +kernel
theorem d_M_leaves_89 : decode b_M_leaves 89 = .ok (.goto (-89), 3) := by decide +kernel
theorem d_M_round_0 : decode b_M_round 0 = .ok (.iload_n 2, 1) := by decide +kernel
theorem d_M_round_1 : decode b_M_round 1 = .ok (.istore_n 3, 1) := by decide +kernel
theorem d_M_round_2 : decode b_M_round 2 = .ok (.iconst 1, 1) := by decide +kernel
theorem d_M_round_3 : decode b_M_round 3 = .ok (.istore 4, 2) := by decide +kernel
theorem d_M_round_5 : decode b_M_round 5 = .ok (.aload_n 0, 1) := by decide +kernel
theorem d_M_round_6 : decode b_M_round 6 = .ok (.iconst 0, 1) := by decide +kernel
theorem d_M_round_7 : decode b_M_round 7 = .ok (.iconst 1, 1) := by decide +kernel
theorem d_M_round_8 : decode b_M_round 8 = .ok (.invokevirtual 120, 3) := by decide +kernel
theorem d_M_round_11 : decode b_M_round 11 = .ok (.aload_n 0, 1) := by decide +kernel
theorem d_M_round_12 : decode b_M_round 12 = .ok (.getfield 47, 3) := by decide +kernel
theorem d_M_round_15 : decode b_M_round 15 = .ok (.iconst 1, 1) := by decide +kernel
theorem d_M_round_16 : decode b_M_round 16 = .ok (.iconst 0, 1) := by decide +kernel
theorem d_M_round_17 : decode b_M_round 17 = .ok (.iastore, 1) := by decide +kernel
theorem d_M_round_18 : decode b_M_round 18 = .ok (.aload_n 0, 1) := by decide +kernel
theorem d_M_round_19 : decode b_M_round 19 = .ok (.iconst 1, 1) := by decide +kernel
theorem d_M_round_20 : decode b_M_round 20 = .ok (.invokevirtual 124, 3) := by decide +kernel
theorem d_M_round_23 : decode b_M_round 23 = .ok (.ifCond .eq 20, 3) := by decide +kernel
theorem d_M_round_26 : decode b_M_round 26 = .ok (.aload_n 0, 1) := by decide +kernel
theorem d_M_round_27 : decode b_M_round 27 = .ok (.iconst 1, 1) := by decide +kernel
theorem d_M_round_28 : decode b_M_round 28 = .ok (.putfield 70, 3) := by decide +kernel
theorem d_M_round_31 : decode b_M_round 31 = .ok (.aload_n 0, 1) := by decide +kernel
theorem d_M_round_32 : decode b_M_round 32 = .ok (.aload_n 0, 1) := by decide +kernel
theorem d_M_round_33 : decode b_M_round 33 = .ok (.getfield 47, 3) := by decide +kernel
theorem d_M_round_36 : decode b_M_round 36 = .ok (.iconst 1, 1) := by decide +kernel
theorem d_M_round_37 : decode b_M_round 37 = .ok (.iaload, 1) := by decide +kernel
theorem d_M_round_38 : decode b_M_round 38 = .ok (.putfield 127, 3) := by decide +kernel
theorem d_M_round_41 : decode b_M_round 41 = .ok (.iload_n 3, 1) := by decide +kernel
theorem d_M_round_42 : decode b_M_round 42 = .ok (.ireturn, 1) := by decide +kernel
theorem d_M_round_43 : decode b_M_round 43 = .ok (.aload_n 0, 1) := by decide +kernel
theorem d_M_round_44 : decode b_M_round 44 = .ok (.getfield 38, 3) := by decide +kernel
theorem d_M_round_47 : decode b_M_round 47 = .ok (.iconst 1, 1) := by decide +kernel
theorem d_M_round_48 : decode b_M_round 48 = .ok (.iconst 0, 1) := by decide +kernel
theorem d_M_round_49 : decode b_M_round 49 = .ok (.iastore, 1) := by decide +kernel
theorem d_M_round_50 : decode b_M_round 50 = .ok (.iload 4, 2) := by decide +kernel
theorem d_M_round_52 : decode b_M_round 52 = .ok (.ifCond .le 232, 3) := by decide +kernel
theorem d_M_round_55 : decode b_M_round 55 = .ok (.aload_n 0, 1) := by decide +kernel
theorem d_M_round_56 : decode b_M_round 56 = .ok (.getfield 38, 3) := by decide +kernel
theorem d_M_round_59 : decode b_M_round 59 = .ok (.iload 4, 2) := by decide +kernel
theorem d_M_round_61 : decode b_M_round 61 = .ok (.iaload, 1) := by decide +kernel
theorem d_M_round_62 : decode b_M_round 62 = .ok (.istore 5, 2) := by decide +kernel
theorem d_M_round_64 : decode b_M_round 64 = .ok (.iload 5, 2) := by decide +kernel
theorem d_M_round_66 : decode b_M_round 66 = .ok (.aload_n 0, 1) := by decide +kernel
theorem d_M_round_67 : decode b_M_round 67 = .ok (.getfield 7, 3) := by decide +kernel
theorem d_M_round_70 : decode b_M_round 70 = .ok (.aload_n 0, 1) := by decide +kernel
theorem d_M_round_71 : decode b_M_round 71 = .ok (.getfield 7, 3) := by decide +kernel
theorem d_M_round_74 : decode b_M_round 74 = .ok (.imul, 1) := by decide +kernel
theorem d_M_round_75 : decode b_M_round 75 = .ok (.if_icmp .ne 20, 3) := by decide +kernel
theorem d_M_round_78 : decode b_M_round 78 = .ok (.iinc 4 (-1), 3) := by decide +kernel
theorem d_M_round_81 : decode b_M_round 81 = .ok (.aload_n 0, 1) := by decide +kernel
theorem d_M_round_82 : decode b_M_round 82 = .ok (.getfield 38, 3) := by decide +kernel
theorem d_M_round_85 : decode b_M_round 85 = .ok (.iload 4, 2) := by decide +kernel
theorem d_M_round_87 : decode b_M_round 87 = .ok (.dup2, 1) := by decide +kernel
theorem d_M_round_88 : decode b_M_round 88 = .ok (.iaload, 1) := by decide +kernel
theorem d_M_round_89 : decode b_M_round 89 = .ok (.iconst 1, 1) := by decide +kernel
theorem d_M_round_90 : decode b_M_round 90 = .ok (.iadd, 1) := by decide +kernel
theorem d_M_round_91 : decode b_M_round 91 = .ok (.iastore, 1) := by decide +kernel
theorem d_M_round_92 : decode b_M_round 92 = .ok (.goto (-42), 3) := by decide +kernel
theorem d_M_round_95 : decode b_M_round 95 = .ok (.iload 5, 2) := by decide +kernel
theorem d_M_round_97 : decode b_M_round 97 = .ok (.aload_n 0, 1) := by decide +kernel
theorem d_M_round_98 : decode b_M_round 98 = .ok (.getfield 7, 3) := by decide +kernel
theorem d_M_round_101 : decode b_M_round 101 = .ok (.idiv, 1) := by decide +kernel
theorem d_M_round_102 : decode b_M_round 102 = .ok (.istore 6, 2) := by decide +kernel
theorem d_M_round_104 : decode b_M_round 104 = .ok (.iload 5, 2) := by decide +kernel
theorem d_M_round_106 : decode b_M_round 106 = .ok (.aload_n 0, 1) := by decide +kernel
theorem d_M_round_107 : decode b_M_round 107 = .ok (.getfield 7, 3) := by decide +kernel
theorem d_M_round_110 : decode b_M_round 110 = .ok (.irem, 1) := by decide +kernel
theorem d_M_round_111 : decode b_M_round 111 = .ok (.istore 7, 2) := by decide +kernel
theorem d_M_round_113 : decode b_M_round 113 = .ok (.aload_n 0, 1) := by decide +kernel
theorem d_M_round_114 : decode b_M_round 114 = .ok (.iload 4, 2) := by decide +kernel
theorem d_M_round_116 : decode b_M_round 116 = .ok (.iload 6, 2) := by decide +kernel
theorem d_M_round_118 : decode b_M_round 118 = .ok (.invokevirtual 109, 3) := by decide +kernel
theorem d_M_round_121 : decode b_M_round 121 = .ok (.istore 8, 2) := by decide +kernel
theorem d_M_round_123 : decode b_M_round 123 = .ok (.iload 6, 2) := by decide +kernel
theorem d_M_round_125 : decode b_M_round 125 = .ok (.iload 7, 2) := by decide +kernel
theorem d_M_round_127 : decode b_M_round 127 = .ok (.if_icmp .eq 26, 3) := by decide +kernel
theorem d_M_round_130 : decode b_M_round 130 = .ok (.iload 8, 2) := by decide +kernel
theorem d_M_round_132 : decode b_M_round 132 = .ok (.ifCond .lt 21, 3) := by decide +kernel
theorem d_M_round_135 : decode b_M_round 135 = .ok (.aload_n 0, 1) := by decide +kernel
theorem d_M_round_136 : decode b_M_round 136 = .ok (.iload 4, 2) := by decide +kernel
theorem d_M_round_138 : decode b_M_round 138 = .ok (.iload 7, 2) := by decide +kernel
theorem d_M_round_140 : decode b_M_round 140 = .ok (.aload_n 0, 1) := by decide +kernel
theorem d_M_round_141 : decode b_M_round 141 = .ok (.getfield 20, 3) := by decide +kernel
theorem d_M_round_144 : decode b_M_round 144 = .ok (.iload 8, 2) := by decide +kernel
theorem d_M_round_146 : decode b_M_round 146 = .ok (.iaload, 1) := by decide +kernel
theorem d_M_round_147 : decode b_M_round 147 = .ok (.invokevirtual 87, 3) := by decide +kernel
theorem d_M_round_150 : decode b_M_round 150 = .ok (.ifCond .ne 17, 3) := by decide +kernel
theorem d_M_round_153 : decode b_M_round 153 = .ok (.aload_n 0, 1) := by decide +kernel
theorem d_M_round_154 : decode b_M_round 154 = .ok (.getfield 38, 3) := by decide +kernel
theorem d_M_round_157 : decode b_M_round 157 = .ok (.iload 4, 2) := by decide +kernel
theorem d_M_round_159 : decode b_M_round 159 = .ok (.dup2, 1) := by decide +kernel
theorem d_M_round_160 : decode b_M_round 160 = .ok (.iaload, 1) := by decide +kernel
theorem d_M_round_161 : decode b_M_round 161 = .ok (.iconst 1, 1) := by decide +kernel
theorem d_M_round_162 : decode b_M_round 162 = .ok (.iadd, 1) := by decide +kernel
theorem d_M_round_163 : decode b_M_round 163 = .ok (.iastore, 1) := by decide +kernel
theorem d_M_round_164 : decode b_M_round 164 = .ok (.goto (-114), 3) := by decide +kernel
theorem d_M_round_167 : decode b_M_round 167 = .ok (.iload_n 3, 1) := by decide +kernel
theorem d_M_round_168 : decode b_M_round 168 = .ok (.ifCond .ne 5, 3) := by decide +kernel
theorem d_M_round_171 : decode b_M_round 171 = .ok (.iconst (-1), 1) := by decide +kernel
theorem d_M_round_172 : decode b_M_round 172 = .ok (.ireturn, 1) := by decide +kernel
theorem d_M_round_173 : decode b_M_round 173 = .ok (.iinc 3 (-1), 3) := by decide +kernel
theorem d_M_round_176 : decode b_M_round 176 = .ok (.aload_n 0, 1) := by decide +kernel
theorem d_M_round_177 : decode b_M_round 177 = .ok (.iload 4, 2) := by decide +kernel
theorem d_M_round_179 : decode b_M_round 179 = .ok (.iload 4, 2) := by decide +kernel
theorem d_M_round_181 : decode b_M_round 181 = .ok (.iconst 1, 1) := by decide +kernel
theorem d_M_round_182 : decode b_M_round 182 = .ok (.iadd, 1) := by decide +kernel
theorem d_M_round_183 : decode b_M_round 183 = .ok (.invokevirtual 120, 3) := by decide +kernel
theorem d_M_round_186 : decode b_M_round 186 = .ok (.aload_n 0, 1) := by decide +kernel
theorem d_M_round_187 : decode b_M_round 187 = .ok (.iload 4, 2) := by decide +kernel
theorem d_M_round_189 : decode b_M_round 189 = .ok (.iconst 1, 1) := by decide +kernel
theorem d_M_round_190 : decode b_M_round 190 = .ok (.iadd, 1) := by decide +kernel
theorem d_M_round_191 : decode b_M_round 191 = .ok (.iload 6, 2) := by decide +kernel
theorem d_M_round_193 : decode b_M_round 193 = .ok (.iload 7, 2) := by decide +kernel
theorem d_M_round_195 : decode b_M_round 195 = .ok (.invokevirtual 130, 3) := by decide +kernel
theorem d_M_round_198 : decode b_M_round 198 = .ok (.aload_n 0, 1) := by decide +kernel
theorem d_M_round_199 : decode b_M_round 199 = .ok (.iload 4, 2) := by decide +kernel
theorem d_M_round_201 : decode b_M_round 201 = .ok (.iconst 1, 1) := by decide +kernel
theorem d_M_round_202 : decode b_M_round 202 = .ok (.iadd, 1) := by decide +kernel
theorem d_M_round_203 : decode b_M_round 203 = .ok (.iload 8, 2) := by decide +kernel
theorem d_M_round_205 : decode b_M_round 205 = .ok (.iload 7, 2) := by decide +kernel
theorem d_M_round_207 : decode b_M_round 207 = .ok (.invokevirtual 116, 3) := by decide +kernel
theorem d_M_round_210 : decode b_M_round 210 = .ok (.aload_n 0, 1) := by decide +kernel
theorem d_M_round_211 : decode b_M_round 211 = .ok (.iload 4, 2) := by decide +kernel
theorem d_M_round_213 : decode b_M_round 213 = .ok (.iconst 1, 1) := by decide +kernel
theorem d_M_round_214 : decode b_M_round 214 = .ok (.iadd, 1) := by decide +kernel
theorem d_M_round_215 : decode b_M_round 215 = .ok (.invokevirtual 124, 3) := by decide +kernel
theorem d_M_round_218 : decode b_M_round 218 = .ok (.ifCond .eq 23, 3) := by decide +kernel
theorem d_M_round_221 : decode b_M_round 221 = .ok (.aload_n 0, 1) := by decide +kernel
theorem d_M_round_222 : decode b_M_round 222 = .ok (.iconst 1, 1) := by decide +kernel
theorem d_M_round_223 : decode b_M_round 223 = .ok (.putfield 70, 3) := by decide +kernel
theorem d_M_round_226 : decode b_M_round 226 = .ok (.aload_n 0, 1) := by decide +kernel
theorem d_M_round_227 : decode b_M_round 227 = .ok (.aload_n 0, 1) := by decide +kernel
theorem d_M_round_228 : decode b_M_round 228 = .ok (.getfield 47, 3) := by decide +kernel
theorem d_M_round_231 : decode b_M_round 231 = .ok (.iload 4, 2) := by decide +kernel
theorem d_M_round_233 : decode b_M_round 233 = .ok (.iconst 1, 1) := by decide +kernel
theorem d_M_round_234 : decode b_M_round 234 = .ok (.iadd, 1) := by decide +kernel
theorem d_M_round_235 : decode b_M_round 235 = .ok (.iaload, 1) := by decide +kernel
theorem d_M_round_236 : decode b_M_round 236 = .ok (.putfield 127, 3) := by decide +kernel
theorem d_M_round_239 : decode b_M_round 239 = .ok (.iload_n 3, 1) := by decide +kernel
theorem d_M_round_240 : decode b_M_round 240 = .ok (.ireturn, 1) := by decide +kernel
theorem d_M_round_241 : decode b_M_round 241 = .ok (.iload 4, 2) := by decide +kernel
theorem d_M_round_243 : decode b_M_round 243 = .ok (.aload_n 0, 1) := by decide +kernel
theorem d_M_round_244 : decode b_M_round 244 = .ok (.iload 4, 2) := by decide +kernel
theorem d_M_round_246 : decode b_M_round 246 = .ok (.iconst 1, 1) := by decide +kernel
theorem d_M_round_247 : decode b_M_round 247 = .ok (.iadd, 1) := by decide +kernel
theorem d_M_round_248 : decode b_M_round 248 = .ok (.invokevirtual 105, 3) := by decide +kernel
theorem d_M_round_251 : decode b_M_round 251 = .ok (.iadd, 1) := by decide +kernel
theorem d_M_round_252 : decode b_M_round 252 = .ok (.iload_n 1, 1) := by decide +kernel
theorem d_M_round_253 : decode b_M_round 253 = .ok (.if_icmp .le 17, 3) := by decide +kernel
theorem d_M_round_256 : decode b_M_round 256 = .ok (.aload_n 0, 1) := by decide +kernel
theorem d_M_round_257 : decode b_M_round 257 = .ok (.getfield 38, 3) := by decide +kernel
theorem d_M_round_260 : decode b_M_round 260 = .ok (.iload 4, 2) := by decide +kernel
theorem d_M_round_262 : decode b_M_round 262 = .ok (.dup2, 1) := by decide +kernel
theorem d_M_round_263 : decode b_M_round 263 = .ok (.iaload, 1) := by decide +kernel
theorem d_M_round_264 : decode b_M_round 264 = .ok (.iconst 1, 1) := by decide +kernel
theorem d_M_round_265 : decode b_M_round 265 = .ok (.iadd, 1) := by decide +kernel
theorem d_M_round_266 : decode b_M_round 266 = .ok (.iastore, 1) := by decide +kernel
theorem d_M_round_267 : decode b_M_round 267 = .ok (.goto (-217), 3) := by decide +kernel
theorem d_M_round_270 : decode b_M_round 270 = .ok (.iinc 4 1, 3) := by decide +kernel
theorem d_M_round_273 : decode b_M_round 273 = .ok (.aload_n 0, 1) := by decide +kernel
theorem d_M_round_274 : decode b_M_round 274 = .ok (.getfield 38, 3) := by decide +kernel
theorem d_M_round_277 : decode b_M_round 277 = .ok (.iload 4, 2) := by decide +kernel
theorem d_M_round_279 : decode b_M_round 279 = .ok (.iconst 0, 1) := by decide +kernel
theorem d_M_round_280 : decode b_M_round 280 = .ok (.iastore, 1) := by decide +kernel
theorem d_M_round_281 : decode b_M_round 281 = .ok (.goto (-231), 3) := by decide +kernel
theorem d_M_round_284 : decode b_M_round 284 = .ok (.iload_n 3, 1) := by decide +kernel
theorem d_M_round_285 : decode b_M_round 285 = .ok (.ireturn, 1) := by decide +kernel
theorem d_M_run_0 : decode b_M_run 0 = .ok (.aload_n 0, 1) := by decide +kernel
theorem d_M_run_1 : decode b_M_run 1 = .ok (.iload_n 1, 1) := by decide +kernel
theorem d_M_run_2 : decode b_M_run 2 = .ok (.iconst 0, 1) := by decide +kernel
theorem d_M_run_3 : decode b_M_run 3 = .ok (.ldc 133, 2) := by decide +kernel
theorem d_M_run_5 : decode b_M_run 5 = .ok (.invokestatic 62, 3) := by decide +kernel
theorem d_M_run_8 : decode b_M_run 8 = .ok (.iconst 1, 1) := by decide +kernel
theorem d_M_run_9 : decode b_M_run 9 = .ok (.iconst 1, 1) := by decide +kernel
theorem d_M_run_10 : decode b_M_run 10 = .ok (.invokevirtual 73, 3) := by decide +kernel
theorem d_M_run_13 : decode b_M_run 13 = .ok (.ifCond .ne 5, 3) := by decide +kernel
theorem d_M_run_16 : decode b_M_run 16 = .ok (.iconst 0, 1) := by decide +kernel
theorem d_M_run_17 : decode b_M_run 17 = .ok (.ireturn, 1) := by decide +kernel
theorem d_M_run_18 : decode b_M_run 18 = .ok (.aload_n 0, 1) := by decide +kernel
theorem d_M_run_19 : decode b_M_run 19 = .ok (.iconst 1, 1) := by decide +kernel
theorem d_M_run_20 : decode b_M_run 20 = .ok (.putfield 66, 3) := by decide +kernel
theorem d_M_run_23 : decode b_M_run 23 = .ok (.aload_n 0, 1) := by decide +kernel
theorem d_M_run_24 : decode b_M_run 24 = .ok (.iconst 0, 1) := by decide +kernel
theorem d_M_run_25 : decode b_M_run 25 = .ok (.putfield 70, 3) := by decide +kernel
theorem d_M_run_28 : decode b_M_run 28 = .ok (.aload_n 0, 1) := by decide +kernel
theorem d_M_run_29 : decode b_M_run 29 = .ok (.iconst 0, 1) := by decide +kernel
theorem d_M_run_30 : decode b_M_run 30 = .ok (.putfield 134, 3) := by decide +kernel
theorem d_M_run_33 : decode b_M_run 33 = .ok (.iload_n 1, 1) := by decide +kernel
theorem d_M_run_34 : decode b_M_run 34 = .ok (.istore_n 2, 1) := by decide +kernel
theorem d_M_run_35 : decode b_M_run 35 = .ok (.aload_n 0, 1) := by decide +kernel
theorem d_M_run_36 : decode b_M_run 36 = .ok (.iconst 0, 1) := by decide +kernel
theorem d_M_run_37 : decode b_M_run 37 = .ok (.invokevirtual 105, 3) := by decide +kernel
theorem d_M_run_40 : decode b_M_run 40 = .ok (.istore_n 3, 1) := by decide +kernel
theorem d_M_run_41 : decode b_M_run 41 = .ok (.iload_n 3, 1) := by decide +kernel
theorem d_M_run_42 : decode b_M_run 42 = .ok (.bipush 12, 2) := by decide +kernel
theorem d_M_run_44 : decode b_M_run 44 = .ok (.if_icmp .gt 27, 3) := by decide +kernel
theorem d_M_run_47 : decode b_M_run 47 = .ok (.iload_n 2, 1) := by decide +kernel
theorem d_M_run_48 : decode b_M_run 48 = .ok (.ifCond .lt 23, 3) := by decide +kernel
theorem d_M_run_51 : decode b_M_run 51 = .ok (.aload_n 0, 1) := by decide +kernel
theorem d_M_run_52 : decode b_M_run 52 = .ok (.getfield 70, 3) := by decide +kernel
theorem d_M_run_55 : decode b_M_run 55 = .ok (.ifCond .ne 16, 3) := by decide +kernel
theorem d_M_run_58 : decode b_M_run 58 = .ok (.aload_n 0, 1) := by decide +kernel
theorem d_M_run_59 : decode b_M_run 59 = .ok (.iload_n 3, 1) := by decide +kernel
theorem d_M_run_60 : decode b_M_run 60 = .ok (.iload_n 2, 1) := by decide +kernel
theorem d_M_run_61 : decode b_M_run 61 = .ok (.invokevirtual 137, 3) := by decide +kernel
theorem d_M_run_64 : decode b_M_run 64 = .ok (.istore_n 2, 1) := by decide +kernel
theorem d_M_run_65 : decode b_M_run 65 = .ok (.iinc 3 1, 3) := by decide +kernel
theorem d_M_run_68 : decode b_M_run 68 = .ok (.goto (-27), 3) := by decide +kernel
theorem d_M_run_71 : decode b_M_run 71 = .ok (.aload_n 0, 1) := by decide +kernel
theorem d_M_run_72 : decode b_M_run 72 = .ok (.aload_n 0, 1) := by decide +kernel
theorem d_M_run_73 : decode b_M_run 73 = .ok (.getfield 70, 3) := by decide +kernel
theorem d_M_run_76 : decode b_M_run 76 = .ok (.ifCond .ne 7, 3) := by decide +kernel
theorem d_M_run_79 : decode b_M_run 79 = .ok (.iload_n 2, 1) := by decide +kernel
theorem d_M_run_80 : decode b_M_run 80 = .ok (.ifCond .lt 7, 3) := by decide +kernel
theorem d_M_run_83 : decode b_M_run 83 = .ok (.iconst 1, 1) := by decide +kernel
theorem d_M_run_84 : decode b_M_run 84 = .ok (.goto 4, 3) := by decide +kernel
theorem d_M_run_87 : decode b_M_run 87 = .ok (.iconst 0, 1) := by decide +kernel
theorem d_M_run_88 : decode b_M_run 88 = .ok (.putfield 134, 3) := by decide +kernel
theorem d_M_run_91 : decode b_M_run 91 = .ok (.aload_n 0, 1) := by decide +kernel
theorem d_M_run_92 : decode b_M_run 92 = .ok (.getfield 70, 3) := by decide +kernel
theorem d_M_run_95 : decode b_M_run 95 = .ok (.ifCond .ne 5, 3) := by decide +kernel
theorem d_M_run_98 : decode b_M_run 98 = .ok (.iconst (-1), 1) := by decide +kernel
theorem d_M_run_99 : decode b_M_run 99 = .ok (.ireturn, 1) := by decide +kernel
theorem d_M_run_100 : decode b_M_run 100 = .ok (.iconst 0, 1) := by decide +kernel
theorem d_M_run_101 : decode b_M_run 101 = .ok (.istore_n 3, 1) := by decide +kernel
theorem d_M_run_102 : decode b_M_run 102 = .ok (.iconst 0, 1) := by decide +kernel
theorem d_M_run_103 : decode b_M_run 103 = .ok (.istore 4, 2) := by decide +kernel
theorem d_M_run_105 : decode b_M_run 105 = .ok (.iload 4, 2) := by decide +kernel
theorem d_M_run_107 : decode b_M_run 107 = .ok (.aload_n 0, 1) := by decide +kernel
theorem d_M_run_108 : decode b_M_run 108 = .ok (.getfield 127, 3) := by decide +kernel
theorem d_M_run_111 : decode b_M_run 111 = .ok (.if_icmp .ge 22, 3) := by decide +kernel
theorem d_M_run_114 : decode b_M_run 114 = .ok (.aload_n 0, 1) := by decide +kernel
theorem d_M_run_115 : decode b_M_run 115 = .ok (.getfield 44, 3) := by decide +kernel
theorem d_M_run_118 : decode b_M_run 118 = .ok (.iload 4, 2) := by decide +kernel
theorem d_M_run_120 : decode b_M_run 120 = .ok (.iaload, 1) := by decide +kernel
theorem d_M_run_121 : decode b_M_run 121 = .ok (.ifCond .lt 6, 3) := by decide +kernel
theorem d_M_run_124 : decode b_M_run 124 = .ok (.iinc 3 1, 3) := by decide +kernel
theorem d_M_run_127 : decode b_M_run 127 = .ok (.iinc 4 1, 3) := by decide +kernel
theorem d_M_run_130 : decode b_M_run 130 = .ok (.goto (-25), 3) := by decide +kernel
theorem d_M_run_133 : decode b_M_run 133 = .ok (.iload_n 3, 1) := by decide +kernel
theorem d_M_run_134 : decode b_M_run 134 = .ok (.ireturn, 1) := by decide +kernel
theorem d_M_proved_0 : decode b_M_proved 0 = .ok (.aload_n 0, 1) := by decide +kernel
theorem d_M_proved_1 : decode b_M_proved 1 = .ok (.aload_n 0, 1) := by decide +kernel
theorem d_M_proved_2 : decode b_M_proved 2 = .ok (.getfield 66, 3) := by decide +kernel
theorem d_M_proved_5 : decode b_M_proved 5 = .ok (.iconst 1, 1) := by decide +kernel
theorem d_M_proved_6 : decode b_M_proved 6 = .ok (.iconst 1, 1) := by decide +kernel
theorem d_M_proved_7 : decode b_M_proved 7 = .ok (.invokevirtual 73, 3) := by decide +kernel
theorem d_M_proved_10 : decode b_M_proved 10 = .ok (.ifCond .eq 14, 3) := by decide +kernel
theorem d_M_proved_13 : decode b_M_proved 13 = .ok (.aload_n 0, 1) := by decide +kernel
theorem d_M_proved_14 : decode b_M_proved 14 = .ok (.getfield 134, 3) := by decide +kernel
theorem d_M_proved_17 : decode b_M_proved 17 = .ok (.ifCond .eq 7, 3) := by decide +kernel
theorem d_M_proved_20 : decode b_M_proved 20 = .ok (.iconst 1, 1) := by decide +kernel
theorem d_M_proved_21 : decode b_M_proved 21 = .ok (.goto 4, 3) := by decide +kernel
theorem d_M_proved_24 : decode b_M_proved 24 = .ok (.iconst 0, 1) := by decide +kernel
theorem d_M_proved_25 : decode b_M_proved 25 = .ok (.ireturn, 1) := by decide +kernel
theorem d_M_moves_0 : decode b_M_moves 0 = .ok (.aload_n 0, 1) := by decide +kernel
theorem d_M_moves_1 : decode b_M_moves 1 = .ok (.aload_n 0, 1) := by decide +kernel
theorem d_M_moves_2 : decode b_M_moves 2 = .ok (.getfield 70, 3) := by decide +kernel
theorem d_M_moves_5 : decode b_M_moves 5 = .ok (.iconst 1, 1) := by decide +kernel
theorem d_M_moves_6 : decode b_M_moves 6 = .ok (.iconst 1, 1) := by decide +kernel
theorem d_M_moves_7 : decode b_M_moves 7 = .ok (.invokevirtual 73, 3) := by decide +kernel
theorem d_M_moves_10 : decode b_M_moves 10 = .ok (.ifCond .ne 5, 3) := by decide +kernel
theorem d_M_moves_13 : decode b_M_moves 13 = .ok (.iconst 0, 1) := by decide +kernel
theorem d_M_moves_14 : decode b_M_moves 14 = .ok (.ireturn, 1) := by decide +kernel
theorem d_M_moves_15 : decode b_M_moves 15 = .ok (.aload_n 0, 1) := by decide +kernel
theorem d_M_moves_16 : decode b_M_moves 16 = .ok (.getfield 127, 3) := by decide +kernel
theorem d_M_moves_19 : decode b_M_moves 19 = .ok (.ireturn, 1) := by decide +kernel
theorem d_M_move_0 : decode b_M_move 0 = .ok (.aload_n 0, 1) := by decide +kernel
theorem d_M_move_1 : decode b_M_move 1 = .ok (.iload_n 2, 1) := by decide +kernel
theorem d_M_move_2 : decode b_M_move 2 = .ok (.iconst 0, 1) := by decide +kernel
theorem d_M_move_3 : decode b_M_move 3 = .ok (.iconst 1, 1) := by decide +kernel
theorem d_M_move_4 : decode b_M_move 4 = .ok (.invokestatic 62, 3) := by decide +kernel
theorem d_M_move_7 : decode b_M_move 7 = .ok (.aload_n 0, 1) := by decide +kernel
theorem d_M_move_8 : decode b_M_move 8 = .ok (.getfield 70, 3) := by decide +kernel
theorem d_M_move_11 : decode b_M_move 11 = .ok (.iload_n 1, 1) := by decide +kernel
theorem d_M_move_12 : decode b_M_move 12 = .ok (.iconst 0, 1) := by decide +kernel
theorem d_M_move_13 : decode b_M_move 13 = .ok (.aload_n 0, 1) := by decide +kernel
theorem d_M_move_14 : decode b_M_move 14 = .ok (.getfield 127, 3) := by decide +kernel
theorem d_M_move_17 : decode b_M_move 17 = .ok (.iconst 1, 1) := by decide +kernel
theorem d_M_move_18 : decode b_M_move 18 = .ok (.isub, 1) := by decide +kernel
theorem d_M_move_19 : decode b_M_move 19 = .ok (.invokestatic 62, 3) := by decide +kernel
theorem d_M_move_22 : decode b_M_move 22 = .ok (.invokevirtual 73, 3) := by decide +kernel
theorem d_M_move_25 : decode b_M_move 25 = .ok (.ifCond .ne 5, 3) := by decide +kernel
theorem d_M_move_28 : decode b_M_move 28 = .ok (.iconst 0, 1) := by decide +kernel
theorem d_M_move_29 : decode b_M_move 29 = .ok (.ireturn, 1) := by decide +kernel
theorem d_M_move_30 : decode b_M_move 30 = .ok (.iload_n 2, 1) := by decide +kernel
theorem d_M_move_31 : decode b_M_move 31 = .ok (.ifCond .ne 12, 3) := by decide +kernel
theorem d_M_move_34 : decode b_M_move 34 = .ok (.aload_n 0, 1) := by decide +kernel
theorem d_M_move_35 : decode b_M_move 35 = .ok (.getfield 41, 3) := by decide +kernel
theorem d_M_move_38 : decode b_M_move 38 = .ok (.iload_n 1, 1) := by decide +kernel
theorem d_M_move_39 : decode b_M_move 39 = .ok (.iaload, 1) := by decide +kernel
theorem d_M_move_40 : decode b_M_move 40 = .ok (.goto 9, 3) := by decide +kernel
theorem d_M_move_43 : decode b_M_move 43 = .ok (.aload_n 0, 1) := by decide +kernel
theorem d_M_move_44 : decode b_M_move 44 = .ok (.getfield 44, 3) := by decide +kernel
theorem d_M_move_47 : decode b_M_move 47 = .ok (.iload_n 1, 1) := by decide +kernel
theorem d_M_move_48 : decode b_M_move 48 = .ok (.iaload, 1) := by decide +kernel
theorem d_M_move_49 : decode b_M_move 49 = .ok (.ireturn, 1) := by decide +kernel
theorem d_M_replay_0 : decode b_M_replay 0 = .ok (.aload_n 0, 1) := by decide +kernel
theorem d_M_replay_1 : decode b_M_replay 1 = .ok (.aload_n 0, 1) := by decide +kernel
theorem d_M_replay_2 : decode b_M_replay 2 = .ok (.getfield 70, 3) := by decide +kernel
theorem d_M_replay_5 : decode b_M_replay 5 = .ok (.iload_n 1, 1) := by decide +kernel
theorem d_M_replay_6 : decode b_M_replay 6 = .ok (.iconst 0, 1) := by decide +kernel
theorem d_M_replay_7 : decode b_M_replay 7 = .ok (.aload_n 0, 1) := by decide +kernel
theorem d_M_replay_8 : decode b_M_replay 8 = .ok (.getfield 127, 3) := by decide +kernel
theorem d_M_replay_11 : decode b_M_replay 11 = .ok (.invokestatic 62, 3) := by decide +kernel
theorem d_M_replay_14 : decode b_M_replay 14 = .ok (.iconst 1, 1) := by decide +kernel
theorem d_M_replay_15 : decode b_M_replay 15 = .ok (.invokevirtual 73, 3) := by decide +kernel
theorem d_M_replay_18 : decode b_M_replay 18 = .ok (.ifCond .ne 5, 3) := by decide +kernel
theorem d_M_replay_21 : decode b_M_replay 21 = .ok (.iconst 0, 1) := by decide +kernel
theorem d_M_replay_22 : decode b_M_replay 22 = .ok (.ireturn, 1) := by decide +kernel
theorem d_M_replay_23 : decode b_M_replay 23 = .ok (.iconst 0, 1) := by decide +kernel
theorem d_M_replay_24 : decode b_M_replay 24 = .ok (.istore_n 2, 1) := by decide +kernel
theorem d_M_replay_25 : decode b_M_replay 25 = .ok (.iload_n 2, 1) := by decide +kernel
theorem d_M_replay_26 : decode b_M_replay 26 = .ok (.iload_n 1, 1) := by decide +kernel
theorem d_M_replay_27 : decode b_M_replay 27 = .ok (.if_icmp .ge 87, 3) := by decide +kernel
theorem d_M_replay_30 : decode b_M_replay 30 = .ok (.iconst 0, 1) := by decide +kernel
theorem d_M_replay_31 : decode b_M_replay 31 = .ok (.istore_n 3, 1) := by decide +kernel
theorem d_M_replay_32 : decode b_M_replay 32 = .ok (.aload_n 0, 1) := by decide +kernel
theorem d_M_replay_33 : decode b_M_replay 33 = .ok (.iconst 0, 1) := by decide +kernel
theorem d_M_replay_34 : decode b_M_replay 34 = .ok (.iload_n 3, 1) := by decide +kernel
theorem d_M_replay_35 : decode b_M_replay 35 = .ok (.invokevirtual 109, 3) := by decide +kernel
theorem d_M_replay_38 : decode b_M_replay 38 = .ok (.aload_n 0, 1) := by decide +kernel
theorem d_M_replay_39 : decode b_M_replay 39 = .ok (.getfield 41, 3) := by decide +kernel
theorem d_M_replay_42 : decode b_M_replay 42 = .ok (.iload_n 2, 1) := by decide +kernel
theorem d_M_replay_43 : decode b_M_replay 43 = .ok (.iaload, 1) := by decide +kernel
theorem d_M_replay_44 : decode b_M_replay 44 = .ok (.if_icmp .eq 9, 3) := by decide +kernel
theorem d_M_replay_47 : decode b_M_replay 47 = .ok (.iinc 3 1, 3) := by decide +kernel
theorem d_M_replay_50 : decode b_M_replay 50 = .ok (.goto (-18), 3) := by decide +kernel
theorem d_M_replay_53 : decode b_M_replay 53 = .ok (.aload_n 0, 1) := by decide +kernel
theorem d_M_replay_54 : decode b_M_replay 54 = .ok (.getfield 44, 3) := by decide +kernel
theorem d_M_replay_57 : decode b_M_replay 57 = .ok (.iload_n 2, 1) := by decide +kernel
theorem d_M_replay_58 : decode b_M_replay 58 = .ok (.iaload, 1) := by decide +kernel
end
section
theorem d_M_replay_59 : decode b_M_replay 59 = .ok (.ifCond .lt 18, 3) := by decide +kernel
theorem d_M_replay_62 : decode b_M_replay 62 = .ok (.aload_n 0, 1) := by decide +kernel
theorem d_M_replay_63 : decode b_M_replay 63 = .ok (.iconst 0, 1) := by decide +kernel
theorem d_M_replay_64 : decode b_M_replay 64 = .ok (.iload_n 3, 1) := by decide +kernel
theorem d_M_replay_65 : decode b_M_replay 65 = .ok (.aload_n 0, 1) := by decide +kernel
theorem d_M_replay_66 : decode b_M_replay 66 = .ok (.getfield 44, 3) := by decide +kernel
theorem d_M_replay_69 : decode b_M_replay 69 = .ok (.iload_n 2, 1) := by decide +kernel
theorem d_M_replay_70 : decode b_M_replay 70 = .ok (.iaload, 1) := by decide +kernel
theorem d_M_replay_71 : decode b_M_replay 71 = .ok (.invokevirtual 130, 3) := by decide +kernel
theorem d_M_replay_74 : decode b_M_replay 74 = .ok (.goto 34, 3) := by decide +kernel
theorem d_M_replay_77 : decode b_M_replay 77 = .ok (.aload_n 0, 1) := by decide +kernel
theorem d_M_replay_78 : decode b_M_replay 78 = .ok (.getfield 32, 3) := by decide +kernel
theorem d_M_replay_81 : decode b_M_replay 81 = .ok (.iload_n 3, 1) := by decide +kernel
theorem d_M_replay_82 : decode b_M_replay 82 = .ok (.dup2, 1) := by decide +kernel
theorem d_M_replay_83 : decode b_M_replay 83 = .ok (.iaload, 1) := by decide +kernel
theorem d_M_replay_84 : decode b_M_replay 84 = .ok (.iconst 1, 1) := by decide +kernel
theorem d_M_replay_85 : decode b_M_replay 85 = .ok (.isub, 1) := by decide +kernel
theorem d_M_replay_86 : decode b_M_replay 86 = .ok (.iastore, 1) := by decide +kernel
theorem d_M_replay_87 : decode b_M_replay 87 = .ok (.aload_n 0, 1) := by decide +kernel
theorem d_M_replay_88 : decode b_M_replay 88 = .ok (.getfield 35, 3) := by decide +kernel
theorem d_M_replay_91 : decode b_M_replay 91 = .ok (.iconst 0, 1) := by decide +kernel
theorem d_M_replay_92 : decode b_M_replay 92 = .ok (.aload_n 0, 1) := by decide +kernel
theorem d_M_replay_93 : decode b_M_replay 93 = .ok (.getfield 35, 3) := by decide +kernel
theorem d_M_replay_96 : decode b_M_replay 96 = .ok (.iconst 0, 1) := by decide +kernel
theorem d_M_replay_97 : decode b_M_replay 97 = .ok (.iaload, 1) := by decide +kernel
theorem d_M_replay_98 : decode b_M_replay 98 = .ok (.iconst 1, 1) := by decide +kernel
theorem d_M_replay_99 : decode b_M_replay 99 = .ok (.aload_n 0, 1) := by decide +kernel
theorem d_M_replay_100 : decode b_M_replay 100 = .ok (.getfield 41, 3) := by decide +kernel
theorem d_M_replay_103 : decode b_M_replay 103 = .ok (.iload_n 2, 1) := by decide +kernel
theorem d_M_replay_104 : decode b_M_replay 104 = .ok (.iaload, 1) := by decide +kernel
theorem d_M_replay_105 : decode b_M_replay 105 = .ok (.ishl, 1) := by decide +kernel
theorem d_M_replay_106 : decode b_M_replay 106 = .ok (.ior, 1) := by decide +kernel
theorem d_M_replay_107 : decode b_M_replay 107 = .ok (.iastore, 1) := by decide +kernel
theorem d_M_replay_108 : decode b_M_replay 108 = .ok (.iinc 2 1, 3) := by decide +kernel
theorem d_M_replay_111 : decode b_M_replay 111 = .ok (.goto (-86), 3) := by decide +kernel
theorem d_M_replay_114 : decode b_M_replay 114 = .ok (.aload_n 0, 1) := by decide +kernel
theorem d_M_replay_115 : decode b_M_replay 115 = .ok (.invokevirtual 80, 3) := by decide +kernel
theorem d_M_replay_118 : decode b_M_replay 118 = .ok (.iconst 0, 1) := by decide +kernel
theorem d_M_replay_119 : decode b_M_replay 119 = .ok (.istore_n 2, 1) := by decide +kernel
theorem d_M_replay_120 : decode b_M_replay 120 = .ok (.iconst 0, 1) := by decide +kernel
theorem d_M_replay_121 : decode b_M_replay 121 = .ok (.istore_n 3, 1) := by decide +kernel
theorem d_M_replay_122 : decode b_M_replay 122 = .ok (.iload_n 3, 1) := by decide +kernel
theorem d_M_replay_123 : decode b_M_replay 123 = .ok (.aload_n 0, 1) := by decide +kernel
theorem d_M_replay_124 : decode b_M_replay 124 = .ok (.getfield 59, 3) := by decide +kernel
theorem d_M_replay_127 : decode b_M_replay 127 = .ok (.if_icmp .ge 21, 3) := by decide +kernel
theorem d_M_replay_130 : decode b_M_replay 130 = .ok (.aload_n 0, 1) := by decide +kernel
theorem d_M_replay_131 : decode b_M_replay 131 = .ok (.iconst 0, 1) := by decide +kernel
theorem d_M_replay_132 : decode b_M_replay 132 = .ok (.iload_n 3, 1) := by decide +kernel
theorem d_M_replay_133 : decode b_M_replay 133 = .ok (.invokevirtual 94, 3) := by decide +kernel
theorem d_M_replay_136 : decode b_M_replay 136 = .ok (.ifCond .eq 6, 3) := by decide +kernel
theorem d_M_replay_139 : decode b_M_replay 139 = .ok (.iinc 2 1, 3) := by decide +kernel
theorem d_M_replay_142 : decode b_M_replay 142 = .ok (.iinc 3 1, 3) := by decide +kernel
theorem d_M_replay_145 : decode b_M_replay 145 = .ok (.goto (-23), 3) := by decide +kernel
theorem d_M_replay_148 : decode b_M_replay 148 = .ok (.iload_n 2, 1) := by decide +kernel
theorem d_M_replay_149 : decode b_M_replay 149 = .ok (.ireturn, 1) := by decide +kernel
theorem d_M_at_0 : decode b_M_at 0 = .ok (.aload_n 0, 1) := by decide +kernel
theorem d_M_at_1 : decode b_M_at 1 = .ok (.aload_n 0, 1) := by decide +kernel
theorem d_M_at_2 : decode b_M_at 2 = .ok (.iload_n 1, 1) := by decide +kernel
theorem d_M_at_3 : decode b_M_at 3 = .ok (.invokevirtual 90, 3) := by decide +kernel
theorem d_M_at_6 : decode b_M_at 6 = .ok (.ifCond .eq 16, 3) := by decide +kernel
theorem d_M_at_9 : decode b_M_at 9 = .ok (.iload_n 2, 1) := by decide +kernel
theorem d_M_at_10 : decode b_M_at 10 = .ok (.iconst 0, 1) := by decide +kernel
theorem d_M_at_11 : decode b_M_at 11 = .ok (.iconst 4, 1) := by decide +kernel
theorem d_M_at_12 : decode b_M_at 12 = .ok (.invokestatic 62, 3) := by decide +kernel
theorem d_M_at_15 : decode b_M_at 15 = .ok (.ifCond .eq 7, 3) := by decide +kernel
theorem d_M_at_18 : decode b_M_at 18 = .ok (.iconst 1, 1) := by decide +kernel
theorem d_M_at_19 : decode b_M_at 19 = .ok (.goto 4, 3) := by decide +kernel
theorem d_M_at_22 : decode b_M_at 22 = .ok (.iconst 0, 1) := by decide +kernel
theorem d_M_at_23 : decode b_M_at 23 = .ok (.iconst 1, 1) := by decide +kernel
theorem d_M_at_24 : decode b_M_at 24 = .ok (.iconst 1, 1) := by decide +kernel
theorem d_M_at_25 : decode b_M_at 25 = .ok (.invokevirtual 73, 3) := by decide +kernel
theorem d_M_at_28 : decode b_M_at 28 = .ok (.ifCond .ne 5, 3) := by decide +kernel
theorem d_M_at_31 : decode b_M_at 31 = .ok (.iconst 0, 1) := by decide +kernel
theorem d_M_at_32 : decode b_M_at 32 = .ok (.ireturn, 1) := by decide +kernel
theorem d_M_at_33 : decode b_M_at 33 = .ok (.iload_n 2, 1) := by decide +kernel
theorem d_M_at_34 : decode b_M_at 34 = .ok (.iconst 3, 1) := by decide +kernel
theorem d_M_at_35 : decode b_M_at 35 = .ok (.if_icmp .ne 10, 3) := by decide +kernel
theorem d_M_at_38 : decode b_M_at 38 = .ok (.aload_n 0, 1) := by decide +kernel
theorem d_M_at_39 : decode b_M_at 39 = .ok (.getfield 23, 3) := by decide +kernel
theorem d_M_at_42 : decode b_M_at 42 = .ok (.iload_n 1, 1) := by decide +kernel
theorem d_M_at_43 : decode b_M_at 43 = .ok (.iaload, 1) := by decide +kernel
theorem d_M_at_44 : decode b_M_at 44 = .ok (.ireturn, 1) := by decide +kernel
theorem d_M_at_45 : decode b_M_at 45 = .ok (.iload_n 2, 1) := by decide +kernel
theorem d_M_at_46 : decode b_M_at 46 = .ok (.iconst 4, 1) := by decide +kernel
theorem d_M_at_47 : decode b_M_at 47 = .ok (.if_icmp .ne 10, 3) := by decide +kernel
theorem d_M_at_50 : decode b_M_at 50 = .ok (.aload_n 0, 1) := by decide +kernel
theorem d_M_at_51 : decode b_M_at 51 = .ok (.getfield 26, 3) := by decide +kernel
theorem d_M_at_54 : decode b_M_at 54 = .ok (.iload_n 1, 1) := by decide +kernel
theorem d_M_at_55 : decode b_M_at 55 = .ok (.iaload, 1) := by decide +kernel
theorem d_M_at_56 : decode b_M_at 56 = .ok (.ireturn, 1) := by decide +kernel
theorem d_M_at_57 : decode b_M_at 57 = .ok (.iconst 0, 1) := by decide +kernel
theorem d_M_at_58 : decode b_M_at 58 = .ok (.istore_n 3, 1) := by decide +kernel
theorem d_M_at_59 : decode b_M_at 59 = .ok (.iload_n 3, 1) := by decide +kernel
theorem d_M_at_60 : decode b_M_at 60 = .ok (.aload_n 0, 1) := by decide +kernel
theorem d_M_at_61 : decode b_M_at 61 = .ok (.getfield 7, 3) := by decide +kernel
theorem d_M_at_64 : decode b_M_at 64 = .ok (.if_icmp .ge 81, 3) := by decide +kernel
theorem d_M_at_67 : decode b_M_at 67 = .ok (.iconst 0, 1) := by decide +kernel
theorem d_M_at_68 : decode b_M_at 68 = .ok (.istore 4, 2) := by decide +kernel
theorem d_M_at_70 : decode b_M_at 70 = .ok (.iload 4, 2) := by decide +kernel
theorem d_M_at_72 : decode b_M_at 72 = .ok (.aload_n 0, 1) := by decide +kernel
theorem d_M_at_73 : decode b_M_at 73 = .ok (.getfield 32, 3) := by decide +kernel
theorem d_M_at_76 : decode b_M_at 76 = .ok (.iload_n 3, 1) := by decide +kernel
theorem d_M_at_77 : decode b_M_at 77 = .ok (.iaload, 1) := by decide +kernel
theorem d_M_at_78 : decode b_M_at 78 = .ok (.if_icmp .ge 61, 3) := by decide +kernel
theorem d_M_at_81 : decode b_M_at 81 = .ok (.aload_n 0, 1) := by decide +kernel
theorem d_M_at_82 : decode b_M_at 82 = .ok (.getfield 29, 3) := by decide +kernel
theorem d_M_at_85 : decode b_M_at 85 = .ok (.iconst 0, 1) := by decide +kernel
theorem d_M_at_86 : decode b_M_at 86 = .ok (.iload_n 3, 1) := by decide +kernel
theorem d_M_at_87 : decode b_M_at 87 = .ok (.iload 4, 2) := by decide +kernel
theorem d_M_at_89 : decode b_M_at 89 = .ok (.invokestatic 83, 3) := by decide +kernel
theorem d_M_at_92 : decode b_M_at 92 = .ok (.iaload, 1) := by decide +kernel
theorem d_M_at_93 : decode b_M_at 93 = .ok (.iload_n 1, 1) := by decide +kernel
theorem d_M_at_94 : decode b_M_at 94 = .ok (.if_icmp .ne 39, 3) := by decide +kernel
theorem d_M_at_97 : decode b_M_at 97 = .ok (.iload_n 2, 1) := by decide +kernel
theorem d_M_at_98 : decode b_M_at 98 = .ok (.ifCond .ne 7, 3) := by decide +kernel
theorem d_M_at_101 : decode b_M_at 101 = .ok (.iload_n 3, 1) := by decide +kernel
theorem d_M_at_102 : decode b_M_at 102 = .ok (.goto 30, 3) := by decide +kernel
theorem d_M_at_105 : decode b_M_at 105 = .ok (.iload_n 2, 1) := by decide +kernel
theorem d_M_at_106 : decode b_M_at 106 = .ok (.iconst 1, 1) := by decide +kernel
theorem d_M_at_107 : decode b_M_at 107 = .ok (.if_icmp .ne 8, 3) := by decide +kernel
theorem d_M_at_110 : decode b_M_at 110 = .ok (.iload 4, 2) := by decide +kernel
theorem d_M_at_112 : decode b_M_at 112 = .ok (.goto 20, 3) := by decide +kernel
theorem d_M_at_115 : decode b_M_at 115 = .ok (.aload_n 0, 1) := by decide +kernel
theorem d_M_at_116 : decode b_M_at 116 = .ok (.iconst 0, 1) := by decide +kernel
theorem d_M_at_117 : decode b_M_at 117 = .ok (.iload_n 3, 1) := by decide +kernel
theorem d_M_at_118 : decode b_M_at 118 = .ok (.iload 4, 2) := by decide +kernel
theorem d_M_at_120 : decode b_M_at 120 = .ok (.iload_n 1, 1) := by decide +kernel
theorem d_M_at_121 : decode b_M_at 121 = .ok (.invokevirtual 101, 3) := by decide +kernel
theorem d_M_at_124 : decode b_M_at 124 = .ok (.ifCond .eq 7, 3) := by decide +kernel
theorem d_M_at_127 : decode b_M_at 127 = .ok (.iconst 1, 1) := by decide +kernel
theorem d_M_at_128 : decode b_M_at 128 = .ok (.goto 4, 3) := by decide +kernel
theorem d_M_at_131 : decode b_M_at 131 = .ok (.iconst 0, 1) := by decide +kernel
theorem d_M_at_132 : decode b_M_at 132 = .ok (.ireturn, 1) := by decide +kernel
theorem d_M_at_133 : decode b_M_at 133 = .ok (.iinc 4 1, 3) := by decide +kernel
theorem d_M_at_136 : decode b_M_at 136 = .ok (.goto (-66), 3) := by decide +kernel
theorem d_M_at_139 : decode b_M_at 139 = .ok (.iinc 3 1, 3) := by decide +kernel
theorem d_M_at_142 : decode b_M_at 142 = .ok (.goto (-83), 3) := by decide +kernel
theorem d_M_at_145 : decode b_M_at 145 = .ok (.iload_n 2, 1) := by decide +kernel
theorem d_M_at_146 : decode b_M_at 146 = .ok (.iconst 2, 1) := by decide +kernel
theorem d_M_at_147 : decode b_M_at 147 = .ok (.if_icmp .ne 7, 3) := by decide +kernel
theorem d_M_at_150 : decode b_M_at 150 = .ok (.iconst 0, 1) := by decide +kernel
theorem d_M_at_151 : decode b_M_at 151 = .ok (.goto 4, 3) := by decide +kernel
theorem d_M_at_154 : decode b_M_at 154 = .ok (.iconst (-1), 1) := by decide +kernel
theorem d_M_at_155 : decode b_M_at 155 = .ok (.ireturn, 1) := by decide +kernel
theorem d_M_tidies_0 : decode b_M_tidies 0 = .ok (.iconst 0, 1) := by decide +kernel
theorem d_M_tidies_1 : decode b_M_tidies 1 = .ok (.istore_n 1, 1) := by decide +kernel
theorem d_M_tidies_2 : decode b_M_tidies 2 = .ok (.iload_n 1, 1) := by decide +kernel
theorem d_M_tidies_3 : decode b_M_tidies 3 = .ok (.aload_n 0, 1) := by decide +kernel
theorem d_M_tidies_4 : decode b_M_tidies 4 = .ok (.getfield 7, 3) := by decide +kernel
theorem d_M_tidies_7 : decode b_M_tidies 7 = .ok (.if_icmp .ge 105, 3) := by decide +kernel
theorem d_M_tidies_10 : decode b_M_tidies 10 = .ok (.aload_n 0, 1) := by decide +kernel
theorem d_M_tidies_11 : decode b_M_tidies 11 = .ok (.iconst 0, 1) := by decide +kernel
theorem d_M_tidies_12 : decode b_M_tidies 12 = .ok (.iload_n 1, 1) := by decide +kernel
theorem d_M_tidies_13 : decode b_M_tidies 13 = .ok (.invokevirtual 109, 3) := by decide +kernel
theorem d_M_tidies_16 : decode b_M_tidies 16 = .ok (.istore_n 2, 1) := by decide +kernel
theorem d_M_tidies_17 : decode b_M_tidies 17 = .ok (.iload_n 2, 1) := by decide +kernel
theorem d_M_tidies_18 : decode b_M_tidies 18 = .ok (.ifCond .lt 88, 3) := by decide +kernel
theorem d_M_tidies_21 : decode b_M_tidies 21 = .ok (.aload_n 0, 1) := by decide +kernel
theorem d_M_tidies_22 : decode b_M_tidies 22 = .ok (.iconst 0, 1) := by decide +kernel
theorem d_M_tidies_23 : decode b_M_tidies 23 = .ok (.iload_n 1, 1) := by decide +kernel
theorem d_M_tidies_24 : decode b_M_tidies 24 = .ok (.aload_n 0, 1) := by decide +kernel
theorem d_M_tidies_25 : decode b_M_tidies 25 = .ok (.getfield 32, 3) := by decide +kernel
theorem d_M_tidies_28 : decode b_M_tidies 28 = .ok (.iload_n 1, 1) := by decide +kernel
theorem d_M_tidies_29 : decode b_M_tidies 29 = .ok (.iaload, 1) := by decide +kernel
theorem d_M_tidies_30 : decode b_M_tidies 30 = .ok (.iconst 1, 1) := by decide +kernel
theorem d_M_tidies_31 : decode b_M_tidies 31 = .ok (.isub, 1) := by decide +kernel
theorem d_M_tidies_32 : decode b_M_tidies 32 = .ok (.iload_n 2, 1) := by decide +kernel
theorem d_M_tidies_33 : decode b_M_tidies 33 = .ok (.invokevirtual 101, 3) := by decide +kernel
theorem d_M_tidies_36 : decode b_M_tidies 36 = .ok (.ifCond .ne 6, 3) := by decide +kernel
theorem d_M_tidies_39 : decode b_M_tidies 39 = .ok (.goto 67, 3) := by decide +kernel
theorem d_M_tidies_42 : decode b_M_tidies 42 = .ok (.iconst 0, 1) := by decide +kernel
theorem d_M_tidies_43 : decode b_M_tidies 43 = .ok (.istore_n 3, 1) := by decide +kernel
theorem d_M_tidies_44 : decode b_M_tidies 44 = .ok (.iload_n 3, 1) := by decide +kernel
theorem d_M_tidies_45 : decode b_M_tidies 45 = .ok (.aload_n 0, 1) := by decide +kernel
theorem d_M_tidies_46 : decode b_M_tidies 46 = .ok (.getfield 7, 3) := by decide +kernel
theorem d_M_tidies_49 : decode b_M_tidies 49 = .ok (.if_icmp .ge 57, 3) := by decide +kernel
theorem d_M_tidies_52 : decode b_M_tidies 52 = .ok (.iload_n 3, 1) := by decide +kernel
theorem d_M_tidies_53 : decode b_M_tidies 53 = .ok (.iload_n 1, 1) := by decide +kernel
theorem d_M_tidies_54 : decode b_M_tidies 54 = .ok (.if_icmp .eq 46, 3) := by decide +kernel
theorem d_M_tidies_57 : decode b_M_tidies 57 = .ok (.aload_n 0, 1) := by decide +kernel
theorem d_M_tidies_58 : decode b_M_tidies 58 = .ok (.iconst 0, 1) := by decide +kernel
theorem d_M_tidies_59 : decode b_M_tidies 59 = .ok (.iload_n 3, 1) := by decide +kernel
theorem d_M_tidies_60 : decode b_M_tidies 60 = .ok (.aload_n 0, 1) := by decide +kernel
theorem d_M_tidies_61 : decode b_M_tidies 61 = .ok (.getfield 20, 3) := by decide +kernel
theorem d_M_tidies_64 : decode b_M_tidies 64 = .ok (.iload_n 2, 1) := by decide +kernel
theorem d_M_tidies_65 : decode b_M_tidies 65 = .ok (.iaload, 1) := by decide +kernel
theorem d_M_tidies_66 : decode b_M_tidies 66 = .ok (.invokevirtual 87, 3) := by decide +kernel
theorem d_M_tidies_69 : decode b_M_tidies 69 = .ok (.ifCond .eq 31, 3) := by decide +kernel
theorem d_M_tidies_72 : decode b_M_tidies 72 = .ok (.aload_n 0, 1) := by decide +kernel
theorem d_M_tidies_73 : decode b_M_tidies 73 = .ok (.iconst 0, 1) := by decide +kernel
theorem d_M_tidies_74 : decode b_M_tidies 74 = .ok (.iload_n 3, 1) := by decide +kernel
theorem d_M_tidies_75 : decode b_M_tidies 75 = .ok (.aload_n 0, 1) := by decide +kernel
theorem d_M_tidies_76 : decode b_M_tidies 76 = .ok (.getfield 32, 3) := by decide +kernel
theorem d_M_tidies_79 : decode b_M_tidies 79 = .ok (.iload_n 3, 1) := by decide +kernel
theorem d_M_tidies_80 : decode b_M_tidies 80 = .ok (.iaload, 1) := by decide +kernel
theorem d_M_tidies_81 : decode b_M_tidies 81 = .ok (.iload_n 2, 1) := by decide +kernel
theorem d_M_tidies_82 : decode b_M_tidies 82 = .ok (.invokevirtual 101, 3) := by decide +kernel
theorem d_M_tidies_85 : decode b_M_tidies 85 = .ok (.ifCond .eq 6, 3) := by decide +kernel
theorem d_M_tidies_88 : decode b_M_tidies 88 = .ok (.goto 12, 3) := by decide +kernel
theorem d_M_tidies_91 : decode b_M_tidies 91 = .ok (.aload_n 0, 1) := by decide +kernel
theorem d_M_tidies_92 : decode b_M_tidies 92 = .ok (.iconst 0, 1) := by decide +kernel
theorem d_M_tidies_93 : decode b_M_tidies 93 = .ok (.iload_n 1, 1) := by decide +kernel
theorem d_M_tidies_94 : decode b_M_tidies 94 = .ok (.iload_n 3, 1) := by decide +kernel
theorem d_M_tidies_95 : decode b_M_tidies 95 = .ok (.invokevirtual 130, 3) := by decide +kernel
theorem d_M_tidies_98 : decode b_M_tidies 98 = .ok (.iconst 1, 1) := by decide +kernel
theorem d_M_tidies_99 : decode b_M_tidies 99 = .ok (.ireturn, 1) := by decide +kernel
theorem d_M_tidies_100 : decode b_M_tidies 100 = .ok (.iinc 3 1, 3) := by decide +kernel
theorem d_M_tidies_103 : decode b_M_tidies 103 = .ok (.goto (-59), 3) := by decide +kernel
theorem d_M_tidies_106 : decode b_M_tidies 106 = .ok (.iinc 1 1, 3) := by decide +kernel
theorem d_M_tidies_109 : decode b_M_tidies 109 = .ok (.goto (-107), 3) := by decide +kernel
theorem d_M_tidies_112 : decode b_M_tidies 112 = .ok (.iconst 0, 1) := by decide +kernel
theorem d_M_tidies_113 : decode b_M_tidies 113 = .ok (.ireturn, 1) := by decide +kernel
theorem d_M_tidy_0 : decode b_M_tidy 0 = .ok (.aload_n 0, 1) := by decide +kernel
theorem d_M_tidy_1 : decode b_M_tidy 1 = .ok (.iload_n 1, 1) := by decide +kernel
theorem d_M_tidy_2 : decode b_M_tidy 2 = .ok (.iconst 0, 1) := by decide +kernel
theorem d_M_tidy_3 : decode b_M_tidy 3 = .ok (.bipush 20, 2) := by decide +kernel
theorem d_M_tidy_5 : decode b_M_tidy 5 = .ok (.invokestatic 62, 3) := by decide +kernel
theorem d_M_tidy_8 : decode b_M_tidy 8 = .ok (.iconst 1, 1) := by decide +kernel
theorem d_M_tidy_9 : decode b_M_tidy 9 = .ok (.iconst 1, 1) := by decide +kernel
theorem d_M_tidy_10 : decode b_M_tidy 10 = .ok (.invokevirtual 73, 3) := by decide +kernel
theorem d_M_tidy_13 : decode b_M_tidy 13 = .ok (.ifCond .ne 5, 3) := by decide +kernel
theorem d_M_tidy_16 : decode b_M_tidy 16 = .ok (.iconst 0, 1) := by decide +kernel
theorem d_M_tidy_17 : decode b_M_tidy 17 = .ok (.ireturn, 1) := by decide +kernel
theorem d_M_tidy_18 : decode b_M_tidy 18 = .ok (.iconst 0, 1) := by decide +kernel
theorem d_M_tidy_19 : decode b_M_tidy 19 = .ok (.istore_n 2, 1) := by decide +kernel
theorem d_M_tidy_20 : decode b_M_tidy 20 = .ok (.iload_n 2, 1) := by decide +kernel
theorem d_M_tidy_21 : decode b_M_tidy 21 = .ok (.iload_n 1, 1) := by decide +kernel
theorem d_M_tidy_22 : decode b_M_tidy 22 = .ok (.if_icmp .ge 16, 3) := by decide +kernel
theorem d_M_tidy_25 : decode b_M_tidy 25 = .ok (.aload_n 0, 1) := by decide +kernel
theorem d_M_tidy_26 : decode b_M_tidy 26 = .ok (.invokevirtual 140, 3) := by decide +kernel
theorem d_M_tidy_29 : decode b_M_tidy 29 = .ok (.ifCond .eq 9, 3) := by decide +kernel
theorem d_M_tidy_32 : decode b_M_tidy 32 = .ok (.iinc 2 1, 3) := by decide +kernel
theorem d_M_tidy_35 : decode b_M_tidy 35 = .ok (.goto (-15), 3) := by decide +kernel
theorem d_M_tidy_38 : decode b_M_tidy 38 = .ok (.iload_n 2, 1) := by decide +kernel
theorem d_M_tidy_39 : decode b_M_tidy 39 = .ok (.ifCond .le 7, 3) := by decide +kernel
theorem d_M_tidy_42 : decode b_M_tidy 42 = .ok (.aload_n 0, 1) := by decide +kernel
theorem d_M_tidy_43 : decode b_M_tidy 43 = .ok (.invokevirtual 80, 3) := by decide +kernel
theorem d_M_tidy_46 : decode b_M_tidy 46 = .ok (.iload_n 2, 1) := by decide +kernel
theorem d_M_tidy_47 : decode b_M_tidy 47 = .ok (.ireturn, 1) := by decide +kernel
theorem d_M_wagon_0 : decode b_M_wagon 0 = .ok (.aload_n 0, 1) := by decide +kernel
theorem d_M_wagon_1 : decode b_M_wagon 1 = .ok (.iload_n 1, 1) := by decide +kernel
theorem d_M_wagon_2 : decode b_M_wagon 2 = .ok (.iconst 1, 1) := by decide +kernel
theorem d_M_wagon_3 : decode b_M_wagon 3 = .ok (.sipush 5000, 3) := by decide +kernel
theorem d_M_wagon_6 : decode b_M_wagon 6 = .ok (.invokestatic 62, 3) := by decide +kernel
theorem d_M_wagon_9 : decode b_M_wagon 9 = .ok (.aload_n 0, 1) := by decide +kernel
theorem d_M_wagon_10 : decode b_M_wagon 10 = .ok (.getfield 77, 3) := by decide +kernel
theorem d_M_wagon_13 : decode b_M_wagon 13 = .ok (.iconst 4, 1) := by decide +kernel
theorem d_M_wagon_14 : decode b_M_wagon 14 = .ok (.if_icmp .ge 7, 3) := by decide +kernel
theorem d_M_wagon_17 : decode b_M_wagon 17 = .ok (.iconst 1, 1) := by decide +kernel
theorem d_M_wagon_18 : decode b_M_wagon 18 = .ok (.goto 4, 3) := by decide +kernel
theorem d_M_wagon_21 : decode b_M_wagon 21 = .ok (.iconst 0, 1) := by decide +kernel
theorem d_M_wagon_22 : decode b_M_wagon 22 = .ok (.iconst 1, 1) := by decide +kernel
theorem d_M_wagon_23 : decode b_M_wagon 23 = .ok (.invokevirtual 73, 3) := by decide +kernel
theorem d_M_wagon_26 : decode b_M_wagon 26 = .ok (.ifCond .ne 5, 3) := by decide +kernel
theorem d_M_wagon_29 : decode b_M_wagon 29 = .ok (.iconst 0, 1) := by decide +kernel
theorem d_M_wagon_30 : decode b_M_wagon 30 = .ok (.ireturn, 1) := by decide +kernel
theorem d_M_wagon_31 : decode b_M_wagon 31 = .ok (.aload_n 0, 1) := by decide +kernel
theorem d_M_wagon_32 : decode b_M_wagon 32 = .ok (.getfield 50, 3) := by decide +kernel
theorem d_M_wagon_35 : decode b_M_wagon 35 = .ok (.aload_n 0, 1) := by decide +kernel
theorem d_M_wagon_36 : decode b_M_wagon 36 = .ok (.getfield 77, 3) := by decide +kernel
theorem d_M_wagon_39 : decode b_M_wagon 39 = .ok (.iload_n 1, 1) := by decide +kernel
theorem d_M_wagon_40 : decode b_M_wagon 40 = .ok (.iastore, 1) := by decide +kernel
theorem d_M_wagon_41 : decode b_M_wagon 41 = .ok (.aload_n 0, 1) := by decide +kernel
theorem d_M_wagon_42 : decode b_M_wagon 42 = .ok (.getfield 53, 3) := by decide +kernel
theorem d_M_wagon_45 : decode b_M_wagon 45 = .ok (.aload_n 0, 1) := by decide +kernel
theorem d_M_wagon_46 : decode b_M_wagon 46 = .ok (.getfield 77, 3) := by decide +kernel
theorem d_M_wagon_49 : decode b_M_wagon 49 = .ok (.iconst 0, 1) := by decide +kernel
theorem d_M_wagon_50 : decode b_M_wagon 50 = .ok (.iastore, 1) := by decide +kernel
theorem d_M_wagon_51 : decode b_M_wagon 51 = .ok (.aload_n 0, 1) := by decide +kernel
theorem d_M_wagon_52 : decode b_M_wagon 52 = .ok (.dup, 1) := by decide +kernel
theorem d_M_wagon_53 : decode b_M_wagon 53 = .ok (.getfield 77, 3) := by decide +kernel
theorem d_M_wagon_56 : decode b_M_wagon 56 = .ok (.iconst 1, 1) := by decide +kernel
theorem d_M_wagon_57 : decode b_M_wagon 57 = .ok (.iadd, 1) := by decide +kernel
theorem d_M_wagon_58 : decode b_M_wagon 58 = .ok (.putfield 77, 3) := by decide +kernel
theorem d_M_wagon_61 : decode b_M_wagon 61 = .ok (.aload_n 0, 1) := by decide +kernel
theorem d_M_wagon_62 : decode b_M_wagon 62 = .ok (.getfield 77, 3) := by decide +kernel
theorem d_M_wagon_65 : decode b_M_wagon 65 = .ok (.iconst 1, 1) := by decide +kernel
theorem d_M_wagon_66 : decode b_M_wagon 66 = .ok (.isub, 1) := by decide +kernel
theorem d_M_wagon_67 : decode b_M_wagon 67 = .ok (.ireturn, 1) := by decide +kernel
theorem d_M_load_0 : decode b_M_load 0 = .ok (.aload_n 0, 1) := by decide +kernel
theorem d_M_load_1 : decode b_M_load 1 = .ok (.iload_n 1, 1) := by decide +kernel
theorem d_M_load_2 : decode b_M_load 2 = .ok (.invokevirtual 90, 3) := by decide +kernel
theorem d_M_load_5 : decode b_M_load 5 = .ok (.istore_n 2, 1) := by decide +kernel
theorem d_M_load_6 : decode b_M_load 6 = .ok (.iconst 0, 1) := by decide +kernel
theorem d_M_load_7 : decode b_M_load 7 = .ok (.istore_n 3, 1) := by decide +kernel
theorem d_M_load_8 : decode b_M_load 8 = .ok (.iload_n 2, 1) := by decide +kernel
theorem d_M_load_9 : decode b_M_load 9 = .ok (.ifCond .eq 39, 3) := by decide +kernel
theorem d_M_load_12 : decode b_M_load 12 = .ok (.iload_n 3, 1) := by decide +kernel
theorem d_M_load_13 : decode b_M_load 13 = .ok (.aload_n 0, 1) := by decide +kernel
theorem d_M_load_14 : decode b_M_load 14 = .ok (.getfield 77, 3) := by decide +kernel
theorem d_M_load_17 : decode b_M_load 17 = .ok (.if_icmp .ge 31, 3) := by decide +kernel
theorem d_M_load_20 : decode b_M_load 20 = .ok (.aload_n 0, 1) := by decide +kernel
theorem d_M_load_21 : decode b_M_load 21 = .ok (.getfield 53, 3) := by decide +kernel
theorem d_M_load_24 : decode b_M_load 24 = .ok (.iload_n 3, 1) := by decide +kernel
theorem d_M_load_25 : decode b_M_load 25 = .ok (.iaload, 1) := by decide +kernel
theorem d_M_load_26 : decode b_M_load 26 = .ok (.aload_n 0, 1) := by decide +kernel
theorem d_M_load_27 : decode b_M_load 27 = .ok (.getfield 16, 3) := by decide +kernel
theorem d_M_load_30 : decode b_M_load 30 = .ok (.iload_n 1, 1) := by decide +kernel
theorem d_M_load_31 : decode b_M_load 31 = .ok (.iaload, 1) := by decide +kernel
theorem d_M_load_32 : decode b_M_load 32 = .ok (.iadd, 1) := by decide +kernel
theorem d_M_load_33 : decode b_M_load 33 = .ok (.aload_n 0, 1) := by decide +kernel
theorem d_M_load_34 : decode b_M_load 34 = .ok (.getfield 50, 3) := by decide +kernel
theorem d_M_load_37 : decode b_M_load 37 = .ok (.iload_n 3, 1) := by decide +kernel
theorem d_M_load_38 : decode b_M_load 38 = .ok (.iaload, 1) := by decide +kernel
theorem d_M_load_39 : decode b_M_load 39 = .ok (.if_icmp .le 9, 3) := by decide +kernel
theorem d_M_load_42 : decode b_M_load 42 = .ok (.iinc 3 1, 3) := by decide +kernel
theorem d_M_load_45 : decode b_M_load 45 = .ok (.goto (-37), 3) := by decide +kernel
theorem d_M_load_48 : decode b_M_load 48 = .ok (.aload_n 0, 1) := by decide +kernel
theorem d_M_load_49 : decode b_M_load 49 = .ok (.iload_n 2, 1) := by decide +kernel
theorem d_M_load_50 : decode b_M_load 50 = .ok (.iload_n 2, 1) := by decide +kernel
theorem d_M_load_51 : decode b_M_load 51 = .ok (.ifCond .eq 25, 3) := by decide +kernel
theorem d_M_load_54 : decode b_M_load 54 = .ok (.aload_n 0, 1) := by decide +kernel
theorem d_M_load_55 : decode b_M_load 55 = .ok (.iconst 0, 1) := by decide +kernel
theorem d_M_load_56 : decode b_M_load 56 = .ok (.iload_n 1, 1) := by decide +kernel
theorem d_M_load_57 : decode b_M_load 57 = .ok (.invokevirtual 94, 3) := by decide +kernel
theorem d_M_load_60 : decode b_M_load 60 = .ok (.ifCond .eq 16, 3) := by decide +kernel
theorem d_M_load_63 : decode b_M_load 63 = .ok (.aload_n 0, 1) := by decide +kernel
theorem d_M_load_64 : decode b_M_load 64 = .ok (.getfield 26, 3) := by decide +kernel
theorem d_M_load_67 : decode b_M_load 67 = .ok (.iload_n 1, 1) := by decide +kernel
theorem d_M_load_68 : decode b_M_load 68 = .ok (.iaload, 1) := by decide +kernel
theorem d_M_load_69 : decode b_M_load 69 = .ok (.ifCond .ge 7, 3) := by decide +kernel
theorem d_M_load_72 : decode b_M_load 72 = .ok (.iconst 1, 1) := by decide +kernel
theorem d_M_load_73 : decode b_M_load 73 = .ok (.goto 4, 3) := by decide +kernel
theorem d_M_load_76 : decode b_M_load 76 = .ok (.iconst 0, 1) := by decide +kernel
theorem d_M_load_77 : decode b_M_load 77 = .ok (.iload_n 3, 1) := by decide +kernel
theorem d_M_load_78 : decode b_M_load 78 = .ok (.aload_n 0, 1) := by decide +kernel
theorem d_M_load_79 : decode b_M_load 79 = .ok (.getfield 77, 3) := by decide +kernel
theorem d_M_load_82 : decode b_M_load 82 = .ok (.if_icmp .ge 7, 3) := by decide +kernel
theorem d_M_load_85 : decode b_M_load 85 = .ok (.iconst 1, 1) := by decide +kernel
theorem d_M_load_86 : decode b_M_load 86 = .ok (.goto 4, 3) := by decide +kernel
theorem d_M_load_89 : decode b_M_load 89 = .ok (.iconst 0, 1) := by decide +kernel
theorem d_M_load_90 : decode b_M_load 90 = .ok (.invokevirtual 73, 3) := by decide +kernel
theorem d_M_load_93 : decode b_M_load 93 = .ok (.ifCond .ne 5, 3) := by decide +kernel
theorem d_M_load_96 : decode b_M_load 96 = .ok (.iconst 0, 1) := by decide +kernel
theorem d_M_load_97 : decode b_M_load 97 = .ok (.ireturn, 1) := by decide +kernel
theorem d_M_load_98 : decode b_M_load 98 = .ok (.aload_n 0, 1) := by decide +kernel
theorem d_M_load_99 : decode b_M_load 99 = .ok (.getfield 53, 3) := by decide +kernel
theorem d_M_load_102 : decode b_M_load 102 = .ok (.iload_n 3, 1) := by decide +kernel
theorem d_M_load_103 : decode b_M_load 103 = .ok (.aload_n 0, 1) := by decide +kernel
theorem d_M_load_104 : decode b_M_load 104 = .ok (.getfield 53, 3) := by decide +kernel
theorem d_M_load_107 : decode b_M_load 107 = .ok (.iload_n 3, 1) := by decide +kernel
theorem d_M_load_108 : decode b_M_load 108 = .ok (.iaload, 1) := by decide +kernel
theorem d_M_load_109 : decode b_M_load 109 = .ok (.aload_n 0, 1) := by decide +kernel
theorem d_M_load_110 : decode b_M_load 110 = .ok (.getfield 16, 3) := by decide +kernel
theorem d_M_load_113 : decode b_M_load 113 = .ok (.iload_n 1, 1) := by decide +kernel
theorem d_M_load_114 : decode b_M_load 114 = .ok (.iaload, 1) := by decide +kernel
theorem d_M_load_115 : decode b_M_load 115 = .ok (.iadd, 1) := by decide +kernel
theorem d_M_load_116 : decode b_M_load 116 = .ok (.iastore, 1) := by decide +kernel
theorem d_M_load_117 : decode b_M_load 117 = .ok (.aload_n 0, 1) := by decide +kernel
theorem d_M_load_118 : decode b_M_load 118 = .ok (.getfield 26, 3) := by decide +kernel
theorem d_M_load_121 : decode b_M_load 121 = .ok (.iload_n 1, 1) := by decide +kernel
theorem d_M_load_122 : decode b_M_load 122 = .ok (.iload_n 3, 1) := by decide +kernel
theorem d_M_load_123 : decode b_M_load 123 = .ok (.iastore, 1) := by decide +kernel
theorem d_M_load_124 : decode b_M_load 124 = .ok (.iload_n 3, 1) := by decide +kernel
theorem d_M_load_125 : decode b_M_load 125 = .ok (.ireturn, 1) := by decide +kernel
theorem d_S_init_0 : decode b_S_init 0 = .ok (.aload_n 0, 1) := by decide +kernel
theorem d_S_init_1 : decode b_S_init 1 = .ok (.invokespecial 3, 3) := by decide +kernel
theorem d_S_init_4 : decode b_S_init 4 = .ok (.aload_n 0, 1) := by decide +kernel
theorem d_S_init_5 : decode b_S_init 5 = .ok (.bipush 22, 2) := by decide +kernel
theorem d_S_init_7 : decode b_S_init 7 = .ok (.newarray .int, 2) := by decide +kernel
theorem d_S_init_9 : decode b_S_init 9 = .ok (.putfield 11, 3) := by decide +kernel
theorem d_S_init_12 : decode b_S_init 12 = .ok (.aload_n 0, 1) := by decide +kernel
theorem d_S_init_13 : decode b_S_init 13 = .ok (.bipush 22, 2) := by decide +kernel
theorem d_S_init_15 : decode b_S_init 15 = .ok (.newarray .int, 2) := by decide +kernel
theorem d_S_init_17 : decode b_S_init 17 = .ok (.putfield 15, 3) := by decide +kernel
theorem d_S_init_20 : decode b_S_init 20 = .ok (.aload_n 0, 1) := by decide +kernel
theorem d_S_init_21 : decode b_S_init 21 = .ok (.bipush 22, 2) := by decide +kernel
theorem d_S_init_23 : decode b_S_init 23 = .ok (.newarray .int, 2) := by decide +kernel
theorem d_S_init_25 : decode b_S_init 25 = .ok (.putfield 18, 3) := by decide +kernel
theorem d_S_init_28 : decode b_S_init 28 = .ok (.return_, 1) := by decide +kernel
theorem d_S_forget_0 : decode b_S_forget 0 = .ok (.aload_n 0, 1) := by decide +kernel
theorem d_S_forget_1 : decode b_S_forget 1 = .ok (.iconst 0, 1) := by decide +kernel
theorem d_S_forget_2 : decode b_S_forget 2 = .ok (.putfield 21, 3) := by decide +kernel
theorem d_S_forget_5 : decode b_S_forget 5 = .ok (.aload_n 0, 1) := by decide +kernel
theorem d_S_forget_6 : decode b_S_forget 6 = .ok (.iconst 0, 1) := by decide +kernel
theorem d_S_forget_7 : decode b_S_forget 7 = .ok (.putfield 25, 3) := by decide +kernel
theorem d_S_forget_10 : decode b_S_forget 10 = .ok (.aload_n 0, 1) := by decide +kernel
theorem d_S_forget_11 : decode b_S_forget 11 = .ok (.iconst 0, 1) := by decide +kernel
theorem d_S_forget_12 : decode b_S_forget 12 = .ok (.putfield 28, 3) := by decide +kernel
theorem d_S_forget_15 : decode b_S_forget 15 = .ok (.aload_n 0, 1) := by decide +kernel
theorem d_S_forget_16 : decode b_S_forget 16 = .ok (.iconst 0, 1) := by decide +kernel
theorem d_S_forget_17 : decode b_S_forget 17 = .ok (.putfield 31, 3) := by decide +kernel
theorem d_S_forget_20 : decode b_S_forget 20 = .ok (.return_, 1) := by decide +kernel
theorem d_S_findBest_0 : decode b_S_findBest 0 = .ok (.aload_n 0, 1) := by decide +kernel
theorem d_S_findBest_1 : decode b_S_findBest 1 = .ok (.invokevirtual 35, 3) := by decide +kernel
theorem d_S_findBest_4 : decode b_S_findBest 4 = .ok (.aload_n 0, 1) := by decide +kernel
theorem d_S_findBest_5 : decode b_S_findBest 5 = .ok (.iload_n 2, 1) := by decide +kernel
theorem d_S_findBest_6 : decode b_S_findBest 6 = .ok (.putfield 38, 3) := by decide +kernel
theorem d_S_findBest_9 : decode b_S_findBest 9 = .ok (.aload_n 0, 1) := by decide +kernel
theorem d_S_findBest_10 : decode b_S_findBest 10 = .ok (.iconst 0, 1) := by decide +kernel
theorem d_S_findBest_11 : decode b_S_findBest 11 = .ok (.putfield 41, 3) := by decide +kernel
theorem d_S_findBest_14 : decode b_S_findBest 14 = .ok (.aload_n 1, 1) := by decide +kernel
theorem d_S_findBest_15 : decode b_S_findBest 15 = .ok (.invokevirtual 44, 3) := by decide +kernel
theorem d_S_findBest_18 : decode b_S_findBest 18 = .ok (.istore_n 3, 1) := by decide +kernel
theorem d_S_findBest_19 : decode b_S_findBest 19 = .ok (.aload_n 0, 1) := by decide +kernel
theorem d_S_findBest_20 : decode b_S_findBest 20 = .ok (.iload_n 3, 1) := by decide +kernel
theorem d_S_findBest_21 : decode b_S_findBest 21 = .ok (.putfield 50, 3) := by decide +kernel
theorem d_S_findBest_24 : decode b_S_findBest 24 = .ok (.aload_n 0, 1) := by decide +kernel
theorem d_S_findBest_25 : decode b_S_findBest 25 = .ok (.getfield 50, 3) := by decide +kernel
theorem d_S_findBest_28 : decode b_S_findBest 28 = .ok (.bipush 12, 2) := by decide +kernel
theorem d_S_findBest_30 : decode b_S_findBest 30 = .ok (.if_icmp .gt 70, 3) := by decide +kernel
theorem d_S_findBest_33 : decode b_S_findBest 33 = .ok (.aload_n 0, 1) := by decide +kernel
theorem d_S_findBest_34 : decode b_S_findBest 34 = .ok (.getfield 28, 3) := by decide +kernel
theorem d_S_findBest_37 : decode b_S_findBest 37 = .ok (.ifCond .ne 63, 3) := by decide +kernel
theorem d_S_findBest_40 : decode b_S_findBest 40 = .ok (.aload_n 0, 1) := by decide +kernel
theorem d_S_findBest_41 : decode b_S_findBest 41 = .ok (.getfield 41, 3) := by decide +kernel
theorem d_S_findBest_44 : decode b_S_findBest 44 = .ok (.ifCond .ne 56, 3) := by decide +kernel
theorem d_S_findBest_47 : decode b_S_findBest 47 = .ok (.aload_n 0, 1) := by decide +kernel
theorem d_S_findBest_48 : decode b_S_findBest 48 = .ok (.aload_n 0, 1) := by decide +kernel
theorem d_S_findBest_49 : decode b_S_findBest 49 = .ok (.aload_n 1, 1) := by decide +kernel
theorem d_S_findBest_50 : decode b_S_findBest 50 = .ok (.iconst 0, 1) := by decide +kernel
theorem d_S_findBest_51 : decode b_S_findBest 51 = .ok (.iload_n 3, 1) := by decide +kernel
theorem d_S_findBest_52 : decode b_S_findBest 52 = .ok (.invokevirtual 53, 3) := by decide +kernel
theorem d_S_findBest_55 : decode b_S_findBest 55 = .ok (.putfield 28, 3) := by decide +kernel
theorem d_S_findBest_58 : decode b_S_findBest 58 = .ok (.aload_n 0, 1) := by decide +kernel
theorem d_S_findBest_59 : decode b_S_findBest 59 = .ok (.getfield 31, 3) := by decide +kernel
theorem d_S_findBest_62 : decode b_S_findBest 62 = .ok (.istore 4, 2) := by decide +kernel
theorem d_S_findBest_64 : decode b_S_findBest 64 = .ok (.aload_n 0, 1) := by decide +kernel
theorem d_S_findBest_65 : decode b_S_findBest 65 = .ok (.aload_n 1, 1) := by decide +kernel
theorem d_S_findBest_66 : decode b_S_findBest 66 = .ok (.iconst 0, 1) := by decide +kernel
theorem d_S_findBest_67 : decode b_S_findBest 67 = .ok (.invokevirtual 57, 3) := by decide +kernel
theorem d_S_findBest_70 : decode b_S_findBest 70 = .ok (.aload_n 0, 1) := by decide +kernel
theorem d_S_findBest_71 : decode b_S_findBest 71 = .ok (.aload_n 0, 1) := by decide +kernel
theorem d_S_findBest_72 : decode b_S_findBest 72 = .ok (.getfield 28, 3) := by decide +kernel
theorem d_S_findBest_75 : decode b_S_findBest 75 = .ok (.ifCond .eq 8, 3) := by decide +kernel
theorem d_S_findBest_78 : decode b_S_findBest 78 = .ok (.iload 4, 2) := by decide +kernel
theorem d_S_findBest_80 : decode b_S_findBest 80 = .ok (.goto 4, 3) := by decide +kernel
theorem d_S_findBest_83 : decode b_S_findBest 83 = .ok (.iconst 0, 1) := by decide +kernel
theorem d_S_findBest_84 : decode b_S_findBest 84 = .ok (.putfield 31, 3) := by decide +kernel
theorem d_S_findBest_87 : decode b_S_findBest 87 = .ok (.aload_n 0, 1) := by decide +kernel
theorem d_S_findBest_88 : decode b_S_findBest 88 = .ok (.dup, 1) := by decide +kernel
theorem d_S_findBest_89 : decode b_S_findBest 89 = .ok (.getfield 50, 3) := by decide +kernel
theorem d_S_findBest_92 : decode b_S_findBest 92 = .ok (.iconst 1, 1) := by decide +kernel
theorem d_S_findBest_93 : decode b_S_findBest 93 = .ok (.iadd, 1) := by decide +kernel
theorem d_S_findBest_94 : decode b_S_findBest 94 = .ok (.putfield 50, 3) := by decide +kernel
theorem d_S_findBest_97 : decode b_S_findBest 97 = .ok (.goto (-73), 3) := by decide +kernel
theorem d_S_findBest_100 : decode b_S_findBest 100 = .ok (.aload_n 0, 1) := by decide +kernel
theorem d_S_findBest_101 : decode b_S_findBest 101 = .ok (.iconst 1, 1) := by decide +kernel
theorem d_S_findBest_102 : decode b_S_findBest 102 = .ok (.putfield 21, 3) := by decide +kernel
theorem d_S_findBest_105 : decode b_S_findBest 105 = .ok (.aload_n 0, 1) := by decide +kernel
theorem d_S_findBest_106 : decode b_S_findBest 106 = .ok (.aload_n 0, 1) := by decide +kernel
theorem d_S_findBest_107 : decode b_S_findBest 107 = .ok (.getfield 41, 3) := by decide +kernel
theorem d_S_findBest_110 : decode b_S_findBest 110 = .ok (.ifCond .ne 7, 3) := by decide +kernel
theorem d_S_findBest_113 : decode b_S_findBest 113 = .ok (.iconst 1, 1) := by decide +kernel
theorem d_S_findBest_114 : decode b_S_findBest 114 = .ok (.goto 4, 3) := by decide +kernel
theorem d_S_findBest_117 : decode b_S_findBest 117 = .ok (.iconst 0, 1) := by decide +kernel
theorem d_S_findBest_118 : decode b_S_findBest 118 = .ok (.putfield 25, 3) := by decide +kernel
theorem d_S_findBest_121 : decode b_S_findBest 121 = .ok (.aload_n 0, 1) := by decide +kernel
theorem d_S_findBest_122 : decode b_S_findBest 122 = .ok (.getfield 28, 3) := by decide +kernel
theorem d_S_findBest_125 : decode b_S_findBest 125 = .ok (.ifCond .eq 10, 3) := by decide +kernel
theorem d_S_findBest_128 : decode b_S_findBest 128 = .ok (.aload_n 0, 1) := by decide +kernel
theorem d_S_findBest_129 : decode b_S_findBest 129 = .ok (.invokevirtual 61, 3) := by decide +kernel
theorem d_S_findBest_132 : decode b_S_findBest 132 = .ok (.goto 4, 3) := by decide +kernel
theorem d_S_findBest_135 : decode b_S_findBest 135 = .ok (.iconst (-1), 1) := by decide +kernel
theorem d_S_findBest_136 : decode b_S_findBest 136 = .ok (.ireturn, 1) := by decide +kernel
theorem d_S_goOn_0 : decode b_S_goOn 0 = .ok (.aload_n 0, 1) := by decide +kernel
theorem d_S_goOn_1 : decode b_S_goOn 1 = .ok (.aload_n 1, 1) := by decide +kernel
theorem d_S_goOn_2 : decode b_S_goOn 2 = .ok (.invokevirtual 64, 3) := by decide +kernel
theorem d_S_goOn_5 : decode b_S_goOn 5 = .ok (.aload_n 1, 1) := by decide +kernel
theorem d_S_goOn_6 : decode b_S_goOn 6 = .ok (.invokevirtual 68, 3) := by decide +kernel
theorem d_S_goOn_9 : decode b_S_goOn 9 = .ok (.iconst (-1), 1) := by decide +kernel
theorem d_S_goOn_10 : decode b_S_goOn 10 = .ok (.if_icmp .ne 5, 3) := by decide +kernel
theorem d_S_goOn_13 : decode b_S_goOn 13 = .ok (.iconst 1, 1) := by decide +kernel
theorem d_S_goOn_14 : decode b_S_goOn 14 = .ok (.ireturn, 1) := by decide +kernel
theorem d_S_goOn_15 : decode b_S_goOn 15 = .ok (.iload_n 2, 1) := by decide +kernel
theorem d_S_goOn_16 : decode b_S_goOn 16 = .ok (.bipush 12, 2) := by decide +kernel
theorem d_S_goOn_18 : decode b_S_goOn 18 = .ok (.if_icmp .lt 5, 3) := by decide +kernel
theorem d_S_goOn_21 : decode b_S_goOn 21 = .ok (.iconst 0, 1) := by decide +kernel
theorem d_S_goOn_22 : decode b_S_goOn 22 = .ok (.ireturn, 1) := by decide +kernel
theorem d_S_goOn_23 : decode b_S_goOn 23 = .ok (.iconst 0, 1) := by decide +kernel
theorem d_S_goOn_24 : decode b_S_goOn 24 = .ok (.istore 4, 2) := by decide +kernel
theorem d_S_goOn_26 : decode b_S_goOn 26 = .ok (.iload 4, 2) := by decide +kernel
theorem d_S_goOn_28 : decode b_S_goOn 28 = .ok (.aload_n 1, 1) := by decide +kernel
theorem d_S_goOn_29 : decode b_S_goOn 29 = .ok (.getfield 71, 3) := by decide +kernel
theorem d_S_goOn_32 : decode b_S_goOn 32 = .ok (.if_icmp .ge 23, 3) := by decide +kernel
theorem d_S_goOn_35 : decode b_S_goOn 35 = .ok (.aload_n 0, 1) := by decide +kernel
theorem d_S_goOn_36 : decode b_S_goOn 36 = .ok (.aload_n 1, 1) := by decide +kernel
theorem d_S_goOn_37 : decode b_S_goOn 37 = .ok (.iload 4, 2) := by decide +kernel
theorem d_S_goOn_39 : decode b_S_goOn 39 = .ok (.iload_n 2, 1) := by decide +kernel
theorem d_S_goOn_40 : decode b_S_goOn 40 = .ok (.iload_n 3, 1) := by decide +kernel
theorem d_S_goOn_41 : decode b_S_goOn 41 = .ok (.invokevirtual 74, 3) := by decide +kernel
theorem d_S_goOn_44 : decode b_S_goOn 44 = .ok (.ifCond .eq 5, 3) := by decide +kernel
theorem d_S_goOn_47 : decode b_S_goOn 47 = .ok (.iconst 1, 1) := by decide +kernel
theorem d_S_goOn_48 : decode b_S_goOn 48 = .ok (.ireturn, 1) := by decide +kernel
theorem d_S_goOn_49 : decode b_S_goOn 49 = .ok (.iinc 4 1, 3) := by decide +kernel
theorem d_S_goOn_52 : decode b_S_goOn 52 = .ok (.goto (-26), 3) := by decide +kernel
theorem d_S_goOn_55 : decode b_S_goOn 55 = .ok (.iconst 0, 1) := by decide +kernel
theorem d_S_goOn_56 : decode b_S_goOn 56 = .ok (.ireturn, 1) := by decide +kernel
theorem d_S_tryFrom_0 : decode b_S_tryFrom 0 = .ok (.aload_n 1, 1) := by decide +kernel
theorem d_S_tryFrom_1 : decode b_S_tryFrom 1 = .ok (.iload_n 2, 1) := by decide +kernel
theorem d_S_tryFrom_2 : decode b_S_tryFrom 2 = .ok (.invokevirtual 78, 3) := by decide +kernel
theorem d_S_tryFrom_5 : decode b_S_tryFrom 5 = .ok (.istore 5, 2) := by decide +kernel
theorem d_S_tryFrom_7 : decode b_S_tryFrom 7 = .ok (.iload 5, 2) := by decide +kernel
theorem d_S_tryFrom_9 : decode b_S_tryFrom 9 = .ok (.iconst (-1), 1) := by decide +kernel
theorem d_S_tryFrom_10 : decode b_S_tryFrom 10 = .ok (.if_icmp .ne 5, 3) := by decide +kernel
theorem d_S_tryFrom_13 : decode b_S_tryFrom 13 = .ok (.iconst 0, 1) := by decide +kernel
theorem d_S_tryFrom_14 : decode b_S_tryFrom 14 = .ok (.ireturn, 1) := by decide +kernel
theorem d_S_tryFrom_15 : decode b_S_tryFrom 15 = .ok (.iload 4, 2) := by decide +kernel
theorem d_S_tryFrom_17 : decode b_S_tryFrom 17 = .ok (.aload_n 1, 1) := by decide +kernel
theorem d_S_tryFrom_18 : decode b_S_tryFrom 18 = .ok (.iload 5, 2) := by decide +kernel
end
section
theorem d_S_tryFrom_20 : decode b_S_tryFrom 20 = .ok (.invokevirtual 82, 3) := by decide +kernel
theorem d_S_tryFrom_23 : decode b_S_tryFrom 23 = .ok (.ifCond .eq 7, 3) := by decide +kernel
theorem d_S_tryFrom_26 : decode b_S_tryFrom 26 = .ok (.iconst 1, 1) := by decide +kernel
theorem d_S_tryFrom_27 : decode b_S_tryFrom 27 = .ok (.goto 4, 3) := by decide +kernel
theorem d_S_tryFrom_30 : decode b_S_tryFrom 30 = .ok (.iconst 0, 1) := by decide +kernel
theorem d_S_tryFrom_31 : decode b_S_tryFrom 31 = .ok (.isub, 1) := by decide +kernel
theorem d_S_tryFrom_32 : decode b_S_tryFrom 32 = .ok (.istore 6, 2) := by decide +kernel
theorem d_S_tryFrom_34 : decode b_S_tryFrom 34 = .ok (.iconst 0, 1) := by decide +kernel
theorem d_S_tryFrom_35 : decode b_S_tryFrom 35 = .ok (.istore 7, 2) := by decide +kernel
theorem d_S_tryFrom_37 : decode b_S_tryFrom 37 = .ok (.iload 7, 2) := by decide +kernel
theorem d_S_tryFrom_39 : decode b_S_tryFrom 39 = .ok (.aload_n 1, 1) := by decide +kernel
theorem d_S_tryFrom_40 : decode b_S_tryFrom 40 = .ok (.getfield 71, 3) := by decide +kernel
theorem d_S_tryFrom_43 : decode b_S_tryFrom 43 = .ok (.if_icmp .ge 118, 3) := by decide +kernel
theorem d_S_tryFrom_46 : decode b_S_tryFrom 46 = .ok (.aload_n 0, 1) := by decide +kernel
theorem d_S_tryFrom_47 : decode b_S_tryFrom 47 = .ok (.getfield 41, 3) := by decide +kernel
theorem d_S_tryFrom_50 : decode b_S_tryFrom 50 = .ok (.ifCond .ne 111, 3) := by decide +kernel
theorem d_S_tryFrom_53 : decode b_S_tryFrom 53 = .ok (.iload 7, 2) := by decide +kernel
theorem d_S_tryFrom_55 : decode b_S_tryFrom 55 = .ok (.iload_n 2, 1) := by decide +kernel
theorem d_S_tryFrom_56 : decode b_S_tryFrom 56 = .ok (.if_icmp .eq 99, 3) := by decide +kernel
theorem d_S_tryFrom_59 : decode b_S_tryFrom 59 = .ok (.aload_n 1, 1) := by decide +kernel
theorem d_S_tryFrom_60 : decode b_S_tryFrom 60 = .ok (.iload 7, 2) := by decide +kernel
theorem d_S_tryFrom_62 : decode b_S_tryFrom 62 = .ok (.aload_n 1, 1) := by decide +kernel
theorem d_S_tryFrom_63 : decode b_S_tryFrom 63 = .ok (.getfield 86, 3) := by decide +kernel
theorem d_S_tryFrom_66 : decode b_S_tryFrom 66 = .ok (.iload 5, 2) := by decide +kernel
theorem d_S_tryFrom_68 : decode b_S_tryFrom 68 = .ok (.iaload, 1) := by decide +kernel
theorem d_S_tryFrom_69 : decode b_S_tryFrom 69 = .ok (.invokevirtual 89, 3) := by decide +kernel
theorem d_S_tryFrom_72 : decode b_S_tryFrom 72 = .ok (.ifCond .ne 6, 3) := by decide +kernel
theorem d_S_tryFrom_75 : decode b_S_tryFrom 75 = .ok (.goto 80, 3) := by decide +kernel
theorem d_S_tryFrom_78 : decode b_S_tryFrom 78 = .ok (.aload_n 0, 1) := by decide +kernel
theorem d_S_tryFrom_79 : decode b_S_tryFrom 79 = .ok (.getfield 38, 3) := by decide +kernel
theorem d_S_tryFrom_82 : decode b_S_tryFrom 82 = .ok (.ifCond .ne 10, 3) := by decide +kernel
theorem d_S_tryFrom_85 : decode b_S_tryFrom 85 = .ok (.aload_n 0, 1) := by decide +kernel
theorem d_S_tryFrom_86 : decode b_S_tryFrom 86 = .ok (.iconst 1, 1) := by decide +kernel
theorem d_S_tryFrom_87 : decode b_S_tryFrom 87 = .ok (.putfield 41, 3) := by decide +kernel
theorem d_S_tryFrom_90 : decode b_S_tryFrom 90 = .ok (.iconst 0, 1) := by decide +kernel
theorem d_S_tryFrom_91 : decode b_S_tryFrom 91 = .ok (.ireturn, 1) := by decide +kernel
theorem d_S_tryFrom_92 : decode b_S_tryFrom 92 = .ok (.aload_n 0, 1) := by decide +kernel
theorem d_S_tryFrom_93 : decode b_S_tryFrom 93 = .ok (.dup, 1) := by decide +kernel
theorem d_S_tryFrom_94 : decode b_S_tryFrom 94 = .ok (.getfield 38, 3) := by decide +kernel
theorem d_S_tryFrom_97 : decode b_S_tryFrom 97 = .ok (.iconst 1, 1) := by decide +kernel
theorem d_S_tryFrom_98 : decode b_S_tryFrom 98 = .ok (.isub, 1) := by decide +kernel
theorem d_S_tryFrom_99 : decode b_S_tryFrom 99 = .ok (.putfield 38, 3) := by decide +kernel
theorem d_S_tryFrom_102 : decode b_S_tryFrom 102 = .ok (.iload 6, 2) := by decide +kernel
theorem d_S_tryFrom_104 : decode b_S_tryFrom 104 = .ok (.aload_n 1, 1) := by decide +kernel
theorem d_S_tryFrom_105 : decode b_S_tryFrom 105 = .ok (.iload 5, 2) := by decide +kernel
theorem d_S_tryFrom_107 : decode b_S_tryFrom 107 = .ok (.iload 7, 2) := by decide +kernel
theorem d_S_tryFrom_109 : decode b_S_tryFrom 109 = .ok (.invokevirtual 93, 3) := by decide +kernel
theorem d_S_tryFrom_112 : decode b_S_tryFrom 112 = .ok (.ifCond .eq 7, 3) := by decide +kernel
theorem d_S_tryFrom_115 : decode b_S_tryFrom 115 = .ok (.iconst 1, 1) := by decide +kernel
theorem d_S_tryFrom_116 : decode b_S_tryFrom 116 = .ok (.goto 4, 3) := by decide +kernel
theorem d_S_tryFrom_119 : decode b_S_tryFrom 119 = .ok (.iconst 0, 1) := by decide +kernel
theorem d_S_tryFrom_120 : decode b_S_tryFrom 120 = .ok (.iadd, 1) := by decide +kernel
theorem d_S_tryFrom_121 : decode b_S_tryFrom 121 = .ok (.istore 8, 2) := by decide +kernel
theorem d_S_tryFrom_123 : decode b_S_tryFrom 123 = .ok (.iload_n 3, 1) := by decide +kernel
theorem d_S_tryFrom_124 : decode b_S_tryFrom 124 = .ok (.iconst 1, 1) := by decide +kernel
theorem d_S_tryFrom_125 : decode b_S_tryFrom 125 = .ok (.iadd, 1) := by decide +kernel
theorem d_S_tryFrom_126 : decode b_S_tryFrom 126 = .ok (.iload 8, 2) := by decide +kernel
theorem d_S_tryFrom_128 : decode b_S_tryFrom 128 = .ok (.iadd, 1) := by decide +kernel
theorem d_S_tryFrom_129 : decode b_S_tryFrom 129 = .ok (.aload_n 0, 1) := by decide +kernel
theorem d_S_tryFrom_130 : decode b_S_tryFrom 130 = .ok (.getfield 50, 3) := by decide +kernel
theorem d_S_tryFrom_133 : decode b_S_tryFrom 133 = .ok (.if_icmp .gt 22, 3) := by decide +kernel
theorem d_S_tryFrom_136 : decode b_S_tryFrom 136 = .ok (.aload_n 0, 1) := by decide +kernel
theorem d_S_tryFrom_137 : decode b_S_tryFrom 137 = .ok (.aload_n 1, 1) := by decide +kernel
theorem d_S_tryFrom_138 : decode b_S_tryFrom 138 = .ok (.iload 5, 2) := by decide +kernel
theorem d_S_tryFrom_140 : decode b_S_tryFrom 140 = .ok (.iload 7, 2) := by decide +kernel
theorem d_S_tryFrom_142 : decode b_S_tryFrom 142 = .ok (.iload_n 3, 1) := by decide +kernel
theorem d_S_tryFrom_143 : decode b_S_tryFrom 143 = .ok (.iconst 1, 1) := by decide +kernel
theorem d_S_tryFrom_144 : decode b_S_tryFrom 144 = .ok (.iadd, 1) := by decide +kernel
theorem d_S_tryFrom_145 : decode b_S_tryFrom 145 = .ok (.iload 8, 2) := by decide +kernel
theorem d_S_tryFrom_147 : decode b_S_tryFrom 147 = .ok (.invokevirtual 96, 3) := by decide +kernel
theorem d_S_tryFrom_150 : decode b_S_tryFrom 150 = .ok (.ifCond .eq 5, 3) := by decide +kernel
theorem d_S_tryFrom_153 : decode b_S_tryFrom 153 = .ok (.iconst 1, 1) := by decide +kernel
theorem d_S_tryFrom_154 : decode b_S_tryFrom 154 = .ok (.ireturn, 1) := by decide +kernel
theorem d_S_tryFrom_155 : decode b_S_tryFrom 155 = .ok (.iinc 7 1, 3) := by decide +kernel
theorem d_S_tryFrom_158 : decode b_S_tryFrom 158 = .ok (.goto (-121), 3) := by decide +kernel
theorem d_S_tryFrom_161 : decode b_S_tryFrom 161 = .ok (.iconst 0, 1) := by decide +kernel
theorem d_S_tryFrom_162 : decode b_S_tryFrom 162 = .ok (.ireturn, 1) := by decide +kernel
theorem d_S_tryOne_0 : decode b_S_tryOne 0 = .ok (.aload_n 0, 1) := by decide +kernel
theorem d_S_tryOne_1 : decode b_S_tryOne 1 = .ok (.getfield 31, 3) := by decide +kernel
theorem d_S_tryOne_4 : decode b_S_tryOne 4 = .ok (.istore 6, 2) := by decide +kernel
theorem d_S_tryOne_6 : decode b_S_tryOne 6 = .ok (.aload_n 0, 1) := by decide +kernel
theorem d_S_tryOne_7 : decode b_S_tryOne 7 = .ok (.iload_n 2, 1) := by decide +kernel
theorem d_S_tryOne_8 : decode b_S_tryOne 8 = .ok (.aload_n 1, 1) := by decide +kernel
theorem d_S_tryOne_9 : decode b_S_tryOne 9 = .ok (.getfield 100, 3) := by decide +kernel
theorem d_S_tryOne_12 : decode b_S_tryOne 12 = .ok (.iload_n 2, 1) := by decide +kernel
theorem d_S_tryOne_13 : decode b_S_tryOne 13 = .ok (.iaload, 1) := by decide +kernel
theorem d_S_tryOne_14 : decode b_S_tryOne 14 = .ok (.iload_n 3, 1) := by decide +kernel
theorem d_S_tryOne_15 : decode b_S_tryOne 15 = .ok (.invokevirtual 103, 3) := by decide +kernel
theorem d_S_tryOne_18 : decode b_S_tryOne 18 = .ok (.aload_n 1, 1) := by decide +kernel
theorem d_S_tryOne_19 : decode b_S_tryOne 19 = .ok (.iload_n 2, 1) := by decide +kernel
theorem d_S_tryOne_20 : decode b_S_tryOne 20 = .ok (.iload_n 3, 1) := by decide +kernel
theorem d_S_tryOne_21 : decode b_S_tryOne 21 = .ok (.invokevirtual 107, 3) := by decide +kernel
theorem d_S_tryOne_24 : decode b_S_tryOne 24 = .ok (.aload_n 0, 1) := by decide +kernel
theorem d_S_tryOne_25 : decode b_S_tryOne 25 = .ok (.aload_n 1, 1) := by decide +kernel
theorem d_S_tryOne_26 : decode b_S_tryOne 26 = .ok (.iload 4, 2) := by decide +kernel
theorem d_S_tryOne_28 : decode b_S_tryOne 28 = .ok (.iload 5, 2) := by decide +kernel
theorem d_S_tryOne_30 : decode b_S_tryOne 30 = .ok (.invokevirtual 53, 3) := by decide +kernel
theorem d_S_tryOne_33 : decode b_S_tryOne 33 = .ok (.ifCond .eq 5, 3) := by decide +kernel
theorem d_S_tryOne_36 : decode b_S_tryOne 36 = .ok (.iconst 1, 1) := by decide +kernel
theorem d_S_tryOne_37 : decode b_S_tryOne 37 = .ok (.ireturn, 1) := by decide +kernel
theorem d_S_tryOne_38 : decode b_S_tryOne 38 = .ok (.aload_n 0, 1) := by decide +kernel
theorem d_S_tryOne_39 : decode b_S_tryOne 39 = .ok (.aload_n 1, 1) := by decide +kernel
theorem d_S_tryOne_40 : decode b_S_tryOne 40 = .ok (.iload 6, 2) := by decide +kernel
theorem d_S_tryOne_42 : decode b_S_tryOne 42 = .ok (.invokevirtual 57, 3) := by decide +kernel
theorem d_S_tryOne_45 : decode b_S_tryOne 45 = .ok (.iconst 0, 1) := by decide +kernel
theorem d_S_tryOne_46 : decode b_S_tryOne 46 = .ok (.ireturn, 1) := by decide +kernel
theorem d_S_letLeave_0 : decode b_S_letLeave 0 = .ok (.iconst 0, 1) := by decide +kernel
theorem d_S_letLeave_1 : decode b_S_letLeave 1 = .ok (.istore_n 2, 1) := by decide +kernel
theorem d_S_letLeave_2 : decode b_S_letLeave 2 = .ok (.iload_n 2, 1) := by decide +kernel
theorem d_S_letLeave_3 : decode b_S_letLeave 3 = .ok (.bipush 10, 2) := by decide +kernel
theorem d_S_letLeave_5 : decode b_S_letLeave 5 = .ok (.if_icmp .ge 45, 3) := by decide +kernel
theorem d_S_letLeave_8 : decode b_S_letLeave 8 = .ok (.aload_n 1, 1) := by decide +kernel
theorem d_S_letLeave_9 : decode b_S_letLeave 9 = .ok (.invokevirtual 68, 3) := by decide +kernel
theorem d_S_letLeave_12 : decode b_S_letLeave 12 = .ok (.istore_n 3, 1) := by decide +kernel
theorem d_S_letLeave_13 : decode b_S_letLeave 13 = .ok (.iload_n 3, 1) := by decide +kernel
theorem d_S_letLeave_14 : decode b_S_letLeave 14 = .ok (.iconst (-1), 1) := by decide +kernel
theorem d_S_letLeave_15 : decode b_S_letLeave 15 = .ok (.if_icmp .eq 11, 3) := by decide +kernel
theorem d_S_letLeave_18 : decode b_S_letLeave 18 = .ok (.aload_n 1, 1) := by decide +kernel
theorem d_S_letLeave_19 : decode b_S_letLeave 19 = .ok (.iload_n 3, 1) := by decide +kernel
theorem d_S_letLeave_20 : decode b_S_letLeave 20 = .ok (.invokevirtual 111, 3) := by decide +kernel
theorem d_S_letLeave_23 : decode b_S_letLeave 23 = .ok (.ifCond .ne 4, 3) := by decide +kernel
theorem d_S_letLeave_26 : decode b_S_letLeave 26 = .ok (.return_, 1) := by decide +kernel
theorem d_S_letLeave_27 : decode b_S_letLeave 27 = .ok (.aload_n 0, 1) := by decide +kernel
theorem d_S_letLeave_28 : decode b_S_letLeave 28 = .ok (.iload_n 3, 1) := by decide +kernel
theorem d_S_letLeave_29 : decode b_S_letLeave 29 = .ok (.aload_n 1, 1) := by decide +kernel
theorem d_S_letLeave_30 : decode b_S_letLeave 30 = .ok (.getfield 100, 3) := by decide +kernel
theorem d_S_letLeave_33 : decode b_S_letLeave 33 = .ok (.iload_n 3, 1) := by decide +kernel
theorem d_S_letLeave_34 : decode b_S_letLeave 34 = .ok (.iaload, 1) := by decide +kernel
theorem d_S_letLeave_35 : decode b_S_letLeave 35 = .ok (.iconst (-1), 1) := by decide +kernel
theorem d_S_letLeave_36 : decode b_S_letLeave 36 = .ok (.invokevirtual 103, 3) := by decide +kernel
theorem d_S_letLeave_39 : decode b_S_letLeave 39 = .ok (.aload_n 1, 1) := by decide +kernel
theorem d_S_letLeave_40 : decode b_S_letLeave 40 = .ok (.iload_n 3, 1) := by decide +kernel
theorem d_S_letLeave_41 : decode b_S_letLeave 41 = .ok (.invokevirtual 114, 3) := by decide +kernel
theorem d_S_letLeave_44 : decode b_S_letLeave 44 = .ok (.iinc 2 1, 3) := by decide +kernel
theorem d_S_letLeave_47 : decode b_S_letLeave 47 = .ok (.goto (-45), 3) := by decide +kernel
theorem d_S_letLeave_50 : decode b_S_letLeave 50 = .ok (.return_, 1) := by decide +kernel
theorem d_S_note_0 : decode b_S_note 0 = .ok (.aload_n 0, 1) := by decide +kernel
theorem d_S_note_1 : decode b_S_note 1 = .ok (.getfield 31, 3) := by decide +kernel
theorem d_S_note_4 : decode b_S_note 4 = .ok (.bipush 22, 2) := by decide +kernel
theorem d_S_note_6 : decode b_S_note 6 = .ok (.if_icmp .ge 43, 3) := by decide +kernel
theorem d_S_note_9 : decode b_S_note 9 = .ok (.aload_n 0, 1) := by decide +kernel
theorem d_S_note_10 : decode b_S_note 10 = .ok (.getfield 11, 3) := by decide +kernel
theorem d_S_note_13 : decode b_S_note 13 = .ok (.aload_n 0, 1) := by decide +kernel
theorem d_S_note_14 : decode b_S_note 14 = .ok (.getfield 31, 3) := by decide +kernel
theorem d_S_note_17 : decode b_S_note 17 = .ok (.iload_n 1, 1) := by decide +kernel
theorem d_S_note_18 : decode b_S_note 18 = .ok (.iastore, 1) := by decide +kernel
theorem d_S_note_19 : decode b_S_note 19 = .ok (.aload_n 0, 1) := by decide +kernel
theorem d_S_note_20 : decode b_S_note 20 = .ok (.getfield 15, 3) := by decide +kernel
theorem d_S_note_23 : decode b_S_note 23 = .ok (.aload_n 0, 1) := by decide +kernel
theorem d_S_note_24 : decode b_S_note 24 = .ok (.getfield 31, 3) := by decide +kernel
theorem d_S_note_27 : decode b_S_note 27 = .ok (.iload_n 2, 1) := by decide +kernel
theorem d_S_note_28 : decode b_S_note 28 = .ok (.iastore, 1) := by decide +kernel
theorem d_S_note_29 : decode b_S_note 29 = .ok (.aload_n 0, 1) := by decide +kernel
theorem d_S_note_30 : decode b_S_note 30 = .ok (.getfield 18, 3) := by decide +kernel
theorem d_S_note_33 : decode b_S_note 33 = .ok (.aload_n 0, 1) := by decide +kernel
theorem d_S_note_34 : decode b_S_note 34 = .ok (.getfield 31, 3) := by decide +kernel
theorem d_S_note_37 : decode b_S_note 37 = .ok (.iload_n 3, 1) := by decide +kernel
theorem d_S_note_38 : decode b_S_note 38 = .ok (.iastore, 1) := by decide +kernel
theorem d_S_note_39 : decode b_S_note 39 = .ok (.aload_n 0, 1) := by decide +kernel
theorem d_S_note_40 : decode b_S_note 40 = .ok (.dup, 1) := by decide +kernel
theorem d_S_note_41 : decode b_S_note 41 = .ok (.getfield 31, 3) := by decide +kernel
theorem d_S_note_44 : decode b_S_note 44 = .ok (.iconst 1, 1) := by decide +kernel
theorem d_S_note_45 : decode b_S_note 45 = .ok (.iadd, 1) := by decide +kernel
theorem d_S_note_46 : decode b_S_note 46 = .ok (.putfield 31, 3) := by decide +kernel
theorem d_S_note_49 : decode b_S_note 49 = .ok (.return_, 1) := by decide +kernel
theorem d_S_takeBack_0 : decode b_S_takeBack 0 = .ok (.aload_n 0, 1) := by decide +kernel
theorem d_S_takeBack_1 : decode b_S_takeBack 1 = .ok (.getfield 31, 3) := by decide +kernel
theorem d_S_takeBack_4 : decode b_S_takeBack 4 = .ok (.iload_n 2, 1) := by decide +kernel
theorem d_S_takeBack_5 : decode b_S_takeBack 5 = .ok (.if_icmp .le 64, 3) := by decide +kernel
theorem d_S_takeBack_8 : decode b_S_takeBack 8 = .ok (.aload_n 0, 1) := by decide +kernel
theorem d_S_takeBack_9 : decode b_S_takeBack 9 = .ok (.dup, 1) := by decide +kernel
theorem d_S_takeBack_10 : decode b_S_takeBack 10 = .ok (.getfield 31, 3) := by decide +kernel
theorem d_S_takeBack_13 : decode b_S_takeBack 13 = .ok (.iconst 1, 1) := by decide +kernel
theorem d_S_takeBack_14 : decode b_S_takeBack 14 = .ok (.isub, 1) := by decide +kernel
theorem d_S_takeBack_15 : decode b_S_takeBack 15 = .ok (.putfield 31, 3) := by decide +kernel
theorem d_S_takeBack_18 : decode b_S_takeBack 18 = .ok (.aload_n 0, 1) := by decide +kernel
theorem d_S_takeBack_19 : decode b_S_takeBack 19 = .ok (.getfield 18, 3) := by decide +kernel
theorem d_S_takeBack_22 : decode b_S_takeBack 22 = .ok (.aload_n 0, 1) := by decide +kernel
theorem d_S_takeBack_23 : decode b_S_takeBack 23 = .ok (.getfield 31, 3) := by decide +kernel
theorem d_S_takeBack_26 : decode b_S_takeBack 26 = .ok (.iaload, 1) := by decide +kernel
theorem d_S_takeBack_27 : decode b_S_takeBack 27 = .ok (.iconst (-1), 1) := by decide +kernel
theorem d_S_takeBack_28 : decode b_S_takeBack 28 = .ok (.if_icmp .eq 16, 3) := by decide +kernel
theorem d_S_takeBack_31 : decode b_S_takeBack 31 = .ok (.aload_n 1, 1) := by decide +kernel
theorem d_S_takeBack_32 : decode b_S_takeBack 32 = .ok (.aload_n 0, 1) := by decide +kernel
theorem d_S_takeBack_33 : decode b_S_takeBack 33 = .ok (.getfield 11, 3) := by decide +kernel
theorem d_S_takeBack_36 : decode b_S_takeBack 36 = .ok (.aload_n 0, 1) := by decide +kernel
theorem d_S_takeBack_37 : decode b_S_takeBack 37 = .ok (.getfield 31, 3) := by decide +kernel
theorem d_S_takeBack_40 : decode b_S_takeBack 40 = .ok (.iaload, 1) := by decide +kernel
theorem d_S_takeBack_41 : decode b_S_takeBack 41 = .ok (.invokevirtual 114, 3) := by decide +kernel
theorem d_S_takeBack_44 : decode b_S_takeBack 44 = .ok (.aload_n 1, 1) := by decide +kernel
theorem d_S_takeBack_45 : decode b_S_takeBack 45 = .ok (.aload_n 0, 1) := by decide +kernel
theorem d_S_takeBack_46 : decode b_S_takeBack 46 = .ok (.getfield 11, 3) := by decide +kernel
theorem d_S_takeBack_49 : decode b_S_takeBack 49 = .ok (.aload_n 0, 1) := by decide +kernel
theorem d_S_takeBack_50 : decode b_S_takeBack 50 = .ok (.getfield 31, 3) := by decide +kernel
theorem d_S_takeBack_53 : decode b_S_takeBack 53 = .ok (.iaload, 1) := by decide +kernel
theorem d_S_takeBack_54 : decode b_S_takeBack 54 = .ok (.aload_n 0, 1) := by decide +kernel
theorem d_S_takeBack_55 : decode b_S_takeBack 55 = .ok (.getfield 15, 3) := by decide +kernel
theorem d_S_takeBack_58 : decode b_S_takeBack 58 = .ok (.aload_n 0, 1) := by decide +kernel
theorem d_S_takeBack_59 : decode b_S_takeBack 59 = .ok (.getfield 31, 3) := by decide +kernel
theorem d_S_takeBack_62 : decode b_S_takeBack 62 = .ok (.iaload, 1) := by decide +kernel
theorem d_S_takeBack_63 : decode b_S_takeBack 63 = .ok (.invokevirtual 118, 3) := by decide +kernel
theorem d_S_takeBack_66 : decode b_S_takeBack 66 = .ok (.goto (-66), 3) := by decide +kernel
theorem d_S_takeBack_69 : decode b_S_takeBack 69 = .ok (.return_, 1) := by decide +kernel
theorem d_S_doMoves_0 : decode b_S_doMoves 0 = .ok (.iconst 0, 1) := by decide +kernel
theorem d_S_doMoves_1 : decode b_S_doMoves 1 = .ok (.istore_n 3, 1) := by decide +kernel
theorem d_S_doMoves_2 : decode b_S_doMoves 2 = .ok (.iload_n 3, 1) := by decide +kernel
theorem d_S_doMoves_3 : decode b_S_doMoves 3 = .ok (.iload_n 2, 1) := by decide +kernel
theorem d_S_doMoves_4 : decode b_S_doMoves 4 = .ok (.if_icmp .ge 48, 3) := by decide +kernel
theorem d_S_doMoves_7 : decode b_S_doMoves 7 = .ok (.aload_n 0, 1) := by decide +kernel
theorem d_S_doMoves_8 : decode b_S_doMoves 8 = .ok (.getfield 18, 3) := by decide +kernel
theorem d_S_doMoves_11 : decode b_S_doMoves 11 = .ok (.iload_n 3, 1) := by decide +kernel
theorem d_S_doMoves_12 : decode b_S_doMoves 12 = .ok (.iaload, 1) := by decide +kernel
theorem d_S_doMoves_13 : decode b_S_doMoves 13 = .ok (.iconst (-1), 1) := by decide +kernel
theorem d_S_doMoves_14 : decode b_S_doMoves 14 = .ok (.if_icmp .ne 16, 3) := by decide +kernel
theorem d_S_doMoves_17 : decode b_S_doMoves 17 = .ok (.aload_n 1, 1) := by decide +kernel
theorem d_S_doMoves_18 : decode b_S_doMoves 18 = .ok (.aload_n 0, 1) := by decide +kernel
theorem d_S_doMoves_19 : decode b_S_doMoves 19 = .ok (.getfield 11, 3) := by decide +kernel
theorem d_S_doMoves_22 : decode b_S_doMoves 22 = .ok (.iload_n 3, 1) := by decide +kernel
theorem d_S_doMoves_23 : decode b_S_doMoves 23 = .ok (.iaload, 1) := by decide +kernel
theorem d_S_doMoves_24 : decode b_S_doMoves 24 = .ok (.invokevirtual 114, 3) := by decide +kernel
theorem d_S_doMoves_27 : decode b_S_doMoves 27 = .ok (.goto 19, 3) := by decide +kernel
theorem d_S_doMoves_30 : decode b_S_doMoves 30 = .ok (.aload_n 1, 1) := by decide +kernel
theorem d_S_doMoves_31 : decode b_S_doMoves 31 = .ok (.aload_n 0, 1) := by decide +kernel
theorem d_S_doMoves_32 : decode b_S_doMoves 32 = .ok (.getfield 11, 3) := by decide +kernel
theorem d_S_doMoves_35 : decode b_S_doMoves 35 = .ok (.iload_n 3, 1) := by decide +kernel
theorem d_S_doMoves_36 : decode b_S_doMoves 36 = .ok (.iaload, 1) := by decide +kernel
theorem d_S_doMoves_37 : decode b_S_doMoves 37 = .ok (.aload_n 0, 1) := by decide +kernel
theorem d_S_doMoves_38 : decode b_S_doMoves 38 = .ok (.getfield 18, 3) := by decide +kernel
theorem d_S_doMoves_41 : decode b_S_doMoves 41 = .ok (.iload_n 3, 1) := by decide +kernel
theorem d_S_doMoves_42 : decode b_S_doMoves 42 = .ok (.iaload, 1) := by decide +kernel
theorem d_S_doMoves_43 : decode b_S_doMoves 43 = .ok (.invokevirtual 107, 3) := by decide +kernel
theorem d_S_doMoves_46 : decode b_S_doMoves 46 = .ok (.iinc 3 1, 3) := by decide +kernel
theorem d_S_doMoves_49 : decode b_S_doMoves 49 = .ok (.goto (-47), 3) := by decide +kernel
theorem d_S_doMoves_52 : decode b_S_doMoves 52 = .ok (.return_, 1) := by decide +kernel
theorem d_S_countRelifts_0 : decode b_S_countRelifts 0 = .ok (.iconst 0, 1) := by decide +kernel
theorem d_S_countRelifts_1 : decode b_S_countRelifts 1 = .ok (.istore_n 1, 1) := by decide +kernel
theorem d_S_countRelifts_2 : decode b_S_countRelifts 2 = .ok (.iconst 0, 1) := by decide +kernel
theorem d_S_countRelifts_3 : decode b_S_countRelifts 3 = .ok (.istore_n 2, 1) := by decide +kernel
theorem d_S_countRelifts_4 : decode b_S_countRelifts 4 = .ok (.iload_n 2, 1) := by decide +kernel
theorem d_S_countRelifts_5 : decode b_S_countRelifts 5 = .ok (.aload_n 0, 1) := by decide +kernel
theorem d_S_countRelifts_6 : decode b_S_countRelifts 6 = .ok (.getfield 31, 3) := by decide +kernel
theorem d_S_countRelifts_9 : decode b_S_countRelifts 9 = .ok (.if_icmp .ge 22, 3) := by decide +kernel
theorem d_S_countRelifts_12 : decode b_S_countRelifts 12 = .ok (.aload_n 0, 1) := by decide +kernel
theorem d_S_countRelifts_13 : decode b_S_countRelifts 13 = .ok (.getfield 18, 3) := by decide +kernel
theorem d_S_countRelifts_16 : decode b_S_countRelifts 16 = .ok (.iload_n 2, 1) := by decide +kernel
theorem d_S_countRelifts_17 : decode b_S_countRelifts 17 = .ok (.iaload, 1) := by decide +kernel
theorem d_S_countRelifts_18 : decode b_S_countRelifts 18 = .ok (.iconst (-1), 1) := by decide +kernel
theorem d_S_countRelifts_19 : decode b_S_countRelifts 19 = .ok (.if_icmp .eq 6, 3) := by decide +kernel
theorem d_S_countRelifts_22 : decode b_S_countRelifts 22 = .ok (.iinc 1 1, 3) := by decide +kernel
theorem d_S_countRelifts_25 : decode b_S_countRelifts 25 = .ok (.iinc 2 1, 3) := by decide +kernel
theorem d_S_countRelifts_28 : decode b_S_countRelifts 28 = .ok (.goto (-24), 3) := by decide +kernel
theorem d_S_countRelifts_31 : decode b_S_countRelifts 31 = .ok (.iload_n 1, 1) := by decide +kernel
theorem d_S_countRelifts_32 : decode b_S_countRelifts 32 = .ok (.ireturn, 1) := by decide +kernel
theorem d_W_init_0 : decode b_W_init 0 = .ok (.aload_n 0, 1) := by decide +kernel
theorem d_W_init_1 : decode b_W_init 1 = .ok (.invokespecial 3, 3) := by decide +kernel
theorem d_W_init_4 : decode b_W_init 4 = .ok (.aload_n 0, 1) := by decide +kernel
theorem d_W_init_5 : decode b_W_init 5 = .ok (.iconst 4, 1) := by decide +kernel
theorem d_W_init_6 : decode b_W_init 6 = .ok (.newarray .int, 2) := by decide +kernel
theorem d_W_init_8 : decode b_W_init 8 = .ok (.putfield 9, 3) := by decide +kernel
theorem d_W_init_11 : decode b_W_init 11 = .ok (.aload_n 0, 1) := by decide +kernel
theorem d_W_init_12 : decode b_W_init 12 = .ok (.iconst 4, 1) := by decide +kernel
theorem d_W_init_13 : decode b_W_init 13 = .ok (.newarray .int, 2) := by decide +kernel
theorem d_W_init_15 : decode b_W_init 15 = .ok (.putfield 15, 3) := by decide +kernel
theorem d_W_init_18 : decode b_W_init 18 = .ok (.aload_n 0, 1) := by decide +kernel
theorem d_W_init_19 : decode b_W_init 19 = .ok (.bipush 10, 2) := by decide +kernel
theorem d_W_init_21 : decode b_W_init 21 = .ok (.newarray .int, 2) := by decide +kernel
theorem d_W_init_23 : decode b_W_init 23 = .ok (.putfield 18, 3) := by decide +kernel
theorem d_W_init_26 : decode b_W_init 26 = .ok (.aload_n 0, 1) := by decide +kernel
theorem d_W_init_27 : decode b_W_init 27 = .ok (.invokevirtual 21, 3) := by decide +kernel
theorem d_W_init_30 : decode b_W_init 30 = .ok (.return_, 1) := by decide +kernel
theorem d_W_clear_0 : decode b_W_clear 0 = .ok (.aload_n 0, 1) := by decide +kernel
theorem d_W_clear_1 : decode b_W_clear 1 = .ok (.iconst 0, 1) := by decide +kernel
theorem d_W_clear_2 : decode b_W_clear 2 = .ok (.putfield 24, 3) := by decide +kernel
theorem d_W_clear_5 : decode b_W_clear 5 = .ok (.iconst 0, 1) := by decide +kernel
theorem d_W_clear_6 : decode b_W_clear 6 = .ok (.istore_n 1, 1) := by decide +kernel
theorem d_W_clear_7 : decode b_W_clear 7 = .ok (.iload_n 1, 1) := by decide +kernel
theorem d_W_clear_8 : decode b_W_clear 8 = .ok (.bipush 10, 2) := by decide +kernel
theorem d_W_clear_10 : decode b_W_clear 10 = .ok (.if_icmp .ge 16, 3) := by decide +kernel
theorem d_W_clear_13 : decode b_W_clear 13 = .ok (.aload_n 0, 1) := by decide +kernel
theorem d_W_clear_14 : decode b_W_clear 14 = .ok (.getfield 18, 3) := by decide +kernel
theorem d_W_clear_17 : decode b_W_clear 17 = .ok (.iload_n 1, 1) := by decide +kernel
theorem d_W_clear_18 : decode b_W_clear 18 = .ok (.iconst (-1), 1) := by decide +kernel
theorem d_W_clear_19 : decode b_W_clear 19 = .ok (.iastore, 1) := by decide +kernel
theorem d_W_clear_20 : decode b_W_clear 20 = .ok (.iinc 1 1, 3) := by decide +kernel
theorem d_W_clear_23 : decode b_W_clear 23 = .ok (.goto (-16), 3) := by decide +kernel
theorem d_W_clear_26 : decode b_W_clear 26 = .ok (.return_, 1) := by decide +kernel
theorem d_W_add_0 : decode b_W_add 0 = .ok (.aload_n 0, 1) := by decide +kernel
theorem d_W_add_1 : decode b_W_add 1 = .ok (.getfield 24, 3) := by decide +kernel
theorem d_W_add_4 : decode b_W_add 4 = .ok (.istore_n 2, 1) := by decide +kernel
theorem d_W_add_5 : decode b_W_add 5 = .ok (.aload_n 0, 1) := by decide +kernel
theorem d_W_add_6 : decode b_W_add 6 = .ok (.dup, 1) := by decide +kernel
theorem d_W_add_7 : decode b_W_add 7 = .ok (.getfield 24, 3) := by decide +kernel
theorem d_W_add_10 : decode b_W_add 10 = .ok (.iconst 1, 1) := by decide +kernel
theorem d_W_add_11 : decode b_W_add 11 = .ok (.iadd, 1) := by decide +kernel
theorem d_W_add_12 : decode b_W_add 12 = .ok (.putfield 24, 3) := by decide +kernel
theorem d_W_add_15 : decode b_W_add 15 = .ok (.aload_n 0, 1) := by decide +kernel
theorem d_W_add_16 : decode b_W_add 16 = .ok (.getfield 9, 3) := by decide +kernel
theorem d_W_add_19 : decode b_W_add 19 = .ok (.iload_n 2, 1) := by decide +kernel
theorem d_W_add_20 : decode b_W_add 20 = .ok (.iload_n 1, 1) := by decide +kernel
theorem d_W_add_21 : decode b_W_add 21 = .ok (.iastore, 1) := by decide +kernel
theorem d_W_add_22 : decode b_W_add 22 = .ok (.aload_n 0, 1) := by decide +kernel
theorem d_W_add_23 : decode b_W_add 23 = .ok (.getfield 15, 3) := by decide +kernel
theorem d_W_add_26 : decode b_W_add 26 = .ok (.iload_n 2, 1) := by decide +kernel
theorem d_W_add_27 : decode b_W_add 27 = .ok (.iconst 0, 1) := by decide +kernel
theorem d_W_add_28 : decode b_W_add 28 = .ok (.iastore, 1) := by decide +kernel
theorem d_W_add_29 : decode b_W_add 29 = .ok (.iload_n 2, 1) := by decide +kernel
theorem d_W_add_30 : decode b_W_add 30 = .ok (.ireturn, 1) := by decide +kernel
theorem d_W_firstWithRoom_0 : decode b_W_firstWithRoom 0 = .ok (.iconst 0, 1) := by decide +kernel
theorem d_W_firstWithRoom_1 : decode b_W_firstWithRoom 1 = .ok (.istore_n 2, 1) := by decide +kernel
theorem d_W_firstWithRoom_2 : decode b_W_firstWithRoom 2 = .ok (.iload_n 2, 1) := by decide +kernel
theorem d_W_firstWithRoom_3 : decode b_W_firstWithRoom 3 = .ok (.aload_n 0, 1) := by decide +kernel
theorem d_W_firstWithRoom_4 : decode b_W_firstWithRoom 4 = .ok (.getfield 24, 3) := by decide +kernel
theorem d_W_firstWithRoom_7 : decode b_W_firstWithRoom 7 = .ok (.if_icmp .ge 28, 3) := by decide +kernel
theorem d_W_firstWithRoom_10 : decode b_W_firstWithRoom 10 = .ok (.aload_n 0, 1) := by decide +kernel
theorem d_W_firstWithRoom_11 : decode b_W_firstWithRoom 11 = .ok (.getfield 15, 3) := by decide +kernel
theorem d_W_firstWithRoom_14 : decode b_W_firstWithRoom 14 = .ok (.iload_n 2, 1) := by decide +kernel
theorem d_W_firstWithRoom_15 : decode b_W_firstWithRoom 15 = .ok (.iaload, 1) := by decide +kernel
theorem d_W_firstWithRoom_16 : decode b_W_firstWithRoom 16 = .ok (.iload_n 1, 1) := by decide +kernel
theorem d_W_firstWithRoom_17 : decode b_W_firstWithRoom 17 = .ok (.iadd, 1) := by decide +kernel
theorem d_W_firstWithRoom_18 : decode b_W_firstWithRoom 18 = .ok (.aload_n 0, 1) := by decide +kernel
theorem d_W_firstWithRoom_19 : decode b_W_firstWithRoom 19 = .ok (.getfield 9, 3) := by decide +kernel
theorem d_W_firstWithRoom_22 : decode b_W_firstWithRoom 22 = .ok (.iload_n 2, 1) := by decide +kernel
theorem d_W_firstWithRoom_23 : decode b_W_firstWithRoom 23 = .ok (.iaload, 1) := by decide +kernel
theorem d_W_firstWithRoom_24 : decode b_W_firstWithRoom 24 = .ok (.if_icmp .gt 5, 3) := by decide +kernel
theorem d_W_firstWithRoom_27 : decode b_W_firstWithRoom 27 = .ok (.iload_n 2, 1) := by decide +kernel
theorem d_W_firstWithRoom_28 : decode b_W_firstWithRoom 28 = .ok (.ireturn, 1) := by decide +kernel
theorem d_W_firstWithRoom_29 : decode b_W_firstWithRoom 29 = .ok (.iinc 2 1, 3) := by decide +kernel
theorem d_W_firstWithRoom_32 : decode b_W_firstWithRoom 32 = .ok (.goto (-30), 3) := by decide +kernel
theorem d_W_firstWithRoom_35 : decode b_W_firstWithRoom 35 = .ok (.iconst (-1), 1) := by decide +kernel
theorem d_W_firstWithRoom_36 : decode b_W_firstWithRoom 36 = .ok (.ireturn, 1) := by decide +kernel
theorem d_W_fill_0 : decode b_W_fill 0 = .ok (.aload_n 0, 1) := by decide +kernel
theorem d_W_fill_1 : decode b_W_fill 1 = .ok (.getfield 15, 3) := by decide +kernel
theorem d_W_fill_4 : decode b_W_fill 4 = .ok (.iload_n 1, 1) := by decide +kernel
theorem d_W_fill_5 : decode b_W_fill 5 = .ok (.dup2, 1) := by decide +kernel
theorem d_W_fill_6 : decode b_W_fill 6 = .ok (.iaload, 1) := by decide +kernel
theorem d_W_fill_7 : decode b_W_fill 7 = .ok (.iload_n 3, 1) := by decide +kernel
theorem d_W_fill_8 : decode b_W_fill 8 = .ok (.iadd, 1) := by decide +kernel
theorem d_W_fill_9 : decode b_W_fill 9 = .ok (.iastore, 1) := by decide +kernel
theorem d_W_fill_10 : decode b_W_fill 10 = .ok (.aload_n 0, 1) := by decide +kernel
theorem d_W_fill_11 : decode b_W_fill 11 = .ok (.getfield 18, 3) := by decide +kernel
theorem d_W_fill_14 : decode b_W_fill 14 = .ok (.iload_n 2, 1) := by decide +kernel
theorem d_W_fill_15 : decode b_W_fill 15 = .ok (.iload_n 1, 1) := by decide +kernel
theorem d_W_fill_16 : decode b_W_fill 16 = .ok (.iastore, 1) := by decide +kernel
theorem d_W_fill_17 : decode b_W_fill 17 = .ok (.return_, 1) := by decide +kernel
theorem d_Y_init_0 : decode b_Y_init 0 = .ok (.aload_n 0, 1) := by decide +kernel
theorem d_Y_init_1 : decode b_Y_init 1 = .ok (.invokespecial 3, 3) := by decide +kernel
theorem d_Y_init_4 : decode b_Y_init 4 = .ok (.aload_n 0, 1) := by decide +kernel
theorem d_Y_init_5 : decode b_Y_init 5 = .ok (.iconst 4, 1) := by decide +kernel
theorem d_Y_init_6 : decode b_Y_init 6 = .ok (.newarray .int, 2) := by decide +kernel
theorem d_Y_init_8 : decode b_Y_init 8 = .ok (.putfield 9, 3) := by decide +kernel
theorem d_Y_init_11 : decode b_Y_init 11 = .ok (.aload_n 0, 1) := by decide +kernel
theorem d_Y_init_12 : decode b_Y_init 12 = .ok (.bipush 20, 2) := by decide +kernel
theorem d_Y_init_14 : decode b_Y_init 14 = .ok (.newarray .int, 2) := by decide +kernel
theorem d_Y_init_16 : decode b_Y_init 16 = .ok (.putfield 15, 3) := by decide +kernel
theorem d_Y_init_19 : decode b_Y_init 19 = .ok (.aload_n 0, 1) := by decide +kernel
theorem d_Y_init_20 : decode b_Y_init 20 = .ok (.bipush 10, 2) := by decide +kernel
theorem d_Y_init_22 : decode b_Y_init 22 = .ok (.newarray .int, 2) := by decide +kernel
theorem d_Y_init_24 : decode b_Y_init 24 = .ok (.putfield 18, 3) := by decide +kernel
theorem d_Y_init_27 : decode b_Y_init 27 = .ok (.aload_n 0, 1) := by decide +kernel
theorem d_Y_init_28 : decode b_Y_init 28 = .ok (.bipush 10, 2) := by decide +kernel
theorem d_Y_init_30 : decode b_Y_init 30 = .ok (.newarray .int, 2) := by decide +kernel
theorem d_Y_init_32 : decode b_Y_init 32 = .ok (.putfield 21, 3) := by decide +kernel
theorem d_Y_init_35 : decode b_Y_init 35 = .ok (.aload_n 0, 1) := by decide +kernel
theorem d_Y_init_36 : decode b_Y_init 36 = .ok (.bipush 10, 2) := by decide +kernel
theorem d_Y_init_38 : decode b_Y_init 38 = .ok (.newarray .int, 2) := by decide +kernel
theorem d_Y_init_40 : decode b_Y_init 40 = .ok (.putfield 24, 3) := by decide +kernel
theorem d_Y_init_43 : decode b_Y_init 43 = .ok (.aload_n 0, 1) := by decide +kernel
theorem d_Y_init_44 : decode b_Y_init 44 = .ok (.bipush 10, 2) := by decide +kernel
theorem d_Y_init_46 : decode b_Y_init 46 = .ok (.newarray .int, 2) := by decide +kernel
theorem d_Y_init_48 : decode b_Y_init 48 = .ok (.putfield 27, 3) := by decide +kernel
theorem d_Y_init_51 : decode b_Y_init 51 = .ok (.aload_n 0, 1) := by decide +kernel
theorem d_Y_init_52 : decode b_Y_init 52 = .ok (.bipush 10, 2) := by decide +kernel
theorem d_Y_init_54 : decode b_Y_init 54 = .ok (.newarray .int, 2) := by decide +kernel
theorem d_Y_init_56 : decode b_Y_init 56 = .ok (.putfield 30, 3) := by decide +kernel
theorem d_Y_init_59 : decode b_Y_init 59 = .ok (.aload_n 0, 1) := by decide +kernel
theorem d_Y_init_60 : decode b_Y_init 60 = .ok (.iconst 2, 1) := by decide +kernel
theorem d_Y_init_61 : decode b_Y_init 61 = .ok (.iconst 4, 1) := by decide +kernel
theorem d_Y_init_62 : decode b_Y_init 62 = .ok (.invokevirtual 33, 3) := by decide +kernel
theorem d_Y_init_65 : decode b_Y_init 65 = .ok (.return_, 1) := by decide +kernel
theorem d_Y_clear_0 : decode b_Y_clear 0 = .ok (.aload_n 0, 1) := by decide +kernel
theorem d_Y_clear_1 : decode b_Y_clear 1 = .ok (.iload_n 1, 1) := by decide +kernel
theorem d_Y_clear_2 : decode b_Y_clear 2 = .ok (.putfield 37, 3) := by decide +kernel
theorem d_Y_clear_5 : decode b_Y_clear 5 = .ok (.aload_n 0, 1) := by decide +kernel
theorem d_Y_clear_6 : decode b_Y_clear 6 = .ok (.iload_n 2, 1) := by decide +kernel
theorem d_Y_clear_7 : decode b_Y_clear 7 = .ok (.putfield 41, 3) := by decide +kernel
theorem d_Y_clear_10 : decode b_Y_clear 10 = .ok (.aload_n 0, 1) := by decide +kernel
theorem d_Y_clear_11 : decode b_Y_clear 11 = .ok (.iconst 0, 1) := by decide +kernel
theorem d_Y_clear_12 : decode b_Y_clear 12 = .ok (.putfield 44, 3) := by decide +kernel
theorem d_Y_clear_15 : decode b_Y_clear 15 = .ok (.iconst 0, 1) := by decide +kernel
theorem d_Y_clear_16 : decode b_Y_clear 16 = .ok (.istore_n 3, 1) := by decide +kernel
theorem d_Y_clear_17 : decode b_Y_clear 17 = .ok (.iload_n 3, 1) := by decide +kernel
theorem d_Y_clear_18 : decode b_Y_clear 18 = .ok (.iconst 4, 1) := by decide +kernel
theorem d_Y_clear_19 : decode b_Y_clear 19 = .ok (.if_icmp .ge 16, 3) := by decide +kernel
theorem d_Y_clear_22 : decode b_Y_clear 22 = .ok (.aload_n 0, 1) := by decide +kernel
theorem d_Y_clear_23 : decode b_Y_clear 23 = .ok (.getfield 9, 3) := by decide +kernel
theorem d_Y_clear_26 : decode b_Y_clear 26 = .ok (.iload_n 3, 1) := by decide +kernel
theorem d_Y_clear_27 : decode b_Y_clear 27 = .ok (.iconst 0, 1) := by decide +kernel
theorem d_Y_clear_28 : decode b_Y_clear 28 = .ok (.iastore, 1) := by decide +kernel
theorem d_Y_clear_29 : decode b_Y_clear 29 = .ok (.iinc 3 1, 3) := by decide +kernel
theorem d_Y_clear_32 : decode b_Y_clear 32 = .ok (.goto (-15), 3) := by decide +kernel
theorem d_Y_clear_35 : decode b_Y_clear 35 = .ok (.return_, 1) := by decide +kernel
theorem d_Y_hasPile_0 : decode b_Y_hasPile 0 = .ok (.iload_n 1, 1) := by decide +kernel
theorem d_Y_hasPile_1 : decode b_Y_hasPile 1 = .ok (.iconst 0, 1) := by decide +kernel
theorem d_Y_hasPile_2 : decode b_Y_hasPile 2 = .ok (.aload_n 0, 1) := by decide +kernel
theorem d_Y_hasPile_3 : decode b_Y_hasPile 3 = .ok (.getfield 37, 3) := by decide +kernel
theorem d_Y_hasPile_6 : decode b_Y_hasPile 6 = .ok (.iconst 1, 1) := by decide +kernel
theorem d_Y_hasPile_7 : decode b_Y_hasPile 7 = .ok (.isub, 1) := by decide +kernel
theorem d_Y_hasPile_8 : decode b_Y_hasPile 8 = .ok (.invokestatic 47, 3) := by decide +kernel
theorem d_Y_hasPile_11 : decode b_Y_hasPile 11 = .ok (.ireturn, 1) := by decide +kernel
theorem d_Y_hasPiece_0 : decode b_Y_hasPiece 0 = .ok (.iload_n 1, 1) := by decide +kernel
theorem d_Y_hasPiece_1 : decode b_Y_hasPiece 1 = .ok (.iconst 0, 1) := by decide +kernel
theorem d_Y_hasPiece_2 : decode b_Y_hasPiece 2 = .ok (.aload_n 0, 1) := by decide +kernel
theorem d_Y_hasPiece_3 : decode b_Y_hasPiece 3 = .ok (.getfield 44, 3) := by decide +kernel
theorem d_Y_hasPiece_6 : decode b_Y_hasPiece 6 = .ok (.iconst 1, 1) := by decide +kernel
theorem d_Y_hasPiece_7 : decode b_Y_hasPiece 7 = .ok (.isub, 1) := by decide +kernel
theorem d_Y_hasPiece_8 : decode b_Y_hasPiece 8 = .ok (.invokestatic 47, 3) := by decide +kernel
theorem d_Y_hasPiece_11 : decode b_Y_hasPiece 11 = .ok (.ireturn, 1) := by decide +kernel
theorem d_Y_isGone_0 : decode b_Y_isGone 0 = .ok (.aload_n 0, 1) := by decide +kernel
theorem d_Y_isGone_1 : decode b_Y_isGone 1 = .ok (.getfield 27, 3) := by decide +kernel
theorem d_Y_isGone_4 : decode b_Y_isGone 4 = .ok (.iload_n 1, 1) := by decide +kernel
theorem d_Y_isGone_5 : decode b_Y_isGone 5 = .ok (.iaload, 1) := by decide +kernel
theorem d_Y_isGone_6 : decode b_Y_isGone 6 = .ok (.iconst (-1), 1) := by decide +kernel
theorem d_Y_isGone_7 : decode b_Y_isGone 7 = .ok (.if_icmp .ne 7, 3) := by decide +kernel
theorem d_Y_isGone_10 : decode b_Y_isGone 10 = .ok (.iconst 1, 1) := by decide +kernel
theorem d_Y_isGone_11 : decode b_Y_isGone 11 = .ok (.goto 4, 3) := by decide +kernel
theorem d_Y_isGone_14 : decode b_Y_isGone 14 = .ok (.iconst 0, 1) := by decide +kernel
theorem d_Y_isGone_15 : decode b_Y_isGone 15 = .ok (.ireturn, 1) := by decide +kernel
theorem d_Y_pieceAt_0 : decode b_Y_pieceAt 0 = .ok (.aload_n 0, 1) := by decide +kernel
theorem d_Y_pieceAt_1 : decode b_Y_pieceAt 1 = .ok (.getfield 15, 3) := by decide +kernel
theorem d_Y_pieceAt_4 : decode b_Y_pieceAt 4 = .ok (.iload_n 1, 1) := by decide +kernel
theorem d_Y_pieceAt_5 : decode b_Y_pieceAt 5 = .ok (.iconst 5, 1) := by decide +kernel
theorem d_Y_pieceAt_6 : decode b_Y_pieceAt 6 = .ok (.imul, 1) := by decide +kernel
theorem d_Y_pieceAt_7 : decode b_Y_pieceAt 7 = .ok (.iload_n 2, 1) := by decide +kernel
theorem d_Y_pieceAt_8 : decode b_Y_pieceAt 8 = .ok (.iadd, 1) := by decide +kernel
theorem d_Y_pieceAt_9 : decode b_Y_pieceAt 9 = .ok (.iaload, 1) := by decide +kernel
theorem d_Y_pieceAt_10 : decode b_Y_pieceAt 10 = .ok (.ireturn, 1) := by decide +kernel
theorem d_Y_topOf_0 : decode b_Y_topOf 0 = .ok (.aload_n 0, 1) := by decide +kernel
theorem d_Y_topOf_1 : decode b_Y_topOf 1 = .ok (.getfield 9, 3) := by decide +kernel
theorem d_Y_topOf_4 : decode b_Y_topOf 4 = .ok (.iload_n 1, 1) := by decide +kernel
theorem d_Y_topOf_5 : decode b_Y_topOf 5 = .ok (.iaload, 1) := by decide +kernel
theorem d_Y_topOf_6 : decode b_Y_topOf 6 = .ok (.ifCond .ne 7, 3) := by decide +kernel
theorem d_Y_topOf_9 : decode b_Y_topOf 9 = .ok (.iconst (-1), 1) := by decide +kernel
theorem d_Y_topOf_10 : decode b_Y_topOf 10 = .ok (.goto 16, 3) := by decide +kernel
theorem d_Y_topOf_13 : decode b_Y_topOf 13 = .ok (.aload_n 0, 1) := by decide +kernel
theorem d_Y_topOf_14 : decode b_Y_topOf 14 = .ok (.iload_n 1, 1) := by decide +kernel
theorem d_Y_topOf_15 : decode b_Y_topOf 15 = .ok (.aload_n 0, 1) := by decide +kernel
theorem d_Y_topOf_16 : decode b_Y_topOf 16 = .ok (.getfield 9, 3) := by decide +kernel
theorem d_Y_topOf_19 : decode b_Y_topOf 19 = .ok (.iload_n 1, 1) := by decide +kernel
theorem d_Y_topOf_20 : decode b_Y_topOf 20 = .ok (.iaload, 1) := by decide +kernel
theorem d_Y_topOf_21 : decode b_Y_topOf 21 = .ok (.iconst 1, 1) := by decide +kernel
theorem d_Y_topOf_22 : decode b_Y_topOf 22 = .ok (.isub, 1) := by decide +kernel
theorem d_Y_topOf_23 : decode b_Y_topOf 23 = .ok (.invokevirtual 51, 3) := by decide +kernel
theorem d_Y_topOf_26 : decode b_Y_topOf 26 = .ok (.ireturn, 1) := by decide +kernel
theorem d_Y_takes_0 : decode b_Y_takes 0 = .ok (.aload_n 0, 1) := by decide +kernel
theorem d_Y_takes_1 : decode b_Y_takes 1 = .ok (.getfield 9, 3) := by decide +kernel
theorem d_Y_takes_4 : decode b_Y_takes 4 = .ok (.iload_n 1, 1) := by decide +kernel
theorem d_Y_takes_5 : decode b_Y_takes 5 = .ok (.iaload, 1) := by decide +kernel
theorem d_Y_takes_6 : decode b_Y_takes 6 = .ok (.aload_n 0, 1) := by decide +kernel
theorem d_Y_takes_7 : decode b_Y_takes 7 = .ok (.getfield 41, 3) := by decide +kernel
theorem d_Y_takes_10 : decode b_Y_takes 10 = .ok (.if_icmp .lt 5, 3) := by decide +kernel
theorem d_Y_takes_13 : decode b_Y_takes 13 = .ok (.iconst 0, 1) := by decide +kernel
theorem d_Y_takes_14 : decode b_Y_takes 14 = .ok (.ireturn, 1) := by decide +kernel
theorem d_Y_takes_15 : decode b_Y_takes 15 = .ok (.aload_n 0, 1) := by decide +kernel
theorem d_Y_takes_16 : decode b_Y_takes 16 = .ok (.iload_n 1, 1) := by decide +kernel
theorem d_Y_takes_17 : decode b_Y_takes 17 = .ok (.invokevirtual 55, 3) := by decide +kernel
theorem d_Y_takes_20 : decode b_Y_takes 20 = .ok (.istore_n 3, 1) := by decide +kernel
theorem d_Y_takes_21 : decode b_Y_takes 21 = .ok (.iload_n 3, 1) := by decide +kernel
theorem d_Y_takes_22 : decode b_Y_takes 22 = .ok (.iconst (-1), 1) := by decide +kernel
theorem d_Y_takes_23 : decode b_Y_takes 23 = .ok (.if_icmp .eq 13, 3) := by decide +kernel
theorem d_Y_takes_26 : decode b_Y_takes 26 = .ok (.aload_n 0, 1) := by decide +kernel
theorem d_Y_takes_27 : decode b_Y_takes 27 = .ok (.getfield 21, 3) := by decide +kernel
theorem d_Y_takes_30 : decode b_Y_takes 30 = .ok (.iload_n 3, 1) := by decide +kernel
theorem d_Y_takes_31 : decode b_Y_takes 31 = .ok (.iaload, 1) := by decide +kernel
theorem d_Y_takes_32 : decode b_Y_takes 32 = .ok (.iload_n 2, 1) := by decide +kernel
theorem d_Y_takes_33 : decode b_Y_takes 33 = .ok (.if_icmp .lt 7, 3) := by decide +kernel
theorem d_Y_takes_36 : decode b_Y_takes 36 = .ok (.iconst 1, 1) := by decide +kernel
theorem d_Y_takes_37 : decode b_Y_takes 37 = .ok (.goto 4, 3) := by decide +kernel
theorem d_Y_takes_40 : decode b_Y_takes 40 = .ok (.iconst 0, 1) := by decide +kernel
theorem d_Y_takes_41 : decode b_Y_takes 41 = .ok (.ireturn, 1) := by decide +kernel
theorem d_Y_add_0 : decode b_Y_add 0 = .ok (.aload_n 0, 1) := by decide +kernel
theorem d_Y_add_1 : decode b_Y_add 1 = .ok (.getfield 44, 3) := by decide +kernel
theorem d_Y_add_4 : decode b_Y_add 4 = .ok (.istore 4, 2) := by decide +kernel
theorem d_Y_add_6 : decode b_Y_add 6 = .ok (.aload_n 0, 1) := by decide +kernel
theorem d_Y_add_7 : decode b_Y_add 7 = .ok (.dup, 1) := by decide +kernel
theorem d_Y_add_8 : decode b_Y_add 8 = .ok (.getfield 44, 3) := by decide +kernel
theorem d_Y_add_11 : decode b_Y_add 11 = .ok (.iconst 1, 1) := by decide +kernel
theorem d_Y_add_12 : decode b_Y_add 12 = .ok (.iadd, 1) := by decide +kernel
theorem d_Y_add_13 : decode b_Y_add 13 = .ok (.putfield 44, 3) := by decide +kernel
theorem d_Y_add_16 : decode b_Y_add 16 = .ok (.aload_n 0, 1) := by decide +kernel
theorem d_Y_add_17 : decode b_Y_add 17 = .ok (.getfield 18, 3) := by decide +kernel
theorem d_Y_add_20 : decode b_Y_add 20 = .ok (.iload 4, 2) := by decide +kernel
theorem d_Y_add_22 : decode b_Y_add 22 = .ok (.iload_n 2, 1) := by decide +kernel
theorem d_Y_add_23 : decode b_Y_add 23 = .ok (.iastore, 1) := by decide +kernel
theorem d_Y_add_24 : decode b_Y_add 24 = .ok (.aload_n 0, 1) := by decide +kernel
theorem d_Y_add_25 : decode b_Y_add 25 = .ok (.getfield 21, 3) := by decide +kernel
theorem d_Y_add_28 : decode b_Y_add 28 = .ok (.iload 4, 2) := by decide +kernel
theorem d_Y_add_30 : decode b_Y_add 30 = .ok (.iload_n 3, 1) := by decide +kernel
theorem d_Y_add_31 : decode b_Y_add 31 = .ok (.iastore, 1) := by decide +kernel
theorem d_Y_add_32 : decode b_Y_add 32 = .ok (.aload_n 0, 1) := by decide +kernel
theorem d_Y_add_33 : decode b_Y_add 33 = .ok (.getfield 24, 3) := by decide +kernel
end
section
theorem d_Y_add_36 : decode b_Y_add 36 = .ok (.iload 4, 2) := by decide +kernel
theorem d_Y_add_38 : decode b_Y_add 38 = .ok (.iconst (-1), 1) := by decide +kernel
theorem d_Y_add_39 : decode b_Y_add 39 = .ok (.iastore, 1) := by decide +kernel
theorem d_Y_add_40 : decode b_Y_add 40 = .ok (.aload_n 0, 1) := by decide +kernel
theorem d_Y_add_41 : decode b_Y_add 41 = .ok (.iload 4, 2) := by decide +kernel
theorem d_Y_add_43 : decode b_Y_add 43 = .ok (.iload_n 1, 1) := by decide +kernel
theorem d_Y_add_44 : decode b_Y_add 44 = .ok (.invokevirtual 59, 3) := by decide +kernel
theorem d_Y_add_47 : decode b_Y_add 47 = .ok (.iload 4, 2) := by decide +kernel
theorem d_Y_add_49 : decode b_Y_add 49 = .ok (.ireturn, 1) := by decide +kernel
theorem d_Y_layOn_0 : decode b_Y_layOn 0 = .ok (.aload_n 0, 1) := by decide +kernel
theorem d_Y_layOn_1 : decode b_Y_layOn 1 = .ok (.getfield 9, 3) := by decide +kernel
theorem d_Y_layOn_4 : decode b_Y_layOn 4 = .ok (.iload_n 2, 1) := by decide +kernel
theorem d_Y_layOn_5 : decode b_Y_layOn 5 = .ok (.iaload, 1) := by decide +kernel
theorem d_Y_layOn_6 : decode b_Y_layOn 6 = .ok (.istore_n 3, 1) := by decide +kernel
theorem d_Y_layOn_7 : decode b_Y_layOn 7 = .ok (.iload_n 3, 1) := by decide +kernel
theorem d_Y_layOn_8 : decode b_Y_layOn 8 = .ok (.iconst 5, 1) := by decide +kernel
theorem d_Y_layOn_9 : decode b_Y_layOn 9 = .ok (.if_icmp .ge 37, 3) := by decide +kernel
theorem d_Y_layOn_12 : decode b_Y_layOn 12 = .ok (.aload_n 0, 1) := by decide +kernel
theorem d_Y_layOn_13 : decode b_Y_layOn 13 = .ok (.getfield 15, 3) := by decide +kernel
theorem d_Y_layOn_16 : decode b_Y_layOn 16 = .ok (.iload_n 2, 1) := by decide +kernel
theorem d_Y_layOn_17 : decode b_Y_layOn 17 = .ok (.iconst 5, 1) := by decide +kernel
theorem d_Y_layOn_18 : decode b_Y_layOn 18 = .ok (.imul, 1) := by decide +kernel
theorem d_Y_layOn_19 : decode b_Y_layOn 19 = .ok (.iload_n 3, 1) := by decide +kernel
theorem d_Y_layOn_20 : decode b_Y_layOn 20 = .ok (.iadd, 1) := by decide +kernel
theorem d_Y_layOn_21 : decode b_Y_layOn 21 = .ok (.iload_n 1, 1) := by decide +kernel
theorem d_Y_layOn_22 : decode b_Y_layOn 22 = .ok (.iastore, 1) := by decide +kernel
theorem d_Y_layOn_23 : decode b_Y_layOn 23 = .ok (.aload_n 0, 1) := by decide +kernel
theorem d_Y_layOn_24 : decode b_Y_layOn 24 = .ok (.getfield 9, 3) := by decide +kernel
theorem d_Y_layOn_27 : decode b_Y_layOn 27 = .ok (.iload_n 2, 1) := by decide +kernel
theorem d_Y_layOn_28 : decode b_Y_layOn 28 = .ok (.iload_n 3, 1) := by decide +kernel
theorem d_Y_layOn_29 : decode b_Y_layOn 29 = .ok (.iconst 1, 1) := by decide +kernel
theorem d_Y_layOn_30 : decode b_Y_layOn 30 = .ok (.iadd, 1) := by decide +kernel
theorem d_Y_layOn_31 : decode b_Y_layOn 31 = .ok (.iastore, 1) := by decide +kernel
theorem d_Y_layOn_32 : decode b_Y_layOn 32 = .ok (.aload_n 0, 1) := by decide +kernel
theorem d_Y_layOn_33 : decode b_Y_layOn 33 = .ok (.getfield 27, 3) := by decide +kernel
theorem d_Y_layOn_36 : decode b_Y_layOn 36 = .ok (.iload_n 1, 1) := by decide +kernel
theorem d_Y_layOn_37 : decode b_Y_layOn 37 = .ok (.iload_n 2, 1) := by decide +kernel
theorem d_Y_layOn_38 : decode b_Y_layOn 38 = .ok (.iastore, 1) := by decide +kernel
theorem d_Y_layOn_39 : decode b_Y_layOn 39 = .ok (.aload_n 0, 1) := by decide +kernel
theorem d_Y_layOn_40 : decode b_Y_layOn 40 = .ok (.getfield 30, 3) := by decide +kernel
theorem d_Y_layOn_43 : decode b_Y_layOn 43 = .ok (.iload_n 1, 1) := by decide +kernel
theorem d_Y_layOn_44 : decode b_Y_layOn 44 = .ok (.iload_n 3, 1) := by decide +kernel
theorem d_Y_layOn_45 : decode b_Y_layOn 45 = .ok (.iastore, 1) := by decide +kernel
theorem d_Y_layOn_46 : decode b_Y_layOn 46 = .ok (.return_, 1) := by decide +kernel
theorem d_Y_takeOff_0 : decode b_Y_takeOff 0 = .ok (.aload_n 0, 1) := by decide +kernel
theorem d_Y_takeOff_1 : decode b_Y_takeOff 1 = .ok (.getfield 27, 3) := by decide +kernel
theorem d_Y_takeOff_4 : decode b_Y_takeOff 4 = .ok (.iload_n 1, 1) := by decide +kernel
theorem d_Y_takeOff_5 : decode b_Y_takeOff 5 = .ok (.iaload, 1) := by decide +kernel
theorem d_Y_takeOff_6 : decode b_Y_takeOff 6 = .ok (.istore_n 2, 1) := by decide +kernel
theorem d_Y_takeOff_7 : decode b_Y_takeOff 7 = .ok (.iload_n 2, 1) := by decide +kernel
theorem d_Y_takeOff_8 : decode b_Y_takeOff 8 = .ok (.iconst (-1), 1) := by decide +kernel
theorem d_Y_takeOff_9 : decode b_Y_takeOff 9 = .ok (.if_icmp .eq 27, 3) := by decide +kernel
theorem d_Y_takeOff_12 : decode b_Y_takeOff 12 = .ok (.aload_n 0, 1) := by decide +kernel
theorem d_Y_takeOff_13 : decode b_Y_takeOff 13 = .ok (.getfield 9, 3) := by decide +kernel
theorem d_Y_takeOff_16 : decode b_Y_takeOff 16 = .ok (.iload_n 2, 1) := by decide +kernel
theorem d_Y_takeOff_17 : decode b_Y_takeOff 17 = .ok (.dup2, 1) := by decide +kernel
theorem d_Y_takeOff_18 : decode b_Y_takeOff 18 = .ok (.iaload, 1) := by decide +kernel
theorem d_Y_takeOff_19 : decode b_Y_takeOff 19 = .ok (.iconst 1, 1) := by decide +kernel
theorem d_Y_takeOff_20 : decode b_Y_takeOff 20 = .ok (.isub, 1) := by decide +kernel
theorem d_Y_takeOff_21 : decode b_Y_takeOff 21 = .ok (.iastore, 1) := by decide +kernel
theorem d_Y_takeOff_22 : decode b_Y_takeOff 22 = .ok (.aload_n 0, 1) := by decide +kernel
theorem d_Y_takeOff_23 : decode b_Y_takeOff 23 = .ok (.getfield 27, 3) := by decide +kernel
theorem d_Y_takeOff_26 : decode b_Y_takeOff 26 = .ok (.iload_n 1, 1) := by decide +kernel
theorem d_Y_takeOff_27 : decode b_Y_takeOff 27 = .ok (.iconst (-1), 1) := by decide +kernel
theorem d_Y_takeOff_28 : decode b_Y_takeOff 28 = .ok (.iastore, 1) := by decide +kernel
theorem d_Y_takeOff_29 : decode b_Y_takeOff 29 = .ok (.aload_n 0, 1) := by decide +kernel
theorem d_Y_takeOff_30 : decode b_Y_takeOff 30 = .ok (.getfield 30, 3) := by decide +kernel
theorem d_Y_takeOff_33 : decode b_Y_takeOff 33 = .ok (.iload_n 1, 1) := by decide +kernel
theorem d_Y_takeOff_34 : decode b_Y_takeOff 34 = .ok (.iconst (-1), 1) := by decide +kernel
theorem d_Y_takeOff_35 : decode b_Y_takeOff 35 = .ok (.iastore, 1) := by decide +kernel
theorem d_Y_takeOff_36 : decode b_Y_takeOff 36 = .ok (.return_, 1) := by decide +kernel
theorem d_Y_relift_0 : decode b_Y_relift 0 = .ok (.aload_n 0, 1) := by decide +kernel
theorem d_Y_relift_1 : decode b_Y_relift 1 = .ok (.iload_n 1, 1) := by decide +kernel
theorem d_Y_relift_2 : decode b_Y_relift 2 = .ok (.invokevirtual 62, 3) := by decide +kernel
theorem d_Y_relift_5 : decode b_Y_relift 5 = .ok (.aload_n 0, 1) := by decide +kernel
theorem d_Y_relift_6 : decode b_Y_relift 6 = .ok (.iload_n 1, 1) := by decide +kernel
theorem d_Y_relift_7 : decode b_Y_relift 7 = .ok (.iload_n 2, 1) := by decide +kernel
theorem d_Y_relift_8 : decode b_Y_relift 8 = .ok (.invokevirtual 59, 3) := by decide +kernel
theorem d_Y_relift_11 : decode b_Y_relift 11 = .ok (.return_, 1) := by decide +kernel
theorem d_Y_turnOf_0 : decode b_Y_turnOf 0 = .ok (.aload_n 0, 1) := by decide +kernel
theorem d_Y_turnOf_1 : decode b_Y_turnOf 1 = .ok (.getfield 24, 3) := by decide +kernel
theorem d_Y_turnOf_4 : decode b_Y_turnOf 4 = .ok (.iload_n 1, 1) := by decide +kernel
theorem d_Y_turnOf_5 : decode b_Y_turnOf 5 = .ok (.iaload, 1) := by decide +kernel
theorem d_Y_turnOf_6 : decode b_Y_turnOf 6 = .ok (.iconst (-1), 1) := by decide +kernel
theorem d_Y_turnOf_7 : decode b_Y_turnOf 7 = .ok (.if_icmp .ne 9, 3) := by decide +kernel
theorem d_Y_turnOf_10 : decode b_Y_turnOf 10 = .ok (.sipush 1000, 3) := by decide +kernel
theorem d_Y_turnOf_13 : decode b_Y_turnOf 13 = .ok (.goto 14, 3) := by decide +kernel
theorem d_Y_turnOf_16 : decode b_Y_turnOf 16 = .ok (.aload_n 0, 1) := by decide +kernel
theorem d_Y_turnOf_17 : decode b_Y_turnOf 17 = .ok (.getfield 24, 3) := by decide +kernel
theorem d_Y_turnOf_20 : decode b_Y_turnOf 20 = .ok (.iload_n 1, 1) := by decide +kernel
theorem d_Y_turnOf_21 : decode b_Y_turnOf 21 = .ok (.iaload, 1) := by decide +kernel
theorem d_Y_turnOf_22 : decode b_Y_turnOf 22 = .ok (.bipush 10, 2) := by decide +kernel
theorem d_Y_turnOf_24 : decode b_Y_turnOf 24 = .ok (.imul, 1) := by decide +kernel
theorem d_Y_turnOf_25 : decode b_Y_turnOf 25 = .ok (.iload_n 1, 1) := by decide +kernel
theorem d_Y_turnOf_26 : decode b_Y_turnOf 26 = .ok (.iadd, 1) := by decide +kernel
theorem d_Y_turnOf_27 : decode b_Y_turnOf 27 = .ok (.ireturn, 1) := by decide +kernel
theorem d_Y_wouldBlock_0 : decode b_Y_wouldBlock 0 = .ok (.aload_n 0, 1) := by decide +kernel
theorem d_Y_wouldBlock_1 : decode b_Y_wouldBlock 1 = .ok (.iload_n 1, 1) := by decide +kernel
theorem d_Y_wouldBlock_2 : decode b_Y_wouldBlock 2 = .ok (.invokevirtual 66, 3) := by decide +kernel
theorem d_Y_wouldBlock_5 : decode b_Y_wouldBlock 5 = .ok (.istore 4, 2) := by decide +kernel
theorem d_Y_wouldBlock_7 : decode b_Y_wouldBlock 7 = .ok (.iconst 0, 1) := by decide +kernel
theorem d_Y_wouldBlock_8 : decode b_Y_wouldBlock 8 = .ok (.istore 5, 2) := by decide +kernel
theorem d_Y_wouldBlock_10 : decode b_Y_wouldBlock 10 = .ok (.iload 5, 2) := by decide +kernel
theorem d_Y_wouldBlock_12 : decode b_Y_wouldBlock 12 = .ok (.iload_n 3, 1) := by decide +kernel
theorem d_Y_wouldBlock_13 : decode b_Y_wouldBlock 13 = .ok (.if_icmp .ge 27, 3) := by decide +kernel
theorem d_Y_wouldBlock_16 : decode b_Y_wouldBlock 16 = .ok (.aload_n 0, 1) := by decide +kernel
theorem d_Y_wouldBlock_17 : decode b_Y_wouldBlock 17 = .ok (.aload_n 0, 1) := by decide +kernel
theorem d_Y_wouldBlock_18 : decode b_Y_wouldBlock 18 = .ok (.iload_n 2, 1) := by decide +kernel
theorem d_Y_wouldBlock_19 : decode b_Y_wouldBlock 19 = .ok (.iload 5, 2) := by decide +kernel
theorem d_Y_wouldBlock_21 : decode b_Y_wouldBlock 21 = .ok (.invokevirtual 51, 3) := by decide +kernel
theorem d_Y_wouldBlock_24 : decode b_Y_wouldBlock 24 = .ok (.invokevirtual 66, 3) := by decide +kernel
theorem d_Y_wouldBlock_27 : decode b_Y_wouldBlock 27 = .ok (.iload 4, 2) := by decide +kernel
theorem d_Y_wouldBlock_29 : decode b_Y_wouldBlock 29 = .ok (.if_icmp .ge 5, 3) := by decide +kernel
theorem d_Y_wouldBlock_32 : decode b_Y_wouldBlock 32 = .ok (.iconst 1, 1) := by decide +kernel
theorem d_Y_wouldBlock_33 : decode b_Y_wouldBlock 33 = .ok (.ireturn, 1) := by decide +kernel
theorem d_Y_wouldBlock_34 : decode b_Y_wouldBlock 34 = .ok (.iinc 5 1, 3) := by decide +kernel
theorem d_Y_wouldBlock_37 : decode b_Y_wouldBlock 37 = .ok (.goto (-27), 3) := by decide +kernel
theorem d_Y_wouldBlock_40 : decode b_Y_wouldBlock 40 = .ok (.iconst 0, 1) := by decide +kernel
theorem d_Y_wouldBlock_41 : decode b_Y_wouldBlock 41 = .ok (.ireturn, 1) := by decide +kernel
theorem d_Y_wouldBlockOn_0 : decode b_Y_wouldBlockOn 0 = .ok (.aload_n 0, 1) := by decide +kernel
theorem d_Y_wouldBlockOn_1 : decode b_Y_wouldBlockOn 1 = .ok (.iload_n 1, 1) := by decide +kernel
theorem d_Y_wouldBlockOn_2 : decode b_Y_wouldBlockOn 2 = .ok (.iload_n 2, 1) := by decide +kernel
theorem d_Y_wouldBlockOn_3 : decode b_Y_wouldBlockOn 3 = .ok (.aload_n 0, 1) := by decide +kernel
theorem d_Y_wouldBlockOn_4 : decode b_Y_wouldBlockOn 4 = .ok (.getfield 9, 3) := by decide +kernel
theorem d_Y_wouldBlockOn_7 : decode b_Y_wouldBlockOn 7 = .ok (.iload_n 2, 1) := by decide +kernel
theorem d_Y_wouldBlockOn_8 : decode b_Y_wouldBlockOn 8 = .ok (.iaload, 1) := by decide +kernel
theorem d_Y_wouldBlockOn_9 : decode b_Y_wouldBlockOn 9 = .ok (.invokevirtual 69, 3) := by decide +kernel
theorem d_Y_wouldBlockOn_12 : decode b_Y_wouldBlockOn 12 = .ok (.ireturn, 1) := by decide +kernel
theorem d_Y_isBlocking_0 : decode b_Y_isBlocking 0 = .ok (.aload_n 0, 1) := by decide +kernel
theorem d_Y_isBlocking_1 : decode b_Y_isBlocking 1 = .ok (.iload_n 1, 1) := by decide +kernel
theorem d_Y_isBlocking_2 : decode b_Y_isBlocking 2 = .ok (.invokevirtual 72, 3) := by decide +kernel
theorem d_Y_isBlocking_5 : decode b_Y_isBlocking 5 = .ok (.ifCond .ne 27, 3) := by decide +kernel
theorem d_Y_isBlocking_8 : decode b_Y_isBlocking 8 = .ok (.aload_n 0, 1) := by decide +kernel
theorem d_Y_isBlocking_9 : decode b_Y_isBlocking 9 = .ok (.iload_n 1, 1) := by decide +kernel
theorem d_Y_isBlocking_10 : decode b_Y_isBlocking 10 = .ok (.aload_n 0, 1) := by decide +kernel
theorem d_Y_isBlocking_11 : decode b_Y_isBlocking 11 = .ok (.getfield 27, 3) := by decide +kernel
theorem d_Y_isBlocking_14 : decode b_Y_isBlocking 14 = .ok (.iload_n 1, 1) := by decide +kernel
theorem d_Y_isBlocking_15 : decode b_Y_isBlocking 15 = .ok (.iaload, 1) := by decide +kernel
theorem d_Y_isBlocking_16 : decode b_Y_isBlocking 16 = .ok (.aload_n 0, 1) := by decide +kernel
theorem d_Y_isBlocking_17 : decode b_Y_isBlocking 17 = .ok (.getfield 30, 3) := by decide +kernel
theorem d_Y_isBlocking_20 : decode b_Y_isBlocking 20 = .ok (.iload_n 1, 1) := by decide +kernel
theorem d_Y_isBlocking_21 : decode b_Y_isBlocking 21 = .ok (.iaload, 1) := by decide +kernel
theorem d_Y_isBlocking_22 : decode b_Y_isBlocking 22 = .ok (.invokevirtual 69, 3) := by decide +kernel
theorem d_Y_isBlocking_25 : decode b_Y_isBlocking 25 = .ok (.ifCond .eq 7, 3) := by decide +kernel
theorem d_Y_isBlocking_28 : decode b_Y_isBlocking 28 = .ok (.iconst 1, 1) := by decide +kernel
theorem d_Y_isBlocking_29 : decode b_Y_isBlocking 29 = .ok (.goto 4, 3) := by decide +kernel
theorem d_Y_isBlocking_32 : decode b_Y_isBlocking 32 = .ok (.iconst 0, 1) := by decide +kernel
theorem d_Y_isBlocking_33 : decode b_Y_isBlocking 33 = .ok (.ireturn, 1) := by decide +kernel
theorem d_Y_countBlocking_0 : decode b_Y_countBlocking 0 = .ok (.iconst 0, 1) := by decide +kernel
theorem d_Y_countBlocking_1 : decode b_Y_countBlocking 1 = .ok (.istore_n 1, 1) := by decide +kernel
theorem d_Y_countBlocking_2 : decode b_Y_countBlocking 2 = .ok (.iconst 0, 1) := by decide +kernel
theorem d_Y_countBlocking_3 : decode b_Y_countBlocking 3 = .ok (.istore_n 2, 1) := by decide +kernel
theorem d_Y_countBlocking_4 : decode b_Y_countBlocking 4 = .ok (.iload_n 2, 1) := by decide +kernel
theorem d_Y_countBlocking_5 : decode b_Y_countBlocking 5 = .ok (.aload_n 0, 1) := by decide +kernel
theorem d_Y_countBlocking_6 : decode b_Y_countBlocking 6 = .ok (.getfield 44, 3) := by decide +kernel
theorem d_Y_countBlocking_9 : decode b_Y_countBlocking 9 = .ok (.if_icmp .ge 20, 3) := by decide +kernel
theorem d_Y_countBlocking_12 : decode b_Y_countBlocking 12 = .ok (.aload_n 0, 1) := by decide +kernel
theorem d_Y_countBlocking_13 : decode b_Y_countBlocking 13 = .ok (.iload_n 2, 1) := by decide +kernel
theorem d_Y_countBlocking_14 : decode b_Y_countBlocking 14 = .ok (.invokevirtual 76, 3) := by decide +kernel
theorem d_Y_countBlocking_17 : decode b_Y_countBlocking 17 = .ok (.ifCond .eq 6, 3) := by decide +kernel
theorem d_Y_countBlocking_20 : decode b_Y_countBlocking 20 = .ok (.iinc 1 1, 3) := by decide +kernel
theorem d_Y_countBlocking_23 : decode b_Y_countBlocking 23 = .ok (.iinc 2 1, 3) := by decide +kernel
theorem d_Y_countBlocking_26 : decode b_Y_countBlocking 26 = .ok (.goto (-22), 3) := by decide +kernel
theorem d_Y_countBlocking_29 : decode b_Y_countBlocking 29 = .ok (.iload_n 1, 1) := by decide +kernel
theorem d_Y_countBlocking_30 : decode b_Y_countBlocking 30 = .ok (.ireturn, 1) := by decide +kernel
theorem d_Y_countGone_0 : decode b_Y_countGone 0 = .ok (.iconst 0, 1) := by decide +kernel
theorem d_Y_countGone_1 : decode b_Y_countGone 1 = .ok (.istore_n 1, 1) := by decide +kernel
theorem d_Y_countGone_2 : decode b_Y_countGone 2 = .ok (.iconst 0, 1) := by decide +kernel
theorem d_Y_countGone_3 : decode b_Y_countGone 3 = .ok (.istore_n 2, 1) := by decide +kernel
theorem d_Y_countGone_4 : decode b_Y_countGone 4 = .ok (.iload_n 2, 1) := by decide +kernel
theorem d_Y_countGone_5 : decode b_Y_countGone 5 = .ok (.aload_n 0, 1) := by decide +kernel
theorem d_Y_countGone_6 : decode b_Y_countGone 6 = .ok (.getfield 44, 3) := by decide +kernel
theorem d_Y_countGone_9 : decode b_Y_countGone 9 = .ok (.if_icmp .ge 20, 3) := by decide +kernel
theorem d_Y_countGone_12 : decode b_Y_countGone 12 = .ok (.aload_n 0, 1) := by decide +kernel
theorem d_Y_countGone_13 : decode b_Y_countGone 13 = .ok (.iload_n 2, 1) := by decide +kernel
theorem d_Y_countGone_14 : decode b_Y_countGone 14 = .ok (.invokevirtual 72, 3) := by decide +kernel
theorem d_Y_countGone_17 : decode b_Y_countGone 17 = .ok (.ifCond .eq 6, 3) := by decide +kernel
theorem d_Y_countGone_20 : decode b_Y_countGone 20 = .ok (.iinc 1 1, 3) := by decide +kernel
theorem d_Y_countGone_23 : decode b_Y_countGone 23 = .ok (.iinc 2 1, 3) := by decide +kernel
theorem d_Y_countGone_26 : decode b_Y_countGone 26 = .ok (.goto (-22), 3) := by decide +kernel
theorem d_Y_countGone_29 : decode b_Y_countGone 29 = .ok (.iload_n 1, 1) := by decide +kernel
theorem d_Y_countGone_30 : decode b_Y_countGone 30 = .ok (.ireturn, 1) := by decide +kernel
theorem d_Y_nextWanted_0 : decode b_Y_nextWanted 0 = .ok (.iconst (-1), 1) := by decide +kernel
theorem d_Y_nextWanted_1 : decode b_Y_nextWanted 1 = .ok (.istore_n 1, 1) := by decide +kernel
theorem d_Y_nextWanted_2 : decode b_Y_nextWanted 2 = .ok (.sipush 1000, 3) := by decide +kernel
theorem d_Y_nextWanted_5 : decode b_Y_nextWanted 5 = .ok (.istore_n 2, 1) := by decide +kernel
theorem d_Y_nextWanted_6 : decode b_Y_nextWanted 6 = .ok (.iconst 0, 1) := by decide +kernel
theorem d_Y_nextWanted_7 : decode b_Y_nextWanted 7 = .ok (.istore_n 3, 1) := by decide +kernel
theorem d_Y_nextWanted_8 : decode b_Y_nextWanted 8 = .ok (.iload_n 3, 1) := by decide +kernel
theorem d_Y_nextWanted_9 : decode b_Y_nextWanted 9 = .ok (.aload_n 0, 1) := by decide +kernel
theorem d_Y_nextWanted_10 : decode b_Y_nextWanted 10 = .ok (.getfield 44, 3) := by decide +kernel
theorem d_Y_nextWanted_13 : decode b_Y_nextWanted 13 = .ok (.if_icmp .ge 34, 3) := by decide +kernel
theorem d_Y_nextWanted_16 : decode b_Y_nextWanted 16 = .ok (.aload_n 0, 1) := by decide +kernel
theorem d_Y_nextWanted_17 : decode b_Y_nextWanted 17 = .ok (.iload_n 3, 1) := by decide +kernel
theorem d_Y_nextWanted_18 : decode b_Y_nextWanted 18 = .ok (.invokevirtual 72, 3) := by decide +kernel
theorem d_Y_nextWanted_21 : decode b_Y_nextWanted 21 = .ok (.ifCond .ne 20, 3) := by decide +kernel
theorem d_Y_nextWanted_24 : decode b_Y_nextWanted 24 = .ok (.aload_n 0, 1) := by decide +kernel
theorem d_Y_nextWanted_25 : decode b_Y_nextWanted 25 = .ok (.iload_n 3, 1) := by decide +kernel
theorem d_Y_nextWanted_26 : decode b_Y_nextWanted 26 = .ok (.invokevirtual 66, 3) := by decide +kernel
theorem d_Y_nextWanted_29 : decode b_Y_nextWanted 29 = .ok (.iload_n 2, 1) := by decide +kernel
theorem d_Y_nextWanted_30 : decode b_Y_nextWanted 30 = .ok (.if_icmp .ge 11, 3) := by decide +kernel
theorem d_Y_nextWanted_33 : decode b_Y_nextWanted 33 = .ok (.iload_n 3, 1) := by decide +kernel
theorem d_Y_nextWanted_34 : decode b_Y_nextWanted 34 = .ok (.istore_n 1, 1) := by decide +kernel
theorem d_Y_nextWanted_35 : decode b_Y_nextWanted 35 = .ok (.aload_n 0, 1) := by decide +kernel
theorem d_Y_nextWanted_36 : decode b_Y_nextWanted 36 = .ok (.iload_n 3, 1) := by decide +kernel
theorem d_Y_nextWanted_37 : decode b_Y_nextWanted 37 = .ok (.invokevirtual 66, 3) := by decide +kernel
theorem d_Y_nextWanted_40 : decode b_Y_nextWanted 40 = .ok (.istore_n 2, 1) := by decide +kernel
theorem d_Y_nextWanted_41 : decode b_Y_nextWanted 41 = .ok (.iinc 3 1, 3) := by decide +kernel
theorem d_Y_nextWanted_44 : decode b_Y_nextWanted 44 = .ok (.goto (-36), 3) := by decide +kernel
theorem d_Y_nextWanted_47 : decode b_Y_nextWanted 47 = .ok (.iload_n 1, 1) := by decide +kernel
theorem d_Y_nextWanted_48 : decode b_Y_nextWanted 48 = .ok (.ireturn, 1) := by decide +kernel
theorem d_Y_isTop_0 : decode b_Y_isTop 0 = .ok (.aload_n 0, 1) := by decide +kernel
theorem d_Y_isTop_1 : decode b_Y_isTop 1 = .ok (.iload_n 1, 1) := by decide +kernel
theorem d_Y_isTop_2 : decode b_Y_isTop 2 = .ok (.invokevirtual 72, 3) := by decide +kernel
theorem d_Y_isTop_5 : decode b_Y_isTop 5 = .ok (.ifCond .ne 21, 3) := by decide +kernel
theorem d_Y_isTop_8 : decode b_Y_isTop 8 = .ok (.aload_n 0, 1) := by decide +kernel
theorem d_Y_isTop_9 : decode b_Y_isTop 9 = .ok (.aload_n 0, 1) := by decide +kernel
theorem d_Y_isTop_10 : decode b_Y_isTop 10 = .ok (.getfield 27, 3) := by decide +kernel
theorem d_Y_isTop_13 : decode b_Y_isTop 13 = .ok (.iload_n 1, 1) := by decide +kernel
theorem d_Y_isTop_14 : decode b_Y_isTop 14 = .ok (.iaload, 1) := by decide +kernel
theorem d_Y_isTop_15 : decode b_Y_isTop 15 = .ok (.invokevirtual 55, 3) := by decide +kernel
theorem d_Y_isTop_18 : decode b_Y_isTop 18 = .ok (.iload_n 1, 1) := by decide +kernel
theorem d_Y_isTop_19 : decode b_Y_isTop 19 = .ok (.if_icmp .ne 7, 3) := by decide +kernel
theorem d_Y_isTop_22 : decode b_Y_isTop 22 = .ok (.iconst 1, 1) := by decide +kernel
theorem d_Y_isTop_23 : decode b_Y_isTop 23 = .ok (.goto 4, 3) := by decide +kernel
theorem d_Y_isTop_26 : decode b_Y_isTop 26 = .ok (.iconst 0, 1) := by decide +kernel
theorem d_Y_isTop_27 : decode b_Y_isTop 27 = .ok (.ireturn, 1) := by decide +kernel
theorem d_Y_tidyOnce_0 : decode b_Y_tidyOnce 0 = .ok (.iconst 0, 1) := by decide +kernel
theorem d_Y_tidyOnce_1 : decode b_Y_tidyOnce 1 = .ok (.istore_n 1, 1) := by decide +kernel
theorem d_Y_tidyOnce_2 : decode b_Y_tidyOnce 2 = .ok (.iload_n 1, 1) := by decide +kernel
theorem d_Y_tidyOnce_3 : decode b_Y_tidyOnce 3 = .ok (.aload_n 0, 1) := by decide +kernel
theorem d_Y_tidyOnce_4 : decode b_Y_tidyOnce 4 = .ok (.getfield 37, 3) := by decide +kernel
theorem d_Y_tidyOnce_7 : decode b_Y_tidyOnce 7 = .ok (.if_icmp .ge 47, 3) := by decide +kernel
theorem d_Y_tidyOnce_10 : decode b_Y_tidyOnce 10 = .ok (.aload_n 0, 1) := by decide +kernel
theorem d_Y_tidyOnce_11 : decode b_Y_tidyOnce 11 = .ok (.iload_n 1, 1) := by decide +kernel
theorem d_Y_tidyOnce_12 : decode b_Y_tidyOnce 12 = .ok (.invokevirtual 55, 3) := by decide +kernel
theorem d_Y_tidyOnce_15 : decode b_Y_tidyOnce 15 = .ok (.istore_n 2, 1) := by decide +kernel
theorem d_Y_tidyOnce_16 : decode b_Y_tidyOnce 16 = .ok (.iload_n 2, 1) := by decide +kernel
theorem d_Y_tidyOnce_17 : decode b_Y_tidyOnce 17 = .ok (.iconst (-1), 1) := by decide +kernel
theorem d_Y_tidyOnce_18 : decode b_Y_tidyOnce 18 = .ok (.if_icmp .eq 30, 3) := by decide +kernel
theorem d_Y_tidyOnce_21 : decode b_Y_tidyOnce 21 = .ok (.aload_n 0, 1) := by decide +kernel
theorem d_Y_tidyOnce_22 : decode b_Y_tidyOnce 22 = .ok (.iload_n 2, 1) := by decide +kernel
theorem d_Y_tidyOnce_23 : decode b_Y_tidyOnce 23 = .ok (.invokevirtual 76, 3) := by decide +kernel
theorem d_Y_tidyOnce_26 : decode b_Y_tidyOnce 26 = .ok (.ifCond .eq 22, 3) := by decide +kernel
theorem d_Y_tidyOnce_29 : decode b_Y_tidyOnce 29 = .ok (.aload_n 0, 1) := by decide +kernel
theorem d_Y_tidyOnce_30 : decode b_Y_tidyOnce 30 = .ok (.iload_n 2, 1) := by decide +kernel
theorem d_Y_tidyOnce_31 : decode b_Y_tidyOnce 31 = .ok (.invokevirtual 79, 3) := by decide +kernel
theorem d_Y_tidyOnce_34 : decode b_Y_tidyOnce 34 = .ok (.istore_n 3, 1) := by decide +kernel
theorem d_Y_tidyOnce_35 : decode b_Y_tidyOnce 35 = .ok (.iload_n 3, 1) := by decide +kernel
theorem d_Y_tidyOnce_36 : decode b_Y_tidyOnce 36 = .ok (.iconst (-1), 1) := by decide +kernel
theorem d_Y_tidyOnce_37 : decode b_Y_tidyOnce 37 = .ok (.if_icmp .eq 11, 3) := by decide +kernel
theorem d_Y_tidyOnce_40 : decode b_Y_tidyOnce 40 = .ok (.aload_n 0, 1) := by decide +kernel
theorem d_Y_tidyOnce_41 : decode b_Y_tidyOnce 41 = .ok (.iload_n 2, 1) := by decide +kernel
theorem d_Y_tidyOnce_42 : decode b_Y_tidyOnce 42 = .ok (.iload_n 3, 1) := by decide +kernel
theorem d_Y_tidyOnce_43 : decode b_Y_tidyOnce 43 = .ok (.invokevirtual 82, 3) := by decide +kernel
theorem d_Y_tidyOnce_46 : decode b_Y_tidyOnce 46 = .ok (.iconst 1, 1) := by decide +kernel
theorem d_Y_tidyOnce_47 : decode b_Y_tidyOnce 47 = .ok (.ireturn, 1) := by decide +kernel
theorem d_Y_tidyOnce_48 : decode b_Y_tidyOnce 48 = .ok (.iinc 1 1, 3) := by decide +kernel
theorem d_Y_tidyOnce_51 : decode b_Y_tidyOnce 51 = .ok (.goto (-49), 3) := by decide +kernel
theorem d_Y_tidyOnce_54 : decode b_Y_tidyOnce 54 = .ok (.iconst 0, 1) := by decide +kernel
theorem d_Y_tidyOnce_55 : decode b_Y_tidyOnce 55 = .ok (.ireturn, 1) := by decide +kernel
theorem d_Y_tidyPlaceFor_0 : decode b_Y_tidyPlaceFor 0 = .ok (.iconst 0, 1) := by decide +kernel
theorem d_Y_tidyPlaceFor_1 : decode b_Y_tidyPlaceFor 1 = .ok (.istore_n 2, 1) := by decide +kernel
theorem d_Y_tidyPlaceFor_2 : decode b_Y_tidyPlaceFor 2 = .ok (.iload_n 2, 1) := by decide +kernel
theorem d_Y_tidyPlaceFor_3 : decode b_Y_tidyPlaceFor 3 = .ok (.aload_n 0, 1) := by decide +kernel
theorem d_Y_tidyPlaceFor_4 : decode b_Y_tidyPlaceFor 4 = .ok (.getfield 37, 3) := by decide +kernel
theorem d_Y_tidyPlaceFor_7 : decode b_Y_tidyPlaceFor 7 = .ok (.if_icmp .ge 44, 3) := by decide +kernel
theorem d_Y_tidyPlaceFor_10 : decode b_Y_tidyPlaceFor 10 = .ok (.iload_n 2, 1) := by decide +kernel
theorem d_Y_tidyPlaceFor_11 : decode b_Y_tidyPlaceFor 11 = .ok (.aload_n 0, 1) := by decide +kernel
theorem d_Y_tidyPlaceFor_12 : decode b_Y_tidyPlaceFor 12 = .ok (.getfield 27, 3) := by decide +kernel
theorem d_Y_tidyPlaceFor_15 : decode b_Y_tidyPlaceFor 15 = .ok (.iload_n 1, 1) := by decide +kernel
theorem d_Y_tidyPlaceFor_16 : decode b_Y_tidyPlaceFor 16 = .ok (.iaload, 1) := by decide +kernel
theorem d_Y_tidyPlaceFor_17 : decode b_Y_tidyPlaceFor 17 = .ok (.if_icmp .eq 28, 3) := by decide +kernel
theorem d_Y_tidyPlaceFor_20 : decode b_Y_tidyPlaceFor 20 = .ok (.aload_n 0, 1) := by decide +kernel
theorem d_Y_tidyPlaceFor_21 : decode b_Y_tidyPlaceFor 21 = .ok (.iload_n 2, 1) := by decide +kernel
theorem d_Y_tidyPlaceFor_22 : decode b_Y_tidyPlaceFor 22 = .ok (.aload_n 0, 1) := by decide +kernel
theorem d_Y_tidyPlaceFor_23 : decode b_Y_tidyPlaceFor 23 = .ok (.getfield 21, 3) := by decide +kernel
theorem d_Y_tidyPlaceFor_26 : decode b_Y_tidyPlaceFor 26 = .ok (.iload_n 1, 1) := by decide +kernel
theorem d_Y_tidyPlaceFor_27 : decode b_Y_tidyPlaceFor 27 = .ok (.iaload, 1) := by decide +kernel
theorem d_Y_tidyPlaceFor_28 : decode b_Y_tidyPlaceFor 28 = .ok (.invokevirtual 85, 3) := by decide +kernel
theorem d_Y_tidyPlaceFor_31 : decode b_Y_tidyPlaceFor 31 = .ok (.ifCond .eq 14, 3) := by decide +kernel
theorem d_Y_tidyPlaceFor_34 : decode b_Y_tidyPlaceFor 34 = .ok (.aload_n 0, 1) := by decide +kernel
theorem d_Y_tidyPlaceFor_35 : decode b_Y_tidyPlaceFor 35 = .ok (.iload_n 1, 1) := by decide +kernel
theorem d_Y_tidyPlaceFor_36 : decode b_Y_tidyPlaceFor 36 = .ok (.iload_n 2, 1) := by decide +kernel
theorem d_Y_tidyPlaceFor_37 : decode b_Y_tidyPlaceFor 37 = .ok (.invokevirtual 89, 3) := by decide +kernel
theorem d_Y_tidyPlaceFor_40 : decode b_Y_tidyPlaceFor 40 = .ok (.ifCond .ne 5, 3) := by decide +kernel
theorem d_Y_tidyPlaceFor_43 : decode b_Y_tidyPlaceFor 43 = .ok (.iload_n 2, 1) := by decide +kernel
theorem d_Y_tidyPlaceFor_44 : decode b_Y_tidyPlaceFor 44 = .ok (.ireturn, 1) := by decide +kernel
theorem d_Y_tidyPlaceFor_45 : decode b_Y_tidyPlaceFor 45 = .ok (.iinc 2 1, 3) := by decide +kernel
theorem d_Y_tidyPlaceFor_48 : decode b_Y_tidyPlaceFor 48 = .ok (.goto (-46), 3) := by decide +kernel
theorem d_Y_tidyPlaceFor_51 : decode b_Y_tidyPlaceFor 51 = .ok (.iconst (-1), 1) := by decide +kernel
theorem d_Y_tidyPlaceFor_52 : decode b_Y_tidyPlaceFor 52 = .ok (.ireturn, 1) := by decide +kernel
end
section
/-! THE BASE: a system's memory as numbers, mirrors of methods, one predicate for a walk's world, rows over it -/
def kb_F : Nat := 10000000
def kb_up (M : Nat → Nat → Int32) (k : Nat) (f : Nat → Int32) : Nat → Nat → Int32 := fun j => if j = k then f else M j
def kb_rd {α : Type} (f : Nat → Int32) (n : Nat) (j : Int32) (k : Int32 → Option α) : Option α := if j < 0 ∨ n ≤ j.toNatClampNeg then none else k (f j.toNatClampNeg)
def kb_wr {α : Type} (M : Nat → Nat → Int32) (c n : Nat) (j x : Int32) (k : (Nat → Nat → Int32) → Option α) : Option α := if j < 0 ∨ n ≤ j.toNatClampNeg then none else k (kb_up M c (upd (M c) j.toNatClampNeg x))
def kb_st {α β : Type} (x : β) (k : β → Option α) : Option α := k x
def kb_bz {α : Type} (x : Int32) (k : Option α) : Option α := if x = 0 ∨ x = 1 then k else none
theorem kb_rd_some {α : Type} {f : Nat → Int32} {n : Nat} {j : Int32} {k : Int32 → Option α} {r : α} (h : kb_rd f n j k = some r) : ∃ v, v = f j.toNatClampNeg ∧ vp_in j n ∧ k v = some r := by
  unfold kb_rd at h
  by_cases c : j < 0 ∨ n ≤ j.toNatClampNeg
  · rw [if_pos c] at h; cases h
  · rw [if_neg c] at h; exact ⟨_, rfl, c, h⟩
theorem kb_wr_some {α : Type} {M : Nat → Nat → Int32} {c n : Nat} {j x : Int32} {k : (Nat → Nat → Int32) → Option α} {r : α} (h : kb_wr M c n j x k = some r) : ∃ M', M' = kb_up M c (upd (M c) j.toNatClampNeg x) ∧ vp_in j n ∧ k M' = some r := by
  unfold kb_wr at h
  by_cases c : j < 0 ∨ n ≤ j.toNatClampNeg
  · rw [if_pos c] at h; cases h
  · rw [if_neg c] at h; exact ⟨_, rfl, c, h⟩
theorem kb_st_some {α β : Type} {x : β} {k : β → Option α} {r : α} (h : kb_st x k = some r) : ∃ y, y = x ∧ k y = some r := ⟨x, rfl, h⟩
theorem kb_bz_some {α : Type} {x : Int32} {k : Option α} {r : α} (h : kb_bz x k = some r) : (x = 0 ∨ x = 1) ∧ k = some r := by
  unfold kb_bz at h
  by_cases c : x = 0 ∨ x = 1
  · rw [if_pos c] at h; exact ⟨c, h⟩
  · rw [if_neg c] at h; cases h
theorem kb_bd {α β : Type} {x : Option α} {k : α → Option β} {r : β} (h : x.bind k = some r) : ∃ a, x = some a ∧ k a = some r := by
  cases x with
  | none => cases h
  | some a => exact ⟨a, rfl, h⟩
theorem kb_ip {c : Prop} [Decidable c] {α : Type} {a b r : α} (hc : c) (h : (if c then a else b) = r) : a = r := by rw [if_pos hc] at h; exact h
theorem kb_in {c : Prop} [Decidable c] {α : Type} {a b r : α} (hc : ¬ c) (h : (if c then a else b) = r) : b = r := by rw [if_neg hc] at h; exact h
theorem kb_rt {r r' : Int32} {M M' : Nat → Nat → Int32} (h : some (r, M) = some (r', M')) : r = r' ∧ M = M' := by cases h; exact ⟨rfl, rfl⟩
/-- a walk's world -/
def kb_K (D : va_G) (cl : List vw_C) (tys : List (ClassId × FieldType)) (ws : va_W) (s : State) (A0 : Nat → Prop) (H : Heap) (locs : List Loc) : Prop :=
  va_K D cl tys s ∧ va_P D cl ws H ∧ va_D A0 ws ∧ va_S A0 s.heap H locs ∧ ∀ q, s.heap.size ≤ q → A0 q
def kb_pre (D : va_G) (cl : List vw_C) (tys : List (ClassId × FieldType)) (ws : va_W) (NN : State → Prop) (sz : Nat) (U : State) : Prop :=
  U.heap.size = sz ∧ va_P D cl ws U.heap ∧ va_K D cl tys U ∧ va_D (fun _ => True) ws ∧ NN U
def kb_post (D : va_G) (cl : List vw_C) (tys : List (ClassId × FieldType)) (ws ws' : va_W) (sz : Nat) (t : State) : Prop :=
  va_P D cl ws' t.heap ∧ va_K D cl tys t ∧ va_D (va_A ws sz) ws'
theorem kb_enter {D : va_G} {cl : List vw_C} {tys : List (ClassId × FieldType)} {ws : va_W} {NN : State → Prop} {sz : Nat} {s : State} (h : kb_pre D cl tys ws NN sz s) : kb_K D cl tys ws s (va_A ws sz) s.heap [] ∧ NN s := by
  obtain ⟨rfl, hP, hK, hD, hN⟩ := h
  exact ⟨⟨hK, hP, hD.self, va_S.rf, fun q h => Or.inr h⟩, hN⟩
section KB
variable {p : Program} {l : Launch} {e : Env} {R : Room} {s : State} {m : MethodId} {args : Array Value} {below : List Frame} {meth : Method} {c : Code} {H : Heap} {locs : List Loc} {cells slots : Nat} {Q : State → Prop}
variable {cc : ByteArray} {pc : Nat} {ls : Array Slot} {rest : List Value} {D : va_G} {cl : List vw_C} {A0 : Nat → Prop} {a : Nat} {tys : List (ClassId × FieldType)} {ws ws' : va_W}
theorem kb_get (hexec : p.tables.exec = Jvm.exec) (hb : c.code = cc) {own ref C : String} {T : u_T} {N ci index : Nat} {Ts : List Cond} (hts : ∀ w ∈ Ts, w.before args s = true) (hin : ∀ w ∈ u_ws C T N, w ∈ Ts) (hown : s.vm.findClass own = some m.cls) (hw : kb_K D cl tys ws s A0 H locs) (q0 : Nat) {fs : List Value} (he : ws[q0]? = some (a, .inr (ci, fs))) (hc : cl[ci]? = some (C, T, N)) (k : Nat) (hk : k < N) (hlink : (Cond.fieldLink own index ref (T k).2.1 (T k).2.2.1).before args s = true) (hsame : (T k).1 = ref) {v : Value} (hv : fs[k]? = some v) (hdg : decode cc pc = .ok (.getfield index, 3))
    (kk : W p l e R s m args below meth c H locs cells slots Q (F0 m (pc + 3) ls (v :: rest))) : W p l e R s m args below meth c H locs cells slots Q (F0 m pc ls (.ref a :: rest)) :=
  va_get hexec hb hts hin hown hw.1 hw.2.1 q0 he hc k hk hlink (fun x h => by rw [← hsame]; exact h) hv hdg kk
theorem kb_getN (hexec : p.tables.exec = Jvm.exec) (hb : c.code = cc) {own ref C host : String} {T : u_T} {N ci index : Nat} {Ts : List Cond} (hts : ∀ w ∈ Ts, w.before args s = true) (hin : ∀ w ∈ u_ws C T N, w ∈ Ts) (hown : s.vm.findClass own = some m.cls) (hw : kb_K D cl tys ws s A0 H locs) (q0 : Nat) {fs : List Value} (he : ws[q0]? = some (a, .inr (ci, fs))) (hc : cl[ci]? = some (C, T, N)) (k : Nat) (hk : k < N) (hlink : (Cond.fieldLinkNest own index ref (T k).2.1 (T k).2.2.1 host).before args s = true) (hsame : (T k).1 = ref) {v : Value} (hv : fs[k]? = some v) (hdg : decode cc pc = .ok (.getfield index, 3))
    (kk : W p l e R s m args below meth c H locs cells slots Q (F0 m (pc + 3) ls (v :: rest))) : W p l e R s m args below meth c H locs cells slots Q (F0 m pc ls (.ref a :: rest)) :=
  va_getN hexec hb hts hin hown hw.1 hw.2.1 q0 he hc k hk hlink (fun x h => by rw [← hsame]; exact h) hv hdg kk
theorem kb_put (hexec : p.tables.exec = Jvm.exec) (hb : c.code = cc) {own ref C : String} {T : u_T} {N ci index : Nat} {Ts : List Cond} (hts : ∀ w ∈ Ts, w.before args s = true) (hin : ∀ w ∈ u_ws C T N, w ∈ Ts) (ty0 : Nat → FieldType) (hty : ∀ k, k < N → parseFieldDescriptor (T k).2.2.1 = some (ty0 k)) (hnm : ∀ a, a < N → ∀ b, b < N → a ≠ b → (T a).2.1 ≠ (T b).2.1) (hown : s.vm.findClass own = some m.cls) (hw : kb_K D cl tys ws s A0 H locs) (q0 : Nat) {fs : List Value} (he : ws[q0]? = some (a, .inr (ci, fs))) (hc : cl[ci]? = some (C, T, N)) (k : Nat) (hk : k < N) (hlink : (Cond.fieldLink own index ref (T k).2.1 (T k).2.2.1).before args s = true) (hsame : (T k).1 = ref) (hfin : (T k).2.2.2 = false) {ty : FieldType} {v : Value} (hd : parseFieldDescriptor (T k).2.2.1 = some ty) (hn : narrow ty v = v) (hfit : fits ty v = true) (hl : k < fs.length)
    (hdg : decode cc pc = .ok (.putfield index, 3)) (hset : ws.set q0 (a, .inr (ci, fs.set k v)) = ws') (kk : ∀ (H1 : Heap) (locs1 : List Loc), kb_K D cl tys ws' s A0 H1 locs1 → W p l e R s m args below meth c H1 locs1 cells slots Q (F0 m (pc + 3) ls rest)) : W p l e R s m args below meth c H locs cells slots Q (F0 m pc ls (v :: .ref a :: rest)) :=
  va_put hexec hb hts hin ty0 hty hnm hown hw.1 hw.2.1 hw.2.2.1 hw.2.2.2.1 q0 he hc k hk hlink (fun x h => by rw [← hsame]; exact h) hfin hd hn hfit hl hdg (fun H1 locs1 h1 h2 h3 => kk H1 locs1 ⟨hw.1, hset ▸ h1, hset ▸ h2, h3, hw.2.2.2.2⟩)
theorem kb_putN (hexec : p.tables.exec = Jvm.exec) (hb : c.code = cc) {own ref C host : String} {T : u_T} {N ci index : Nat} {Ts : List Cond} (hts : ∀ w ∈ Ts, w.before args s = true) (hin : ∀ w ∈ u_ws C T N, w ∈ Ts) (ty0 : Nat → FieldType) (hty : ∀ k, k < N → parseFieldDescriptor (T k).2.2.1 = some (ty0 k)) (hnm : ∀ a, a < N → ∀ b, b < N → a ≠ b → (T a).2.1 ≠ (T b).2.1) (hown : s.vm.findClass own = some m.cls) (hw : kb_K D cl tys ws s A0 H locs) (q0 : Nat) {fs : List Value} (he : ws[q0]? = some (a, .inr (ci, fs))) (hc : cl[ci]? = some (C, T, N)) (k : Nat) (hk : k < N) (hlink : (Cond.fieldLinkNest own index ref (T k).2.1 (T k).2.2.1 host).before args s = true) (hsame : (T k).1 = ref) (hfin : (T k).2.2.2 = false) {ty : FieldType} {v : Value} (hd : parseFieldDescriptor (T k).2.2.1 = some ty) (hn : narrow ty v = v) (hfit : fits ty v = true) (hl : k < fs.length)
    (hdg : decode cc pc = .ok (.putfield index, 3)) (hset : ws.set q0 (a, .inr (ci, fs.set k v)) = ws') (kk : ∀ (H1 : Heap) (locs1 : List Loc), kb_K D cl tys ws' s A0 H1 locs1 → W p l e R s m args below meth c H1 locs1 cells slots Q (F0 m (pc + 3) ls rest)) : W p l e R s m args below meth c H locs cells slots Q (F0 m pc ls (v :: .ref a :: rest)) :=
  va_putN hexec hb hts hin ty0 hty hnm hown hw.1 hw.2.1 hw.2.2.1 hw.2.2.2.1 q0 he hc k hk hlink (fun x h => by rw [← hsame]; exact h) hfin hd hn hfit hl hdg (fun H1 locs1 h1 h2 h3 => kk H1 locs1 ⟨hw.1, hset ▸ h1, hset ▸ h2, h3, hw.2.2.2.2⟩)
theorem kb_ald (hexec : p.tables.exec = Jvm.exec) (hb : c.code = cc) (hw : kb_K D cl tys ws s A0 H locs) (q0 t0 : Nat) {cA : ClassId} {n : Nat} {f : Nat → Int32} (ha : ws[q0]? = some (a, .inl (cA, n, .inl f))) (ht : tys[t0]? = some (cA, .int)) {i v : Int32} (hin : vp_in i n) (hv : v = f i.toNatClampNeg) (hdg : decode cc pc = .ok (.iaload, 1))
    (kk : W p l e R s m args below meth c H locs cells slots Q (F0 m (pc + 1) ls (.int v :: rest))) : W p l e R s m args below meth c H locs cells slots Q (F0 m pc ls (.int i :: .ref a :: rest)) :=
  va_iald hexec hb hw.1 hw.2.1 q0 t0 ha ht hin hdg (hv ▸ kk)
theorem kb_ast (hexec : p.tables.exec = Jvm.exec) (hb : c.code = cc) (hw : kb_K D cl tys ws s A0 H locs) (q0 t0 : Nat) {cA : ClassId} {n : Nat} {f : Nat → Int32} (ha : ws[q0]? = some (a, .inl (cA, n, .inl f))) (ht : tys[t0]? = some (cA, .int)) {i x : Int32} (hin : vp_in i n) (hdg : decode cc pc = .ok (.iastore, 1)) (hset : ws.set q0 (a, .inl (cA, n, .inl (upd f i.toNatClampNeg x))) = ws')
    (kk : ∀ (H1 : Heap) (locs1 : List Loc), kb_K D cl tys ws' s A0 H1 locs1 → W p l e R s m args below meth c H1 locs1 cells slots Q (F0 m (pc + 1) ls rest)) : W p l e R s m args below meth c H locs cells slots Q (F0 m pc ls (.int x :: .int i :: .ref a :: rest)) :=
  va_iast hexec hb hw.1 hw.2.1 hw.2.2.1 hw.2.2.2.1 q0 t0 ha ht hin hdg (fun H1 locs1 h1 h2 h3 => kk H1 locs1 ⟨hw.1, hset ▸ h1, hset ▸ h2, h3, hw.2.2.2.2⟩)
end KB
section KC
variable {p : Program} {l : Launch} {e : Env} {R : Room} {s : State} {m : MethodId} {args : Array Value} {below : List Frame} {meth : Method} {c : Code} {H : Heap} {locs : List Loc} {cells slots : Nat} {Q : State → Prop}
variable {cc : ByteArray} {pc : Nat} {ls : Array Slot} {rest st0 : List Value} {D : va_G} {cl : List vw_C} {A0 : Nat → Prop} {a : Nat} {tys tyc : List (ClassId × FieldType)} {ws ws' wc wr w1 : va_W} {av : Array Value} {mc ms : Nat}
theorem kb_behind {t : State} {H1 : Heap} {locs1 : List Loc} (hw : kb_K D cl tys ws s A0 H locs) (isC isR : List Nat) (hC : isC.map (fun i => ws[i]?) = wc.map some) (hR : isR.map (fun i => ws[i]?) = wr.map some) (hn : va_nd isR = true) (hdis : ∀ i ∈ isR, i ∉ isC) (hws : wr ++ w1 = ws')
    (ht : t.heap = H1) (hB : kb_post D cl tyc wc w1 H.size t) (hk : ∀ q : Nat, q < H.size → ¬ va_A wc H.size q → H1[q]? = H[q]?) (hS : va_S A0 s.heap H1 locs1) : kb_K D cl tys ws' s A0 H1 locs1 := by
  obtain ⟨hK, hP, hD, hS0, hA⟩ := hw
  obtain ⟨hP1, -, hD1⟩ := hB
  rw [ht] at hP1
  obtain ⟨h1, h2⟩ := va_join hP hD isC isR hC hR hn hdis hk (va_free hD hS0 hA isC hC) hP1 hD1
  exact ⟨hK, hws ▸ h1, hws ▸ h2, hS, hA⟩
theorem kb_calli {r : Int32} (hr : va_Run p l e R s m args below meth c H locs cells slots mc ms (F0 m pc ls st0) rest (va_Qi (fun r' (_ : Unit) => r' = r) (fun _ t => kb_post D cl tyc wc w1 H.size t) (va_A wc H.size) av) (va_A wc H.size)) (hw : kb_K D cl tys ws s A0 H locs) (isC isR : List Nat) (hC : isC.map (fun i => ws[i]?) = wc.map some) (hR : isR.map (fun i => ws[i]?) = wr.map some) (hn : va_nd isR = true) (hdis : ∀ i ∈ isR, i ∉ isC) (hws : wr ++ w1 = ws')
    (kk : ∀ (H1 : Heap) (locs1 : List Loc), kb_K D cl tys ws' s A0 H1 locs1 → W p l e R s m args below meth c H1 locs1 (cells + mc) (slots + ms) Q (F0 m (pc + 3) ls (.int r :: rest))) : W p l e R s m args below meth c H locs cells slots Q (F0 m pc ls st0) := by
  have hF := va_free (wc := wc) hw.2.2.1 hw.2.2.2.1 hw.2.2.2.2 isC hC
  refine va_calli hr hw.2.2.2.1 (fun q _ h => hF q h) hF (fun r' u t H1 locs1 ht hvm hp hB hz hk hS => ?_)
  subst hp
  exact kk H1 locs1 (kb_behind hw isC isR hC hR hn hdis hws ht hB hk hS)
theorem kb_callv (hr : va_Run p l e R s m args below meth c H locs cells slots mc ms (F0 m pc ls st0) rest (va_Qv (fun (_ : Unit) => True) (fun _ t => kb_post D cl tyc wc w1 H.size t) (va_A wc H.size) av) (va_A wc H.size)) (hw : kb_K D cl tys ws s A0 H locs) (isC isR : List Nat) (hC : isC.map (fun i => ws[i]?) = wc.map some) (hR : isR.map (fun i => ws[i]?) = wr.map some) (hn : va_nd isR = true) (hdis : ∀ i ∈ isR, i ∉ isC) (hws : wr ++ w1 = ws')
    (kk : ∀ (H1 : Heap) (locs1 : List Loc), kb_K D cl tys ws' s A0 H1 locs1 → W p l e R s m args below meth c H1 locs1 (cells + mc) (slots + ms) Q (F0 m (pc + 3) ls rest)) : W p l e R s m args below meth c H locs cells slots Q (F0 m pc ls st0) := by
  have hF := va_free (wc := wc) hw.2.2.1 hw.2.2.2.1 hw.2.2.2.2 isC hC
  refine va_callv hr hw.2.2.2.1 (fun q _ h => hF q h) hF (fun u t H1 locs1 ht hvm hp hB hz hk hS => ?_)
  exact kk H1 locs1 (kb_behind hw isC isR hC hR hn hdis hws ht hB hk hS)
theorem kb_all (ws : va_W) : (List.range ws.length).map (fun i => ws[i]?) = ws.map some := by
  apply List.ext_getElem?
  intro i
  by_cases h : i < ws.length
  · simp [h]
  · simp [h]
end KC
def kb_cl {α : Type} (x : Option (Int32 × (Nat → Nat → Int32))) (k : Int32 → (Nat → Nat → Int32) → Option α) : Option α := x.bind fun q => k q.1 q.2
theorem kb_cl_some {α : Type} {x : Option (Int32 × (Nat → Nat → Int32))} {k : Int32 → (Nat → Nat → Int32) → Option α} {r : α} (h : kb_cl x k = some r) : ∃ r1 M1, x = some (r1, M1) ∧ k r1 M1 = some r := by
  cases x with
  | none => cases h
  | some q => exact ⟨q.1, q.2, rfl, h⟩
theorem kb_nz {v : Int32} (h : v = 0 ∨ v = 1) : narrow .boolean (.int v) = .int v := by rcases h with rfl | rfl <;> decide +kernel
theorem kb_fz {v : Int32} (h : v = 0 ∨ v = 1) : fits .boolean (.int v) = true := by rcases h with rfl | rfl <;> decide +kernel
abbrev kb_Ci (l : Launch) (y : MethodName) (wl : List Cond) (rm : Room) (av : List Value) (D : va_G) (cl : List vw_C) (tys : List (ClassId × FieldType)) (ws ws' : va_W) (NN : State → Prop) (sz : Nat) (r : Int32) : Prop :=
  Met l y wl rm (va_Pc av (kb_pre D cl tys ws NN sz)) (va_Qi (fun r' (_ : Unit) => r' = r) (fun _ t => kb_post D cl tys ws ws' sz t) (va_A ws sz)) 0 0 (va_A ws sz)
abbrev kb_Cv (l : Launch) (y : MethodName) (wl : List Cond) (rm : Room) (av : List Value) (D : va_G) (cl : List vw_C) (tys : List (ClassId × FieldType)) (ws ws' : va_W) (NN : State → Prop) (sz : Nat) : Prop :=
  Met l y wl rm (va_Pc av (kb_pre D cl tys ws NN sz)) (va_Qv (fun (_ : Unit) => True) (fun _ t => kb_post D cl tys ws ws' sz t) (va_A ws sz)) 0 0 (va_A ws sz)
section KR
variable {p : Program} {l : Launch} {e : Env} {R : Room} {s : State} {m : MethodId} {args : Array Value} {below : List Frame} {meth : Method} {c : Code} {H : Heap} {locs : List Loc} {cells slots : Nat}
variable {cc : ByteArray} {pc : Nat} {ls : Array Slot} {D : va_G} {cl : List vw_C} {tys : List (ClassId × FieldType)} {ws ws' : va_W} {sz : Nat} {r : Int32}
theorem kb_iret (hexec : p.tables.exec = Jvm.exec) (hb : c.code = cc) (hr : meth.sig.returnType = some .int) (hw : kb_K D cl tys ws' s (va_A ws sz) H locs) (hlocks : meth.locks = false) (hdg : decode cc pc = .ok (.ireturn, 1)) :
    W p l e R s m args below meth c H locs cells slots (MQ below (va_Qi (fun r' (_ : Unit) => r' = r) (fun _ t => kb_post D cl tys ws ws' sz t) (va_A ws sz)) args s cells slots (va_A ws sz)) (F0 m pc ls [.int r]) :=
  W.iret hexec hb hr (fun t ht hW => ⟨⟨r, (), rfl, rfl, by rw [ht]; exact hw.2.1, va_K.moved hW.alike hw.1, hw.2.2.1⟩, hw.2.2.2.1.F ht⟩) hw.2.2.2.1.2.2 hdg hlocks
theorem kb_zret (hexec : p.tables.exec = Jvm.exec) (hb : c.code = cc) (hr : meth.sig.returnType = some .boolean) (hw : kb_K D cl tys ws' s (va_A ws sz) H locs) (hlocks : meth.locks = false) (hz : r = 0 ∨ r = 1) (hdg : decode cc pc = .ok (.ireturn, 1)) :
    W p l e R s m args below meth c H locs cells slots (MQ below (va_Qi (fun r' (_ : Unit) => r' = r) (fun _ t => kb_post D cl tys ws ws' sz t) (va_A ws sz)) args s cells slots (va_A ws sz)) (F0 m pc ls [.int r]) :=
  W.zret hexec hb hr (kb_nz hz) (fun t ht hW => ⟨⟨r, (), rfl, rfl, by rw [ht]; exact hw.2.1, va_K.moved hW.alike hw.1, hw.2.2.1⟩, hw.2.2.2.1.F ht⟩) hw.2.2.2.1.2.2 hdg hlocks
theorem kb_vret (hexec : p.tables.exec = Jvm.exec) (hb : c.code = cc) (hr : meth.sig.returnType = none) (hw : kb_K D cl tys ws' s (va_A ws sz) H locs) (hlocks : meth.locks = false) (hdg : decode cc pc = .ok (.return_, 1)) :
    W p l e R s m args below meth c H locs cells slots (MQ below (va_Qv (fun (_ : Unit) => True) (fun _ t => kb_post D cl tys ws ws' sz t) (va_A ws sz)) args s cells slots (va_A ws sz)) (F0 m pc ls []) :=
  W.vret hexec hb hr (fun t ht hW => ⟨⟨(), rfl, trivial, by rw [ht]; exact hw.2.1, va_K.moved hW.alike hw.1, hw.2.2.1⟩, hw.2.2.2.1.F ht⟩) hw.2.2.2.1.2.2 hdg hlocks
end KR
def kb_nd {α : Type} (x : Int32) (k : Option α) : Option α := if x = 0 then none else k
theorem kb_nd_some {α : Type} {x : Int32} {k : Option α} {r : α} (h : kb_nd x k = some r) : (¬ x = 0) ∧ k = some r := by
  unfold kb_nd at h
  by_cases c : x = 0
  · rw [if_pos c] at h; cases h
  · rw [if_neg c] at h; exact ⟨c, h⟩
abbrev kb_Qi (D : va_G) (cl : List vw_C) (tys : List (ClassId × FieldType)) (ws ws' : va_W) (sz : Nat) (r : Int32) (below : List Frame) (args : Array Value) (s : State) : State → Prop :=
  MQ below (va_Qi (fun r' (_ : Unit) => r' = r) (fun _ t => kb_post D cl tys ws ws' sz t) (va_A ws sz)) args s 0 0 (va_A ws sz)
abbrev kb_Qv (D : va_G) (cl : List vw_C) (tys : List (ClassId × FieldType)) (ws ws' : va_W) (sz : Nat) (below : List Frame) (args : Array Value) (s : State) : State → Prop :=
  MQ below (va_Qv (fun (_ : Unit) => True) (fun _ t => kb_post D cl tys ws ws' sz t) (va_A ws sz)) args s 0 0 (va_A ws sz)
section KD
variable {p : Program} {l : Launch} {e : Env} {R : Room} {s : State} {m : MethodId} {args : Array Value} {below : List Frame} {meth : Method} {c : Code} {H : Heap} {locs : List Loc} {cells slots : Nat} {Q : State → Prop}
variable {pc : Nat} {ls : Array Slot} {rest st0 : List Value} {D : va_G} {cl : List vw_C} {A0 : Nat → Prop} {tys : List (ClassId × FieldType)} {ws w1 : va_W} {av : Array Value}
theorem kb_calli0 {r : Int32} (hr : va_Run p l e R s m args below meth c H locs cells slots 0 0 (F0 m pc ls st0) rest (va_Qi (fun r' (_ : Unit) => r' = r) (fun _ t => kb_post D cl tys ws w1 H.size t) (va_A ws H.size) av) (va_A ws H.size)) (hw : kb_K D cl tys ws s A0 H locs)
    (kk : ∀ (H1 : Heap) (locs1 : List Loc), kb_K D cl tys w1 s A0 H1 locs1 → W p l e R s m args below meth c H1 locs1 cells slots Q (F0 m (pc + 3) ls (.int r :: rest))) : W p l e R s m args below meth c H locs cells slots Q (F0 m pc ls st0) :=
  kb_calli (wr := []) hr hw (List.range ws.length) [] (kb_all ws) rfl rfl (fun i h => by cases h) rfl kk
theorem kb_callv0 (hr : va_Run p l e R s m args below meth c H locs cells slots 0 0 (F0 m pc ls st0) rest (va_Qv (fun (_ : Unit) => True) (fun _ t => kb_post D cl tys ws w1 H.size t) (va_A ws H.size) av) (va_A ws H.size)) (hw : kb_K D cl tys ws s A0 H locs)
    (kk : ∀ (H1 : Heap) (locs1 : List Loc), kb_K D cl tys w1 s A0 H1 locs1 → W p l e R s m args below meth c H1 locs1 cells slots Q (F0 m (pc + 3) ls rest)) : W p l e R s m args below meth c H locs cells slots Q (F0 m pc ls st0) :=
  kb_callv (wr := []) hr hw (List.range ws.length) [] (kb_all ws) rfl rfl (fun i h => by cases h) rfl kk
theorem kb_blind {NN : State → Prop} (hNs : ∀ u U : State, u.vm = U.vm → NN u → NN U) (av : List Value) (sz : Nat) : FrameBlind (va_Pc av (kb_pre D cl tys ws NN sz)) := fun a U g mk q => by
  obtain ⟨q0, q1, qP, qK, qD, qN⟩ := q
  exact ⟨q0, q1, qP, va_K.moved (u := U) (U := U.calling g mk a) (Vm.Alike.refl U.vm) qK, qD, hNs U (U.calling g mk a) rfl qN⟩
theorem kb_preU {NN : State → Prop} (hNw : ∀ s U : State, s.WarmedH U.vm → NN s → NN U) (hw : kb_K D cl tys ws s A0 H locs) (hN : NN s) {U : State} (hU : U.heap = H) (hW : s.WarmedH U.vm) : kb_pre D cl tys ws NN H.size U :=
  ⟨by rw [hU], by rw [hU]; exact hw.2.1, va_K.moved hW.alike hw.1, hw.2.2.1.weaken (fun _ _ _ _ => trivial), hNw s U hW hN⟩
theorem kb_preV {NN : State → Prop} (hNw : ∀ s U : State, s.WarmedH U.vm → NN s → NN U) (hNs : ∀ u U : State, u.vm = U.vm → NN u → NN U) (hw : kb_K D cl tys ws s A0 H locs) (hN : NN s) {b ci : Nat} {fs : List Value} {C : String} {T : u_T} {k : Nat} {As : List Value} (q0 : Nat) (he : ws[q0]? = some (b, .inr (ci, fs))) (hc : cl[ci]? = some (C, T, k)) :
    PreV s H C b (va_Pc (.ref b :: As) (kb_pre D cl tys ws NN H.size)) As :=
  ⟨kb_blind hNs _ _, va_recv hw.1 hw.2.1 hc he, fun U hU hW => ⟨rfl, kb_preU hNw hw hN hU hW⟩⟩
theorem kb_preS {NN : State → Prop} (hNw : ∀ s U : State, s.WarmedH U.vm → NN s → NN U) (hNs : ∀ u U : State, u.vm = U.vm → NN u → NN U) (hw : kb_K D cl tys ws s A0 H locs) (hN : NN s) {As : List Value} :
    PreS s H (va_Pc As (kb_pre D cl tys ws NN H.size)) As :=
  ⟨kb_blind hNs _ _, fun U hU hW => ⟨rfl, kb_preU hNw hw hN hU hW⟩⟩
end KD
def wC (A : Nat → Nat) (G : Nat → ClassId) (M : Nat → Nat → Int32) : va_W := [(A 0, .inr (0, [.ref (A 1), .ref (A 2), .ref (A 3)])), (A 1, .inr (1, [.int (M 1 0), .int (M 1 1), .int (M 1 2), .ref (A 4), .ref (A 5), .ref (A 6), .ref (A 7), .ref (A 8), .ref (A 9), .ref (A 10)])), (A 2, .inr (2, [.int (M 2 0), .int (M 2 1), .int (M 2 2), .int (M 2 3), .int (M 2 4), .int (M 2 5), .int (M 2 6), .ref (A 11), .ref (A 12), .ref (A 13)])), (A 3, .inr (3, [.int (M 3 0), .ref (A 14), .ref (A 15), .ref (A 16)])), (A 4, .inl (G 4, 4, .inl (M 4))), (A 5, .inl (G 5, 20, .inl (M 5))), (A 6, .inl (G 6, 10, .inl (M 6))), (A 7, .inl (G 7, 10, .inl (M 7))), (A 8, .inl (G 8, 10, .inl (M 8))), (A 9, .inl (G 9, 10, .inl (M 9))), (A 10, .inl (G 10, 10, .inl (M 10))), (A 11, .inl (G 11, 22, .inl (M 11))), (A 12, .inl (G 12, 22, .inl (M 12))), (A 13, .inl (G 13, 22, .inl (M 13))), (A 14, .inl (G 14, 4, .inl (M 14))), (A 15, .inl (G 15, 4, .inl (M 15))), (A 16, .inl (G 16, 10, .inl (M 16)))]
def tyC (G : Nat → ClassId) : List (ClassId × FieldType) := [(G 4, .int), (G 5, .int), (G 6, .int), (G 7, .int), (G 8, .int), (G 9, .int), (G 10, .int), (G 11, .int), (G 12, .int), (G 13, .int), (G 14, .int), (G 15, .int), (G 16, .int)]
theorem wC_0 (A : Nat → Nat) (G : Nat → ClassId) (M : Nat → Nat → Int32) : (wC A G M)[0]? = some (A 0, .inr (0, [.ref (A 1), .ref (A 2), .ref (A 3)])) := rfl
theorem wC_1 (A : Nat → Nat) (G : Nat → ClassId) (M : Nat → Nat → Int32) : (wC A G M)[1]? = some (A 1, .inr (1, [.int (M 1 0), .int (M 1 1), .int (M 1 2), .ref (A 4), .ref (A 5), .ref (A 6), .ref (A 7), .ref (A 8), .ref (A 9), .ref (A 10)])) := rfl
theorem wC_2 (A : Nat → Nat) (G : Nat → ClassId) (M : Nat → Nat → Int32) : (wC A G M)[2]? = some (A 2, .inr (2, [.int (M 2 0), .int (M 2 1), .int (M 2 2), .int (M 2 3), .int (M 2 4), .int (M 2 5), .int (M 2 6), .ref (A 11), .ref (A 12), .ref (A 13)])) := rfl
theorem wC_3 (A : Nat → Nat) (G : Nat → ClassId) (M : Nat → Nat → Int32) : (wC A G M)[3]? = some (A 3, .inr (3, [.int (M 3 0), .ref (A 14), .ref (A 15), .ref (A 16)])) := rfl
theorem wC_4 (A : Nat → Nat) (G : Nat → ClassId) (M : Nat → Nat → Int32) : (wC A G M)[4]? = some (A 4, .inl (G 4, 4, .inl (M 4))) := rfl
theorem wC_5 (A : Nat → Nat) (G : Nat → ClassId) (M : Nat → Nat → Int32) : (wC A G M)[5]? = some (A 5, .inl (G 5, 20, .inl (M 5))) := rfl
theorem wC_6 (A : Nat → Nat) (G : Nat → ClassId) (M : Nat → Nat → Int32) : (wC A G M)[6]? = some (A 6, .inl (G 6, 10, .inl (M 6))) := rfl
theorem wC_7 (A : Nat → Nat) (G : Nat → ClassId) (M : Nat → Nat → Int32) : (wC A G M)[7]? = some (A 7, .inl (G 7, 10, .inl (M 7))) := rfl
theorem wC_8 (A : Nat → Nat) (G : Nat → ClassId) (M : Nat → Nat → Int32) : (wC A G M)[8]? = some (A 8, .inl (G 8, 10, .inl (M 8))) := rfl
theorem wC_9 (A : Nat → Nat) (G : Nat → ClassId) (M : Nat → Nat → Int32) : (wC A G M)[9]? = some (A 9, .inl (G 9, 10, .inl (M 9))) := rfl
theorem wC_10 (A : Nat → Nat) (G : Nat → ClassId) (M : Nat → Nat → Int32) : (wC A G M)[10]? = some (A 10, .inl (G 10, 10, .inl (M 10))) := rfl
theorem wC_11 (A : Nat → Nat) (G : Nat → ClassId) (M : Nat → Nat → Int32) : (wC A G M)[11]? = some (A 11, .inl (G 11, 22, .inl (M 11))) := rfl
theorem wC_12 (A : Nat → Nat) (G : Nat → ClassId) (M : Nat → Nat → Int32) : (wC A G M)[12]? = some (A 12, .inl (G 12, 22, .inl (M 12))) := rfl
theorem wC_13 (A : Nat → Nat) (G : Nat → ClassId) (M : Nat → Nat → Int32) : (wC A G M)[13]? = some (A 13, .inl (G 13, 22, .inl (M 13))) := rfl
theorem wC_14 (A : Nat → Nat) (G : Nat → ClassId) (M : Nat → Nat → Int32) : (wC A G M)[14]? = some (A 14, .inl (G 14, 4, .inl (M 14))) := rfl
theorem wC_15 (A : Nat → Nat) (G : Nat → ClassId) (M : Nat → Nat → Int32) : (wC A G M)[15]? = some (A 15, .inl (G 15, 4, .inl (M 15))) := rfl
theorem wC_16 (A : Nat → Nat) (G : Nat → ClassId) (M : Nat → Nat → Int32) : (wC A G M)[16]? = some (A 16, .inl (G 16, 10, .inl (M 16))) := rfl
def wM (A : Nat → Nat) (G : Nat → ClassId) (M : Nat → Nat → Int32) : va_W := [(A 0, .inr (4, [.int (M 0 0), .int (M 0 1), .int (M 0 2), .int (M 0 3), .ref (A 1), .ref (A 2), .ref (A 3), .ref (A 4), .ref (A 5), .ref (A 6), .ref (A 7), .ref (A 8), .ref (A 9), .ref (A 10), .ref (A 11), .int (M 0 15), .int (M 0 16), .int (M 0 17), .int (M 0 18), .int (M 0 19), .ref (A 12), .ref (A 13)])), (A 1, .inl (G 1, 10, .inl (M 1))), (A 2, .inl (G 2, 10, .inl (M 2))), (A 3, .inl (G 3, 10, .inl (M 3))), (A 4, .inl (G 4, 10, .inl (M 4))), (A 5, .inl (G 5, 300, .inl (M 5))), (A 6, .inl (G 6, 60, .inl (M 6))), (A 7, .inl (G 7, 15, .inl (M 7))), (A 8, .inl (G 8, 15, .inl (M 8))), (A 9, .inl (G 9, 40, .inl (M 9))), (A 10, .inl (G 10, 40, .inl (M 10))), (A 11, .inl (G 11, 15, .inl (M 11))), (A 12, .inl (G 12, 4, .inl (M 12))), (A 13, .inl (G 13, 4, .inl (M 13)))]
def tyM (G : Nat → ClassId) : List (ClassId × FieldType) := [(G 1, .int), (G 2, .int), (G 3, .int), (G 4, .int), (G 5, .int), (G 6, .int), (G 7, .int), (G 8, .int), (G 9, .int), (G 10, .int), (G 11, .int), (G 12, .int), (G 13, .int)]
theorem wM_0 (A : Nat → Nat) (G : Nat → ClassId) (M : Nat → Nat → Int32) : (wM A G M)[0]? = some (A 0, .inr (4, [.int (M 0 0), .int (M 0 1), .int (M 0 2), .int (M 0 3), .ref (A 1), .ref (A 2), .ref (A 3), .ref (A 4), .ref (A 5), .ref (A 6), .ref (A 7), .ref (A 8), .ref (A 9), .ref (A 10), .ref (A 11), .int (M 0 15), .int (M 0 16), .int (M 0 17), .int (M 0 18), .int (M 0 19), .ref (A 12), .ref (A 13)])) := rfl
theorem wM_1 (A : Nat → Nat) (G : Nat → ClassId) (M : Nat → Nat → Int32) : (wM A G M)[1]? = some (A 1, .inl (G 1, 10, .inl (M 1))) := rfl
theorem wM_2 (A : Nat → Nat) (G : Nat → ClassId) (M : Nat → Nat → Int32) : (wM A G M)[2]? = some (A 2, .inl (G 2, 10, .inl (M 2))) := rfl
theorem wM_3 (A : Nat → Nat) (G : Nat → ClassId) (M : Nat → Nat → Int32) : (wM A G M)[3]? = some (A 3, .inl (G 3, 10, .inl (M 3))) := rfl
theorem wM_4 (A : Nat → Nat) (G : Nat → ClassId) (M : Nat → Nat → Int32) : (wM A G M)[4]? = some (A 4, .inl (G 4, 10, .inl (M 4))) := rfl
theorem wM_5 (A : Nat → Nat) (G : Nat → ClassId) (M : Nat → Nat → Int32) : (wM A G M)[5]? = some (A 5, .inl (G 5, 300, .inl (M 5))) := rfl
theorem wM_6 (A : Nat → Nat) (G : Nat → ClassId) (M : Nat → Nat → Int32) : (wM A G M)[6]? = some (A 6, .inl (G 6, 60, .inl (M 6))) := rfl
theorem wM_7 (A : Nat → Nat) (G : Nat → ClassId) (M : Nat → Nat → Int32) : (wM A G M)[7]? = some (A 7, .inl (G 7, 15, .inl (M 7))) := rfl
theorem wM_8 (A : Nat → Nat) (G : Nat → ClassId) (M : Nat → Nat → Int32) : (wM A G M)[8]? = some (A 8, .inl (G 8, 15, .inl (M 8))) := rfl
theorem wM_9 (A : Nat → Nat) (G : Nat → ClassId) (M : Nat → Nat → Int32) : (wM A G M)[9]? = some (A 9, .inl (G 9, 40, .inl (M 9))) := rfl
theorem wM_10 (A : Nat → Nat) (G : Nat → ClassId) (M : Nat → Nat → Int32) : (wM A G M)[10]? = some (A 10, .inl (G 10, 40, .inl (M 10))) := rfl
theorem wM_11 (A : Nat → Nat) (G : Nat → ClassId) (M : Nat → Nat → Int32) : (wM A G M)[11]? = some (A 11, .inl (G 11, 15, .inl (M 11))) := rfl
theorem wM_12 (A : Nat → Nat) (G : Nat → ClassId) (M : Nat → Nat → Int32) : (wM A G M)[12]? = some (A 12, .inl (G 12, 4, .inl (M 12))) := rfl
theorem wM_13 (A : Nat → Nat) (G : Nat → ClassId) (M : Nat → Nat → Int32) : (wM A G M)[13]? = some (A 13, .inl (G 13, 4, .inl (M 13))) := rfl
end
section
def kz : Nat → Nat → Int32 := fun _ _ => 0
def wY (A : Nat → Nat) (G : Nat → ClassId) (M : Nat → Nat → Int32) : va_W := [(A 0, .inr (1, [.int (M 0 0), .int (M 0 1), .int (M 0 2), .ref (A 1), .ref (A 2), .ref (A 3), .ref (A 4), .ref (A 5), .ref (A 6), .ref (A 7)])), (A 1, .inl (G 1, 4, .inl (M 1))), (A 2, .inl (G 2, 20, .inl (M 2))), (A 3, .inl (G 3, 10, .inl (M 3))), (A 4, .inl (G 4, 10, .inl (M 4))), (A 5, .inl (G 5, 10, .inl (M 5))), (A 6, .inl (G 6, 10, .inl (M 6))), (A 7, .inl (G 7, 10, .inl (M 7)))]
def tyY (G : Nat → ClassId) : List (ClassId × FieldType) := [(G 1, .int), (G 2, .int), (G 3, .int), (G 4, .int), (G 5, .int), (G 6, .int), (G 7, .int)]
theorem wY_0 (A : Nat → Nat) (G : Nat → ClassId) (M : Nat → Nat → Int32) : (wY A G M)[0]? = some (A 0, .inr (1, [.int (M 0 0), .int (M 0 1), .int (M 0 2), .ref (A 1), .ref (A 2), .ref (A 3), .ref (A 4), .ref (A 5), .ref (A 6), .ref (A 7)])) := rfl
theorem wY_1 (A : Nat → Nat) (G : Nat → ClassId) (M : Nat → Nat → Int32) : (wY A G M)[1]? = some (A 1, .inl (G 1, 4, .inl (M 1))) := rfl
theorem wY_2 (A : Nat → Nat) (G : Nat → ClassId) (M : Nat → Nat → Int32) : (wY A G M)[2]? = some (A 2, .inl (G 2, 20, .inl (M 2))) := rfl
theorem wY_3 (A : Nat → Nat) (G : Nat → ClassId) (M : Nat → Nat → Int32) : (wY A G M)[3]? = some (A 3, .inl (G 3, 10, .inl (M 3))) := rfl
theorem wY_4 (A : Nat → Nat) (G : Nat → ClassId) (M : Nat → Nat → Int32) : (wY A G M)[4]? = some (A 4, .inl (G 4, 10, .inl (M 4))) := rfl
theorem wY_5 (A : Nat → Nat) (G : Nat → ClassId) (M : Nat → Nat → Int32) : (wY A G M)[5]? = some (A 5, .inl (G 5, 10, .inl (M 5))) := rfl
theorem wY_6 (A : Nat → Nat) (G : Nat → ClassId) (M : Nat → Nat → Int32) : (wY A G M)[6]? = some (A 6, .inl (G 6, 10, .inl (M 6))) := rfl
theorem wY_7 (A : Nat → Nat) (G : Nat → ClassId) (M : Nat → Nat → Int32) : (wY A G M)[7]? = some (A 7, .inl (G 7, 10, .inl (M 7))) := rfl
def wS (A : Nat → Nat) (G : Nat → ClassId) (M : Nat → Nat → Int32) : va_W := [(A 0, .inr (2, [.int (M 0 0), .int (M 0 1), .int (M 0 2), .int (M 0 3), .int (M 0 4), .int (M 0 5), .int (M 0 6), .ref (A 1), .ref (A 2), .ref (A 3)])), (A 1, .inl (G 1, 22, .inl (M 1))), (A 2, .inl (G 2, 22, .inl (M 2))), (A 3, .inl (G 3, 22, .inl (M 3)))]
def tyS (G : Nat → ClassId) : List (ClassId × FieldType) := [(G 1, .int), (G 2, .int), (G 3, .int)]
theorem wS_0 (A : Nat → Nat) (G : Nat → ClassId) (M : Nat → Nat → Int32) : (wS A G M)[0]? = some (A 0, .inr (2, [.int (M 0 0), .int (M 0 1), .int (M 0 2), .int (M 0 3), .int (M 0 4), .int (M 0 5), .int (M 0 6), .ref (A 1), .ref (A 2), .ref (A 3)])) := rfl
theorem wS_1 (A : Nat → Nat) (G : Nat → ClassId) (M : Nat → Nat → Int32) : (wS A G M)[1]? = some (A 1, .inl (G 1, 22, .inl (M 1))) := rfl
theorem wS_2 (A : Nat → Nat) (G : Nat → ClassId) (M : Nat → Nat → Int32) : (wS A G M)[2]? = some (A 2, .inl (G 2, 22, .inl (M 2))) := rfl
theorem wS_3 (A : Nat → Nat) (G : Nat → ClassId) (M : Nat → Nat → Int32) : (wS A G M)[3]? = some (A 3, .inl (G 3, 22, .inl (M 3))) := rfl
def wW (A : Nat → Nat) (G : Nat → ClassId) (M : Nat → Nat → Int32) : va_W := [(A 0, .inr (3, [.int (M 0 0), .ref (A 1), .ref (A 2), .ref (A 3)])), (A 1, .inl (G 1, 4, .inl (M 1))), (A 2, .inl (G 2, 4, .inl (M 2))), (A 3, .inl (G 3, 10, .inl (M 3)))]
def tyW (G : Nat → ClassId) : List (ClassId × FieldType) := [(G 1, .int), (G 2, .int), (G 3, .int)]
theorem wW_0 (A : Nat → Nat) (G : Nat → ClassId) (M : Nat → Nat → Int32) : (wW A G M)[0]? = some (A 0, .inr (3, [.int (M 0 0), .ref (A 1), .ref (A 2), .ref (A 3)])) := rfl
theorem wW_1 (A : Nat → Nat) (G : Nat → ClassId) (M : Nat → Nat → Int32) : (wW A G M)[1]? = some (A 1, .inl (G 1, 4, .inl (M 1))) := rfl
theorem wW_2 (A : Nat → Nat) (G : Nat → ClassId) (M : Nat → Nat → Int32) : (wW A G M)[2]? = some (A 2, .inl (G 2, 4, .inl (M 2))) := rfl
theorem wW_3 (A : Nat → Nat) (G : Nat → ClassId) (M : Nat → Nat → Int32) : (wW A G M)[3]? = some (A 3, .inl (G 3, 10, .inl (M 3))) := rfl
def h2_Y_clear_17 : Nat → Int32 → (Nat → Nat → Int32) → Option (Int32 × (Nat → Nat → Int32))
  | 0, _, _ => none
  | n + 1, u3, M => (if (4 : Int32) ≤ u3 then some ((0 : Int32), M) else kb_wr M 1 4 u3 (0 : Int32) (fun M4 => h2_Y_clear_17 n (u3 + 1) M4))
def f2_Y_clear (x1 x2 : Int32) (M0 : Nat → Nat → Int32) : Option (Int32 × (Nat → Nat → Int32)) := kb_st (kb_up M0 0 (upd (M0 0) 0 x1)) (fun M1 => kb_st (kb_up M1 0 (upd (M1 0) 1 x2)) (fun M2 => kb_st (kb_up M2 0 (upd (M2 0) 2 (0 : Int32))) (fun M3 => h2_Y_clear_17 kb_F (0 : Int32) M3)))
set_option maxHeartbeats 4000000 in
set_option maxRecDepth 100000 in
theorem c2_Y_clear (l : Launch) (D : va_G) (A : Nat → Nat) (G : Nat → ClassId) (x1 x2 : Int32) (M0 : Nat → Nat → Int32) (r : Int32) (M' : Nat → Nat → Int32) (sz : Nat) (h : f2_Y_clear x1 x2 M0 = some (r, M')) : kb_Cv l y_Y_clear (Cond.code y_Y_clear b_Y_clear 4 none :: wsC) { frames := 0, cells := 0, slots := 0, locals := 0 } [.ref (A 0), .int x1, .int x2] D kcl (tyY G) (wY A G M0) (wY A G M') nnC sz := by
  refine Met.ofW (cc := b_Y_clear) (maxL := 4) (ret := none) (by decide) rfl ?_
  intro p e s m args below meth c s₁ B hml hv
  obtain ⟨rfl, hpre⟩ := hv
  obtain ⟨hw, hN⟩ := kb_enter hpre
  have hx := B.exec
  have hb := B.bytes
  have hr := B.returns
  have hts := atoms_spec (ws := (Cond.code y_Y_clear b_Y_clear 4 none :: wsC)) B.pre
  have htw : ∀ w ∈ wsC, w.before ([.ref (A 0), .int x1, .int x2] : List Value).toArray s = true := fun w h => hts w (List.mem_cons_of_mem _ h)
  have hown : s.vm.findClass "PileLifts$Yard" = some m.cls := findClass_of_methodNamed B.named
  have hlocks := B.notSynchronized
  have loop_17 : ∀ (n17 : Nat) (u3 : Int32) (M : Nat → Nat → Int32) (H : Heap) (locs : List Loc) (ls : Array Slot), h2_Y_clear_17 n17 u3 M = some (r, M') → kb_K D kcl (tyY G) (wY A G M) s (va_A (wY A G M0) sz) H locs → lv_has ls 4 [(0, .ref (A 0)), (3, .int u3)] → W p l e (headSpec (Cond.code y_Y_clear b_Y_clear 4 none :: wsC) { frames := 0, cells := 0, slots := 0, locals := 0 }).room s m ([.ref (A 0), .int x1, .int x2] : List Value).toArray below meth c H locs 0 0 (kb_Qv D kcl (tyY G) (wY A G M0) (wY A G M') sz below ([.ref (A 0), .int x1, .int x2] : List Value).toArray s) (F0 m 17 ls []) := by
    intro n17
    induction n17 with
    | zero =>
      intro u3 M H locs ls h
      cases h
    | succ n17 ih =>
      intro u3 M H locs ls h hw hl
      rw [h2_Y_clear_17] at h
      refine lv_iload_n hx hb d_Y_clear_17 rfl (lv_at hl 1 rfl) ?_
      refine lv_iconst (v := 4) hx hb d_Y_clear_18 (by decide) ?_
      refine lv_icmp_ge (tgt := 35) hx hb d_Y_clear_19 (by decide) (fun c => ?_) (fun c => ?_)
      · have h := kb_ip c h
        obtain ⟨-, rfl⟩ := kb_rt h
        exact kb_vret hx hb hr hw hlocks d_Y_clear_35
      · have h := kb_in c h
        refine lv_aload_n hx hb d_Y_clear_22 rfl (lv_at hl 0 rfl) ?_
        refine kb_get (own := "PileLifts$Yard") (ref := "PileLifts$Yard") (C := R_Y) (T := F_Y) (N := 10) hx hb htw i_Y hown hw 0 (wY_0 A G _) rfl 3 (by decide) (htw _ mC_19) rfl rfl d_Y_clear_23 ?_
        refine lv_iload_n hx hb d_Y_clear_26 rfl (lv_at hl 1 rfl) ?_
        refine lv_iconst (v := 0) hx hb d_Y_clear_27 (by decide) ?_
        obtain ⟨M4, eM4, hi, h⟩ := kb_wr_some h
        refine kb_ast (ws' := (wY A G M4)) hx hb hw 1 0 rfl rfl hi d_Y_clear_28 (by rw [eM4]; rfl) (fun H locs hw => ?_)
        refine lv_iinc (v := (u3 + 1)) (lv' := [(3, .int (u3 + 1)), (0, .ref (A 0))]) hx hb d_Y_clear_29 hl (k := 1) rfl rfl (by decide) rfl (fun ls hl => ?_)
        refine lv_goto (tgt := 17) hx hb d_Y_clear_32 (by decide) ?_
        exact ih (u3 + 1) M4 _ _ _ h hw (lv_sub hl [1, 0] rfl)
  have hl := lv_entry ([.ref (A 0), .int x1, .int x2]) (n := 4) (Nat.le_of_ble_eq_true rfl)
  rw [lg_entry_eq]
  generalize (lg_sl ([.ref (A 0), .int x1, .int x2]) ++ List.replicate (4 - (lg_sl ([.ref (A 0), .int x1, .int x2])).length) Slot.unset).toArray = ls at hl ⊢
  have hl : lv_has ls 4 [(0, .ref (A 0)), (1, .int x1), (2, .int x2)] := hl
  rw [f2_Y_clear] at h
  refine lv_aload_n hx hb d_Y_clear_0 rfl (lv_at hl 0 rfl) ?_
  refine lv_iload_n hx hb d_Y_clear_1 rfl (lv_at hl 1 rfl) ?_
  obtain ⟨M1, eM1, h⟩ := kb_st_some h
  refine kb_put (ws' := (wY A G M1)) (own := "PileLifts$Yard") (ref := "PileLifts$Yard") (C := R_Y) (T := F_Y) (N := 10) (ty := .int) hx hb htw i_Y t_Y t_Y_ok n_Y hown hw 0 (wY_0 A G _) rfl 0 (by decide) (htw _ mC_16) rfl rfl (by decide +kernel) rfl rfl (Nat.le_of_ble_eq_true rfl) d_Y_clear_2 (by rw [eM1]; rfl) (fun H locs hw => ?_)
  refine lv_aload_n hx hb d_Y_clear_5 rfl (lv_at hl 0 rfl) ?_
  refine lv_iload_n hx hb d_Y_clear_6 rfl (lv_at hl 2 rfl) ?_
  obtain ⟨M2, eM2, h⟩ := kb_st_some h
  refine kb_put (ws' := (wY A G M2)) (own := "PileLifts$Yard") (ref := "PileLifts$Yard") (C := R_Y) (T := F_Y) (N := 10) (ty := .int) hx hb htw i_Y t_Y t_Y_ok n_Y hown hw 0 (wY_0 A G _) rfl 1 (by decide) (htw _ mC_17) rfl rfl (by decide +kernel) rfl rfl (Nat.le_of_ble_eq_true rfl) d_Y_clear_7 (by rw [eM2]; rfl) (fun H locs hw => ?_)
  refine lv_aload_n hx hb d_Y_clear_10 rfl (lv_at hl 0 rfl) ?_
  refine lv_iconst (v := 0) hx hb d_Y_clear_11 (by decide) ?_
  obtain ⟨M3, eM3, h⟩ := kb_st_some h
  refine kb_put (ws' := (wY A G M3)) (own := "PileLifts$Yard") (ref := "PileLifts$Yard") (C := R_Y) (T := F_Y) (N := 10) (ty := .int) hx hb htw i_Y t_Y t_Y_ok n_Y hown hw 0 (wY_0 A G _) rfl 2 (by decide) (htw _ mC_18) rfl rfl (by decide +kernel) rfl rfl (Nat.le_of_ble_eq_true rfl) d_Y_clear_12 (by rw [eM3]; rfl) (fun H locs hw => ?_)
  refine lv_iconst (v := 0) hx hb d_Y_clear_15 (by decide) ?_
  refine lv_istore_n (lv' := [(3, .int (0 : Int32)), (0, .ref (A 0)), (1, .int x1), (2, .int x2)]) hx hb d_Y_clear_16 rfl hl (by decide) rfl (fun ls hl => ?_)
  exact loop_17 kb_F (0 : Int32) M3 _ _ _ h hw (lv_sub hl [1, 0] rfl)
def h2_W_clear_7 : Nat → Int32 → (Nat → Nat → Int32) → Option (Int32 × (Nat → Nat → Int32))
  | 0, _, _ => none
  | n + 1, u1, M => (if (10 : Int32) ≤ u1 then some ((0 : Int32), M) else kb_wr M 3 10 u1 (-1 : Int32) (fun M2 => h2_W_clear_7 n (u1 + 1) M2))
def f2_W_clear (M0 : Nat → Nat → Int32) : Option (Int32 × (Nat → Nat → Int32)) := kb_st (kb_up M0 0 (upd (M0 0) 0 (0 : Int32))) (fun M1 => h2_W_clear_7 kb_F (0 : Int32) M1)
set_option maxHeartbeats 4000000 in
set_option maxRecDepth 100000 in
theorem c2_W_clear (l : Launch) (D : va_G) (A : Nat → Nat) (G : Nat → ClassId) (M0 : Nat → Nat → Int32) (r : Int32) (M' : Nat → Nat → Int32) (sz : Nat) (h : f2_W_clear M0 = some (r, M')) : kb_Cv l y_W_clear (Cond.code y_W_clear b_W_clear 2 none :: wsC) { frames := 0, cells := 0, slots := 0, locals := 0 } [.ref (A 0)] D kcl (tyW G) (wW A G M0) (wW A G M') nnC sz := by
  refine Met.ofW (cc := b_W_clear) (maxL := 2) (ret := none) (by decide) rfl ?_
  intro p e s m args below meth c s₁ B hml hv
  obtain ⟨rfl, hpre⟩ := hv
  obtain ⟨hw, hN⟩ := kb_enter hpre
  have hx := B.exec
  have hb := B.bytes
  have hr := B.returns
  have hts := atoms_spec (ws := (Cond.code y_W_clear b_W_clear 2 none :: wsC)) B.pre
  have htw : ∀ w ∈ wsC, w.before ([.ref (A 0)] : List Value).toArray s = true := fun w h => hts w (List.mem_cons_of_mem _ h)
  have hown : s.vm.findClass "PileLifts$Wagons" = some m.cls := findClass_of_methodNamed B.named
  have hlocks := B.notSynchronized
  have loop_7 : ∀ (n7 : Nat) (u1 : Int32) (M : Nat → Nat → Int32) (H : Heap) (locs : List Loc) (ls : Array Slot), h2_W_clear_7 n7 u1 M = some (r, M') → kb_K D kcl (tyW G) (wW A G M) s (va_A (wW A G M0) sz) H locs → lv_has ls 2 [(0, .ref (A 0)), (1, .int u1)] → W p l e (headSpec (Cond.code y_W_clear b_W_clear 2 none :: wsC) { frames := 0, cells := 0, slots := 0, locals := 0 }).room s m ([.ref (A 0)] : List Value).toArray below meth c H locs 0 0 (kb_Qv D kcl (tyW G) (wW A G M0) (wW A G M') sz below ([.ref (A 0)] : List Value).toArray s) (F0 m 7 ls []) := by
    intro n7
    induction n7 with
    | zero =>
      intro u1 M H locs ls h
      cases h
    | succ n7 ih =>
      intro u1 M H locs ls h hw hl
      rw [h2_W_clear_7] at h
      refine lv_iload_n hx hb d_W_clear_7 rfl (lv_at hl 1 rfl) ?_
      refine lv_bipush (v := 10) hx hb d_W_clear_8 (by decide) ?_
      refine lv_icmp_ge (tgt := 26) hx hb d_W_clear_10 (by decide) (fun c => ?_) (fun c => ?_)
      · have h := kb_ip c h
        obtain ⟨-, rfl⟩ := kb_rt h
        exact kb_vret hx hb hr hw hlocks d_W_clear_26
      · have h := kb_in c h
        refine lv_aload_n hx hb d_W_clear_13 rfl (lv_at hl 0 rfl) ?_
        refine kb_get (own := "PileLifts$Wagons") (ref := "PileLifts$Wagons") (C := R_W) (T := F_W) (N := 4) hx hb htw i_W hown hw 0 (wW_0 A G _) rfl 3 (by decide) (htw _ mC_72) rfl rfl d_W_clear_14 ?_
        refine lv_iload_n hx hb d_W_clear_17 rfl (lv_at hl 1 rfl) ?_
        refine lv_iconst (v := -1) hx hb d_W_clear_18 (by decide) ?_
        obtain ⟨M2, eM2, hi, h⟩ := kb_wr_some h
        refine kb_ast (ws' := (wW A G M2)) hx hb hw 3 2 rfl rfl hi d_W_clear_19 (by rw [eM2]; rfl) (fun H locs hw => ?_)
        refine lv_iinc (v := (u1 + 1)) (lv' := [(1, .int (u1 + 1)), (0, .ref (A 0))]) hx hb d_W_clear_20 hl (k := 1) rfl rfl (by decide) rfl (fun ls hl => ?_)
        refine lv_goto (tgt := 7) hx hb d_W_clear_23 (by decide) ?_
        exact ih (u1 + 1) M2 _ _ _ h hw (lv_sub hl [1, 0] rfl)
  have hl := lv_entry ([.ref (A 0)]) (n := 2) (Nat.le_of_ble_eq_true rfl)
  rw [lg_entry_eq]
  generalize (lg_sl ([.ref (A 0)]) ++ List.replicate (2 - (lg_sl ([.ref (A 0)])).length) Slot.unset).toArray = ls at hl ⊢
  have hl : lv_has ls 2 [(0, .ref (A 0))] := hl
  rw [f2_W_clear] at h
  refine lv_aload_n hx hb d_W_clear_0 rfl (lv_at hl 0 rfl) ?_
  refine lv_iconst (v := 0) hx hb d_W_clear_1 (by decide) ?_
  obtain ⟨M1, eM1, h⟩ := kb_st_some h
  refine kb_put (ws' := (wW A G M1)) (own := "PileLifts$Wagons") (ref := "PileLifts$Wagons") (C := R_W) (T := F_W) (N := 4) (ty := .int) hx hb htw i_W t_W t_W_ok n_W hown hw 0 (wW_0 A G _) rfl 0 (by decide) (htw _ mC_69) rfl rfl (by decide +kernel) rfl rfl (Nat.le_of_ble_eq_true rfl) d_W_clear_2 (by rw [eM1]; rfl) (fun H locs hw => ?_)
  refine lv_iconst (v := 0) hx hb d_W_clear_5 (by decide) ?_
  refine lv_istore_n (lv' := [(1, .int (0 : Int32)), (0, .ref (A 0))]) hx hb d_W_clear_6 rfl hl (by decide) rfl (fun ls hl => ?_)
  exact loop_7 kb_F (0 : Int32) M1 _ _ _ h hw (lv_sub hl [1, 0] rfl)
set_option maxHeartbeats 4000000 in
set_option maxRecDepth 100000 in
theorem ni_S (l : Launch) (D : va_G) (h0 sz : Nat) : Met l y_S_init (Cond.code y_S_init b_S_init 1 none :: wsC) { frames := 2, cells := 3, slots := 66, locals := 60 } (va_Pc [.ref h0] (kb_pre D kcl [] [(h0, .inr (2, [.int 0, .int 0, .int 0, .int 0, .int 0, .int 0, .int 0, .null, .null, .null]))] nnC sz)) (va_Qv (fun u : (Nat → Nat) × (Nat → ClassId) => u.1 0 = h0) (fun u t => kb_post D kcl (tyS u.2) [(h0, .inr (2, [.int 0, .int 0, .int 0, .int 0, .int 0, .int 0, .int 0, .null, .null, .null]))] (wS u.1 u.2 kz) sz t) (va_A [(h0, .inr (2, [.int 0, .int 0, .int 0, .int 0, .int 0, .int 0, .int 0, .null, .null, .null]))] sz)) 3 66 (va_A [(h0, .inr (2, [.int 0, .int 0, .int 0, .int 0, .int 0, .int 0, .int 0, .null, .null, .null]))] sz) := by
  refine Met.ofW (cc := b_S_init) (maxL := 1) (ret := none) (by decide) rfl ?_
  intro p e s m args below meth c s₁ B hml hv
  obtain ⟨rfl, hpre⟩ := hv
  obtain ⟨⟨hK, hP, hD, hS, hA⟩, hN⟩ := kb_enter hpre
  have hx := B.exec
  have hb := B.bytes
  have hr := B.returns
  have hts := atoms_spec (ws := (Cond.code y_S_init b_S_init 1 none :: wsC)) B.pre
  have htw : ∀ w ∈ wsC, w.before ([.ref h0] : List Value).toArray s = true := fun w h => hts w (List.mem_cons_of_mem _ h)
  have hown : s.vm.findClass "PileLifts$Search" = some m.cls := findClass_of_methodNamed B.named
  have hlocks := B.notSynchronized
  have hin : meth.name = "<init>" := (name_of_methodNamed B.named B.method).1
  have hl := lv_entry ([.ref h0]) (n := 1) (Nat.le_of_ble_eq_true rfl)
  rw [lg_entry_eq]
  generalize (lg_sl ([.ref h0]) ++ List.replicate (1 - (lg_sl ([.ref h0])).length) Slot.unset).toArray = ls at hl ⊢
  have hl : lv_has ls 1 [(0, .ref h0)] := hl
  refine lv_aload_n hx hb d_S_init_0 rfl (lv_at hl 0 rfl) ?_
  refine W.objInit hx hb hown (htw _ mC_40) (htw _ mC_266) (htw _ mC_267) rfl (by rw [hml]; exact hl.1) rfl d_S_init_1 (Nat.le_of_ble_eq_true rfl) (Nat.le_of_ble_eq_true rfl) ?_
  refine W.eq (g2 := F0 m 4 ls []) rfl ?_
  refine lv_aload_n hx hb d_S_init_4 rfl (lv_at hl 0 rfl) ?_
  refine lv_bipush (v := 22) hx hb d_S_init_5 (by decide) ?_
  refine va_newa (atype := .int) (a0 := (22, .inl (fun _ => 0))) (N' := 22) (ty := .int) hx hb (htw _ mC_268) rfl hK hP hD hS hA (fun _ => rfl) (by decide) (by decide) (by decide) (Nat.le_of_ble_eq_true rfl) (Nat.le_of_ble_eq_true rfl) d_S_init_7 (fun q1 c1 H hK hP hD hS => ?_)
  refine W.cs (cells' := 1) (slots' := 22) rfl rfl ?_
  have hP : va_P D kcl [(h0, .inr (2, [.int 0, .int 0, .int 0, .int 0, .int 0, .int 0, .int 0, .null, .null, .null])), (q1, .inl (c1, 22, .inl (fun _ => 0)))] H := hP
  have hD : va_D (va_A [(h0, .inr (2, [.int 0, .int 0, .int 0, .int 0, .int 0, .int 0, .int 0, .null, .null, .null]))] sz) [(h0, .inr (2, [.int 0, .int 0, .int 0, .int 0, .int 0, .int 0, .int 0, .null, .null, .null])), (q1, .inl (c1, 22, .inl (fun _ => 0)))] := hD
  have hK : va_K D kcl [(c1, .int)] s := hK
  refine va_putF (D := D) (ci := 2) (v := .ref q1) (ty := .array .int) (C := R_S) (T := F_S) (N := 10) hx hb htw i_S t_S t_S_ok n_S hown hK hP hD hS 0 rfl rfl 7 (by decide) (htw _ mC_48) (fun _ h9 => h9) rfl hin rfl (by decide +kernel) rfl rfl (Nat.le_of_ble_eq_true rfl) d_S_init_9 (fun H locs hP hD hS => ?_)
  have hP : va_P D kcl [(h0, .inr (2, [.int 0, .int 0, .int 0, .int 0, .int 0, .int 0, .int 0, .ref q1, .null, .null])), (q1, .inl (c1, 22, .inl (fun _ => 0)))] H := hP
  have hD : va_D (va_A [(h0, .inr (2, [.int 0, .int 0, .int 0, .int 0, .int 0, .int 0, .int 0, .null, .null, .null]))] sz) [(h0, .inr (2, [.int 0, .int 0, .int 0, .int 0, .int 0, .int 0, .int 0, .ref q1, .null, .null])), (q1, .inl (c1, 22, .inl (fun _ => 0)))] := hD
  refine lv_aload_n hx hb d_S_init_12 rfl (lv_at hl 0 rfl) ?_
  refine lv_bipush (v := 22) hx hb d_S_init_13 (by decide) ?_
  refine va_newa (atype := .int) (a0 := (22, .inl (fun _ => 0))) (N' := 22) (ty := .int) hx hb (htw _ mC_268) rfl hK hP hD hS hA (fun _ => rfl) (by decide) (by decide) (by decide) (Nat.le_of_ble_eq_true rfl) (Nat.le_of_ble_eq_true rfl) d_S_init_15 (fun q2 c2 H hK hP hD hS => ?_)
  refine W.cs (cells' := 2) (slots' := 44) rfl rfl ?_
  have hP : va_P D kcl [(h0, .inr (2, [.int 0, .int 0, .int 0, .int 0, .int 0, .int 0, .int 0, .ref q1, .null, .null])), (q1, .inl (c1, 22, .inl (fun _ => 0))), (q2, .inl (c2, 22, .inl (fun _ => 0)))] H := hP
  have hD : va_D (va_A [(h0, .inr (2, [.int 0, .int 0, .int 0, .int 0, .int 0, .int 0, .int 0, .null, .null, .null]))] sz) [(h0, .inr (2, [.int 0, .int 0, .int 0, .int 0, .int 0, .int 0, .int 0, .ref q1, .null, .null])), (q1, .inl (c1, 22, .inl (fun _ => 0))), (q2, .inl (c2, 22, .inl (fun _ => 0)))] := hD
  have hK : va_K D kcl [(c1, .int), (c2, .int)] s := hK
  refine va_putF (D := D) (ci := 2) (v := .ref q2) (ty := .array .int) (C := R_S) (T := F_S) (N := 10) hx hb htw i_S t_S t_S_ok n_S hown hK hP hD hS 0 rfl rfl 8 (by decide) (htw _ mC_49) (fun _ h9 => h9) rfl hin rfl (by decide +kernel) rfl rfl (Nat.le_of_ble_eq_true rfl) d_S_init_17 (fun H locs hP hD hS => ?_)
  have hP : va_P D kcl [(h0, .inr (2, [.int 0, .int 0, .int 0, .int 0, .int 0, .int 0, .int 0, .ref q1, .ref q2, .null])), (q1, .inl (c1, 22, .inl (fun _ => 0))), (q2, .inl (c2, 22, .inl (fun _ => 0)))] H := hP
  have hD : va_D (va_A [(h0, .inr (2, [.int 0, .int 0, .int 0, .int 0, .int 0, .int 0, .int 0, .null, .null, .null]))] sz) [(h0, .inr (2, [.int 0, .int 0, .int 0, .int 0, .int 0, .int 0, .int 0, .ref q1, .ref q2, .null])), (q1, .inl (c1, 22, .inl (fun _ => 0))), (q2, .inl (c2, 22, .inl (fun _ => 0)))] := hD
  refine lv_aload_n hx hb d_S_init_20 rfl (lv_at hl 0 rfl) ?_
  refine lv_bipush (v := 22) hx hb d_S_init_21 (by decide) ?_
  refine va_newa (atype := .int) (a0 := (22, .inl (fun _ => 0))) (N' := 22) (ty := .int) hx hb (htw _ mC_268) rfl hK hP hD hS hA (fun _ => rfl) (by decide) (by decide) (by decide) (Nat.le_of_ble_eq_true rfl) (Nat.le_of_ble_eq_true rfl) d_S_init_23 (fun q3 c3 H hK hP hD hS => ?_)
  refine W.cs (cells' := 3) (slots' := 66) rfl rfl ?_
  have hP : va_P D kcl [(h0, .inr (2, [.int 0, .int 0, .int 0, .int 0, .int 0, .int 0, .int 0, .ref q1, .ref q2, .null])), (q1, .inl (c1, 22, .inl (fun _ => 0))), (q2, .inl (c2, 22, .inl (fun _ => 0))), (q3, .inl (c3, 22, .inl (fun _ => 0)))] H := hP
  have hD : va_D (va_A [(h0, .inr (2, [.int 0, .int 0, .int 0, .int 0, .int 0, .int 0, .int 0, .null, .null, .null]))] sz) [(h0, .inr (2, [.int 0, .int 0, .int 0, .int 0, .int 0, .int 0, .int 0, .ref q1, .ref q2, .null])), (q1, .inl (c1, 22, .inl (fun _ => 0))), (q2, .inl (c2, 22, .inl (fun _ => 0))), (q3, .inl (c3, 22, .inl (fun _ => 0)))] := hD
  have hK : va_K D kcl [(c1, .int), (c2, .int), (c3, .int)] s := hK
  refine va_putF (D := D) (ci := 2) (v := .ref q3) (ty := .array .int) (C := R_S) (T := F_S) (N := 10) hx hb htw i_S t_S t_S_ok n_S hown hK hP hD hS 0 rfl rfl 9 (by decide) (htw _ mC_50) (fun _ h9 => h9) rfl hin rfl (by decide +kernel) rfl rfl (Nat.le_of_ble_eq_true rfl) d_S_init_25 (fun H locs hP hD hS => ?_)
  have hP : va_P D kcl [(h0, .inr (2, [.int 0, .int 0, .int 0, .int 0, .int 0, .int 0, .int 0, .ref q1, .ref q2, .ref q3])), (q1, .inl (c1, 22, .inl (fun _ => 0))), (q2, .inl (c2, 22, .inl (fun _ => 0))), (q3, .inl (c3, 22, .inl (fun _ => 0)))] H := hP
  have hD : va_D (va_A [(h0, .inr (2, [.int 0, .int 0, .int 0, .int 0, .int 0, .int 0, .int 0, .null, .null, .null]))] sz) [(h0, .inr (2, [.int 0, .int 0, .int 0, .int 0, .int 0, .int 0, .int 0, .ref q1, .ref q2, .ref q3])), (q1, .inl (c1, 22, .inl (fun _ => 0))), (q2, .inl (c2, 22, .inl (fun _ => 0))), (q3, .inl (c3, 22, .inl (fun _ => 0)))] := hD
  exact W.vret hx hb hr (fun t ht hW => ⟨⟨(fun k => [h0, q1, q2, q3].getD k 0, fun k => [0, c1, c2, c3].getD k 0), rfl, rfl, by rw [ht]; exact hP, va_K.moved hW.alike hK, hD⟩, hS.F ht⟩) hS.2.2 d_S_init_28
set_option maxHeartbeats 4000000 in
set_option maxRecDepth 100000 in
theorem ni_W (l : Launch) (D : va_G) (h0 sz : Nat) (MW : Nat → Nat → Int32) (hm : f2_W_clear kz = some (0, MW)) : Met l y_W_init (Cond.code y_W_init b_W_init 1 none :: wsC) { frames := 2, cells := 3, slots := 18, locals := 60 } (va_Pc [.ref h0] (kb_pre D kcl [] [(h0, .inr (3, [.int 0, .null, .null, .null]))] nnC sz)) (va_Qv (fun u : (Nat → Nat) × (Nat → ClassId) => u.1 0 = h0) (fun u t => kb_post D kcl (tyW u.2) [(h0, .inr (3, [.int 0, .null, .null, .null]))] (wW u.1 u.2 MW) sz t) (va_A [(h0, .inr (3, [.int 0, .null, .null, .null]))] sz)) 3 18 (va_A [(h0, .inr (3, [.int 0, .null, .null, .null]))] sz) := by
  refine Met.ofW (cc := b_W_init) (maxL := 1) (ret := none) (by decide) rfl ?_
  intro p e s m args below meth c s₁ B hml hv
  obtain ⟨rfl, hpre⟩ := hv
  obtain ⟨⟨hK, hP, hD, hS, hA⟩, hN⟩ := kb_enter hpre
  have hx := B.exec
  have hb := B.bytes
  have hr := B.returns
  have hts := atoms_spec (ws := (Cond.code y_W_init b_W_init 1 none :: wsC)) B.pre
  have htw : ∀ w ∈ wsC, w.before ([.ref h0] : List Value).toArray s = true := fun w h => hts w (List.mem_cons_of_mem _ h)
  have hown : s.vm.findClass "PileLifts$Wagons" = some m.cls := findClass_of_methodNamed B.named
  have hlocks := B.notSynchronized
  have hin : meth.name = "<init>" := (name_of_methodNamed B.named B.method).1
  have hl := lv_entry ([.ref h0]) (n := 1) (Nat.le_of_ble_eq_true rfl)
  rw [lg_entry_eq]
  generalize (lg_sl ([.ref h0]) ++ List.replicate (1 - (lg_sl ([.ref h0])).length) Slot.unset).toArray = ls at hl ⊢
  have hl : lv_has ls 1 [(0, .ref h0)] := hl
  refine lv_aload_n hx hb d_W_init_0 rfl (lv_at hl 0 rfl) ?_
  refine W.objInit hx hb hown (htw _ mC_65) (htw _ mC_266) (htw _ mC_267) rfl (by rw [hml]; exact hl.1) rfl d_W_init_1 (Nat.le_of_ble_eq_true rfl) (Nat.le_of_ble_eq_true rfl) ?_
  refine W.eq (g2 := F0 m 4 ls []) rfl ?_
  refine lv_aload_n hx hb d_W_init_4 rfl (lv_at hl 0 rfl) ?_
  refine lv_iconst (v := 4) hx hb d_W_init_5 (by decide) ?_
  refine va_newa (atype := .int) (a0 := (4, .inl (fun _ => 0))) (N' := 4) (ty := .int) hx hb (htw _ mC_268) rfl hK hP hD hS hA (fun _ => rfl) (by decide) (by decide) (by decide) (Nat.le_of_ble_eq_true rfl) (Nat.le_of_ble_eq_true rfl) d_W_init_6 (fun q1 c1 H hK hP hD hS => ?_)
  refine W.cs (cells' := 1) (slots' := 4) rfl rfl ?_
  have hP : va_P D kcl [(h0, .inr (3, [.int 0, .null, .null, .null])), (q1, .inl (c1, 4, .inl (fun _ => 0)))] H := hP
  have hD : va_D (va_A [(h0, .inr (3, [.int 0, .null, .null, .null]))] sz) [(h0, .inr (3, [.int 0, .null, .null, .null])), (q1, .inl (c1, 4, .inl (fun _ => 0)))] := hD
  have hK : va_K D kcl [(c1, .int)] s := hK
  refine va_putF (D := D) (ci := 3) (v := .ref q1) (ty := .array .int) (C := R_W) (T := F_W) (N := 4) hx hb htw i_W t_W t_W_ok n_W hown hK hP hD hS 0 rfl rfl 1 (by decide) (htw _ mC_70) (fun _ h9 => h9) rfl hin rfl (by decide +kernel) rfl rfl (Nat.le_of_ble_eq_true rfl) d_W_init_8 (fun H locs hP hD hS => ?_)
  have hP : va_P D kcl [(h0, .inr (3, [.int 0, .ref q1, .null, .null])), (q1, .inl (c1, 4, .inl (fun _ => 0)))] H := hP
  have hD : va_D (va_A [(h0, .inr (3, [.int 0, .null, .null, .null]))] sz) [(h0, .inr (3, [.int 0, .ref q1, .null, .null])), (q1, .inl (c1, 4, .inl (fun _ => 0)))] := hD
  refine lv_aload_n hx hb d_W_init_11 rfl (lv_at hl 0 rfl) ?_
  refine lv_iconst (v := 4) hx hb d_W_init_12 (by decide) ?_
  refine va_newa (atype := .int) (a0 := (4, .inl (fun _ => 0))) (N' := 4) (ty := .int) hx hb (htw _ mC_268) rfl hK hP hD hS hA (fun _ => rfl) (by decide) (by decide) (by decide) (Nat.le_of_ble_eq_true rfl) (Nat.le_of_ble_eq_true rfl) d_W_init_13 (fun q2 c2 H hK hP hD hS => ?_)
  refine W.cs (cells' := 2) (slots' := 8) rfl rfl ?_
  have hP : va_P D kcl [(h0, .inr (3, [.int 0, .ref q1, .null, .null])), (q1, .inl (c1, 4, .inl (fun _ => 0))), (q2, .inl (c2, 4, .inl (fun _ => 0)))] H := hP
  have hD : va_D (va_A [(h0, .inr (3, [.int 0, .null, .null, .null]))] sz) [(h0, .inr (3, [.int 0, .ref q1, .null, .null])), (q1, .inl (c1, 4, .inl (fun _ => 0))), (q2, .inl (c2, 4, .inl (fun _ => 0)))] := hD
  have hK : va_K D kcl [(c1, .int), (c2, .int)] s := hK
  refine va_putF (D := D) (ci := 3) (v := .ref q2) (ty := .array .int) (C := R_W) (T := F_W) (N := 4) hx hb htw i_W t_W t_W_ok n_W hown hK hP hD hS 0 rfl rfl 2 (by decide) (htw _ mC_71) (fun _ h9 => h9) rfl hin rfl (by decide +kernel) rfl rfl (Nat.le_of_ble_eq_true rfl) d_W_init_15 (fun H locs hP hD hS => ?_)
  have hP : va_P D kcl [(h0, .inr (3, [.int 0, .ref q1, .ref q2, .null])), (q1, .inl (c1, 4, .inl (fun _ => 0))), (q2, .inl (c2, 4, .inl (fun _ => 0)))] H := hP
  have hD : va_D (va_A [(h0, .inr (3, [.int 0, .null, .null, .null]))] sz) [(h0, .inr (3, [.int 0, .ref q1, .ref q2, .null])), (q1, .inl (c1, 4, .inl (fun _ => 0))), (q2, .inl (c2, 4, .inl (fun _ => 0)))] := hD
  refine lv_aload_n hx hb d_W_init_18 rfl (lv_at hl 0 rfl) ?_
  refine lv_bipush (v := 10) hx hb d_W_init_19 (by decide) ?_
  refine va_newa (atype := .int) (a0 := (10, .inl (fun _ => 0))) (N' := 10) (ty := .int) hx hb (htw _ mC_268) rfl hK hP hD hS hA (fun _ => rfl) (by decide) (by decide) (by decide) (Nat.le_of_ble_eq_true rfl) (Nat.le_of_ble_eq_true rfl) d_W_init_21 (fun q3 c3 H hK hP hD hS => ?_)
  refine W.cs (cells' := 3) (slots' := 18) rfl rfl ?_
  have hP : va_P D kcl [(h0, .inr (3, [.int 0, .ref q1, .ref q2, .null])), (q1, .inl (c1, 4, .inl (fun _ => 0))), (q2, .inl (c2, 4, .inl (fun _ => 0))), (q3, .inl (c3, 10, .inl (fun _ => 0)))] H := hP
  have hD : va_D (va_A [(h0, .inr (3, [.int 0, .null, .null, .null]))] sz) [(h0, .inr (3, [.int 0, .ref q1, .ref q2, .null])), (q1, .inl (c1, 4, .inl (fun _ => 0))), (q2, .inl (c2, 4, .inl (fun _ => 0))), (q3, .inl (c3, 10, .inl (fun _ => 0)))] := hD
  have hK : va_K D kcl [(c1, .int), (c2, .int), (c3, .int)] s := hK
  refine va_putF (D := D) (ci := 3) (v := .ref q3) (ty := .array .int) (C := R_W) (T := F_W) (N := 4) hx hb htw i_W t_W t_W_ok n_W hown hK hP hD hS 0 rfl rfl 3 (by decide) (htw _ mC_72) (fun _ h9 => h9) rfl hin rfl (by decide +kernel) rfl rfl (Nat.le_of_ble_eq_true rfl) d_W_init_23 (fun H locs hP hD hS => ?_)
  have hP : va_P D kcl [(h0, .inr (3, [.int 0, .ref q1, .ref q2, .ref q3])), (q1, .inl (c1, 4, .inl (fun _ => 0))), (q2, .inl (c2, 4, .inl (fun _ => 0))), (q3, .inl (c3, 10, .inl (fun _ => 0)))] H := hP
  have hD : va_D (va_A [(h0, .inr (3, [.int 0, .null, .null, .null]))] sz) [(h0, .inr (3, [.int 0, .ref q1, .ref q2, .ref q3])), (q1, .inl (c1, 4, .inl (fun _ => 0))), (q2, .inl (c2, 4, .inl (fun _ => 0))), (q3, .inl (c3, 10, .inl (fun _ => 0)))] := hD
  refine lv_aload_n hx hb d_W_init_26 rfl (lv_at hl 0 rfl) ?_
  have hA0 : ∀ k : Nat, k = k := fun _ => rfl
  have hw : kb_K D kcl (tyW (fun k => [0, c1, c2, c3].getD k 0)) (wW (fun k => [h0, q1, q2, q3].getD k 0) (fun k => [0, c1, c2, c3].getD k 0) kz) s (va_A [(h0, .inr (3, [.int 0, .null, .null, .null]))] sz) H locs := ⟨hK, hP, hD, hS, hA⟩
  refine kb_callv0 (va_runV (As := []) (rest := []) ⟨hx, hb, hml, hown, htw⟩ (c2_W_clear l D (fun k => [h0, q1, q2, q3].getD k 0) (fun k => [0, c1, c2, c3].getD k 0) kz _ _ H.size hm) ⟨callB_of 0 htw (wsC_self mC_68) rfl rfl rfl (htw _ mC_3) (htw _ mC_66) q_W_clear ⟨by show 0 + 1 ≤ 2; omega, by show 8 + (2 + 11) + 0 ≤ 60; omega⟩, htw _ mC_67, htw _ mC_230⟩ (kb_preV nnC_warm nnC_same hw hN 0 (wW_0 _ _ _) rfl) rfl rfl hl.1 rfl (lv_room (Nat.le_of_ble_eq_true rfl)) d_W_init_27 ⟨Nat.le_of_ble_eq_true rfl, Nat.le_of_ble_eq_true rfl⟩) hw (fun H locs hw => ?_)
  exact W.vret hx hb hr (fun t ht hW => ⟨⟨(fun k => [h0, q1, q2, q3].getD k 0, fun k => [0, c1, c2, c3].getD k 0), rfl, rfl, by rw [ht]; exact hw.2.1, va_K.moved hW.alike hw.1, hw.2.2.1⟩, hw.2.2.2.1.F ht⟩) hw.2.2.2.1.2.2 d_W_init_30
set_option maxHeartbeats 4000000 in
set_option maxRecDepth 100000 in
theorem ni_Y (l : Launch) (D : va_G) (h0 sz : Nat) (MY : Nat → Nat → Int32) (hm : f2_Y_clear 2 4 kz = some (0, MY)) : Met l y_Y_init (Cond.code y_Y_init b_Y_init 1 none :: wsC) { frames := 2, cells := 7, slots := 74, locals := 60 } (va_Pc [.ref h0] (kb_pre D kcl [] [(h0, .inr (1, [.int 0, .int 0, .int 0, .null, .null, .null, .null, .null, .null, .null]))] nnC sz)) (va_Qv (fun u : (Nat → Nat) × (Nat → ClassId) => u.1 0 = h0) (fun u t => kb_post D kcl (tyY u.2) [(h0, .inr (1, [.int 0, .int 0, .int 0, .null, .null, .null, .null, .null, .null, .null]))] (wY u.1 u.2 MY) sz t) (va_A [(h0, .inr (1, [.int 0, .int 0, .int 0, .null, .null, .null, .null, .null, .null, .null]))] sz)) 7 74 (va_A [(h0, .inr (1, [.int 0, .int 0, .int 0, .null, .null, .null, .null, .null, .null, .null]))] sz) := by
  refine Met.ofW (cc := b_Y_init) (maxL := 1) (ret := none) (by decide) rfl ?_
  intro p e s m args below meth c s₁ B hml hv
  obtain ⟨rfl, hpre⟩ := hv
  obtain ⟨⟨hK, hP, hD, hS, hA⟩, hN⟩ := kb_enter hpre
  have hx := B.exec
  have hb := B.bytes
  have hr := B.returns
  have hts := atoms_spec (ws := (Cond.code y_Y_init b_Y_init 1 none :: wsC)) B.pre
  have htw : ∀ w ∈ wsC, w.before ([.ref h0] : List Value).toArray s = true := fun w h => hts w (List.mem_cons_of_mem _ h)
  have hown : s.vm.findClass "PileLifts$Yard" = some m.cls := findClass_of_methodNamed B.named
  have hlocks := B.notSynchronized
  have hin : meth.name = "<init>" := (name_of_methodNamed B.named B.method).1
  have hl := lv_entry ([.ref h0]) (n := 1) (Nat.le_of_ble_eq_true rfl)
  rw [lg_entry_eq]
  generalize (lg_sl ([.ref h0]) ++ List.replicate (1 - (lg_sl ([.ref h0])).length) Slot.unset).toArray = ls at hl ⊢
  have hl : lv_has ls 1 [(0, .ref h0)] := hl
  refine lv_aload_n hx hb d_Y_init_0 rfl (lv_at hl 0 rfl) ?_
  refine W.objInit hx hb hown (htw _ mC_12) (htw _ mC_266) (htw _ mC_267) rfl (by rw [hml]; exact hl.1) rfl d_Y_init_1 (Nat.le_of_ble_eq_true rfl) (Nat.le_of_ble_eq_true rfl) ?_
  refine W.eq (g2 := F0 m 4 ls []) rfl ?_
  refine lv_aload_n hx hb d_Y_init_4 rfl (lv_at hl 0 rfl) ?_
  refine lv_iconst (v := 4) hx hb d_Y_init_5 (by decide) ?_
  refine va_newa (atype := .int) (a0 := (4, .inl (fun _ => 0))) (N' := 4) (ty := .int) hx hb (htw _ mC_268) rfl hK hP hD hS hA (fun _ => rfl) (by decide) (by decide) (by decide) (Nat.le_of_ble_eq_true rfl) (Nat.le_of_ble_eq_true rfl) d_Y_init_6 (fun q1 c1 H hK hP hD hS => ?_)
  refine W.cs (cells' := 1) (slots' := 4) rfl rfl ?_
  have hP : va_P D kcl [(h0, .inr (1, [.int 0, .int 0, .int 0, .null, .null, .null, .null, .null, .null, .null])), (q1, .inl (c1, 4, .inl (fun _ => 0)))] H := hP
  have hD : va_D (va_A [(h0, .inr (1, [.int 0, .int 0, .int 0, .null, .null, .null, .null, .null, .null, .null]))] sz) [(h0, .inr (1, [.int 0, .int 0, .int 0, .null, .null, .null, .null, .null, .null, .null])), (q1, .inl (c1, 4, .inl (fun _ => 0)))] := hD
  have hK : va_K D kcl [(c1, .int)] s := hK
  refine va_putF (D := D) (ci := 1) (v := .ref q1) (ty := .array .int) (C := R_Y) (T := F_Y) (N := 10) hx hb htw i_Y t_Y t_Y_ok n_Y hown hK hP hD hS 0 rfl rfl 3 (by decide) (htw _ mC_19) (fun _ h9 => h9) rfl hin rfl (by decide +kernel) rfl rfl (Nat.le_of_ble_eq_true rfl) d_Y_init_8 (fun H locs hP hD hS => ?_)
  have hP : va_P D kcl [(h0, .inr (1, [.int 0, .int 0, .int 0, .ref q1, .null, .null, .null, .null, .null, .null])), (q1, .inl (c1, 4, .inl (fun _ => 0)))] H := hP
  have hD : va_D (va_A [(h0, .inr (1, [.int 0, .int 0, .int 0, .null, .null, .null, .null, .null, .null, .null]))] sz) [(h0, .inr (1, [.int 0, .int 0, .int 0, .ref q1, .null, .null, .null, .null, .null, .null])), (q1, .inl (c1, 4, .inl (fun _ => 0)))] := hD
  refine lv_aload_n hx hb d_Y_init_11 rfl (lv_at hl 0 rfl) ?_
  refine lv_bipush (v := 20) hx hb d_Y_init_12 (by decide) ?_
  refine va_newa (atype := .int) (a0 := (20, .inl (fun _ => 0))) (N' := 20) (ty := .int) hx hb (htw _ mC_268) rfl hK hP hD hS hA (fun _ => rfl) (by decide) (by decide) (by decide) (Nat.le_of_ble_eq_true rfl) (Nat.le_of_ble_eq_true rfl) d_Y_init_14 (fun q2 c2 H hK hP hD hS => ?_)
  refine W.cs (cells' := 2) (slots' := 24) rfl rfl ?_
  have hP : va_P D kcl [(h0, .inr (1, [.int 0, .int 0, .int 0, .ref q1, .null, .null, .null, .null, .null, .null])), (q1, .inl (c1, 4, .inl (fun _ => 0))), (q2, .inl (c2, 20, .inl (fun _ => 0)))] H := hP
  have hD : va_D (va_A [(h0, .inr (1, [.int 0, .int 0, .int 0, .null, .null, .null, .null, .null, .null, .null]))] sz) [(h0, .inr (1, [.int 0, .int 0, .int 0, .ref q1, .null, .null, .null, .null, .null, .null])), (q1, .inl (c1, 4, .inl (fun _ => 0))), (q2, .inl (c2, 20, .inl (fun _ => 0)))] := hD
  have hK : va_K D kcl [(c1, .int), (c2, .int)] s := hK
  refine va_putF (D := D) (ci := 1) (v := .ref q2) (ty := .array .int) (C := R_Y) (T := F_Y) (N := 10) hx hb htw i_Y t_Y t_Y_ok n_Y hown hK hP hD hS 0 rfl rfl 4 (by decide) (htw _ mC_20) (fun _ h9 => h9) rfl hin rfl (by decide +kernel) rfl rfl (Nat.le_of_ble_eq_true rfl) d_Y_init_16 (fun H locs hP hD hS => ?_)
  have hP : va_P D kcl [(h0, .inr (1, [.int 0, .int 0, .int 0, .ref q1, .ref q2, .null, .null, .null, .null, .null])), (q1, .inl (c1, 4, .inl (fun _ => 0))), (q2, .inl (c2, 20, .inl (fun _ => 0)))] H := hP
  have hD : va_D (va_A [(h0, .inr (1, [.int 0, .int 0, .int 0, .null, .null, .null, .null, .null, .null, .null]))] sz) [(h0, .inr (1, [.int 0, .int 0, .int 0, .ref q1, .ref q2, .null, .null, .null, .null, .null])), (q1, .inl (c1, 4, .inl (fun _ => 0))), (q2, .inl (c2, 20, .inl (fun _ => 0)))] := hD
  refine lv_aload_n hx hb d_Y_init_19 rfl (lv_at hl 0 rfl) ?_
  refine lv_bipush (v := 10) hx hb d_Y_init_20 (by decide) ?_
  refine va_newa (atype := .int) (a0 := (10, .inl (fun _ => 0))) (N' := 10) (ty := .int) hx hb (htw _ mC_268) rfl hK hP hD hS hA (fun _ => rfl) (by decide) (by decide) (by decide) (Nat.le_of_ble_eq_true rfl) (Nat.le_of_ble_eq_true rfl) d_Y_init_22 (fun q3 c3 H hK hP hD hS => ?_)
  refine W.cs (cells' := 3) (slots' := 34) rfl rfl ?_
  have hP : va_P D kcl [(h0, .inr (1, [.int 0, .int 0, .int 0, .ref q1, .ref q2, .null, .null, .null, .null, .null])), (q1, .inl (c1, 4, .inl (fun _ => 0))), (q2, .inl (c2, 20, .inl (fun _ => 0))), (q3, .inl (c3, 10, .inl (fun _ => 0)))] H := hP
  have hD : va_D (va_A [(h0, .inr (1, [.int 0, .int 0, .int 0, .null, .null, .null, .null, .null, .null, .null]))] sz) [(h0, .inr (1, [.int 0, .int 0, .int 0, .ref q1, .ref q2, .null, .null, .null, .null, .null])), (q1, .inl (c1, 4, .inl (fun _ => 0))), (q2, .inl (c2, 20, .inl (fun _ => 0))), (q3, .inl (c3, 10, .inl (fun _ => 0)))] := hD
  have hK : va_K D kcl [(c1, .int), (c2, .int), (c3, .int)] s := hK
  refine va_putF (D := D) (ci := 1) (v := .ref q3) (ty := .array .int) (C := R_Y) (T := F_Y) (N := 10) hx hb htw i_Y t_Y t_Y_ok n_Y hown hK hP hD hS 0 rfl rfl 5 (by decide) (htw _ mC_21) (fun _ h9 => h9) rfl hin rfl (by decide +kernel) rfl rfl (Nat.le_of_ble_eq_true rfl) d_Y_init_24 (fun H locs hP hD hS => ?_)
  have hP : va_P D kcl [(h0, .inr (1, [.int 0, .int 0, .int 0, .ref q1, .ref q2, .ref q3, .null, .null, .null, .null])), (q1, .inl (c1, 4, .inl (fun _ => 0))), (q2, .inl (c2, 20, .inl (fun _ => 0))), (q3, .inl (c3, 10, .inl (fun _ => 0)))] H := hP
  have hD : va_D (va_A [(h0, .inr (1, [.int 0, .int 0, .int 0, .null, .null, .null, .null, .null, .null, .null]))] sz) [(h0, .inr (1, [.int 0, .int 0, .int 0, .ref q1, .ref q2, .ref q3, .null, .null, .null, .null])), (q1, .inl (c1, 4, .inl (fun _ => 0))), (q2, .inl (c2, 20, .inl (fun _ => 0))), (q3, .inl (c3, 10, .inl (fun _ => 0)))] := hD
  refine lv_aload_n hx hb d_Y_init_27 rfl (lv_at hl 0 rfl) ?_
  refine lv_bipush (v := 10) hx hb d_Y_init_28 (by decide) ?_
  refine va_newa (atype := .int) (a0 := (10, .inl (fun _ => 0))) (N' := 10) (ty := .int) hx hb (htw _ mC_268) rfl hK hP hD hS hA (fun _ => rfl) (by decide) (by decide) (by decide) (Nat.le_of_ble_eq_true rfl) (Nat.le_of_ble_eq_true rfl) d_Y_init_30 (fun q4 c4 H hK hP hD hS => ?_)
  refine W.cs (cells' := 4) (slots' := 44) rfl rfl ?_
  have hP : va_P D kcl [(h0, .inr (1, [.int 0, .int 0, .int 0, .ref q1, .ref q2, .ref q3, .null, .null, .null, .null])), (q1, .inl (c1, 4, .inl (fun _ => 0))), (q2, .inl (c2, 20, .inl (fun _ => 0))), (q3, .inl (c3, 10, .inl (fun _ => 0))), (q4, .inl (c4, 10, .inl (fun _ => 0)))] H := hP
  have hD : va_D (va_A [(h0, .inr (1, [.int 0, .int 0, .int 0, .null, .null, .null, .null, .null, .null, .null]))] sz) [(h0, .inr (1, [.int 0, .int 0, .int 0, .ref q1, .ref q2, .ref q3, .null, .null, .null, .null])), (q1, .inl (c1, 4, .inl (fun _ => 0))), (q2, .inl (c2, 20, .inl (fun _ => 0))), (q3, .inl (c3, 10, .inl (fun _ => 0))), (q4, .inl (c4, 10, .inl (fun _ => 0)))] := hD
  have hK : va_K D kcl [(c1, .int), (c2, .int), (c3, .int), (c4, .int)] s := hK
  refine va_putF (D := D) (ci := 1) (v := .ref q4) (ty := .array .int) (C := R_Y) (T := F_Y) (N := 10) hx hb htw i_Y t_Y t_Y_ok n_Y hown hK hP hD hS 0 rfl rfl 6 (by decide) (htw _ mC_22) (fun _ h9 => h9) rfl hin rfl (by decide +kernel) rfl rfl (Nat.le_of_ble_eq_true rfl) d_Y_init_32 (fun H locs hP hD hS => ?_)
  have hP : va_P D kcl [(h0, .inr (1, [.int 0, .int 0, .int 0, .ref q1, .ref q2, .ref q3, .ref q4, .null, .null, .null])), (q1, .inl (c1, 4, .inl (fun _ => 0))), (q2, .inl (c2, 20, .inl (fun _ => 0))), (q3, .inl (c3, 10, .inl (fun _ => 0))), (q4, .inl (c4, 10, .inl (fun _ => 0)))] H := hP
  have hD : va_D (va_A [(h0, .inr (1, [.int 0, .int 0, .int 0, .null, .null, .null, .null, .null, .null, .null]))] sz) [(h0, .inr (1, [.int 0, .int 0, .int 0, .ref q1, .ref q2, .ref q3, .ref q4, .null, .null, .null])), (q1, .inl (c1, 4, .inl (fun _ => 0))), (q2, .inl (c2, 20, .inl (fun _ => 0))), (q3, .inl (c3, 10, .inl (fun _ => 0))), (q4, .inl (c4, 10, .inl (fun _ => 0)))] := hD
  refine lv_aload_n hx hb d_Y_init_35 rfl (lv_at hl 0 rfl) ?_
  refine lv_bipush (v := 10) hx hb d_Y_init_36 (by decide) ?_
  refine va_newa (atype := .int) (a0 := (10, .inl (fun _ => 0))) (N' := 10) (ty := .int) hx hb (htw _ mC_268) rfl hK hP hD hS hA (fun _ => rfl) (by decide) (by decide) (by decide) (Nat.le_of_ble_eq_true rfl) (Nat.le_of_ble_eq_true rfl) d_Y_init_38 (fun q5 c5 H hK hP hD hS => ?_)
  refine W.cs (cells' := 5) (slots' := 54) rfl rfl ?_
  have hP : va_P D kcl [(h0, .inr (1, [.int 0, .int 0, .int 0, .ref q1, .ref q2, .ref q3, .ref q4, .null, .null, .null])), (q1, .inl (c1, 4, .inl (fun _ => 0))), (q2, .inl (c2, 20, .inl (fun _ => 0))), (q3, .inl (c3, 10, .inl (fun _ => 0))), (q4, .inl (c4, 10, .inl (fun _ => 0))), (q5, .inl (c5, 10, .inl (fun _ => 0)))] H := hP
  have hD : va_D (va_A [(h0, .inr (1, [.int 0, .int 0, .int 0, .null, .null, .null, .null, .null, .null, .null]))] sz) [(h0, .inr (1, [.int 0, .int 0, .int 0, .ref q1, .ref q2, .ref q3, .ref q4, .null, .null, .null])), (q1, .inl (c1, 4, .inl (fun _ => 0))), (q2, .inl (c2, 20, .inl (fun _ => 0))), (q3, .inl (c3, 10, .inl (fun _ => 0))), (q4, .inl (c4, 10, .inl (fun _ => 0))), (q5, .inl (c5, 10, .inl (fun _ => 0)))] := hD
  have hK : va_K D kcl [(c1, .int), (c2, .int), (c3, .int), (c4, .int), (c5, .int)] s := hK
  refine va_putF (D := D) (ci := 1) (v := .ref q5) (ty := .array .int) (C := R_Y) (T := F_Y) (N := 10) hx hb htw i_Y t_Y t_Y_ok n_Y hown hK hP hD hS 0 rfl rfl 7 (by decide) (htw _ mC_23) (fun _ h9 => h9) rfl hin rfl (by decide +kernel) rfl rfl (Nat.le_of_ble_eq_true rfl) d_Y_init_40 (fun H locs hP hD hS => ?_)
  have hP : va_P D kcl [(h0, .inr (1, [.int 0, .int 0, .int 0, .ref q1, .ref q2, .ref q3, .ref q4, .ref q5, .null, .null])), (q1, .inl (c1, 4, .inl (fun _ => 0))), (q2, .inl (c2, 20, .inl (fun _ => 0))), (q3, .inl (c3, 10, .inl (fun _ => 0))), (q4, .inl (c4, 10, .inl (fun _ => 0))), (q5, .inl (c5, 10, .inl (fun _ => 0)))] H := hP
  have hD : va_D (va_A [(h0, .inr (1, [.int 0, .int 0, .int 0, .null, .null, .null, .null, .null, .null, .null]))] sz) [(h0, .inr (1, [.int 0, .int 0, .int 0, .ref q1, .ref q2, .ref q3, .ref q4, .ref q5, .null, .null])), (q1, .inl (c1, 4, .inl (fun _ => 0))), (q2, .inl (c2, 20, .inl (fun _ => 0))), (q3, .inl (c3, 10, .inl (fun _ => 0))), (q4, .inl (c4, 10, .inl (fun _ => 0))), (q5, .inl (c5, 10, .inl (fun _ => 0)))] := hD
  refine lv_aload_n hx hb d_Y_init_43 rfl (lv_at hl 0 rfl) ?_
  refine lv_bipush (v := 10) hx hb d_Y_init_44 (by decide) ?_
  refine va_newa (atype := .int) (a0 := (10, .inl (fun _ => 0))) (N' := 10) (ty := .int) hx hb (htw _ mC_268) rfl hK hP hD hS hA (fun _ => rfl) (by decide) (by decide) (by decide) (Nat.le_of_ble_eq_true rfl) (Nat.le_of_ble_eq_true rfl) d_Y_init_46 (fun q6 c6 H hK hP hD hS => ?_)
  refine W.cs (cells' := 6) (slots' := 64) rfl rfl ?_
  have hP : va_P D kcl [(h0, .inr (1, [.int 0, .int 0, .int 0, .ref q1, .ref q2, .ref q3, .ref q4, .ref q5, .null, .null])), (q1, .inl (c1, 4, .inl (fun _ => 0))), (q2, .inl (c2, 20, .inl (fun _ => 0))), (q3, .inl (c3, 10, .inl (fun _ => 0))), (q4, .inl (c4, 10, .inl (fun _ => 0))), (q5, .inl (c5, 10, .inl (fun _ => 0))), (q6, .inl (c6, 10, .inl (fun _ => 0)))] H := hP
  have hD : va_D (va_A [(h0, .inr (1, [.int 0, .int 0, .int 0, .null, .null, .null, .null, .null, .null, .null]))] sz) [(h0, .inr (1, [.int 0, .int 0, .int 0, .ref q1, .ref q2, .ref q3, .ref q4, .ref q5, .null, .null])), (q1, .inl (c1, 4, .inl (fun _ => 0))), (q2, .inl (c2, 20, .inl (fun _ => 0))), (q3, .inl (c3, 10, .inl (fun _ => 0))), (q4, .inl (c4, 10, .inl (fun _ => 0))), (q5, .inl (c5, 10, .inl (fun _ => 0))), (q6, .inl (c6, 10, .inl (fun _ => 0)))] := hD
  have hK : va_K D kcl [(c1, .int), (c2, .int), (c3, .int), (c4, .int), (c5, .int), (c6, .int)] s := hK
  refine va_putF (D := D) (ci := 1) (v := .ref q6) (ty := .array .int) (C := R_Y) (T := F_Y) (N := 10) hx hb htw i_Y t_Y t_Y_ok n_Y hown hK hP hD hS 0 rfl rfl 8 (by decide) (htw _ mC_24) (fun _ h9 => h9) rfl hin rfl (by decide +kernel) rfl rfl (Nat.le_of_ble_eq_true rfl) d_Y_init_48 (fun H locs hP hD hS => ?_)
  have hP : va_P D kcl [(h0, .inr (1, [.int 0, .int 0, .int 0, .ref q1, .ref q2, .ref q3, .ref q4, .ref q5, .ref q6, .null])), (q1, .inl (c1, 4, .inl (fun _ => 0))), (q2, .inl (c2, 20, .inl (fun _ => 0))), (q3, .inl (c3, 10, .inl (fun _ => 0))), (q4, .inl (c4, 10, .inl (fun _ => 0))), (q5, .inl (c5, 10, .inl (fun _ => 0))), (q6, .inl (c6, 10, .inl (fun _ => 0)))] H := hP
  have hD : va_D (va_A [(h0, .inr (1, [.int 0, .int 0, .int 0, .null, .null, .null, .null, .null, .null, .null]))] sz) [(h0, .inr (1, [.int 0, .int 0, .int 0, .ref q1, .ref q2, .ref q3, .ref q4, .ref q5, .ref q6, .null])), (q1, .inl (c1, 4, .inl (fun _ => 0))), (q2, .inl (c2, 20, .inl (fun _ => 0))), (q3, .inl (c3, 10, .inl (fun _ => 0))), (q4, .inl (c4, 10, .inl (fun _ => 0))), (q5, .inl (c5, 10, .inl (fun _ => 0))), (q6, .inl (c6, 10, .inl (fun _ => 0)))] := hD
  refine lv_aload_n hx hb d_Y_init_51 rfl (lv_at hl 0 rfl) ?_
  refine lv_bipush (v := 10) hx hb d_Y_init_52 (by decide) ?_
  refine va_newa (atype := .int) (a0 := (10, .inl (fun _ => 0))) (N' := 10) (ty := .int) hx hb (htw _ mC_268) rfl hK hP hD hS hA (fun _ => rfl) (by decide) (by decide) (by decide) (Nat.le_of_ble_eq_true rfl) (Nat.le_of_ble_eq_true rfl) d_Y_init_54 (fun q7 c7 H hK hP hD hS => ?_)
  refine W.cs (cells' := 7) (slots' := 74) rfl rfl ?_
  have hP : va_P D kcl [(h0, .inr (1, [.int 0, .int 0, .int 0, .ref q1, .ref q2, .ref q3, .ref q4, .ref q5, .ref q6, .null])), (q1, .inl (c1, 4, .inl (fun _ => 0))), (q2, .inl (c2, 20, .inl (fun _ => 0))), (q3, .inl (c3, 10, .inl (fun _ => 0))), (q4, .inl (c4, 10, .inl (fun _ => 0))), (q5, .inl (c5, 10, .inl (fun _ => 0))), (q6, .inl (c6, 10, .inl (fun _ => 0))), (q7, .inl (c7, 10, .inl (fun _ => 0)))] H := hP
  have hD : va_D (va_A [(h0, .inr (1, [.int 0, .int 0, .int 0, .null, .null, .null, .null, .null, .null, .null]))] sz) [(h0, .inr (1, [.int 0, .int 0, .int 0, .ref q1, .ref q2, .ref q3, .ref q4, .ref q5, .ref q6, .null])), (q1, .inl (c1, 4, .inl (fun _ => 0))), (q2, .inl (c2, 20, .inl (fun _ => 0))), (q3, .inl (c3, 10, .inl (fun _ => 0))), (q4, .inl (c4, 10, .inl (fun _ => 0))), (q5, .inl (c5, 10, .inl (fun _ => 0))), (q6, .inl (c6, 10, .inl (fun _ => 0))), (q7, .inl (c7, 10, .inl (fun _ => 0)))] := hD
  have hK : va_K D kcl [(c1, .int), (c2, .int), (c3, .int), (c4, .int), (c5, .int), (c6, .int), (c7, .int)] s := hK
  refine va_putF (D := D) (ci := 1) (v := .ref q7) (ty := .array .int) (C := R_Y) (T := F_Y) (N := 10) hx hb htw i_Y t_Y t_Y_ok n_Y hown hK hP hD hS 0 rfl rfl 9 (by decide) (htw _ mC_25) (fun _ h9 => h9) rfl hin rfl (by decide +kernel) rfl rfl (Nat.le_of_ble_eq_true rfl) d_Y_init_56 (fun H locs hP hD hS => ?_)
  have hP : va_P D kcl [(h0, .inr (1, [.int 0, .int 0, .int 0, .ref q1, .ref q2, .ref q3, .ref q4, .ref q5, .ref q6, .ref q7])), (q1, .inl (c1, 4, .inl (fun _ => 0))), (q2, .inl (c2, 20, .inl (fun _ => 0))), (q3, .inl (c3, 10, .inl (fun _ => 0))), (q4, .inl (c4, 10, .inl (fun _ => 0))), (q5, .inl (c5, 10, .inl (fun _ => 0))), (q6, .inl (c6, 10, .inl (fun _ => 0))), (q7, .inl (c7, 10, .inl (fun _ => 0)))] H := hP
  have hD : va_D (va_A [(h0, .inr (1, [.int 0, .int 0, .int 0, .null, .null, .null, .null, .null, .null, .null]))] sz) [(h0, .inr (1, [.int 0, .int 0, .int 0, .ref q1, .ref q2, .ref q3, .ref q4, .ref q5, .ref q6, .ref q7])), (q1, .inl (c1, 4, .inl (fun _ => 0))), (q2, .inl (c2, 20, .inl (fun _ => 0))), (q3, .inl (c3, 10, .inl (fun _ => 0))), (q4, .inl (c4, 10, .inl (fun _ => 0))), (q5, .inl (c5, 10, .inl (fun _ => 0))), (q6, .inl (c6, 10, .inl (fun _ => 0))), (q7, .inl (c7, 10, .inl (fun _ => 0)))] := hD
  refine lv_aload_n hx hb d_Y_init_59 rfl (lv_at hl 0 rfl) ?_
  refine lv_iconst (v := 2) hx hb d_Y_init_60 (by decide) ?_
  refine lv_iconst (v := 4) hx hb d_Y_init_61 (by decide) ?_
  have hA0 : ∀ k : Nat, k = k := fun _ => rfl
  have hw : kb_K D kcl (tyY (fun k => [0, c1, c2, c3, c4, c5, c6, c7].getD k 0)) (wY (fun k => [h0, q1, q2, q3, q4, q5, q6, q7].getD k 0) (fun k => [0, c1, c2, c3, c4, c5, c6, c7].getD k 0) kz) s (va_A [(h0, .inr (1, [.int 0, .int 0, .int 0, .null, .null, .null, .null, .null, .null, .null]))] sz) H locs := ⟨hK, hP, hD, hS, hA⟩
  refine kb_callv0 (va_runV (As := [.int 2, .int 4]) (rest := []) ⟨hx, hb, hml, hown, htw⟩ (c2_Y_clear l D (fun k => [h0, q1, q2, q3, q4, q5, q6, q7].getD k 0) (fun k => [0, c1, c2, c3, c4, c5, c6, c7].getD k 0) 2 4 kz _ _ H.size hm) ⟨callB_of 2 htw (wsC_self mC_15) rfl rfl rfl (htw _ mC_1) (htw _ mC_13) q_Y_clear ⟨by show 0 + 1 ≤ 2; omega, by show 8 + (4 + 11) + 0 ≤ 60; omega⟩, htw _ mC_14, htw _ mC_229⟩ (kb_preV nnC_warm nnC_same hw hN 0 (wY_0 _ _ _) rfl) rfl rfl hl.1 rfl (lv_room (Nat.le_of_ble_eq_true rfl)) d_Y_init_62 ⟨Nat.le_of_ble_eq_true rfl, Nat.le_of_ble_eq_true rfl⟩) hw (fun H locs hw => ?_)
  exact W.vret hx hb hr (fun t ht hW => ⟨⟨(fun k => [h0, q1, q2, q3, q4, q5, q6, q7].getD k 0, fun k => [0, c1, c2, c3, c4, c5, c6, c7].getD k 0), rfl, rfl, by rw [ht]; exact hw.2.1, va_K.moved hW.alike hw.1, hw.2.2.1⟩, hw.2.2.2.1.F ht⟩) hw.2.2.2.1.2.2 d_Y_init_65
def kzM : Nat → Nat → Int32 := kb_up (kb_up kz 0 (upd (kz 0) 1 2)) 0 (upd (kb_up kz 0 (upd (kz 0) 1 2) 0) 2 4)
set_option maxHeartbeats 4000000 in
set_option maxRecDepth 100000 in
theorem ni_M (l : Launch) (D : va_G) (h0 sz : Nat) : Met l y_M_init (Cond.code y_M_init b_M_init 1 none :: wsM) { frames := 2, cells := 13, slots := 533, locals := 60 } (va_Pc [.ref h0] (kb_pre D kcl [] [(h0, .inr (4, [.int 0, .int 0, .int 0, .int 0, .null, .null, .null, .null, .null, .null, .null, .null, .null, .null, .null, .int 0, .int 0, .int 0, .int 0, .int 0, .null, .null]))] nnM sz)) (va_Qv (fun u : (Nat → Nat) × (Nat → ClassId) => u.1 0 = h0) (fun u t => kb_post D kcl (tyM u.2) [(h0, .inr (4, [.int 0, .int 0, .int 0, .int 0, .null, .null, .null, .null, .null, .null, .null, .null, .null, .null, .null, .int 0, .int 0, .int 0, .int 0, .int 0, .null, .null]))] (wM u.1 u.2 kzM) sz t) (va_A [(h0, .inr (4, [.int 0, .int 0, .int 0, .int 0, .null, .null, .null, .null, .null, .null, .null, .null, .null, .null, .null, .int 0, .int 0, .int 0, .int 0, .int 0, .null, .null]))] sz)) 13 533 (va_A [(h0, .inr (4, [.int 0, .int 0, .int 0, .int 0, .null, .null, .null, .null, .null, .null, .null, .null, .null, .null, .null, .int 0, .int 0, .int 0, .int 0, .int 0, .null, .null]))] sz) := by
  refine Met.ofW (cc := b_M_init) (maxL := 1) (ret := none) (by decide) rfl ?_
  intro p e s m args below meth c s₁ B hml hv
  obtain ⟨rfl, hpre⟩ := hv
  obtain ⟨⟨hK, hP, hD, hS, hA⟩, hN⟩ := kb_enter hpre
  have hx := B.exec
  have hb := B.bytes
  have hr := B.returns
  have hts := atoms_spec (ws := (Cond.code y_M_init b_M_init 1 none :: wsM)) B.pre
  have htw : ∀ w ∈ wsM, w.before ([.ref h0] : List Value).toArray s = true := fun w h => hts w (List.mem_cons_of_mem _ h)
  have hown : s.vm.findClass "PileLiftsModel" = some m.cls := findClass_of_methodNamed B.named
  have hlocks := B.notSynchronized
  have hin : meth.name = "<init>" := (name_of_methodNamed B.named B.method).1
  have hl := lv_entry ([.ref h0]) (n := 1) (Nat.le_of_ble_eq_true rfl)
  rw [lg_entry_eq]
  generalize (lg_sl ([.ref h0]) ++ List.replicate (1 - (lg_sl ([.ref h0])).length) Slot.unset).toArray = ls at hl ⊢
  have hl : lv_has ls 1 [(0, .ref h0)] := hl
  refine lv_aload_n hx hb d_M_init_0 rfl (lv_at hl 0 rfl) ?_
  refine W.objInit hx hb hown (htw _ mM_4) (htw _ mM_165) (htw _ mM_166) rfl (by rw [hml]; exact hl.1) rfl d_M_init_1 (Nat.le_of_ble_eq_true rfl) (Nat.le_of_ble_eq_true rfl) ?_
  refine W.eq (g2 := F0 m 4 ls []) rfl ?_
  refine lv_aload_n hx hb d_M_init_4 rfl (lv_at hl 0 rfl) ?_
  refine lv_iconst (v := 2) hx hb d_M_init_5 (by decide) ?_
  refine va_put (D := D) (ci := 4) (v := .int 2) (ty := .int) (C := R_M) (T := F_M) (N := 22) hx hb htw i_M t_M t_M_ok n_M hown hK hP hD hS 0 rfl rfl 1 (by decide) (htw _ mM_6) (fun _ h9 => h9) rfl (by decide +kernel) rfl rfl (Nat.le_of_ble_eq_true rfl) d_M_init_6 (fun H locs hP hD hS => ?_)
  have hP : va_P D kcl [(h0, .inr (4, [.int 0, .int 2, .int 0, .int 0, .null, .null, .null, .null, .null, .null, .null, .null, .null, .null, .null, .int 0, .int 0, .int 0, .int 0, .int 0, .null, .null]))] H := hP
  have hD : va_D (va_A [(h0, .inr (4, [.int 0, .int 0, .int 0, .int 0, .null, .null, .null, .null, .null, .null, .null, .null, .null, .null, .null, .int 0, .int 0, .int 0, .int 0, .int 0, .null, .null]))] sz) [(h0, .inr (4, [.int 0, .int 2, .int 0, .int 0, .null, .null, .null, .null, .null, .null, .null, .null, .null, .null, .null, .int 0, .int 0, .int 0, .int 0, .int 0, .null, .null]))] := hD
  refine lv_aload_n hx hb d_M_init_9 rfl (lv_at hl 0 rfl) ?_
  refine lv_iconst (v := 4) hx hb d_M_init_10 (by decide) ?_
  refine va_put (D := D) (ci := 4) (v := .int 4) (ty := .int) (C := R_M) (T := F_M) (N := 22) hx hb htw i_M t_M t_M_ok n_M hown hK hP hD hS 0 rfl rfl 2 (by decide) (htw _ mM_7) (fun _ h9 => h9) rfl (by decide +kernel) rfl rfl (Nat.le_of_ble_eq_true rfl) d_M_init_11 (fun H locs hP hD hS => ?_)
  have hP : va_P D kcl [(h0, .inr (4, [.int 0, .int 2, .int 4, .int 0, .null, .null, .null, .null, .null, .null, .null, .null, .null, .null, .null, .int 0, .int 0, .int 0, .int 0, .int 0, .null, .null]))] H := hP
  have hD : va_D (va_A [(h0, .inr (4, [.int 0, .int 0, .int 0, .int 0, .null, .null, .null, .null, .null, .null, .null, .null, .null, .null, .null, .int 0, .int 0, .int 0, .int 0, .int 0, .null, .null]))] sz) [(h0, .inr (4, [.int 0, .int 2, .int 4, .int 0, .null, .null, .null, .null, .null, .null, .null, .null, .null, .null, .null, .int 0, .int 0, .int 0, .int 0, .int 0, .null, .null]))] := hD
  refine lv_aload_n hx hb d_M_init_14 rfl (lv_at hl 0 rfl) ?_
  refine lv_bipush (v := 10) hx hb d_M_init_15 (by decide) ?_
  refine va_newa (atype := .int) (a0 := (10, .inl (fun _ => 0))) (N' := 10) (ty := .int) hx hb (htw _ mM_167) rfl hK hP hD hS hA (fun _ => rfl) (by decide) (by decide) (by decide) (Nat.le_of_ble_eq_true rfl) (Nat.le_of_ble_eq_true rfl) d_M_init_17 (fun q1 c1 H hK hP hD hS => ?_)
  refine W.cs (cells' := 1) (slots' := 10) rfl rfl ?_
  have hP : va_P D kcl [(h0, .inr (4, [.int 0, .int 2, .int 4, .int 0, .null, .null, .null, .null, .null, .null, .null, .null, .null, .null, .null, .int 0, .int 0, .int 0, .int 0, .int 0, .null, .null])), (q1, .inl (c1, 10, .inl (fun _ => 0)))] H := hP
  have hD : va_D (va_A [(h0, .inr (4, [.int 0, .int 0, .int 0, .int 0, .null, .null, .null, .null, .null, .null, .null, .null, .null, .null, .null, .int 0, .int 0, .int 0, .int 0, .int 0, .null, .null]))] sz) [(h0, .inr (4, [.int 0, .int 2, .int 4, .int 0, .null, .null, .null, .null, .null, .null, .null, .null, .null, .null, .null, .int 0, .int 0, .int 0, .int 0, .int 0, .null, .null])), (q1, .inl (c1, 10, .inl (fun _ => 0)))] := hD
  have hK : va_K D kcl [(c1, .int)] s := hK
  refine va_putF (D := D) (ci := 4) (v := .ref q1) (ty := .array .int) (C := R_M) (T := F_M) (N := 22) hx hb htw i_M t_M t_M_ok n_M hown hK hP hD hS 0 rfl rfl 4 (by decide) (htw _ mM_9) (fun _ h9 => h9) rfl hin rfl (by decide +kernel) rfl rfl (Nat.le_of_ble_eq_true rfl) d_M_init_19 (fun H locs hP hD hS => ?_)
  have hP : va_P D kcl [(h0, .inr (4, [.int 0, .int 2, .int 4, .int 0, .ref q1, .null, .null, .null, .null, .null, .null, .null, .null, .null, .null, .int 0, .int 0, .int 0, .int 0, .int 0, .null, .null])), (q1, .inl (c1, 10, .inl (fun _ => 0)))] H := hP
  have hD : va_D (va_A [(h0, .inr (4, [.int 0, .int 0, .int 0, .int 0, .null, .null, .null, .null, .null, .null, .null, .null, .null, .null, .null, .int 0, .int 0, .int 0, .int 0, .int 0, .null, .null]))] sz) [(h0, .inr (4, [.int 0, .int 2, .int 4, .int 0, .ref q1, .null, .null, .null, .null, .null, .null, .null, .null, .null, .null, .int 0, .int 0, .int 0, .int 0, .int 0, .null, .null])), (q1, .inl (c1, 10, .inl (fun _ => 0)))] := hD
  refine lv_aload_n hx hb d_M_init_22 rfl (lv_at hl 0 rfl) ?_
  refine lv_bipush (v := 10) hx hb d_M_init_23 (by decide) ?_
  refine va_newa (atype := .int) (a0 := (10, .inl (fun _ => 0))) (N' := 10) (ty := .int) hx hb (htw _ mM_167) rfl hK hP hD hS hA (fun _ => rfl) (by decide) (by decide) (by decide) (Nat.le_of_ble_eq_true rfl) (Nat.le_of_ble_eq_true rfl) d_M_init_25 (fun q2 c2 H hK hP hD hS => ?_)
  refine W.cs (cells' := 2) (slots' := 20) rfl rfl ?_
  have hP : va_P D kcl [(h0, .inr (4, [.int 0, .int 2, .int 4, .int 0, .ref q1, .null, .null, .null, .null, .null, .null, .null, .null, .null, .null, .int 0, .int 0, .int 0, .int 0, .int 0, .null, .null])), (q1, .inl (c1, 10, .inl (fun _ => 0))), (q2, .inl (c2, 10, .inl (fun _ => 0)))] H := hP
  have hD : va_D (va_A [(h0, .inr (4, [.int 0, .int 0, .int 0, .int 0, .null, .null, .null, .null, .null, .null, .null, .null, .null, .null, .null, .int 0, .int 0, .int 0, .int 0, .int 0, .null, .null]))] sz) [(h0, .inr (4, [.int 0, .int 2, .int 4, .int 0, .ref q1, .null, .null, .null, .null, .null, .null, .null, .null, .null, .null, .int 0, .int 0, .int 0, .int 0, .int 0, .null, .null])), (q1, .inl (c1, 10, .inl (fun _ => 0))), (q2, .inl (c2, 10, .inl (fun _ => 0)))] := hD
  have hK : va_K D kcl [(c1, .int), (c2, .int)] s := hK
  refine va_putF (D := D) (ci := 4) (v := .ref q2) (ty := .array .int) (C := R_M) (T := F_M) (N := 22) hx hb htw i_M t_M t_M_ok n_M hown hK hP hD hS 0 rfl rfl 5 (by decide) (htw _ mM_10) (fun _ h9 => h9) rfl hin rfl (by decide +kernel) rfl rfl (Nat.le_of_ble_eq_true rfl) d_M_init_27 (fun H locs hP hD hS => ?_)
  have hP : va_P D kcl [(h0, .inr (4, [.int 0, .int 2, .int 4, .int 0, .ref q1, .ref q2, .null, .null, .null, .null, .null, .null, .null, .null, .null, .int 0, .int 0, .int 0, .int 0, .int 0, .null, .null])), (q1, .inl (c1, 10, .inl (fun _ => 0))), (q2, .inl (c2, 10, .inl (fun _ => 0)))] H := hP
  have hD : va_D (va_A [(h0, .inr (4, [.int 0, .int 0, .int 0, .int 0, .null, .null, .null, .null, .null, .null, .null, .null, .null, .null, .null, .int 0, .int 0, .int 0, .int 0, .int 0, .null, .null]))] sz) [(h0, .inr (4, [.int 0, .int 2, .int 4, .int 0, .ref q1, .ref q2, .null, .null, .null, .null, .null, .null, .null, .null, .null, .int 0, .int 0, .int 0, .int 0, .int 0, .null, .null])), (q1, .inl (c1, 10, .inl (fun _ => 0))), (q2, .inl (c2, 10, .inl (fun _ => 0)))] := hD
  refine lv_aload_n hx hb d_M_init_30 rfl (lv_at hl 0 rfl) ?_
  refine lv_bipush (v := 10) hx hb d_M_init_31 (by decide) ?_
  refine va_newa (atype := .int) (a0 := (10, .inl (fun _ => 0))) (N' := 10) (ty := .int) hx hb (htw _ mM_167) rfl hK hP hD hS hA (fun _ => rfl) (by decide) (by decide) (by decide) (Nat.le_of_ble_eq_true rfl) (Nat.le_of_ble_eq_true rfl) d_M_init_33 (fun q3 c3 H hK hP hD hS => ?_)
  refine W.cs (cells' := 3) (slots' := 30) rfl rfl ?_
  have hP : va_P D kcl [(h0, .inr (4, [.int 0, .int 2, .int 4, .int 0, .ref q1, .ref q2, .null, .null, .null, .null, .null, .null, .null, .null, .null, .int 0, .int 0, .int 0, .int 0, .int 0, .null, .null])), (q1, .inl (c1, 10, .inl (fun _ => 0))), (q2, .inl (c2, 10, .inl (fun _ => 0))), (q3, .inl (c3, 10, .inl (fun _ => 0)))] H := hP
  have hD : va_D (va_A [(h0, .inr (4, [.int 0, .int 0, .int 0, .int 0, .null, .null, .null, .null, .null, .null, .null, .null, .null, .null, .null, .int 0, .int 0, .int 0, .int 0, .int 0, .null, .null]))] sz) [(h0, .inr (4, [.int 0, .int 2, .int 4, .int 0, .ref q1, .ref q2, .null, .null, .null, .null, .null, .null, .null, .null, .null, .int 0, .int 0, .int 0, .int 0, .int 0, .null, .null])), (q1, .inl (c1, 10, .inl (fun _ => 0))), (q2, .inl (c2, 10, .inl (fun _ => 0))), (q3, .inl (c3, 10, .inl (fun _ => 0)))] := hD
  have hK : va_K D kcl [(c1, .int), (c2, .int), (c3, .int)] s := hK
  refine va_putF (D := D) (ci := 4) (v := .ref q3) (ty := .array .int) (C := R_M) (T := F_M) (N := 22) hx hb htw i_M t_M t_M_ok n_M hown hK hP hD hS 0 rfl rfl 6 (by decide) (htw _ mM_11) (fun _ h9 => h9) rfl hin rfl (by decide +kernel) rfl rfl (Nat.le_of_ble_eq_true rfl) d_M_init_35 (fun H locs hP hD hS => ?_)
  have hP : va_P D kcl [(h0, .inr (4, [.int 0, .int 2, .int 4, .int 0, .ref q1, .ref q2, .ref q3, .null, .null, .null, .null, .null, .null, .null, .null, .int 0, .int 0, .int 0, .int 0, .int 0, .null, .null])), (q1, .inl (c1, 10, .inl (fun _ => 0))), (q2, .inl (c2, 10, .inl (fun _ => 0))), (q3, .inl (c3, 10, .inl (fun _ => 0)))] H := hP
  have hD : va_D (va_A [(h0, .inr (4, [.int 0, .int 0, .int 0, .int 0, .null, .null, .null, .null, .null, .null, .null, .null, .null, .null, .null, .int 0, .int 0, .int 0, .int 0, .int 0, .null, .null]))] sz) [(h0, .inr (4, [.int 0, .int 2, .int 4, .int 0, .ref q1, .ref q2, .ref q3, .null, .null, .null, .null, .null, .null, .null, .null, .int 0, .int 0, .int 0, .int 0, .int 0, .null, .null])), (q1, .inl (c1, 10, .inl (fun _ => 0))), (q2, .inl (c2, 10, .inl (fun _ => 0))), (q3, .inl (c3, 10, .inl (fun _ => 0)))] := hD
  refine lv_aload_n hx hb d_M_init_38 rfl (lv_at hl 0 rfl) ?_
  refine lv_bipush (v := 10) hx hb d_M_init_39 (by decide) ?_
  refine va_newa (atype := .int) (a0 := (10, .inl (fun _ => 0))) (N' := 10) (ty := .int) hx hb (htw _ mM_167) rfl hK hP hD hS hA (fun _ => rfl) (by decide) (by decide) (by decide) (Nat.le_of_ble_eq_true rfl) (Nat.le_of_ble_eq_true rfl) d_M_init_41 (fun q4 c4 H hK hP hD hS => ?_)
  refine W.cs (cells' := 4) (slots' := 40) rfl rfl ?_
  have hP : va_P D kcl [(h0, .inr (4, [.int 0, .int 2, .int 4, .int 0, .ref q1, .ref q2, .ref q3, .null, .null, .null, .null, .null, .null, .null, .null, .int 0, .int 0, .int 0, .int 0, .int 0, .null, .null])), (q1, .inl (c1, 10, .inl (fun _ => 0))), (q2, .inl (c2, 10, .inl (fun _ => 0))), (q3, .inl (c3, 10, .inl (fun _ => 0))), (q4, .inl (c4, 10, .inl (fun _ => 0)))] H := hP
  have hD : va_D (va_A [(h0, .inr (4, [.int 0, .int 0, .int 0, .int 0, .null, .null, .null, .null, .null, .null, .null, .null, .null, .null, .null, .int 0, .int 0, .int 0, .int 0, .int 0, .null, .null]))] sz) [(h0, .inr (4, [.int 0, .int 2, .int 4, .int 0, .ref q1, .ref q2, .ref q3, .null, .null, .null, .null, .null, .null, .null, .null, .int 0, .int 0, .int 0, .int 0, .int 0, .null, .null])), (q1, .inl (c1, 10, .inl (fun _ => 0))), (q2, .inl (c2, 10, .inl (fun _ => 0))), (q3, .inl (c3, 10, .inl (fun _ => 0))), (q4, .inl (c4, 10, .inl (fun _ => 0)))] := hD
  have hK : va_K D kcl [(c1, .int), (c2, .int), (c3, .int), (c4, .int)] s := hK
  refine va_putF (D := D) (ci := 4) (v := .ref q4) (ty := .array .int) (C := R_M) (T := F_M) (N := 22) hx hb htw i_M t_M t_M_ok n_M hown hK hP hD hS 0 rfl rfl 7 (by decide) (htw _ mM_12) (fun _ h9 => h9) rfl hin rfl (by decide +kernel) rfl rfl (Nat.le_of_ble_eq_true rfl) d_M_init_43 (fun H locs hP hD hS => ?_)
  have hP : va_P D kcl [(h0, .inr (4, [.int 0, .int 2, .int 4, .int 0, .ref q1, .ref q2, .ref q3, .ref q4, .null, .null, .null, .null, .null, .null, .null, .int 0, .int 0, .int 0, .int 0, .int 0, .null, .null])), (q1, .inl (c1, 10, .inl (fun _ => 0))), (q2, .inl (c2, 10, .inl (fun _ => 0))), (q3, .inl (c3, 10, .inl (fun _ => 0))), (q4, .inl (c4, 10, .inl (fun _ => 0)))] H := hP
  have hD : va_D (va_A [(h0, .inr (4, [.int 0, .int 0, .int 0, .int 0, .null, .null, .null, .null, .null, .null, .null, .null, .null, .null, .null, .int 0, .int 0, .int 0, .int 0, .int 0, .null, .null]))] sz) [(h0, .inr (4, [.int 0, .int 2, .int 4, .int 0, .ref q1, .ref q2, .ref q3, .ref q4, .null, .null, .null, .null, .null, .null, .null, .int 0, .int 0, .int 0, .int 0, .int 0, .null, .null])), (q1, .inl (c1, 10, .inl (fun _ => 0))), (q2, .inl (c2, 10, .inl (fun _ => 0))), (q3, .inl (c3, 10, .inl (fun _ => 0))), (q4, .inl (c4, 10, .inl (fun _ => 0)))] := hD
  refine lv_aload_n hx hb d_M_init_46 rfl (lv_at hl 0 rfl) ?_
  refine lv_sipush (v := 300) hx hb d_M_init_47 (by decide) ?_
  refine va_newa (atype := .int) (a0 := (300, .inl (fun _ => 0))) (N' := 300) (ty := .int) hx hb (htw _ mM_167) rfl hK hP hD hS hA (fun _ => rfl) (by decide) (by decide) (by decide) (Nat.le_of_ble_eq_true rfl) (Nat.le_of_ble_eq_true rfl) d_M_init_50 (fun q5 c5 H hK hP hD hS => ?_)
  refine W.cs (cells' := 5) (slots' := 340) rfl rfl ?_
  have hP : va_P D kcl [(h0, .inr (4, [.int 0, .int 2, .int 4, .int 0, .ref q1, .ref q2, .ref q3, .ref q4, .null, .null, .null, .null, .null, .null, .null, .int 0, .int 0, .int 0, .int 0, .int 0, .null, .null])), (q1, .inl (c1, 10, .inl (fun _ => 0))), (q2, .inl (c2, 10, .inl (fun _ => 0))), (q3, .inl (c3, 10, .inl (fun _ => 0))), (q4, .inl (c4, 10, .inl (fun _ => 0))), (q5, .inl (c5, 300, .inl (fun _ => 0)))] H := hP
  have hD : va_D (va_A [(h0, .inr (4, [.int 0, .int 0, .int 0, .int 0, .null, .null, .null, .null, .null, .null, .null, .null, .null, .null, .null, .int 0, .int 0, .int 0, .int 0, .int 0, .null, .null]))] sz) [(h0, .inr (4, [.int 0, .int 2, .int 4, .int 0, .ref q1, .ref q2, .ref q3, .ref q4, .null, .null, .null, .null, .null, .null, .null, .int 0, .int 0, .int 0, .int 0, .int 0, .null, .null])), (q1, .inl (c1, 10, .inl (fun _ => 0))), (q2, .inl (c2, 10, .inl (fun _ => 0))), (q3, .inl (c3, 10, .inl (fun _ => 0))), (q4, .inl (c4, 10, .inl (fun _ => 0))), (q5, .inl (c5, 300, .inl (fun _ => 0)))] := hD
  have hK : va_K D kcl [(c1, .int), (c2, .int), (c3, .int), (c4, .int), (c5, .int)] s := hK
  refine va_putF (D := D) (ci := 4) (v := .ref q5) (ty := .array .int) (C := R_M) (T := F_M) (N := 22) hx hb htw i_M t_M t_M_ok n_M hown hK hP hD hS 0 rfl rfl 8 (by decide) (htw _ mM_13) (fun _ h9 => h9) rfl hin rfl (by decide +kernel) rfl rfl (Nat.le_of_ble_eq_true rfl) d_M_init_52 (fun H locs hP hD hS => ?_)
  have hP : va_P D kcl [(h0, .inr (4, [.int 0, .int 2, .int 4, .int 0, .ref q1, .ref q2, .ref q3, .ref q4, .ref q5, .null, .null, .null, .null, .null, .null, .int 0, .int 0, .int 0, .int 0, .int 0, .null, .null])), (q1, .inl (c1, 10, .inl (fun _ => 0))), (q2, .inl (c2, 10, .inl (fun _ => 0))), (q3, .inl (c3, 10, .inl (fun _ => 0))), (q4, .inl (c4, 10, .inl (fun _ => 0))), (q5, .inl (c5, 300, .inl (fun _ => 0)))] H := hP
  have hD : va_D (va_A [(h0, .inr (4, [.int 0, .int 0, .int 0, .int 0, .null, .null, .null, .null, .null, .null, .null, .null, .null, .null, .null, .int 0, .int 0, .int 0, .int 0, .int 0, .null, .null]))] sz) [(h0, .inr (4, [.int 0, .int 2, .int 4, .int 0, .ref q1, .ref q2, .ref q3, .ref q4, .ref q5, .null, .null, .null, .null, .null, .null, .int 0, .int 0, .int 0, .int 0, .int 0, .null, .null])), (q1, .inl (c1, 10, .inl (fun _ => 0))), (q2, .inl (c2, 10, .inl (fun _ => 0))), (q3, .inl (c3, 10, .inl (fun _ => 0))), (q4, .inl (c4, 10, .inl (fun _ => 0))), (q5, .inl (c5, 300, .inl (fun _ => 0)))] := hD
  refine lv_aload_n hx hb d_M_init_55 rfl (lv_at hl 0 rfl) ?_
  refine lv_bipush (v := 60) hx hb d_M_init_56 (by decide) ?_
  refine va_newa (atype := .int) (a0 := (60, .inl (fun _ => 0))) (N' := 60) (ty := .int) hx hb (htw _ mM_167) rfl hK hP hD hS hA (fun _ => rfl) (by decide) (by decide) (by decide) (Nat.le_of_ble_eq_true rfl) (Nat.le_of_ble_eq_true rfl) d_M_init_58 (fun q6 c6 H hK hP hD hS => ?_)
  refine W.cs (cells' := 6) (slots' := 400) rfl rfl ?_
  have hP : va_P D kcl [(h0, .inr (4, [.int 0, .int 2, .int 4, .int 0, .ref q1, .ref q2, .ref q3, .ref q4, .ref q5, .null, .null, .null, .null, .null, .null, .int 0, .int 0, .int 0, .int 0, .int 0, .null, .null])), (q1, .inl (c1, 10, .inl (fun _ => 0))), (q2, .inl (c2, 10, .inl (fun _ => 0))), (q3, .inl (c3, 10, .inl (fun _ => 0))), (q4, .inl (c4, 10, .inl (fun _ => 0))), (q5, .inl (c5, 300, .inl (fun _ => 0))), (q6, .inl (c6, 60, .inl (fun _ => 0)))] H := hP
  have hD : va_D (va_A [(h0, .inr (4, [.int 0, .int 0, .int 0, .int 0, .null, .null, .null, .null, .null, .null, .null, .null, .null, .null, .null, .int 0, .int 0, .int 0, .int 0, .int 0, .null, .null]))] sz) [(h0, .inr (4, [.int 0, .int 2, .int 4, .int 0, .ref q1, .ref q2, .ref q3, .ref q4, .ref q5, .null, .null, .null, .null, .null, .null, .int 0, .int 0, .int 0, .int 0, .int 0, .null, .null])), (q1, .inl (c1, 10, .inl (fun _ => 0))), (q2, .inl (c2, 10, .inl (fun _ => 0))), (q3, .inl (c3, 10, .inl (fun _ => 0))), (q4, .inl (c4, 10, .inl (fun _ => 0))), (q5, .inl (c5, 300, .inl (fun _ => 0))), (q6, .inl (c6, 60, .inl (fun _ => 0)))] := hD
  have hK : va_K D kcl [(c1, .int), (c2, .int), (c3, .int), (c4, .int), (c5, .int), (c6, .int)] s := hK
  refine va_putF (D := D) (ci := 4) (v := .ref q6) (ty := .array .int) (C := R_M) (T := F_M) (N := 22) hx hb htw i_M t_M t_M_ok n_M hown hK hP hD hS 0 rfl rfl 9 (by decide) (htw _ mM_14) (fun _ h9 => h9) rfl hin rfl (by decide +kernel) rfl rfl (Nat.le_of_ble_eq_true rfl) d_M_init_60 (fun H locs hP hD hS => ?_)
  have hP : va_P D kcl [(h0, .inr (4, [.int 0, .int 2, .int 4, .int 0, .ref q1, .ref q2, .ref q3, .ref q4, .ref q5, .ref q6, .null, .null, .null, .null, .null, .int 0, .int 0, .int 0, .int 0, .int 0, .null, .null])), (q1, .inl (c1, 10, .inl (fun _ => 0))), (q2, .inl (c2, 10, .inl (fun _ => 0))), (q3, .inl (c3, 10, .inl (fun _ => 0))), (q4, .inl (c4, 10, .inl (fun _ => 0))), (q5, .inl (c5, 300, .inl (fun _ => 0))), (q6, .inl (c6, 60, .inl (fun _ => 0)))] H := hP
  have hD : va_D (va_A [(h0, .inr (4, [.int 0, .int 0, .int 0, .int 0, .null, .null, .null, .null, .null, .null, .null, .null, .null, .null, .null, .int 0, .int 0, .int 0, .int 0, .int 0, .null, .null]))] sz) [(h0, .inr (4, [.int 0, .int 2, .int 4, .int 0, .ref q1, .ref q2, .ref q3, .ref q4, .ref q5, .ref q6, .null, .null, .null, .null, .null, .int 0, .int 0, .int 0, .int 0, .int 0, .null, .null])), (q1, .inl (c1, 10, .inl (fun _ => 0))), (q2, .inl (c2, 10, .inl (fun _ => 0))), (q3, .inl (c3, 10, .inl (fun _ => 0))), (q4, .inl (c4, 10, .inl (fun _ => 0))), (q5, .inl (c5, 300, .inl (fun _ => 0))), (q6, .inl (c6, 60, .inl (fun _ => 0)))] := hD
  refine lv_aload_n hx hb d_M_init_63 rfl (lv_at hl 0 rfl) ?_
  refine lv_bipush (v := 15) hx hb d_M_init_64 (by decide) ?_
  refine va_newa (atype := .int) (a0 := (15, .inl (fun _ => 0))) (N' := 15) (ty := .int) hx hb (htw _ mM_167) rfl hK hP hD hS hA (fun _ => rfl) (by decide) (by decide) (by decide) (Nat.le_of_ble_eq_true rfl) (Nat.le_of_ble_eq_true rfl) d_M_init_66 (fun q7 c7 H hK hP hD hS => ?_)
  refine W.cs (cells' := 7) (slots' := 415) rfl rfl ?_
  have hP : va_P D kcl [(h0, .inr (4, [.int 0, .int 2, .int 4, .int 0, .ref q1, .ref q2, .ref q3, .ref q4, .ref q5, .ref q6, .null, .null, .null, .null, .null, .int 0, .int 0, .int 0, .int 0, .int 0, .null, .null])), (q1, .inl (c1, 10, .inl (fun _ => 0))), (q2, .inl (c2, 10, .inl (fun _ => 0))), (q3, .inl (c3, 10, .inl (fun _ => 0))), (q4, .inl (c4, 10, .inl (fun _ => 0))), (q5, .inl (c5, 300, .inl (fun _ => 0))), (q6, .inl (c6, 60, .inl (fun _ => 0))), (q7, .inl (c7, 15, .inl (fun _ => 0)))] H := hP
  have hD : va_D (va_A [(h0, .inr (4, [.int 0, .int 0, .int 0, .int 0, .null, .null, .null, .null, .null, .null, .null, .null, .null, .null, .null, .int 0, .int 0, .int 0, .int 0, .int 0, .null, .null]))] sz) [(h0, .inr (4, [.int 0, .int 2, .int 4, .int 0, .ref q1, .ref q2, .ref q3, .ref q4, .ref q5, .ref q6, .null, .null, .null, .null, .null, .int 0, .int 0, .int 0, .int 0, .int 0, .null, .null])), (q1, .inl (c1, 10, .inl (fun _ => 0))), (q2, .inl (c2, 10, .inl (fun _ => 0))), (q3, .inl (c3, 10, .inl (fun _ => 0))), (q4, .inl (c4, 10, .inl (fun _ => 0))), (q5, .inl (c5, 300, .inl (fun _ => 0))), (q6, .inl (c6, 60, .inl (fun _ => 0))), (q7, .inl (c7, 15, .inl (fun _ => 0)))] := hD
  have hK : va_K D kcl [(c1, .int), (c2, .int), (c3, .int), (c4, .int), (c5, .int), (c6, .int), (c7, .int)] s := hK
  refine va_putF (D := D) (ci := 4) (v := .ref q7) (ty := .array .int) (C := R_M) (T := F_M) (N := 22) hx hb htw i_M t_M t_M_ok n_M hown hK hP hD hS 0 rfl rfl 10 (by decide) (htw _ mM_15) (fun _ h9 => h9) rfl hin rfl (by decide +kernel) rfl rfl (Nat.le_of_ble_eq_true rfl) d_M_init_68 (fun H locs hP hD hS => ?_)
  have hP : va_P D kcl [(h0, .inr (4, [.int 0, .int 2, .int 4, .int 0, .ref q1, .ref q2, .ref q3, .ref q4, .ref q5, .ref q6, .ref q7, .null, .null, .null, .null, .int 0, .int 0, .int 0, .int 0, .int 0, .null, .null])), (q1, .inl (c1, 10, .inl (fun _ => 0))), (q2, .inl (c2, 10, .inl (fun _ => 0))), (q3, .inl (c3, 10, .inl (fun _ => 0))), (q4, .inl (c4, 10, .inl (fun _ => 0))), (q5, .inl (c5, 300, .inl (fun _ => 0))), (q6, .inl (c6, 60, .inl (fun _ => 0))), (q7, .inl (c7, 15, .inl (fun _ => 0)))] H := hP
  have hD : va_D (va_A [(h0, .inr (4, [.int 0, .int 0, .int 0, .int 0, .null, .null, .null, .null, .null, .null, .null, .null, .null, .null, .null, .int 0, .int 0, .int 0, .int 0, .int 0, .null, .null]))] sz) [(h0, .inr (4, [.int 0, .int 2, .int 4, .int 0, .ref q1, .ref q2, .ref q3, .ref q4, .ref q5, .ref q6, .ref q7, .null, .null, .null, .null, .int 0, .int 0, .int 0, .int 0, .int 0, .null, .null])), (q1, .inl (c1, 10, .inl (fun _ => 0))), (q2, .inl (c2, 10, .inl (fun _ => 0))), (q3, .inl (c3, 10, .inl (fun _ => 0))), (q4, .inl (c4, 10, .inl (fun _ => 0))), (q5, .inl (c5, 300, .inl (fun _ => 0))), (q6, .inl (c6, 60, .inl (fun _ => 0))), (q7, .inl (c7, 15, .inl (fun _ => 0)))] := hD
  refine lv_aload_n hx hb d_M_init_71 rfl (lv_at hl 0 rfl) ?_
  refine lv_bipush (v := 15) hx hb d_M_init_72 (by decide) ?_
  refine va_newa (atype := .int) (a0 := (15, .inl (fun _ => 0))) (N' := 15) (ty := .int) hx hb (htw _ mM_167) rfl hK hP hD hS hA (fun _ => rfl) (by decide) (by decide) (by decide) (Nat.le_of_ble_eq_true rfl) (Nat.le_of_ble_eq_true rfl) d_M_init_74 (fun q8 c8 H hK hP hD hS => ?_)
  refine W.cs (cells' := 8) (slots' := 430) rfl rfl ?_
  have hP : va_P D kcl [(h0, .inr (4, [.int 0, .int 2, .int 4, .int 0, .ref q1, .ref q2, .ref q3, .ref q4, .ref q5, .ref q6, .ref q7, .null, .null, .null, .null, .int 0, .int 0, .int 0, .int 0, .int 0, .null, .null])), (q1, .inl (c1, 10, .inl (fun _ => 0))), (q2, .inl (c2, 10, .inl (fun _ => 0))), (q3, .inl (c3, 10, .inl (fun _ => 0))), (q4, .inl (c4, 10, .inl (fun _ => 0))), (q5, .inl (c5, 300, .inl (fun _ => 0))), (q6, .inl (c6, 60, .inl (fun _ => 0))), (q7, .inl (c7, 15, .inl (fun _ => 0))), (q8, .inl (c8, 15, .inl (fun _ => 0)))] H := hP
  have hD : va_D (va_A [(h0, .inr (4, [.int 0, .int 0, .int 0, .int 0, .null, .null, .null, .null, .null, .null, .null, .null, .null, .null, .null, .int 0, .int 0, .int 0, .int 0, .int 0, .null, .null]))] sz) [(h0, .inr (4, [.int 0, .int 2, .int 4, .int 0, .ref q1, .ref q2, .ref q3, .ref q4, .ref q5, .ref q6, .ref q7, .null, .null, .null, .null, .int 0, .int 0, .int 0, .int 0, .int 0, .null, .null])), (q1, .inl (c1, 10, .inl (fun _ => 0))), (q2, .inl (c2, 10, .inl (fun _ => 0))), (q3, .inl (c3, 10, .inl (fun _ => 0))), (q4, .inl (c4, 10, .inl (fun _ => 0))), (q5, .inl (c5, 300, .inl (fun _ => 0))), (q6, .inl (c6, 60, .inl (fun _ => 0))), (q7, .inl (c7, 15, .inl (fun _ => 0))), (q8, .inl (c8, 15, .inl (fun _ => 0)))] := hD
  have hK : va_K D kcl [(c1, .int), (c2, .int), (c3, .int), (c4, .int), (c5, .int), (c6, .int), (c7, .int), (c8, .int)] s := hK
  refine va_putF (D := D) (ci := 4) (v := .ref q8) (ty := .array .int) (C := R_M) (T := F_M) (N := 22) hx hb htw i_M t_M t_M_ok n_M hown hK hP hD hS 0 rfl rfl 11 (by decide) (htw _ mM_16) (fun _ h9 => h9) rfl hin rfl (by decide +kernel) rfl rfl (Nat.le_of_ble_eq_true rfl) d_M_init_76 (fun H locs hP hD hS => ?_)
  have hP : va_P D kcl [(h0, .inr (4, [.int 0, .int 2, .int 4, .int 0, .ref q1, .ref q2, .ref q3, .ref q4, .ref q5, .ref q6, .ref q7, .ref q8, .null, .null, .null, .int 0, .int 0, .int 0, .int 0, .int 0, .null, .null])), (q1, .inl (c1, 10, .inl (fun _ => 0))), (q2, .inl (c2, 10, .inl (fun _ => 0))), (q3, .inl (c3, 10, .inl (fun _ => 0))), (q4, .inl (c4, 10, .inl (fun _ => 0))), (q5, .inl (c5, 300, .inl (fun _ => 0))), (q6, .inl (c6, 60, .inl (fun _ => 0))), (q7, .inl (c7, 15, .inl (fun _ => 0))), (q8, .inl (c8, 15, .inl (fun _ => 0)))] H := hP
  have hD : va_D (va_A [(h0, .inr (4, [.int 0, .int 0, .int 0, .int 0, .null, .null, .null, .null, .null, .null, .null, .null, .null, .null, .null, .int 0, .int 0, .int 0, .int 0, .int 0, .null, .null]))] sz) [(h0, .inr (4, [.int 0, .int 2, .int 4, .int 0, .ref q1, .ref q2, .ref q3, .ref q4, .ref q5, .ref q6, .ref q7, .ref q8, .null, .null, .null, .int 0, .int 0, .int 0, .int 0, .int 0, .null, .null])), (q1, .inl (c1, 10, .inl (fun _ => 0))), (q2, .inl (c2, 10, .inl (fun _ => 0))), (q3, .inl (c3, 10, .inl (fun _ => 0))), (q4, .inl (c4, 10, .inl (fun _ => 0))), (q5, .inl (c5, 300, .inl (fun _ => 0))), (q6, .inl (c6, 60, .inl (fun _ => 0))), (q7, .inl (c7, 15, .inl (fun _ => 0))), (q8, .inl (c8, 15, .inl (fun _ => 0)))] := hD
  refine lv_aload_n hx hb d_M_init_79 rfl (lv_at hl 0 rfl) ?_
  refine lv_bipush (v := 40) hx hb d_M_init_80 (by decide) ?_
  refine va_newa (atype := .int) (a0 := (40, .inl (fun _ => 0))) (N' := 40) (ty := .int) hx hb (htw _ mM_167) rfl hK hP hD hS hA (fun _ => rfl) (by decide) (by decide) (by decide) (Nat.le_of_ble_eq_true rfl) (Nat.le_of_ble_eq_true rfl) d_M_init_82 (fun q9 c9 H hK hP hD hS => ?_)
  refine W.cs (cells' := 9) (slots' := 470) rfl rfl ?_
  have hP : va_P D kcl [(h0, .inr (4, [.int 0, .int 2, .int 4, .int 0, .ref q1, .ref q2, .ref q3, .ref q4, .ref q5, .ref q6, .ref q7, .ref q8, .null, .null, .null, .int 0, .int 0, .int 0, .int 0, .int 0, .null, .null])), (q1, .inl (c1, 10, .inl (fun _ => 0))), (q2, .inl (c2, 10, .inl (fun _ => 0))), (q3, .inl (c3, 10, .inl (fun _ => 0))), (q4, .inl (c4, 10, .inl (fun _ => 0))), (q5, .inl (c5, 300, .inl (fun _ => 0))), (q6, .inl (c6, 60, .inl (fun _ => 0))), (q7, .inl (c7, 15, .inl (fun _ => 0))), (q8, .inl (c8, 15, .inl (fun _ => 0))), (q9, .inl (c9, 40, .inl (fun _ => 0)))] H := hP
  have hD : va_D (va_A [(h0, .inr (4, [.int 0, .int 0, .int 0, .int 0, .null, .null, .null, .null, .null, .null, .null, .null, .null, .null, .null, .int 0, .int 0, .int 0, .int 0, .int 0, .null, .null]))] sz) [(h0, .inr (4, [.int 0, .int 2, .int 4, .int 0, .ref q1, .ref q2, .ref q3, .ref q4, .ref q5, .ref q6, .ref q7, .ref q8, .null, .null, .null, .int 0, .int 0, .int 0, .int 0, .int 0, .null, .null])), (q1, .inl (c1, 10, .inl (fun _ => 0))), (q2, .inl (c2, 10, .inl (fun _ => 0))), (q3, .inl (c3, 10, .inl (fun _ => 0))), (q4, .inl (c4, 10, .inl (fun _ => 0))), (q5, .inl (c5, 300, .inl (fun _ => 0))), (q6, .inl (c6, 60, .inl (fun _ => 0))), (q7, .inl (c7, 15, .inl (fun _ => 0))), (q8, .inl (c8, 15, .inl (fun _ => 0))), (q9, .inl (c9, 40, .inl (fun _ => 0)))] := hD
  have hK : va_K D kcl [(c1, .int), (c2, .int), (c3, .int), (c4, .int), (c5, .int), (c6, .int), (c7, .int), (c8, .int), (c9, .int)] s := hK
  refine va_putF (D := D) (ci := 4) (v := .ref q9) (ty := .array .int) (C := R_M) (T := F_M) (N := 22) hx hb htw i_M t_M t_M_ok n_M hown hK hP hD hS 0 rfl rfl 12 (by decide) (htw _ mM_17) (fun _ h9 => h9) rfl hin rfl (by decide +kernel) rfl rfl (Nat.le_of_ble_eq_true rfl) d_M_init_84 (fun H locs hP hD hS => ?_)
  have hP : va_P D kcl [(h0, .inr (4, [.int 0, .int 2, .int 4, .int 0, .ref q1, .ref q2, .ref q3, .ref q4, .ref q5, .ref q6, .ref q7, .ref q8, .ref q9, .null, .null, .int 0, .int 0, .int 0, .int 0, .int 0, .null, .null])), (q1, .inl (c1, 10, .inl (fun _ => 0))), (q2, .inl (c2, 10, .inl (fun _ => 0))), (q3, .inl (c3, 10, .inl (fun _ => 0))), (q4, .inl (c4, 10, .inl (fun _ => 0))), (q5, .inl (c5, 300, .inl (fun _ => 0))), (q6, .inl (c6, 60, .inl (fun _ => 0))), (q7, .inl (c7, 15, .inl (fun _ => 0))), (q8, .inl (c8, 15, .inl (fun _ => 0))), (q9, .inl (c9, 40, .inl (fun _ => 0)))] H := hP
  have hD : va_D (va_A [(h0, .inr (4, [.int 0, .int 0, .int 0, .int 0, .null, .null, .null, .null, .null, .null, .null, .null, .null, .null, .null, .int 0, .int 0, .int 0, .int 0, .int 0, .null, .null]))] sz) [(h0, .inr (4, [.int 0, .int 2, .int 4, .int 0, .ref q1, .ref q2, .ref q3, .ref q4, .ref q5, .ref q6, .ref q7, .ref q8, .ref q9, .null, .null, .int 0, .int 0, .int 0, .int 0, .int 0, .null, .null])), (q1, .inl (c1, 10, .inl (fun _ => 0))), (q2, .inl (c2, 10, .inl (fun _ => 0))), (q3, .inl (c3, 10, .inl (fun _ => 0))), (q4, .inl (c4, 10, .inl (fun _ => 0))), (q5, .inl (c5, 300, .inl (fun _ => 0))), (q6, .inl (c6, 60, .inl (fun _ => 0))), (q7, .inl (c7, 15, .inl (fun _ => 0))), (q8, .inl (c8, 15, .inl (fun _ => 0))), (q9, .inl (c9, 40, .inl (fun _ => 0)))] := hD
  refine lv_aload_n hx hb d_M_init_87 rfl (lv_at hl 0 rfl) ?_
  refine lv_bipush (v := 40) hx hb d_M_init_88 (by decide) ?_
  refine va_newa (atype := .int) (a0 := (40, .inl (fun _ => 0))) (N' := 40) (ty := .int) hx hb (htw _ mM_167) rfl hK hP hD hS hA (fun _ => rfl) (by decide) (by decide) (by decide) (Nat.le_of_ble_eq_true rfl) (Nat.le_of_ble_eq_true rfl) d_M_init_90 (fun q10 c10 H hK hP hD hS => ?_)
  refine W.cs (cells' := 10) (slots' := 510) rfl rfl ?_
  have hP : va_P D kcl [(h0, .inr (4, [.int 0, .int 2, .int 4, .int 0, .ref q1, .ref q2, .ref q3, .ref q4, .ref q5, .ref q6, .ref q7, .ref q8, .ref q9, .null, .null, .int 0, .int 0, .int 0, .int 0, .int 0, .null, .null])), (q1, .inl (c1, 10, .inl (fun _ => 0))), (q2, .inl (c2, 10, .inl (fun _ => 0))), (q3, .inl (c3, 10, .inl (fun _ => 0))), (q4, .inl (c4, 10, .inl (fun _ => 0))), (q5, .inl (c5, 300, .inl (fun _ => 0))), (q6, .inl (c6, 60, .inl (fun _ => 0))), (q7, .inl (c7, 15, .inl (fun _ => 0))), (q8, .inl (c8, 15, .inl (fun _ => 0))), (q9, .inl (c9, 40, .inl (fun _ => 0))), (q10, .inl (c10, 40, .inl (fun _ => 0)))] H := hP
  have hD : va_D (va_A [(h0, .inr (4, [.int 0, .int 0, .int 0, .int 0, .null, .null, .null, .null, .null, .null, .null, .null, .null, .null, .null, .int 0, .int 0, .int 0, .int 0, .int 0, .null, .null]))] sz) [(h0, .inr (4, [.int 0, .int 2, .int 4, .int 0, .ref q1, .ref q2, .ref q3, .ref q4, .ref q5, .ref q6, .ref q7, .ref q8, .ref q9, .null, .null, .int 0, .int 0, .int 0, .int 0, .int 0, .null, .null])), (q1, .inl (c1, 10, .inl (fun _ => 0))), (q2, .inl (c2, 10, .inl (fun _ => 0))), (q3, .inl (c3, 10, .inl (fun _ => 0))), (q4, .inl (c4, 10, .inl (fun _ => 0))), (q5, .inl (c5, 300, .inl (fun _ => 0))), (q6, .inl (c6, 60, .inl (fun _ => 0))), (q7, .inl (c7, 15, .inl (fun _ => 0))), (q8, .inl (c8, 15, .inl (fun _ => 0))), (q9, .inl (c9, 40, .inl (fun _ => 0))), (q10, .inl (c10, 40, .inl (fun _ => 0)))] := hD
  have hK : va_K D kcl [(c1, .int), (c2, .int), (c3, .int), (c4, .int), (c5, .int), (c6, .int), (c7, .int), (c8, .int), (c9, .int), (c10, .int)] s := hK
  refine va_putF (D := D) (ci := 4) (v := .ref q10) (ty := .array .int) (C := R_M) (T := F_M) (N := 22) hx hb htw i_M t_M t_M_ok n_M hown hK hP hD hS 0 rfl rfl 13 (by decide) (htw _ mM_18) (fun _ h9 => h9) rfl hin rfl (by decide +kernel) rfl rfl (Nat.le_of_ble_eq_true rfl) d_M_init_92 (fun H locs hP hD hS => ?_)
  have hP : va_P D kcl [(h0, .inr (4, [.int 0, .int 2, .int 4, .int 0, .ref q1, .ref q2, .ref q3, .ref q4, .ref q5, .ref q6, .ref q7, .ref q8, .ref q9, .ref q10, .null, .int 0, .int 0, .int 0, .int 0, .int 0, .null, .null])), (q1, .inl (c1, 10, .inl (fun _ => 0))), (q2, .inl (c2, 10, .inl (fun _ => 0))), (q3, .inl (c3, 10, .inl (fun _ => 0))), (q4, .inl (c4, 10, .inl (fun _ => 0))), (q5, .inl (c5, 300, .inl (fun _ => 0))), (q6, .inl (c6, 60, .inl (fun _ => 0))), (q7, .inl (c7, 15, .inl (fun _ => 0))), (q8, .inl (c8, 15, .inl (fun _ => 0))), (q9, .inl (c9, 40, .inl (fun _ => 0))), (q10, .inl (c10, 40, .inl (fun _ => 0)))] H := hP
  have hD : va_D (va_A [(h0, .inr (4, [.int 0, .int 0, .int 0, .int 0, .null, .null, .null, .null, .null, .null, .null, .null, .null, .null, .null, .int 0, .int 0, .int 0, .int 0, .int 0, .null, .null]))] sz) [(h0, .inr (4, [.int 0, .int 2, .int 4, .int 0, .ref q1, .ref q2, .ref q3, .ref q4, .ref q5, .ref q6, .ref q7, .ref q8, .ref q9, .ref q10, .null, .int 0, .int 0, .int 0, .int 0, .int 0, .null, .null])), (q1, .inl (c1, 10, .inl (fun _ => 0))), (q2, .inl (c2, 10, .inl (fun _ => 0))), (q3, .inl (c3, 10, .inl (fun _ => 0))), (q4, .inl (c4, 10, .inl (fun _ => 0))), (q5, .inl (c5, 300, .inl (fun _ => 0))), (q6, .inl (c6, 60, .inl (fun _ => 0))), (q7, .inl (c7, 15, .inl (fun _ => 0))), (q8, .inl (c8, 15, .inl (fun _ => 0))), (q9, .inl (c9, 40, .inl (fun _ => 0))), (q10, .inl (c10, 40, .inl (fun _ => 0)))] := hD
  refine lv_aload_n hx hb d_M_init_95 rfl (lv_at hl 0 rfl) ?_
  refine lv_bipush (v := 15) hx hb d_M_init_96 (by decide) ?_
  refine va_newa (atype := .int) (a0 := (15, .inl (fun _ => 0))) (N' := 15) (ty := .int) hx hb (htw _ mM_167) rfl hK hP hD hS hA (fun _ => rfl) (by decide) (by decide) (by decide) (Nat.le_of_ble_eq_true rfl) (Nat.le_of_ble_eq_true rfl) d_M_init_98 (fun q11 c11 H hK hP hD hS => ?_)
  refine W.cs (cells' := 11) (slots' := 525) rfl rfl ?_
  have hP : va_P D kcl [(h0, .inr (4, [.int 0, .int 2, .int 4, .int 0, .ref q1, .ref q2, .ref q3, .ref q4, .ref q5, .ref q6, .ref q7, .ref q8, .ref q9, .ref q10, .null, .int 0, .int 0, .int 0, .int 0, .int 0, .null, .null])), (q1, .inl (c1, 10, .inl (fun _ => 0))), (q2, .inl (c2, 10, .inl (fun _ => 0))), (q3, .inl (c3, 10, .inl (fun _ => 0))), (q4, .inl (c4, 10, .inl (fun _ => 0))), (q5, .inl (c5, 300, .inl (fun _ => 0))), (q6, .inl (c6, 60, .inl (fun _ => 0))), (q7, .inl (c7, 15, .inl (fun _ => 0))), (q8, .inl (c8, 15, .inl (fun _ => 0))), (q9, .inl (c9, 40, .inl (fun _ => 0))), (q10, .inl (c10, 40, .inl (fun _ => 0))), (q11, .inl (c11, 15, .inl (fun _ => 0)))] H := hP
  have hD : va_D (va_A [(h0, .inr (4, [.int 0, .int 0, .int 0, .int 0, .null, .null, .null, .null, .null, .null, .null, .null, .null, .null, .null, .int 0, .int 0, .int 0, .int 0, .int 0, .null, .null]))] sz) [(h0, .inr (4, [.int 0, .int 2, .int 4, .int 0, .ref q1, .ref q2, .ref q3, .ref q4, .ref q5, .ref q6, .ref q7, .ref q8, .ref q9, .ref q10, .null, .int 0, .int 0, .int 0, .int 0, .int 0, .null, .null])), (q1, .inl (c1, 10, .inl (fun _ => 0))), (q2, .inl (c2, 10, .inl (fun _ => 0))), (q3, .inl (c3, 10, .inl (fun _ => 0))), (q4, .inl (c4, 10, .inl (fun _ => 0))), (q5, .inl (c5, 300, .inl (fun _ => 0))), (q6, .inl (c6, 60, .inl (fun _ => 0))), (q7, .inl (c7, 15, .inl (fun _ => 0))), (q8, .inl (c8, 15, .inl (fun _ => 0))), (q9, .inl (c9, 40, .inl (fun _ => 0))), (q10, .inl (c10, 40, .inl (fun _ => 0))), (q11, .inl (c11, 15, .inl (fun _ => 0)))] := hD
  have hK : va_K D kcl [(c1, .int), (c2, .int), (c3, .int), (c4, .int), (c5, .int), (c6, .int), (c7, .int), (c8, .int), (c9, .int), (c10, .int), (c11, .int)] s := hK
  refine va_putF (D := D) (ci := 4) (v := .ref q11) (ty := .array .int) (C := R_M) (T := F_M) (N := 22) hx hb htw i_M t_M t_M_ok n_M hown hK hP hD hS 0 rfl rfl 14 (by decide) (htw _ mM_19) (fun _ h9 => h9) rfl hin rfl (by decide +kernel) rfl rfl (Nat.le_of_ble_eq_true rfl) d_M_init_100 (fun H locs hP hD hS => ?_)
  have hP : va_P D kcl [(h0, .inr (4, [.int 0, .int 2, .int 4, .int 0, .ref q1, .ref q2, .ref q3, .ref q4, .ref q5, .ref q6, .ref q7, .ref q8, .ref q9, .ref q10, .ref q11, .int 0, .int 0, .int 0, .int 0, .int 0, .null, .null])), (q1, .inl (c1, 10, .inl (fun _ => 0))), (q2, .inl (c2, 10, .inl (fun _ => 0))), (q3, .inl (c3, 10, .inl (fun _ => 0))), (q4, .inl (c4, 10, .inl (fun _ => 0))), (q5, .inl (c5, 300, .inl (fun _ => 0))), (q6, .inl (c6, 60, .inl (fun _ => 0))), (q7, .inl (c7, 15, .inl (fun _ => 0))), (q8, .inl (c8, 15, .inl (fun _ => 0))), (q9, .inl (c9, 40, .inl (fun _ => 0))), (q10, .inl (c10, 40, .inl (fun _ => 0))), (q11, .inl (c11, 15, .inl (fun _ => 0)))] H := hP
  have hD : va_D (va_A [(h0, .inr (4, [.int 0, .int 0, .int 0, .int 0, .null, .null, .null, .null, .null, .null, .null, .null, .null, .null, .null, .int 0, .int 0, .int 0, .int 0, .int 0, .null, .null]))] sz) [(h0, .inr (4, [.int 0, .int 2, .int 4, .int 0, .ref q1, .ref q2, .ref q3, .ref q4, .ref q5, .ref q6, .ref q7, .ref q8, .ref q9, .ref q10, .ref q11, .int 0, .int 0, .int 0, .int 0, .int 0, .null, .null])), (q1, .inl (c1, 10, .inl (fun _ => 0))), (q2, .inl (c2, 10, .inl (fun _ => 0))), (q3, .inl (c3, 10, .inl (fun _ => 0))), (q4, .inl (c4, 10, .inl (fun _ => 0))), (q5, .inl (c5, 300, .inl (fun _ => 0))), (q6, .inl (c6, 60, .inl (fun _ => 0))), (q7, .inl (c7, 15, .inl (fun _ => 0))), (q8, .inl (c8, 15, .inl (fun _ => 0))), (q9, .inl (c9, 40, .inl (fun _ => 0))), (q10, .inl (c10, 40, .inl (fun _ => 0))), (q11, .inl (c11, 15, .inl (fun _ => 0)))] := hD
  refine lv_aload_n hx hb d_M_init_103 rfl (lv_at hl 0 rfl) ?_
  refine lv_iconst (v := 4) hx hb d_M_init_104 (by decide) ?_
  refine va_newa (atype := .int) (a0 := (4, .inl (fun _ => 0))) (N' := 4) (ty := .int) hx hb (htw _ mM_167) rfl hK hP hD hS hA (fun _ => rfl) (by decide) (by decide) (by decide) (Nat.le_of_ble_eq_true rfl) (Nat.le_of_ble_eq_true rfl) d_M_init_105 (fun q12 c12 H hK hP hD hS => ?_)
  refine W.cs (cells' := 12) (slots' := 529) rfl rfl ?_
  have hP : va_P D kcl [(h0, .inr (4, [.int 0, .int 2, .int 4, .int 0, .ref q1, .ref q2, .ref q3, .ref q4, .ref q5, .ref q6, .ref q7, .ref q8, .ref q9, .ref q10, .ref q11, .int 0, .int 0, .int 0, .int 0, .int 0, .null, .null])), (q1, .inl (c1, 10, .inl (fun _ => 0))), (q2, .inl (c2, 10, .inl (fun _ => 0))), (q3, .inl (c3, 10, .inl (fun _ => 0))), (q4, .inl (c4, 10, .inl (fun _ => 0))), (q5, .inl (c5, 300, .inl (fun _ => 0))), (q6, .inl (c6, 60, .inl (fun _ => 0))), (q7, .inl (c7, 15, .inl (fun _ => 0))), (q8, .inl (c8, 15, .inl (fun _ => 0))), (q9, .inl (c9, 40, .inl (fun _ => 0))), (q10, .inl (c10, 40, .inl (fun _ => 0))), (q11, .inl (c11, 15, .inl (fun _ => 0))), (q12, .inl (c12, 4, .inl (fun _ => 0)))] H := hP
  have hD : va_D (va_A [(h0, .inr (4, [.int 0, .int 0, .int 0, .int 0, .null, .null, .null, .null, .null, .null, .null, .null, .null, .null, .null, .int 0, .int 0, .int 0, .int 0, .int 0, .null, .null]))] sz) [(h0, .inr (4, [.int 0, .int 2, .int 4, .int 0, .ref q1, .ref q2, .ref q3, .ref q4, .ref q5, .ref q6, .ref q7, .ref q8, .ref q9, .ref q10, .ref q11, .int 0, .int 0, .int 0, .int 0, .int 0, .null, .null])), (q1, .inl (c1, 10, .inl (fun _ => 0))), (q2, .inl (c2, 10, .inl (fun _ => 0))), (q3, .inl (c3, 10, .inl (fun _ => 0))), (q4, .inl (c4, 10, .inl (fun _ => 0))), (q5, .inl (c5, 300, .inl (fun _ => 0))), (q6, .inl (c6, 60, .inl (fun _ => 0))), (q7, .inl (c7, 15, .inl (fun _ => 0))), (q8, .inl (c8, 15, .inl (fun _ => 0))), (q9, .inl (c9, 40, .inl (fun _ => 0))), (q10, .inl (c10, 40, .inl (fun _ => 0))), (q11, .inl (c11, 15, .inl (fun _ => 0))), (q12, .inl (c12, 4, .inl (fun _ => 0)))] := hD
  have hK : va_K D kcl [(c1, .int), (c2, .int), (c3, .int), (c4, .int), (c5, .int), (c6, .int), (c7, .int), (c8, .int), (c9, .int), (c10, .int), (c11, .int), (c12, .int)] s := hK
  refine va_putF (D := D) (ci := 4) (v := .ref q12) (ty := .array .int) (C := R_M) (T := F_M) (N := 22) hx hb htw i_M t_M t_M_ok n_M hown hK hP hD hS 0 rfl rfl 20 (by decide) (htw _ mM_25) (fun _ h9 => h9) rfl hin rfl (by decide +kernel) rfl rfl (Nat.le_of_ble_eq_true rfl) d_M_init_107 (fun H locs hP hD hS => ?_)
  have hP : va_P D kcl [(h0, .inr (4, [.int 0, .int 2, .int 4, .int 0, .ref q1, .ref q2, .ref q3, .ref q4, .ref q5, .ref q6, .ref q7, .ref q8, .ref q9, .ref q10, .ref q11, .int 0, .int 0, .int 0, .int 0, .int 0, .ref q12, .null])), (q1, .inl (c1, 10, .inl (fun _ => 0))), (q2, .inl (c2, 10, .inl (fun _ => 0))), (q3, .inl (c3, 10, .inl (fun _ => 0))), (q4, .inl (c4, 10, .inl (fun _ => 0))), (q5, .inl (c5, 300, .inl (fun _ => 0))), (q6, .inl (c6, 60, .inl (fun _ => 0))), (q7, .inl (c7, 15, .inl (fun _ => 0))), (q8, .inl (c8, 15, .inl (fun _ => 0))), (q9, .inl (c9, 40, .inl (fun _ => 0))), (q10, .inl (c10, 40, .inl (fun _ => 0))), (q11, .inl (c11, 15, .inl (fun _ => 0))), (q12, .inl (c12, 4, .inl (fun _ => 0)))] H := hP
  have hD : va_D (va_A [(h0, .inr (4, [.int 0, .int 0, .int 0, .int 0, .null, .null, .null, .null, .null, .null, .null, .null, .null, .null, .null, .int 0, .int 0, .int 0, .int 0, .int 0, .null, .null]))] sz) [(h0, .inr (4, [.int 0, .int 2, .int 4, .int 0, .ref q1, .ref q2, .ref q3, .ref q4, .ref q5, .ref q6, .ref q7, .ref q8, .ref q9, .ref q10, .ref q11, .int 0, .int 0, .int 0, .int 0, .int 0, .ref q12, .null])), (q1, .inl (c1, 10, .inl (fun _ => 0))), (q2, .inl (c2, 10, .inl (fun _ => 0))), (q3, .inl (c3, 10, .inl (fun _ => 0))), (q4, .inl (c4, 10, .inl (fun _ => 0))), (q5, .inl (c5, 300, .inl (fun _ => 0))), (q6, .inl (c6, 60, .inl (fun _ => 0))), (q7, .inl (c7, 15, .inl (fun _ => 0))), (q8, .inl (c8, 15, .inl (fun _ => 0))), (q9, .inl (c9, 40, .inl (fun _ => 0))), (q10, .inl (c10, 40, .inl (fun _ => 0))), (q11, .inl (c11, 15, .inl (fun _ => 0))), (q12, .inl (c12, 4, .inl (fun _ => 0)))] := hD
  refine lv_aload_n hx hb d_M_init_110 rfl (lv_at hl 0 rfl) ?_
  refine lv_iconst (v := 4) hx hb d_M_init_111 (by decide) ?_
  refine va_newa (atype := .int) (a0 := (4, .inl (fun _ => 0))) (N' := 4) (ty := .int) hx hb (htw _ mM_167) rfl hK hP hD hS hA (fun _ => rfl) (by decide) (by decide) (by decide) (Nat.le_of_ble_eq_true rfl) (Nat.le_of_ble_eq_true rfl) d_M_init_112 (fun q13 c13 H hK hP hD hS => ?_)
  refine W.cs (cells' := 13) (slots' := 533) rfl rfl ?_
  have hP : va_P D kcl [(h0, .inr (4, [.int 0, .int 2, .int 4, .int 0, .ref q1, .ref q2, .ref q3, .ref q4, .ref q5, .ref q6, .ref q7, .ref q8, .ref q9, .ref q10, .ref q11, .int 0, .int 0, .int 0, .int 0, .int 0, .ref q12, .null])), (q1, .inl (c1, 10, .inl (fun _ => 0))), (q2, .inl (c2, 10, .inl (fun _ => 0))), (q3, .inl (c3, 10, .inl (fun _ => 0))), (q4, .inl (c4, 10, .inl (fun _ => 0))), (q5, .inl (c5, 300, .inl (fun _ => 0))), (q6, .inl (c6, 60, .inl (fun _ => 0))), (q7, .inl (c7, 15, .inl (fun _ => 0))), (q8, .inl (c8, 15, .inl (fun _ => 0))), (q9, .inl (c9, 40, .inl (fun _ => 0))), (q10, .inl (c10, 40, .inl (fun _ => 0))), (q11, .inl (c11, 15, .inl (fun _ => 0))), (q12, .inl (c12, 4, .inl (fun _ => 0))), (q13, .inl (c13, 4, .inl (fun _ => 0)))] H := hP
  have hD : va_D (va_A [(h0, .inr (4, [.int 0, .int 0, .int 0, .int 0, .null, .null, .null, .null, .null, .null, .null, .null, .null, .null, .null, .int 0, .int 0, .int 0, .int 0, .int 0, .null, .null]))] sz) [(h0, .inr (4, [.int 0, .int 2, .int 4, .int 0, .ref q1, .ref q2, .ref q3, .ref q4, .ref q5, .ref q6, .ref q7, .ref q8, .ref q9, .ref q10, .ref q11, .int 0, .int 0, .int 0, .int 0, .int 0, .ref q12, .null])), (q1, .inl (c1, 10, .inl (fun _ => 0))), (q2, .inl (c2, 10, .inl (fun _ => 0))), (q3, .inl (c3, 10, .inl (fun _ => 0))), (q4, .inl (c4, 10, .inl (fun _ => 0))), (q5, .inl (c5, 300, .inl (fun _ => 0))), (q6, .inl (c6, 60, .inl (fun _ => 0))), (q7, .inl (c7, 15, .inl (fun _ => 0))), (q8, .inl (c8, 15, .inl (fun _ => 0))), (q9, .inl (c9, 40, .inl (fun _ => 0))), (q10, .inl (c10, 40, .inl (fun _ => 0))), (q11, .inl (c11, 15, .inl (fun _ => 0))), (q12, .inl (c12, 4, .inl (fun _ => 0))), (q13, .inl (c13, 4, .inl (fun _ => 0)))] := hD
  have hK : va_K D kcl [(c1, .int), (c2, .int), (c3, .int), (c4, .int), (c5, .int), (c6, .int), (c7, .int), (c8, .int), (c9, .int), (c10, .int), (c11, .int), (c12, .int), (c13, .int)] s := hK
  refine va_putF (D := D) (ci := 4) (v := .ref q13) (ty := .array .int) (C := R_M) (T := F_M) (N := 22) hx hb htw i_M t_M t_M_ok n_M hown hK hP hD hS 0 rfl rfl 21 (by decide) (htw _ mM_26) (fun _ h9 => h9) rfl hin rfl (by decide +kernel) rfl rfl (Nat.le_of_ble_eq_true rfl) d_M_init_114 (fun H locs hP hD hS => ?_)
  have hP : va_P D kcl [(h0, .inr (4, [.int 0, .int 2, .int 4, .int 0, .ref q1, .ref q2, .ref q3, .ref q4, .ref q5, .ref q6, .ref q7, .ref q8, .ref q9, .ref q10, .ref q11, .int 0, .int 0, .int 0, .int 0, .int 0, .ref q12, .ref q13])), (q1, .inl (c1, 10, .inl (fun _ => 0))), (q2, .inl (c2, 10, .inl (fun _ => 0))), (q3, .inl (c3, 10, .inl (fun _ => 0))), (q4, .inl (c4, 10, .inl (fun _ => 0))), (q5, .inl (c5, 300, .inl (fun _ => 0))), (q6, .inl (c6, 60, .inl (fun _ => 0))), (q7, .inl (c7, 15, .inl (fun _ => 0))), (q8, .inl (c8, 15, .inl (fun _ => 0))), (q9, .inl (c9, 40, .inl (fun _ => 0))), (q10, .inl (c10, 40, .inl (fun _ => 0))), (q11, .inl (c11, 15, .inl (fun _ => 0))), (q12, .inl (c12, 4, .inl (fun _ => 0))), (q13, .inl (c13, 4, .inl (fun _ => 0)))] H := hP
  have hD : va_D (va_A [(h0, .inr (4, [.int 0, .int 0, .int 0, .int 0, .null, .null, .null, .null, .null, .null, .null, .null, .null, .null, .null, .int 0, .int 0, .int 0, .int 0, .int 0, .null, .null]))] sz) [(h0, .inr (4, [.int 0, .int 2, .int 4, .int 0, .ref q1, .ref q2, .ref q3, .ref q4, .ref q5, .ref q6, .ref q7, .ref q8, .ref q9, .ref q10, .ref q11, .int 0, .int 0, .int 0, .int 0, .int 0, .ref q12, .ref q13])), (q1, .inl (c1, 10, .inl (fun _ => 0))), (q2, .inl (c2, 10, .inl (fun _ => 0))), (q3, .inl (c3, 10, .inl (fun _ => 0))), (q4, .inl (c4, 10, .inl (fun _ => 0))), (q5, .inl (c5, 300, .inl (fun _ => 0))), (q6, .inl (c6, 60, .inl (fun _ => 0))), (q7, .inl (c7, 15, .inl (fun _ => 0))), (q8, .inl (c8, 15, .inl (fun _ => 0))), (q9, .inl (c9, 40, .inl (fun _ => 0))), (q10, .inl (c10, 40, .inl (fun _ => 0))), (q11, .inl (c11, 15, .inl (fun _ => 0))), (q12, .inl (c12, 4, .inl (fun _ => 0))), (q13, .inl (c13, 4, .inl (fun _ => 0)))] := hD
  exact W.vret hx hb hr (fun t ht hW => ⟨⟨(fun k => [h0, q1, q2, q3, q4, q5, q6, q7, q8, q9, q10, q11, q12, q13].getD k 0, fun k => [0, c1, c2, c3, c4, c5, c6, c7, c8, c9, c10, c11, c12, c13].getD k 0), rfl, rfl, by rw [ht]; exact hP, va_K.moved hW.alike hK, hD⟩, hS.F ht⟩) hS.2.2 d_M_init_117
end
section
theorem kb_made {s : State} {H : Heap} {locs : List Loc} {D : va_G} {cl : List vw_C} {A0 : Nat → Prop} {tys tyc tys' : List (ClassId × FieldType)} {ws ws' wc wr w1 : va_W} {t : State} {H1 : Heap} {locs1 : List Loc} (hw : kb_K D cl tys ws s A0 H locs) (isC isR : List Nat) (hC : isC.map (fun i => ws[i]?) = wc.map some) (hR : isR.map (fun i => ws[i]?) = wr.map some) (hn : va_nd isR = true) (hdis : ∀ i ∈ isR, i ∉ isC) (hws : wr ++ w1 = ws') (hty : tys ++ tyc = tys')
    (ht : t.heap = H1) (hvm : s.vm.Alike t.vm) (hB : kb_post D cl tyc wc w1 H.size t) (hk : ∀ q : Nat, q < H.size → ¬ va_A wc H.size q → H1[q]? = H[q]?) (hS : va_S A0 s.heap H1 locs1) : kb_K D cl tys' ws' s A0 H1 locs1 := by
  have h := kb_behind hw isC isR hC hR hn hdis hws ht hB hk hS
  exact ⟨hty ▸ hw.1.app (va_K.moved hvm.symm hB.2.1), h.2⟩
def iC (MY MW : Nat → Nat → Int32) : Nat → Nat → Int32 := fun k => [kz 0, MY 0, kz 0, MW 0, MY 1, MY 2, MY 3, MY 4, MY 5, MY 6, MY 7, kz 1, kz 2, kz 3, MW 1, MW 2, MW 3].getD k (kz 0)
set_option maxHeartbeats 4000000 in
set_option maxRecDepth 100000 in
theorem ni_P (l : Launch) (D : va_G) (h0 sz : Nat) (MY MW : Nat → Nat → Int32) (hmY : f2_Y_clear 2 4 kz = some (0, MY)) (hmW : f2_W_clear kz = some (0, MW)) : Met l y_P_init (Cond.code y_P_init b_P_init 1 none :: wsC) { frames := 3, cells := 16, slots := 182, locals := 100 } (va_Pc [.ref h0] (kb_pre D kcl [] [(h0, .inr (0, [.null, .null, .null]))] nnC sz)) (va_Qv (fun u : (Nat → Nat) × (Nat → ClassId) => u.1 0 = h0) (fun u t => kb_post D kcl (tyC u.2) [(h0, .inr (0, [.null, .null, .null]))] (wC u.1 u.2 (iC MY MW)) sz t) (va_A [(h0, .inr (0, [.null, .null, .null]))] sz)) 16 182 (va_A [(h0, .inr (0, [.null, .null, .null]))] sz) := by
  refine Met.ofW (cc := b_P_init) (maxL := 1) (ret := none) (by decide) rfl ?_
  intro p e s m args below meth c s₁ B hml hv
  obtain ⟨rfl, hpre⟩ := hv
  obtain ⟨hw, hN⟩ := kb_enter hpre
  have hx := B.exec
  have hb := B.bytes
  have hr := B.returns
  have hts := atoms_spec (ws := (Cond.code y_P_init b_P_init 1 none :: wsC)) B.pre
  have htw : ∀ w ∈ wsC, w.before ([.ref h0] : List Value).toArray s = true := fun w h => hts w (List.mem_cons_of_mem _ h)
  have hown : s.vm.findClass "PileLifts" = some m.cls := findClass_of_methodNamed B.named
  have hlocks := B.notSynchronized
  have hin : meth.name = "<init>" := (name_of_methodNamed B.named B.method).1
  have hl := lv_entry ([.ref h0]) (n := 1) (Nat.le_of_ble_eq_true rfl)
  rw [lg_entry_eq]
  generalize (lg_sl ([.ref h0]) ++ List.replicate (1 - (lg_sl ([.ref h0])).length) Slot.unset).toArray = ls at hl ⊢
  have hl : lv_has ls 1 [(0, .ref h0)] := hl
  refine lv_aload_n hx hb d_P_init_0 rfl (lv_at hl 0 rfl) ?_
  refine W.objInit hx hb hown (htw _ mC_7) (htw _ mC_266) (htw _ mC_267) rfl (by rw [hml]; exact hl.1) rfl d_P_init_1 (Nat.le_of_ble_eq_true rfl) (Nat.le_of_ble_eq_true rfl) ?_
  refine W.eq (g2 := F0 m 4 ls []) rfl ?_
  refine lv_aload_n hx hb d_P_init_4 rfl (lv_at hl 0 rfl) ?_
  refine va_new (ci := 1) (fs := [.int 0, .int 0, .int 0, .null, .null, .null, .null, .null, .null, .null]) (C := R_Y) (T := F_Y) (N := 10) hx hb htw i_Y t_Y t_Y_ok hown (htw _ mC_8) (htw _ mC_9) (htw _ mC_1) hw.1 hw.2.1 hw.2.2.1 hw.2.2.2.1 hw.2.2.2.2 rfl (fun j hj => by rcases (show j = 0 ∨ j = 1 ∨ j = 2 ∨ j = 3 ∨ j = 4 ∨ j = 5 ∨ j = 6 ∨ j = 7 ∨ j = 8 ∨ j = 9 by omega) with rfl | rfl | rfl | rfl | rfl | rfl | rfl | rfl | rfl | rfl <;> rfl) (Nat.le_of_ble_eq_true rfl) (Nat.le_of_ble_eq_true rfl) d_P_init_5 (fun qn H hP hD hS => ?_)
  refine W.cs (cells' := 1) (slots' := 10) rfl rfl ?_
  have hw : kb_K D kcl [] (([(h0, .inr (0, [.null, .null, .null]))]) ++ [(qn, .inr (1, [.int 0, .int 0, .int 0, .null, .null, .null, .null, .null, .null, .null]))]) s (va_A [(h0, .inr (0, [.null, .null, .null]))] sz) H [] := ⟨hw.1, hP, hD, hS, hw.2.2.2.2⟩
  refine lv_dup hx hb d_P_init_8 rfl ?_
  have hC : [1].map (fun i => (([(h0, .inr (0, [.null, .null, .null]))]) ++ [(qn, .inr (1, [.int 0, .int 0, .int 0, .null, .null, .null, .null, .null, .null, .null]))])[i]?) = ([(qn, .inr (1, [.int 0, .int 0, .int 0, .null, .null, .null, .null, .null, .null, .null]))] : va_W).map some := rfl
  have hF := va_free (wc := [(qn, .inr (1, [.int 0, .int 0, .int 0, .null, .null, .null, .null, .null, .null, .null]))]) hw.2.2.1 hw.2.2.2.1 hw.2.2.2.2 [1] hC
  refine va_callv (va_runIN (As := []) (rest := [.ref qn, .ref h0]) ⟨hx, hb, hml, hown, htw⟩ (ni_Y l D qn H.size MY hmY) ⟨va_cnB 0 htw (wsC_self mC_11) rfl rfl rfl (nm_P_9 hN) (htw _ mC_1) q_Y_init ⟨by show 2 + 1 ≤ 3; omega, by show 8 + (1 + 11) + 60 ≤ 100; omega⟩, rfl, htw _ mC_10⟩ ⟨kb_blind nnC_same _ _, fun U hU hW => ⟨rfl, by rw [hU], by rw [hU]; exact hw.2.1.sub [1] rfl, va_K.moved hW.alike (hw.1.sub [] rfl), (hw.2.2.1.sub [1] (by decide) rfl).weaken (fun _ _ _ _ => trivial), nnC_warm s U hW hN⟩⟩ rfl rfl hl.1 rfl (lv_room (Nat.le_of_ble_eq_true rfl)) d_P_init_9 ⟨Nat.le_of_ble_eq_true rfl, Nat.le_of_ble_eq_true rfl⟩) hw.2.2.2.1 (fun q _ h => hF q h) hF (fun u t H1 locs1 ht hvm hp hB hz hk hS => ?_)
  refine W.cs (cells' := 8) (slots' := 84) rfl rfl ?_
  obtain ⟨A1, G1⟩ := u
  have hp : A1 0 = qn := hp
  subst hp
  have hw : kb_K D kcl ([] ++ tyY G1) ([(h0, .inr (0, [.null, .null, .null]))] ++ wY A1 G1 MY) s (va_A [(h0, .inr (0, [.null, .null, .null]))] sz) H1 locs1 := kb_made (wr := ([(h0, .inr (0, [.null, .null, .null]))])) hw [1] [0] hC rfl (by decide) (by decide) rfl rfl ht hvm hB hk hS
  generalize H1 = H at hw ⊢
  generalize locs1 = locs at hw ⊢
  refine va_putF (D := D) (ci := 0) (v := .ref (A1 0)) (ty := .object "PileLifts$Yard") (C := R_P) (T := F_P) (N := 3) hx hb htw i_P t_P t_P_ok n_P hown hw.1 hw.2.1 hw.2.2.1 hw.2.2.2.1 0 rfl rfl 0 (by decide) (htw _ mC_77) (fun _ h9 => h9) rfl hin rfl (by decide +kernel) rfl rfl (Nat.le_of_ble_eq_true rfl) d_P_init_12 (fun H locs hP hD hS => ?_)
  have hw : kb_K D kcl ([] ++ tyY G1) ([(h0, .inr (0, [.ref (A1 0), .null, .null]))] ++ wY A1 G1 MY) s (va_A [(h0, .inr (0, [.null, .null, .null]))] sz) H locs := ⟨hw.1, hP, hD, hS, hw.2.2.2.2⟩
  refine lv_aload_n hx hb d_P_init_15 rfl (lv_at hl 0 rfl) ?_
  refine va_new (ci := 2) (fs := [.int 0, .int 0, .int 0, .int 0, .int 0, .int 0, .int 0, .null, .null, .null]) (C := R_S) (T := F_S) (N := 10) hx hb htw i_S t_S t_S_ok hown (htw _ mC_36) (htw _ mC_37) (htw _ mC_2) hw.1 hw.2.1 hw.2.2.1 hw.2.2.2.1 hw.2.2.2.2 rfl (fun j hj => by rcases (show j = 0 ∨ j = 1 ∨ j = 2 ∨ j = 3 ∨ j = 4 ∨ j = 5 ∨ j = 6 ∨ j = 7 ∨ j = 8 ∨ j = 9 by omega) with rfl | rfl | rfl | rfl | rfl | rfl | rfl | rfl | rfl | rfl <;> rfl) (Nat.le_of_ble_eq_true rfl) (Nat.le_of_ble_eq_true rfl) d_P_init_16 (fun qn H hP hD hS => ?_)
  refine W.cs (cells' := 9) (slots' := 94) rfl rfl ?_
  have hw : kb_K D kcl ([] ++ tyY G1) (([(h0, .inr (0, [.ref (A1 0), .null, .null]))] ++ wY A1 G1 MY) ++ [(qn, .inr (2, [.int 0, .int 0, .int 0, .int 0, .int 0, .int 0, .int 0, .null, .null, .null]))]) s (va_A [(h0, .inr (0, [.null, .null, .null]))] sz) H locs := ⟨hw.1, hP, hD, hS, hw.2.2.2.2⟩
  refine lv_dup hx hb d_P_init_19 rfl ?_
  have hC : [9].map (fun i => (([(h0, .inr (0, [.ref (A1 0), .null, .null]))] ++ wY A1 G1 MY) ++ [(qn, .inr (2, [.int 0, .int 0, .int 0, .int 0, .int 0, .int 0, .int 0, .null, .null, .null]))])[i]?) = ([(qn, .inr (2, [.int 0, .int 0, .int 0, .int 0, .int 0, .int 0, .int 0, .null, .null, .null]))] : va_W).map some := rfl
  have hF := va_free (wc := [(qn, .inr (2, [.int 0, .int 0, .int 0, .int 0, .int 0, .int 0, .int 0, .null, .null, .null]))]) hw.2.2.1 hw.2.2.2.1 hw.2.2.2.2 [9] hC
  refine va_callv (va_runIN (As := []) (rest := [.ref qn, .ref h0]) ⟨hx, hb, hml, hown, htw⟩ (ni_S l D qn H.size) ⟨va_cnB 0 htw (wsC_self mC_39) rfl rfl rfl (nm_P_18 hN) (htw _ mC_2) q_S_init ⟨by show 2 + 1 ≤ 3; omega, by show 8 + (1 + 11) + 60 ≤ 100; omega⟩, rfl, htw _ mC_38⟩ ⟨kb_blind nnC_same _ _, fun U hU hW => ⟨rfl, by rw [hU], by rw [hU]; exact hw.2.1.sub [9] rfl, va_K.moved hW.alike (hw.1.sub [] rfl), (hw.2.2.1.sub [9] (by decide) rfl).weaken (fun _ _ _ _ => trivial), nnC_warm s U hW hN⟩⟩ rfl rfl hl.1 rfl (lv_room (Nat.le_of_ble_eq_true rfl)) d_P_init_20 ⟨Nat.le_of_ble_eq_true rfl, Nat.le_of_ble_eq_true rfl⟩) hw.2.2.2.1 (fun q _ h => hF q h) hF (fun u t H1 locs1 ht hvm hp hB hz hk hS => ?_)
  refine W.cs (cells' := 12) (slots' := 160) rfl rfl ?_
  obtain ⟨A2, G2⟩ := u
  have hp : A2 0 = qn := hp
  subst hp
  have hw : kb_K D kcl (([] ++ tyY G1) ++ tyS G2) ([(h0, .inr (0, [.ref (A1 0), .null, .null]))] ++ wY A1 G1 MY ++ wS A2 G2 kz) s (va_A [(h0, .inr (0, [.null, .null, .null]))] sz) H1 locs1 := kb_made (wr := ([(h0, .inr (0, [.ref (A1 0), .null, .null]))] ++ wY A1 G1 MY)) hw [9] [0, 1, 2, 3, 4, 5, 6, 7, 8] hC rfl (by decide) (by decide) rfl rfl ht hvm hB hk hS
  generalize H1 = H at hw ⊢
  generalize locs1 = locs at hw ⊢
  refine va_putF (D := D) (ci := 0) (v := .ref (A2 0)) (ty := .object "PileLifts$Search") (C := R_P) (T := F_P) (N := 3) hx hb htw i_P t_P t_P_ok n_P hown hw.1 hw.2.1 hw.2.2.1 hw.2.2.2.1 0 rfl rfl 1 (by decide) (htw _ mC_78) (fun _ h9 => h9) rfl hin rfl (by decide +kernel) rfl rfl (Nat.le_of_ble_eq_true rfl) d_P_init_23 (fun H locs hP hD hS => ?_)
  have hw : kb_K D kcl (([] ++ tyY G1) ++ tyS G2) ([(h0, .inr (0, [.ref (A1 0), .ref (A2 0), .null]))] ++ wY A1 G1 MY ++ wS A2 G2 kz) s (va_A [(h0, .inr (0, [.null, .null, .null]))] sz) H locs := ⟨hw.1, hP, hD, hS, hw.2.2.2.2⟩
  refine lv_aload_n hx hb d_P_init_26 rfl (lv_at hl 0 rfl) ?_
  refine va_new (ci := 3) (fs := [.int 0, .null, .null, .null]) (C := R_W) (T := F_W) (N := 4) hx hb htw i_W t_W t_W_ok hown (htw _ mC_61) (htw _ mC_62) (htw _ mC_3) hw.1 hw.2.1 hw.2.2.1 hw.2.2.2.1 hw.2.2.2.2 rfl (fun j hj => by rcases (show j = 0 ∨ j = 1 ∨ j = 2 ∨ j = 3 by omega) with rfl | rfl | rfl | rfl <;> rfl) (Nat.le_of_ble_eq_true rfl) (Nat.le_of_ble_eq_true rfl) d_P_init_27 (fun qn H hP hD hS => ?_)
  refine W.cs (cells' := 13) (slots' := 164) rfl rfl ?_
  have hw : kb_K D kcl (([] ++ tyY G1) ++ tyS G2) (([(h0, .inr (0, [.ref (A1 0), .ref (A2 0), .null]))] ++ wY A1 G1 MY ++ wS A2 G2 kz) ++ [(qn, .inr (3, [.int 0, .null, .null, .null]))]) s (va_A [(h0, .inr (0, [.null, .null, .null]))] sz) H locs := ⟨hw.1, hP, hD, hS, hw.2.2.2.2⟩
  refine lv_dup hx hb d_P_init_30 rfl ?_
  have hC : [13].map (fun i => (([(h0, .inr (0, [.ref (A1 0), .ref (A2 0), .null]))] ++ wY A1 G1 MY ++ wS A2 G2 kz) ++ [(qn, .inr (3, [.int 0, .null, .null, .null]))])[i]?) = ([(qn, .inr (3, [.int 0, .null, .null, .null]))] : va_W).map some := rfl
  have hF := va_free (wc := [(qn, .inr (3, [.int 0, .null, .null, .null]))]) hw.2.2.1 hw.2.2.2.1 hw.2.2.2.2 [13] hC
  refine va_callv (va_runIN (As := []) (rest := [.ref qn, .ref h0]) ⟨hx, hb, hml, hown, htw⟩ (ni_W l D qn H.size MW hmW) ⟨va_cnB 0 htw (wsC_self mC_64) rfl rfl rfl (nm_P_25 hN) (htw _ mC_3) q_W_init ⟨by show 2 + 1 ≤ 3; omega, by show 8 + (1 + 11) + 60 ≤ 100; omega⟩, rfl, htw _ mC_63⟩ ⟨kb_blind nnC_same _ _, fun U hU hW => ⟨rfl, by rw [hU], by rw [hU]; exact hw.2.1.sub [13] rfl, va_K.moved hW.alike (hw.1.sub [] rfl), (hw.2.2.1.sub [13] (by decide) rfl).weaken (fun _ _ _ _ => trivial), nnC_warm s U hW hN⟩⟩ rfl rfl hl.1 rfl (lv_room (Nat.le_of_ble_eq_true rfl)) d_P_init_31 ⟨Nat.le_of_ble_eq_true rfl, Nat.le_of_ble_eq_true rfl⟩) hw.2.2.2.1 (fun q _ h => hF q h) hF (fun u t H1 locs1 ht hvm hp hB hz hk hS => ?_)
  refine W.cs (cells' := 16) (slots' := 182) rfl rfl ?_
  obtain ⟨A3, G3⟩ := u
  have hp : A3 0 = qn := hp
  subst hp
  have hw : kb_K D kcl ((([] ++ tyY G1) ++ tyS G2) ++ tyW G3) ([(h0, .inr (0, [.ref (A1 0), .ref (A2 0), .null]))] ++ wY A1 G1 MY ++ wS A2 G2 kz ++ wW A3 G3 MW) s (va_A [(h0, .inr (0, [.null, .null, .null]))] sz) H1 locs1 := kb_made (wr := ([(h0, .inr (0, [.ref (A1 0), .ref (A2 0), .null]))] ++ wY A1 G1 MY ++ wS A2 G2 kz)) hw [13] [0, 1, 2, 3, 4, 5, 6, 7, 8, 9, 10, 11, 12] hC rfl (by decide) (by decide) rfl rfl ht hvm hB hk hS
  generalize H1 = H at hw ⊢
  generalize locs1 = locs at hw ⊢
  refine va_putF (D := D) (ci := 0) (v := .ref (A3 0)) (ty := .object "PileLifts$Wagons") (C := R_P) (T := F_P) (N := 3) hx hb htw i_P t_P t_P_ok n_P hown hw.1 hw.2.1 hw.2.2.1 hw.2.2.2.1 0 rfl rfl 2 (by decide) (htw _ mC_79) (fun _ h9 => h9) rfl hin rfl (by decide +kernel) rfl rfl (Nat.le_of_ble_eq_true rfl) d_P_init_34 (fun H locs hP hD hS => ?_)
  have hw : kb_K D kcl ((([] ++ tyY G1) ++ tyS G2) ++ tyW G3) ([(h0, .inr (0, [.ref (A1 0), .ref (A2 0), .ref (A3 0)]))] ++ wY A1 G1 MY ++ wS A2 G2 kz ++ wW A3 G3 MW) s (va_A [(h0, .inr (0, [.null, .null, .null]))] sz) H locs := ⟨hw.1, hP, hD, hS, hw.2.2.2.2⟩
  have hP9 : va_P D kcl (wC (fun k => [h0, A1 0, A2 0, A3 0, A1 1, A1 2, A1 3, A1 4, A1 5, A1 6, A1 7, A2 1, A2 2, A2 3, A3 1, A3 2, A3 3].getD k 0) (fun k => [0, 0, 0, 0, G1 1, G1 2, G1 3, G1 4, G1 5, G1 6, G1 7, G2 1, G2 2, G2 3, G3 1, G3 2, G3 3].getD k 0) (iC MY MW)) H := hw.2.1.sub [0, 1, 9, 13, 2, 3, 4, 5, 6, 7, 8, 10, 11, 12, 14, 15, 16] rfl
  have hD9 : va_D (va_A [(h0, .inr (0, [.null, .null, .null]))] sz) (wC (fun k => [h0, A1 0, A2 0, A3 0, A1 1, A1 2, A1 3, A1 4, A1 5, A1 6, A1 7, A2 1, A2 2, A2 3, A3 1, A3 2, A3 3].getD k 0) (fun k => [0, 0, 0, 0, G1 1, G1 2, G1 3, G1 4, G1 5, G1 6, G1 7, G2 1, G2 2, G2 3, G3 1, G3 2, G3 3].getD k 0) (iC MY MW)) := hw.2.2.1.sub [0, 1, 9, 13, 2, 3, 4, 5, 6, 7, 8, 10, 11, 12, 14, 15, 16] (by decide) rfl
  have hK9 : va_K D kcl (tyC (fun k => [0, 0, 0, 0, G1 1, G1 2, G1 3, G1 4, G1 5, G1 6, G1 7, G2 1, G2 2, G2 3, G3 1, G3 2, G3 3].getD k 0)) s := hw.1
  exact W.vret hx hb hr (fun t ht hW => ⟨⟨(fun k => [h0, A1 0, A2 0, A3 0, A1 1, A1 2, A1 3, A1 4, A1 5, A1 6, A1 7, A2 1, A2 2, A2 3, A3 1, A3 2, A3 3].getD k 0, fun k => [0, 0, 0, 0, G1 1, G1 2, G1 3, G1 4, G1 5, G1 6, G1 7, G2 1, G2 2, G2 3, G3 1, G3 2, G3 3].getD k 0), rfl, rfl, by rw [ht]; exact hP9, va_K.moved hW.alike hK9, hD9⟩, hw.2.2.2.1.F ht⟩) hw.2.2.2.1.2.2 d_P_init_37
end
