/-! names: PART A of the skeleton, the classes, the methods -/
-- ===== PART A: goes FIRST, ahead of the names: the tables' words, and 'selects' of the private methods out of them =====
/-- a private method of a class that the tables say can be made, by its rows of tables_1 -/
def lw_okq (q : MethodName × Nat) : Prop := (q.1.cls ≠ "java/lang/invoke/MethodHandle" ∧ q.1.cls ≠ "java/lang/invoke/VarHandle") ∧ Cond.instantiable q.1.cls q.2 ∈ tables_1 ∧ Cond.privateMethod q.1 ∈ tables_1 ∧ Cond.instanceMethod q.1 ∈ tables_1
theorem lw_p0 : lw_okq (⟨"StairSteps", "bad", "()I"⟩, 17) := ⟨⟨by decide +kernel, by decide +kernel⟩, List.mem_of_getElem? (i := 16) (by decide +kernel), List.mem_of_getElem? (i := 217) (by decide +kernel), List.mem_of_getElem? (i := 218) (by decide +kernel)⟩
theorem lw_p1 : lw_okq (⟨"StairSteps", "full", "()I"⟩, 17) := ⟨⟨by decide +kernel, by decide +kernel⟩, List.mem_of_getElem? (i := 16) (by decide +kernel), List.mem_of_getElem? (i := 221) (by decide +kernel), List.mem_of_getElem? (i := 222) (by decide +kernel)⟩
theorem lw_p2 : lw_okq (⟨"StairSteps$Reader", "next", "()V"⟩, 6) := ⟨⟨by decide +kernel, by decide +kernel⟩, List.mem_of_getElem? (i := 113) (by decide +kernel), List.mem_of_getElem? (i := 277) (by decide +kernel), List.mem_of_getElem? (i := 278) (by decide +kernel)⟩
theorem lw_p3 : lw_okq (⟨"StairSteps$Reader", "isLetter", "(I)Z"⟩, 6) := ⟨⟨by decide +kernel, by decide +kernel⟩, List.mem_of_getElem? (i := 113) (by decide +kernel), List.mem_of_getElem? (i := 284) (by decide +kernel), List.mem_of_getElem? (i := 285) (by decide +kernel)⟩
theorem lw_p4 : lw_okq (⟨"StairSteps$Reader", "takeWord", "()V"⟩, 6) := ⟨⟨by decide +kernel, by decide +kernel⟩, List.mem_of_getElem? (i := 113) (by decide +kernel), List.mem_of_getElem? (i := 288) (by decide +kernel), List.mem_of_getElem? (i := 289) (by decide +kernel)⟩
theorem lw_p5 : lw_okq (⟨"StairSteps$Reader", "isFigure", "(I)Z"⟩, 6) := ⟨⟨by decide +kernel, by decide +kernel⟩, List.mem_of_getElem? (i := 113) (by decide +kernel), List.mem_of_getElem? (i := 292) (by decide +kernel), List.mem_of_getElem? (i := 293) (by decide +kernel)⟩
theorem lw_p6 : lw_okq (⟨"StairSteps$Reader", "takeNumber", "()V"⟩, 6) := ⟨⟨by decide +kernel, by decide +kernel⟩, List.mem_of_getElem? (i := 113) (by decide +kernel), List.mem_of_getElem? (i := 296) (by decide +kernel), List.mem_of_getElem? (i := 297) (by decide +kernel)⟩
theorem lw_p7 : lw_okq (⟨"StairSteps$Reader", "isWord", "(Ljava/lang/String;)Z"⟩, 6) := ⟨⟨by decide +kernel, by decide +kernel⟩, List.mem_of_getElem? (i := 113) (by decide +kernel), List.mem_of_getElem? (i := 301) (by decide +kernel), List.mem_of_getElem? (i := 302) (by decide +kernel)⟩
theorem lw_p8 : lw_okq (⟨"StairSteps$Reader", "stops", "()Z"⟩, 6) := ⟨⟨by decide +kernel, by decide +kernel⟩, List.mem_of_getElem? (i := 113) (by decide +kernel), List.mem_of_getElem? (i := 353) (by decide +kernel), List.mem_of_getElem? (i := 354) (by decide +kernel)⟩
theorem lw_p9 : lw_okq (⟨"StairSteps$Reader", "readFlight", "(LStairSteps$House;)Z"⟩, 6) := ⟨⟨by decide +kernel, by decide +kernel⟩, List.mem_of_getElem? (i := 113) (by decide +kernel), List.mem_of_getElem? (i := 366) (by decide +kernel), List.mem_of_getElem? (i := 367) (by decide +kernel)⟩
theorem lw_p10 : lw_okq (⟨"StairSteps$Reader", "isNumber", "(II)Z"⟩, 6) := ⟨⟨by decide +kernel, by decide +kernel⟩, List.mem_of_getElem? (i := 113) (by decide +kernel), List.mem_of_getElem? (i := 370) (by decide +kernel), List.mem_of_getElem? (i := 371) (by decide +kernel)⟩
theorem lw_p11 : lw_okq (⟨"StairSteps$Reader", "readGoer", "(LStairSteps$House;)Z"⟩, 6) := ⟨⟨by decide +kernel, by decide +kernel⟩, List.mem_of_getElem? (i := 113) (by decide +kernel), List.mem_of_getElem? (i := 376) (by decide +kernel), List.mem_of_getElem? (i := 377) (by decide +kernel)⟩
theorem lw_p12 : lw_okq (⟨"StairSteps$Reader", "readLoad", "(LStairSteps$House;)Z"⟩, 6) := ⟨⟨by decide +kernel, by decide +kernel⟩, List.mem_of_getElem? (i := 113) (by decide +kernel), List.mem_of_getElem? (i := 382) (by decide +kernel), List.mem_of_getElem? (i := 383) (by decide +kernel)⟩
theorem lw_p13 : lw_okq (⟨"StairSteps$Reader", "readStride", "(LStairSteps$House;)Z"⟩, 6) := ⟨⟨by decide +kernel, by decide +kernel⟩, List.mem_of_getElem? (i := 113) (by decide +kernel), List.mem_of_getElem? (i := 388) (by decide +kernel), List.mem_of_getElem? (i := 389) (by decide +kernel)⟩
theorem lw_p14 : lw_okq (⟨"StairSteps$Reader", "readHours", "(LStairSteps$House;)Z"⟩, 6) := ⟨⟨by decide +kernel, by decide +kernel⟩, List.mem_of_getElem? (i := 113) (by decide +kernel), List.mem_of_getElem? (i := 456) (by decide +kernel), List.mem_of_getElem? (i := 457) (by decide +kernel)⟩
theorem lw_p15 : lw_okq (⟨"StairSteps", "no", "()I"⟩, 17) := ⟨⟨by decide +kernel, by decide +kernel⟩, List.mem_of_getElem? (i := 16) (by decide +kernel), List.mem_of_getElem? (i := 494) (by decide +kernel), List.mem_of_getElem? (i := 495) (by decide +kernel)⟩
def lw_privs_1 : List (MethodName × Nat) := [(⟨"StairSteps", "bad", "()I"⟩, 17), (⟨"StairSteps", "full", "()I"⟩, 17), (⟨"StairSteps$Reader", "next", "()V"⟩, 6), (⟨"StairSteps$Reader", "isLetter", "(I)Z"⟩, 6), (⟨"StairSteps$Reader", "takeWord", "()V"⟩, 6), (⟨"StairSteps$Reader", "isFigure", "(I)Z"⟩, 6), (⟨"StairSteps$Reader", "takeNumber", "()V"⟩, 6), (⟨"StairSteps$Reader", "isWord", "(Ljava/lang/String;)Z"⟩, 6), (⟨"StairSteps$Reader", "stops", "()Z"⟩, 6), (⟨"StairSteps$Reader", "readFlight", "(LStairSteps$House;)Z"⟩, 6), (⟨"StairSteps$Reader", "isNumber", "(II)Z"⟩, 6), (⟨"StairSteps$Reader", "readGoer", "(LStairSteps$House;)Z"⟩, 6), (⟨"StairSteps$Reader", "readLoad", "(LStairSteps$House;)Z"⟩, 6), (⟨"StairSteps$Reader", "readStride", "(LStairSteps$House;)Z"⟩, 6), (⟨"StairSteps$Reader", "readHours", "(LStairSteps$House;)Z"⟩, 6), (⟨"StairSteps", "no", "()I"⟩, 17)]
theorem lw_r1 : ∀ q ∈ lw_privs_1, lw_okq q := List.forall_mem_cons.mpr ⟨lw_p0, List.forall_mem_cons.mpr ⟨lw_p1, List.forall_mem_cons.mpr ⟨lw_p2, List.forall_mem_cons.mpr ⟨lw_p3, List.forall_mem_cons.mpr ⟨lw_p4, List.forall_mem_cons.mpr ⟨lw_p5, List.forall_mem_cons.mpr ⟨lw_p6, List.forall_mem_cons.mpr ⟨lw_p7, List.forall_mem_cons.mpr ⟨lw_p8, List.forall_mem_cons.mpr ⟨lw_p9, List.forall_mem_cons.mpr ⟨lw_p10, List.forall_mem_cons.mpr ⟨lw_p11, List.forall_mem_cons.mpr ⟨lw_p12, List.forall_mem_cons.mpr ⟨lw_p13, List.forall_mem_cons.mpr ⟨lw_p14, List.forall_mem_cons.mpr ⟨lw_p15, fun _ h => absurd h List.not_mem_nil⟩⟩⟩⟩⟩⟩⟩⟩⟩⟩⟩⟩⟩⟩⟩⟩
theorem lw_p16 : lw_okq (⟨"StairSteps$Climb", "restBehind", "(II)I"⟩, 3) := ⟨⟨by decide +kernel, by decide +kernel⟩, List.mem_of_getElem? (i := 96) (by decide +kernel), List.mem_of_getElem? (i := 583) (by decide +kernel), List.mem_of_getElem? (i := 584) (by decide +kernel)⟩
theorem lw_p17 : lw_okq (⟨"StairSteps$Climb", "shortest", "(IIII)I"⟩, 3) := ⟨⟨by decide +kernel, by decide +kernel⟩, List.mem_of_getElem? (i := 96) (by decide +kernel), List.mem_of_getElem? (i := 589) (by decide +kernel), List.mem_of_getElem? (i := 590) (by decide +kernel)⟩
theorem lw_p18 : lw_okq (⟨"StairSteps", "allUp", "(II)I"⟩, 17) := ⟨⟨by decide +kernel, by decide +kernel⟩, List.mem_of_getElem? (i := 16) (by decide +kernel), List.mem_of_getElem? (i := 612) (by decide +kernel), List.mem_of_getElem? (i := 613) (by decide +kernel)⟩
theorem lw_p19 : lw_okq (⟨"StairSteps$Ledger", "set", "(II)V"⟩, 4) := ⟨⟨by decide +kernel, by decide +kernel⟩, List.mem_of_getElem? (i := 30) (by decide +kernel), List.mem_of_getElem? (i := 638) (by decide +kernel), List.mem_of_getElem? (i := 639) (by decide +kernel)⟩
theorem lw_p20 : lw_okq (⟨"StairSteps", "fittingSteps", "(I)I"⟩, 17) := ⟨⟨by decide +kernel, by decide +kernel⟩, List.mem_of_getElem? (i := 16) (by decide +kernel), List.mem_of_getElem? (i := 647) (by decide +kernel), List.mem_of_getElem? (i := 648) (by decide +kernel)⟩
theorem lw_p21 : lw_okq (⟨"StairSteps", "ownerKinds", "(I)I"⟩, 17) := ⟨⟨by decide +kernel, by decide +kernel⟩, List.mem_of_getElem? (i := 16) (by decide +kernel), List.mem_of_getElem? (i := 686) (by decide +kernel), List.mem_of_getElem? (i := 687) (by decide +kernel)⟩
theorem lw_p22 : lw_okq (⟨"StairSteps", "ownerFits", "(II)Z"⟩, 17) := ⟨⟨by decide +kernel, by decide +kernel⟩, List.mem_of_getElem? (i := 16) (by decide +kernel), List.mem_of_getElem? (i := 690) (by decide +kernel), List.mem_of_getElem? (i := 691) (by decide +kernel)⟩
theorem lw_p23 : lw_okq (⟨"StairSteps", "mostOwnersAlike", "(II)I"⟩, 17) := ⟨⟨by decide +kernel, by decide +kernel⟩, List.mem_of_getElem? (i := 16) (by decide +kernel), List.mem_of_getElem? (i := 698) (by decide +kernel), List.mem_of_getElem? (i := 699) (by decide +kernel)⟩
theorem lw_p24 : lw_okq (⟨"StairSteps", "oneMoreAlike", "(I)I"⟩, 17) := ⟨⟨by decide +kernel, by decide +kernel⟩, List.mem_of_getElem? (i := 16) (by decide +kernel), List.mem_of_getElem? (i := 703) (by decide +kernel), List.mem_of_getElem? (i := 704) (by decide +kernel)⟩
theorem lw_p25 : lw_okq (⟨"StairSteps", "goerKinds", "(I)I"⟩, 17) := ⟨⟨by decide +kernel, by decide +kernel⟩, List.mem_of_getElem? (i := 16) (by decide +kernel), List.mem_of_getElem? (i := 713) (by decide +kernel), List.mem_of_getElem? (i := 714) (by decide +kernel)⟩
theorem lw_p26 : lw_okq (⟨"StairSteps", "goerFits", "(II)Z"⟩, 17) := ⟨⟨by decide +kernel, by decide +kernel⟩, List.mem_of_getElem? (i := 16) (by decide +kernel), List.mem_of_getElem? (i := 717) (by decide +kernel), List.mem_of_getElem? (i := 718) (by decide +kernel)⟩
theorem lw_p27 : lw_okq (⟨"StairSteps", "mostGoersAlike", "(IIII)I"⟩, 17) := ⟨⟨by decide +kernel, by decide +kernel⟩, List.mem_of_getElem? (i := 16) (by decide +kernel), List.mem_of_getElem? (i := 727) (by decide +kernel), List.mem_of_getElem? (i := 728) (by decide +kernel)⟩
theorem lw_p28 : lw_okq (⟨"StairSteps", "rests", "(III)Z"⟩, 17) := ⟨⟨by decide +kernel, by decide +kernel⟩, List.mem_of_getElem? (i := 16) (by decide +kernel), List.mem_of_getElem? (i := 735) (by decide +kernel), List.mem_of_getElem? (i := 736) (by decide +kernel)⟩
theorem lw_p29 : lw_okq (⟨"StairSteps", "gain", "(III)I"⟩, 17) := ⟨⟨by decide +kernel, by decide +kernel⟩, List.mem_of_getElem? (i := 16) (by decide +kernel), List.mem_of_getElem? (i := 739) (by decide +kernel), List.mem_of_getElem? (i := 740) (by decide +kernel)⟩
theorem lw_p30 : lw_okq (⟨"StairSteps", "setFraction", "(JJ)V"⟩, 17) := ⟨⟨by decide +kernel, by decide +kernel⟩, List.mem_of_getElem? (i := 16) (by decide +kernel), List.mem_of_getElem? (i := 747) (by decide +kernel), List.mem_of_getElem? (i := 748) (by decide +kernel)⟩
theorem lw_p31 : lw_okq (⟨"StairSteps", "strideInDark", "(III)V"⟩, 17) := ⟨⟨by decide +kernel, by decide +kernel⟩, List.mem_of_getElem? (i := 16) (by decide +kernel), List.mem_of_getElem? (i := 754) (by decide +kernel), List.mem_of_getElem? (i := 755) (by decide +kernel)⟩
def lw_privs_2 : List (MethodName × Nat) := [(⟨"StairSteps$Climb", "restBehind", "(II)I"⟩, 3), (⟨"StairSteps$Climb", "shortest", "(IIII)I"⟩, 3), (⟨"StairSteps", "allUp", "(II)I"⟩, 17), (⟨"StairSteps$Ledger", "set", "(II)V"⟩, 4), (⟨"StairSteps", "fittingSteps", "(I)I"⟩, 17), (⟨"StairSteps", "ownerKinds", "(I)I"⟩, 17), (⟨"StairSteps", "ownerFits", "(II)Z"⟩, 17), (⟨"StairSteps", "mostOwnersAlike", "(II)I"⟩, 17), (⟨"StairSteps", "oneMoreAlike", "(I)I"⟩, 17), (⟨"StairSteps", "goerKinds", "(I)I"⟩, 17), (⟨"StairSteps", "goerFits", "(II)Z"⟩, 17), (⟨"StairSteps", "mostGoersAlike", "(IIII)I"⟩, 17), (⟨"StairSteps", "rests", "(III)Z"⟩, 17), (⟨"StairSteps", "gain", "(III)I"⟩, 17), (⟨"StairSteps", "setFraction", "(JJ)V"⟩, 17), (⟨"StairSteps", "strideInDark", "(III)V"⟩, 17)]
theorem lw_r2 : ∀ q ∈ lw_privs_2, lw_okq q := List.forall_mem_cons.mpr ⟨lw_p16, List.forall_mem_cons.mpr ⟨lw_p17, List.forall_mem_cons.mpr ⟨lw_p18, List.forall_mem_cons.mpr ⟨lw_p19, List.forall_mem_cons.mpr ⟨lw_p20, List.forall_mem_cons.mpr ⟨lw_p21, List.forall_mem_cons.mpr ⟨lw_p22, List.forall_mem_cons.mpr ⟨lw_p23, List.forall_mem_cons.mpr ⟨lw_p24, List.forall_mem_cons.mpr ⟨lw_p25, List.forall_mem_cons.mpr ⟨lw_p26, List.forall_mem_cons.mpr ⟨lw_p27, List.forall_mem_cons.mpr ⟨lw_p28, List.forall_mem_cons.mpr ⟨lw_p29, List.forall_mem_cons.mpr ⟨lw_p30, List.forall_mem_cons.mpr ⟨lw_p31, fun _ h => absurd h List.not_mem_nil⟩⟩⟩⟩⟩⟩⟩⟩⟩⟩⟩⟩⟩⟩⟩⟩
theorem lw_p32 : lw_okq (⟨"StairSteps", "comeDown", "(III)V"⟩, 17) := ⟨⟨by decide +kernel, by decide +kernel⟩, List.mem_of_getElem? (i := 16) (by decide +kernel), List.mem_of_getElem? (i := 759) (by decide +kernel), List.mem_of_getElem? (i := 760) (by decide +kernel)⟩
theorem lw_p33 : lw_okq (⟨"StairSteps", "strideByChance", "(IJ)V"⟩, 17) := ⟨⟨by decide +kernel, by decide +kernel⟩, List.mem_of_getElem? (i := 16) (by decide +kernel), List.mem_of_getElem? (i := 778) (by decide +kernel), List.mem_of_getElem? (i := 779) (by decide +kernel)⟩
theorem lw_p34 : lw_okq (⟨"StairSteps", "howMany", "(I)I"⟩, 17) := ⟨⟨by decide +kernel, by decide +kernel⟩, List.mem_of_getElem? (i := 16) (by decide +kernel), List.mem_of_getElem? (i := 803) (by decide +kernel), List.mem_of_getElem? (i := 804) (by decide +kernel)⟩
theorem lw_p35 : lw_okq (⟨"StairStepsModel", "empties", "(I)V"⟩, 15) := ⟨⟨by decide +kernel, by decide +kernel⟩, List.mem_of_getElem? (i := 824) (by decide +kernel), List.mem_of_getElem? (i := 881) (by decide +kernel), List.mem_of_getElem? (i := 882) (by decide +kernel)⟩
theorem lw_p36 : lw_okq (⟨"StairStepsModel", "bad", "(I)I"⟩, 15) := ⟨⟨by decide +kernel, by decide +kernel⟩, List.mem_of_getElem? (i := 824) (by decide +kernel), List.mem_of_getElem? (i := 894) (by decide +kernel), List.mem_of_getElem? (i := 895) (by decide +kernel)⟩
theorem lw_p37 : lw_okq (⟨"StairStepsModel", "full", "()I"⟩, 15) := ⟨⟨by decide +kernel, by decide +kernel⟩, List.mem_of_getElem? (i := 824) (by decide +kernel), List.mem_of_getElem? (i := 898) (by decide +kernel), List.mem_of_getElem? (i := 899) (by decide +kernel)⟩
theorem lw_p38 : lw_okq (⟨"StairStepsModel", "addsFlight", "(III)V"⟩, 15) := ⟨⟨by decide +kernel, by decide +kernel⟩, List.mem_of_getElem? (i := 824) (by decide +kernel), List.mem_of_getElem? (i := 902) (by decide +kernel), List.mem_of_getElem? (i := 903) (by decide +kernel)⟩
theorem lw_p39 : lw_okq (⟨"StairStepsModel", "isFlight", "(I)Z"⟩, 15) := ⟨⟨by decide +kernel, by decide +kernel⟩, List.mem_of_getElem? (i := 824) (by decide +kernel), List.mem_of_getElem? (i := 911) (by decide +kernel), List.mem_of_getElem? (i := 912) (by decide +kernel)⟩
theorem lw_p40 : lw_okq (⟨"StairStepsModel", "addsGoer", "(IIII)V"⟩, 15) := ⟨⟨by decide +kernel, by decide +kernel⟩, List.mem_of_getElem? (i := 824) (by decide +kernel), List.mem_of_getElem? (i := 915) (by decide +kernel), List.mem_of_getElem? (i := 916) (by decide +kernel)⟩
theorem lw_p41 : lw_okq (⟨"StairStepsModel", "blanks", "()V"⟩, 15) := ⟨⟨by decide +kernel, by decide +kernel⟩, List.mem_of_getElem? (i := 824) (by decide +kernel), List.mem_of_getElem? (i := 932) (by decide +kernel), List.mem_of_getElem? (i := 933) (by decide +kernel)⟩
theorem lw_p42 : lw_okq (⟨"StairStepsModel", "byteAt", "(I)I"⟩, 15) := ⟨⟨by decide +kernel, by decide +kernel⟩, List.mem_of_getElem? (i := 824) (by decide +kernel), List.mem_of_getElem? (i := 936) (by decide +kernel), List.mem_of_getElem? (i := 937) (by decide +kernel)⟩
theorem lw_p43 : lw_okq (⟨"StairStepsModel", "readsItem", "(Z)Z"⟩, 15) := ⟨⟨by decide +kernel, by decide +kernel⟩, List.mem_of_getElem? (i := 824) (by decide +kernel), List.mem_of_getElem? (i := 940) (by decide +kernel), List.mem_of_getElem? (i := 941) (by decide +kernel)⟩
theorem lw_p44 : lw_okq (⟨"StairStepsModel", "takesWord", "()V"⟩, 15) := ⟨⟨by decide +kernel, by decide +kernel⟩, List.mem_of_getElem? (i := 824) (by decide +kernel), List.mem_of_getElem? (i := 944) (by decide +kernel), List.mem_of_getElem? (i := 945) (by decide +kernel)⟩
theorem lw_p45 : lw_okq (⟨"StairStepsModel", "wordOf", "()I"⟩, 15) := ⟨⟨by decide +kernel, by decide +kernel⟩, List.mem_of_getElem? (i := 824) (by decide +kernel), List.mem_of_getElem? (i := 950) (by decide +kernel), List.mem_of_getElem? (i := 951) (by decide +kernel)⟩
theorem lw_p46 : lw_okq (⟨"StairStepsModel", "isWord", "(IIIIIIII)Z"⟩, 15) := ⟨⟨by decide +kernel, by decide +kernel⟩, List.mem_of_getElem? (i := 824) (by decide +kernel), List.mem_of_getElem? (i := 954) (by decide +kernel), List.mem_of_getElem? (i := 955) (by decide +kernel)⟩
theorem lw_p47 : lw_okq (⟨"StairStepsModel", "isLetter", "(III)Z"⟩, 15) := ⟨⟨by decide +kernel, by decide +kernel⟩, List.mem_of_getElem? (i := 824) (by decide +kernel), List.mem_of_getElem? (i := 958) (by decide +kernel), List.mem_of_getElem? (i := 959) (by decide +kernel)⟩
def lw_privs_3 : List (MethodName × Nat) := [(⟨"StairSteps", "comeDown", "(III)V"⟩, 17), (⟨"StairSteps", "strideByChance", "(IJ)V"⟩, 17), (⟨"StairSteps", "howMany", "(I)I"⟩, 17), (⟨"StairStepsModel", "empties", "(I)V"⟩, 15), (⟨"StairStepsModel", "bad", "(I)I"⟩, 15), (⟨"StairStepsModel", "full", "()I"⟩, 15), (⟨"StairStepsModel", "addsFlight", "(III)V"⟩, 15), (⟨"StairStepsModel", "isFlight", "(I)Z"⟩, 15), (⟨"StairStepsModel", "addsGoer", "(IIII)V"⟩, 15), (⟨"StairStepsModel", "blanks", "()V"⟩, 15), (⟨"StairStepsModel", "byteAt", "(I)I"⟩, 15), (⟨"StairStepsModel", "readsItem", "(Z)Z"⟩, 15), (⟨"StairStepsModel", "takesWord", "()V"⟩, 15), (⟨"StairStepsModel", "wordOf", "()I"⟩, 15), (⟨"StairStepsModel", "isWord", "(IIIIIIII)Z"⟩, 15), (⟨"StairStepsModel", "isLetter", "(III)Z"⟩, 15)]
theorem lw_r3 : ∀ q ∈ lw_privs_3, lw_okq q := List.forall_mem_cons.mpr ⟨lw_p32, List.forall_mem_cons.mpr ⟨lw_p33, List.forall_mem_cons.mpr ⟨lw_p34, List.forall_mem_cons.mpr ⟨lw_p35, List.forall_mem_cons.mpr ⟨lw_p36, List.forall_mem_cons.mpr ⟨lw_p37, List.forall_mem_cons.mpr ⟨lw_p38, List.forall_mem_cons.mpr ⟨lw_p39, List.forall_mem_cons.mpr ⟨lw_p40, List.forall_mem_cons.mpr ⟨lw_p41, List.forall_mem_cons.mpr ⟨lw_p42, List.forall_mem_cons.mpr ⟨lw_p43, List.forall_mem_cons.mpr ⟨lw_p44, List.forall_mem_cons.mpr ⟨lw_p45, List.forall_mem_cons.mpr ⟨lw_p46, List.forall_mem_cons.mpr ⟨lw_p47, fun _ h => absurd h List.not_mem_nil⟩⟩⟩⟩⟩⟩⟩⟩⟩⟩⟩⟩⟩⟩⟩⟩
theorem lw_p48 : lw_okq (⟨"StairStepsModel", "readsFlight", "()Z"⟩, 15) := ⟨⟨by decide +kernel, by decide +kernel⟩, List.mem_of_getElem? (i := 824) (by decide +kernel), List.mem_of_getElem? (i := 962) (by decide +kernel), List.mem_of_getElem? (i := 963) (by decide +kernel)⟩
theorem lw_p49 : lw_okq (⟨"StairStepsModel", "takesNumber", "(II)Z"⟩, 15) := ⟨⟨by decide +kernel, by decide +kernel⟩, List.mem_of_getElem? (i := 824) (by decide +kernel), List.mem_of_getElem? (i := 966) (by decide +kernel), List.mem_of_getElem? (i := 967) (by decide +kernel)⟩
theorem lw_p50 : lw_okq (⟨"StairStepsModel", "readsGoer", "()Z"⟩, 15) := ⟨⟨by decide +kernel, by decide +kernel⟩, List.mem_of_getElem? (i := 824) (by decide +kernel), List.mem_of_getElem? (i := 973) (by decide +kernel), List.mem_of_getElem? (i := 974) (by decide +kernel)⟩
theorem lw_p51 : lw_okq (⟨"StairStepsModel", "readsLoad", "()Z"⟩, 15) := ⟨⟨by decide +kernel, by decide +kernel⟩, List.mem_of_getElem? (i := 824) (by decide +kernel), List.mem_of_getElem? (i := 977) (by decide +kernel), List.mem_of_getElem? (i := 978) (by decide +kernel)⟩
theorem lw_p52 : lw_okq (⟨"StairStepsModel", "readsStride", "()Z"⟩, 15) := ⟨⟨by decide +kernel, by decide +kernel⟩, List.mem_of_getElem? (i := 824) (by decide +kernel), List.mem_of_getElem? (i := 981) (by decide +kernel), List.mem_of_getElem? (i := 982) (by decide +kernel)⟩
theorem lw_p53 : lw_okq (⟨"StairStepsModel", "stridesIn", "(II)I"⟩, 15) := ⟨⟨by decide +kernel, by decide +kernel⟩, List.mem_of_getElem? (i := 824) (by decide +kernel), List.mem_of_getElem? (i := 985) (by decide +kernel), List.mem_of_getElem? (i := 986) (by decide +kernel)⟩
theorem lw_p54 : lw_okq (⟨"StairStepsModel", "goes", "(III)V"⟩, 15) := ⟨⟨by decide +kernel, by decide +kernel⟩, List.mem_of_getElem? (i := 824) (by decide +kernel), List.mem_of_getElem? (i := 995) (by decide +kernel), List.mem_of_getElem? (i := 996) (by decide +kernel)⟩
theorem lw_p55 : lw_okq (⟨"StairStepsModel", "bars", "(II)I"⟩, 15) := ⟨⟨by decide +kernel, by decide +kernel⟩, List.mem_of_getElem? (i := 824) (by decide +kernel), List.mem_of_getElem? (i := 999) (by decide +kernel), List.mem_of_getElem? (i := 1000) (by decide +kernel)⟩
theorem lw_p56 : lw_okq (⟨"StairStepsModel", "readsHours", "()Z"⟩, 15) := ⟨⟨by decide +kernel, by decide +kernel⟩, List.mem_of_getElem? (i := 824) (by decide +kernel), List.mem_of_getElem? (i := 1020) (by decide +kernel), List.mem_of_getElem? (i := 1021) (by decide +kernel)⟩
theorem lw_p57 : lw_okq (⟨"StairStepsModel", "passes", "(II)V"⟩, 15) := ⟨⟨by decide +kernel, by decide +kernel⟩, List.mem_of_getElem? (i := 824) (by decide +kernel), List.mem_of_getElem? (i := 1024) (by decide +kernel), List.mem_of_getElem? (i := 1025) (by decide +kernel)⟩
theorem lw_p58 : lw_okq (⟨"StairStepsModel", "takesEnd", "()Z"⟩, 15) := ⟨⟨by decide +kernel, by decide +kernel⟩, List.mem_of_getElem? (i := 824) (by decide +kernel), List.mem_of_getElem? (i := 1028) (by decide +kernel), List.mem_of_getElem? (i := 1029) (by decide +kernel)⟩
theorem lw_p59 : lw_okq (⟨"StairStepsModel", "copy", "(II)V"⟩, 15) := ⟨⟨by decide +kernel, by decide +kernel⟩, List.mem_of_getElem? (i := 824) (by decide +kernel), List.mem_of_getElem? (i := 1032) (by decide +kernel), List.mem_of_getElem? (i := 1033) (by decide +kernel)⟩
theorem lw_p60 : lw_okq (⟨"StairStepsModel", "isGoer", "(I)Z"⟩, 15) := ⟨⟨by decide +kernel, by decide +kernel⟩, List.mem_of_getElem? (i := 824) (by decide +kernel), List.mem_of_getElem? (i := 1040) (by decide +kernel), List.mem_of_getElem? (i := 1041) (by decide +kernel)⟩
theorem lw_p61 : lw_okq (⟨"StairStepsModel", "no", "()I"⟩, 15) := ⟨⟨by decide +kernel, by decide +kernel⟩, List.mem_of_getElem? (i := 824) (by decide +kernel), List.mem_of_getElem? (i := 1044) (by decide +kernel), List.mem_of_getElem? (i := 1045) (by decide +kernel)⟩
theorem lw_p62 : lw_okq (⟨"StairStepsModel", "minds", "()V"⟩, 15) := ⟨⟨by decide +kernel, by decide +kernel⟩, List.mem_of_getElem? (i := 824) (by decide +kernel), List.mem_of_getElem? (i := 1048) (by decide +kernel), List.mem_of_getElem? (i := 1049) (by decide +kernel)⟩
theorem lw_p63 : lw_okq (⟨"StairStepsModel", "ofGoer", "(II)I"⟩, 15) := ⟨⟨by decide +kernel, by decide +kernel⟩, List.mem_of_getElem? (i := 824) (by decide +kernel), List.mem_of_getElem? (i := 1077) (by decide +kernel), List.mem_of_getElem? (i := 1078) (by decide +kernel)⟩
def lw_privs_4 : List (MethodName × Nat) := [(⟨"StairStepsModel", "readsFlight", "()Z"⟩, 15), (⟨"StairStepsModel", "takesNumber", "(II)Z"⟩, 15), (⟨"StairStepsModel", "readsGoer", "()Z"⟩, 15), (⟨"StairStepsModel", "readsLoad", "()Z"⟩, 15), (⟨"StairStepsModel", "readsStride", "()Z"⟩, 15), (⟨"StairStepsModel", "stridesIn", "(II)I"⟩, 15), (⟨"StairStepsModel", "goes", "(III)V"⟩, 15), (⟨"StairStepsModel", "bars", "(II)I"⟩, 15), (⟨"StairStepsModel", "readsHours", "()Z"⟩, 15), (⟨"StairStepsModel", "passes", "(II)V"⟩, 15), (⟨"StairStepsModel", "takesEnd", "()Z"⟩, 15), (⟨"StairStepsModel", "copy", "(II)V"⟩, 15), (⟨"StairStepsModel", "isGoer", "(I)Z"⟩, 15), (⟨"StairStepsModel", "no", "()I"⟩, 15), (⟨"StairStepsModel", "minds", "()V"⟩, 15), (⟨"StairStepsModel", "ofGoer", "(II)I"⟩, 15)]
theorem lw_r4 : ∀ q ∈ lw_privs_4, lw_okq q := List.forall_mem_cons.mpr ⟨lw_p48, List.forall_mem_cons.mpr ⟨lw_p49, List.forall_mem_cons.mpr ⟨lw_p50, List.forall_mem_cons.mpr ⟨lw_p51, List.forall_mem_cons.mpr ⟨lw_p52, List.forall_mem_cons.mpr ⟨lw_p53, List.forall_mem_cons.mpr ⟨lw_p54, List.forall_mem_cons.mpr ⟨lw_p55, List.forall_mem_cons.mpr ⟨lw_p56, List.forall_mem_cons.mpr ⟨lw_p57, List.forall_mem_cons.mpr ⟨lw_p58, List.forall_mem_cons.mpr ⟨lw_p59, List.forall_mem_cons.mpr ⟨lw_p60, List.forall_mem_cons.mpr ⟨lw_p61, List.forall_mem_cons.mpr ⟨lw_p62, List.forall_mem_cons.mpr ⟨lw_p63, fun _ h => absurd h List.not_mem_nil⟩⟩⟩⟩⟩⟩⟩⟩⟩⟩⟩⟩⟩⟩⟩⟩
theorem lw_p64 : lw_okq (⟨"StairStepsModel", "laysNow", "(I)V"⟩, 15) := ⟨⟨by decide +kernel, by decide +kernel⟩, List.mem_of_getElem? (i := 824) (by decide +kernel), List.mem_of_getElem? (i := 1089) (by decide +kernel), List.mem_of_getElem? (i := 1090) (by decide +kernel)⟩
theorem lw_p65 : lw_okq (⟨"StairStepsModel", "laysLeft", "(II)V"⟩, 15) := ⟨⟨by decide +kernel, by decide +kernel⟩, List.mem_of_getElem? (i := 824) (by decide +kernel), List.mem_of_getElem? (i := 1093) (by decide +kernel), List.mem_of_getElem? (i := 1094) (by decide +kernel)⟩
theorem lw_p66 : lw_okq (⟨"StairStepsModel", "firstFrom", "(II)I"⟩, 15) := ⟨⟨by decide +kernel, by decide +kernel⟩, List.mem_of_getElem? (i := 824) (by decide +kernel), List.mem_of_getElem? (i := 1098) (by decide +kernel), List.mem_of_getElem? (i := 1099) (by decide +kernel)⟩
theorem lw_p67 : lw_okq (⟨"StairStepsModel", "laysWay", "(I[I)Z"⟩, 15) := ⟨⟨by decide +kernel, by decide +kernel⟩, List.mem_of_getElem? (i := 824) (by decide +kernel), List.mem_of_getElem? (i := 1121) (by decide +kernel), List.mem_of_getElem? (i := 1122) (by decide +kernel)⟩
theorem lw_p68 : lw_okq (⟨"StairStepsModel", "whoseOf", "(I)I"⟩, 15) := ⟨⟨by decide +kernel, by decide +kernel⟩, List.mem_of_getElem? (i := 824) (by decide +kernel), List.mem_of_getElem? (i := 1137) (by decide +kernel), List.mem_of_getElem? (i := 1138) (by decide +kernel)⟩
theorem lw_p69 : lw_okq (⟨"StairStepsModel", "canBe", "(II)Z"⟩, 15) := ⟨⟨by decide +kernel, by decide +kernel⟩, List.mem_of_getElem? (i := 824) (by decide +kernel), List.mem_of_getElem? (i := 1141) (by decide +kernel), List.mem_of_getElem? (i := 1142) (by decide +kernel)⟩
theorem lw_p70 : lw_okq (⟨"StairStepsModel", "isOf", "(I)I"⟩, 15) := ⟨⟨by decide +kernel, by decide +kernel⟩, List.mem_of_getElem? (i := 824) (by decide +kernel), List.mem_of_getElem? (i := 1165) (by decide +kernel), List.mem_of_getElem? (i := 1166) (by decide +kernel)⟩
theorem lw_p71 : lw_okq (⟨"StairStepsModel", "isSo", "(II)Z"⟩, 15) := ⟨⟨by decide +kernel, by decide +kernel⟩, List.mem_of_getElem? (i := 824) (by decide +kernel), List.mem_of_getElem? (i := 1169) (by decide +kernel), List.mem_of_getElem? (i := 1170) (by decide +kernel)⟩
theorem lw_p72 : lw_okq (⟨"StairStepsModel", "kindsOf", "(I)I"⟩, 15) := ⟨⟨by decide +kernel, by decide +kernel⟩, List.mem_of_getElem? (i := 824) (by decide +kernel), List.mem_of_getElem? (i := 1181) (by decide +kernel), List.mem_of_getElem? (i := 1182) (by decide +kernel)⟩
theorem lw_p73 : lw_okq (⟨"StairStepsModel", "canStride", "(II)Z"⟩, 15) := ⟨⟨by decide +kernel, by decide +kernel⟩, List.mem_of_getElem? (i := 824) (by decide +kernel), List.mem_of_getElem? (i := 1185) (by decide +kernel), List.mem_of_getElem? (i := 1186) (by decide +kernel)⟩
theorem lw_p74 : lw_okq (⟨"StairStepsModel", "tells", "(JJ)I"⟩, 15) := ⟨⟨by decide +kernel, by decide +kernel⟩, List.mem_of_getElem? (i := 824) (by decide +kernel), List.mem_of_getElem? (i := 1205) (by decide +kernel), List.mem_of_getElem? (i := 1206) (by decide +kernel)⟩
theorem lw_p75 : lw_okq (⟨"StairStepsModel", "countOf", "(I)I"⟩, 15) := ⟨⟨by decide +kernel, by decide +kernel⟩, List.mem_of_getElem? (i := 824) (by decide +kernel), List.mem_of_getElem? (i := 1240) (by decide +kernel), List.mem_of_getElem? (i := 1241) (by decide +kernel)⟩
theorem lw_p76 : lw_okq (⟨"StairStepsModel", "over", "()I"⟩, 15) := ⟨⟨by decide +kernel, by decide +kernel⟩, List.mem_of_getElem? (i := 824) (by decide +kernel), List.mem_of_getElem? (i := 1244) (by decide +kernel), List.mem_of_getElem? (i := 1245) (by decide +kernel)⟩
theorem lw_p77 : lw_okq (⟨"StairStepsModel", "mix", "(J)V"⟩, 15) := ⟨⟨by decide +kernel, by decide +kernel⟩, List.mem_of_getElem? (i := 824) (by decide +kernel), List.mem_of_getElem? (i := 1253) (by decide +kernel), List.mem_of_getElem? (i := 1254) (by decide +kernel)⟩
theorem lw_p78 : lw_okq (⟨"StairStepsModel", "mixes", "(II)V"⟩, 15) := ⟨⟨by decide +kernel, by decide +kernel⟩, List.mem_of_getElem? (i := 824) (by decide +kernel), List.mem_of_getElem? (i := 1258) (by decide +kernel), List.mem_of_getElem? (i := 1259) (by decide +kernel)⟩
def lw_privs_5 : List (MethodName × Nat) := [(⟨"StairStepsModel", "laysNow", "(I)V"⟩, 15), (⟨"StairStepsModel", "laysLeft", "(II)V"⟩, 15), (⟨"StairStepsModel", "firstFrom", "(II)I"⟩, 15), (⟨"StairStepsModel", "laysWay", "(I[I)Z"⟩, 15), (⟨"StairStepsModel", "whoseOf", "(I)I"⟩, 15), (⟨"StairStepsModel", "canBe", "(II)Z"⟩, 15), (⟨"StairStepsModel", "isOf", "(I)I"⟩, 15), (⟨"StairStepsModel", "isSo", "(II)Z"⟩, 15), (⟨"StairStepsModel", "kindsOf", "(I)I"⟩, 15), (⟨"StairStepsModel", "canStride", "(II)Z"⟩, 15), (⟨"StairStepsModel", "tells", "(JJ)I"⟩, 15), (⟨"StairStepsModel", "countOf", "(I)I"⟩, 15), (⟨"StairStepsModel", "over", "()I"⟩, 15), (⟨"StairStepsModel", "mix", "(J)V"⟩, 15), (⟨"StairStepsModel", "mixes", "(II)V"⟩, 15)]
theorem lw_r5 : ∀ q ∈ lw_privs_5, lw_okq q := List.forall_mem_cons.mpr ⟨lw_p64, List.forall_mem_cons.mpr ⟨lw_p65, List.forall_mem_cons.mpr ⟨lw_p66, List.forall_mem_cons.mpr ⟨lw_p67, List.forall_mem_cons.mpr ⟨lw_p68, List.forall_mem_cons.mpr ⟨lw_p69, List.forall_mem_cons.mpr ⟨lw_p70, List.forall_mem_cons.mpr ⟨lw_p71, List.forall_mem_cons.mpr ⟨lw_p72, List.forall_mem_cons.mpr ⟨lw_p73, List.forall_mem_cons.mpr ⟨lw_p74, List.forall_mem_cons.mpr ⟨lw_p75, List.forall_mem_cons.mpr ⟨lw_p76, List.forall_mem_cons.mpr ⟨lw_p77, List.forall_mem_cons.mpr ⟨lw_p78, fun _ h => absurd h List.not_mem_nil⟩⟩⟩⟩⟩⟩⟩⟩⟩⟩⟩⟩⟩⟩⟩
def lw_privs : List (MethodName × Nat) := lw_privs_1 ++ (lw_privs_2 ++ (lw_privs_3 ++ (lw_privs_4 ++ (lw_privs_5))))
def lw_tbl : List Cond := k2_sels lw_privs ++ tables_1
theorem lw_privs_ok : ∀ q ∈ lw_privs, lw_okq q := by
  show ∀ q ∈ lw_privs_1 ++ (lw_privs_2 ++ (lw_privs_3 ++ (lw_privs_4 ++ (lw_privs_5)))), lw_okq q
  exact List.forall_mem_append.mpr ⟨lw_r1, List.forall_mem_append.mpr ⟨lw_r2, List.forall_mem_append.mpr ⟨lw_r3, List.forall_mem_append.mpr ⟨lw_r4, lw_r5⟩⟩⟩⟩

def RX0 : String := "StairSteps$Climb"
def TX0 : u_T := fun k => match k with
  | 0 => ("StairSteps$Climb", "fewest", "[I", true)
  | 1 => ("StairSteps$Climb", "row", "[I", true)
  | _ => ("StairSteps$Climb", "length", "I", false)
def tyX0 : Nat → FieldType := fun k => match k with
  | 0 => .array .int
  | 1 => .array .int
  | _ => .int
theorem nmX0 : ∀ a, a < 3 → ∀ b, b < 3 → a ≠ b → (TX0 a).2.1 ≠ (TX0 b).2.1 := by decide +kernel
theorem tyX0_ok : ∀ k, k < 3 → parseFieldDescriptor (TX0 k).2.2.1 = some (tyX0 k) := by decide +kernel
def RX1 : String := "StairSteps$House"
def TX1 : u_T := fun k => match k with
  | 0 => ("StairSteps$House", "flights", "I", false)
  | 1 => ("StairSteps$House", "goers", "I", false)
  | 2 => ("StairSteps$House", "kept", "I", false)
  | 3 => ("StairSteps$House", "ownerKinds", "[I", true)
  | 4 => ("StairSteps$House", "goerKinds", "[I", true)
  | 5 => ("StairSteps$House", "legs", "[I", true)
  | 6 => ("StairSteps$House", "goerFlights", "[I", true)
  | 7 => ("StairSteps$House", "now", "[I", true)
  | 8 => ("StairSteps$House", "past", "[I", true)
  | 9 => ("StairSteps$House", "seen", "LStairSteps$Ledger;", true)
  | 10 => ("StairSteps$House", "notes", "LStairSteps$Ledger;", true)
  | _ => ("StairSteps$House", "marks", "LStairSteps$Ledger;", true)
def tyX1 : Nat → FieldType := fun k => match k with
  | 0 => .int
  | 1 => .int
  | 2 => .int
  | 3 => .array .int
  | 4 => .array .int
  | 5 => .array .int
  | 6 => .array .int
  | 7 => .array .int
  | 8 => .array .int
  | 9 => .object "StairSteps$Ledger"
  | 10 => .object "StairSteps$Ledger"
  | _ => .object "StairSteps$Ledger"
theorem nmX1 : ∀ a, a < 12 → ∀ b, b < 12 → a ≠ b → (TX1 a).2.1 ≠ (TX1 b).2.1 := by decide +kernel
theorem tyX1_ok : ∀ k, k < 12 → parseFieldDescriptor (TX1 k).2.2.1 = some (tyX1 k) := by decide +kernel
def RX2 : String := "StairSteps$Ledger"
def TX2 : u_T := fun k => match k with
  | 0 => ("StairSteps$Ledger", "width", "I", true)
  | 1 => ("StairSteps$Ledger", "most", "I", true)
  | 2 => ("StairSteps$Ledger", "cells", "[I", true)
  | _ => ("StairSteps$Ledger", "size", "I", false)
def tyX2 : Nat → FieldType := fun k => match k with
  | 0 => .int
  | 1 => .int
  | 2 => .array .int
  | _ => .int
theorem nmX2 : ∀ a, a < 4 → ∀ b, b < 4 → a ≠ b → (TX2 a).2.1 ≠ (TX2 b).2.1 := by decide +kernel
theorem tyX2_ok : ∀ k, k < 4 → parseFieldDescriptor (TX2 k).2.2.1 = some (tyX2 k) := by decide +kernel
def RX3 : String := "StairSteps$Reader"
def TX3 : u_T := fun k => match k with
  | 0 => ("StairSteps$Reader", "bytes", "[I", true)
  | 1 => ("StairSteps$Reader", "length", "I", false)
  | 2 => ("StairSteps$Reader", "start", "I", false)
  | 3 => ("StairSteps$Reader", "behind", "I", false)
  | 4 => ("StairSteps$Reader", "sort", "I", false)
  | _ => ("StairSteps$Reader", "value", "I", false)
def tyX3 : Nat → FieldType := fun k => match k with
  | 0 => .array .int
  | 1 => .int
  | 2 => .int
  | 3 => .int
  | 4 => .int
  | _ => .int
theorem nmX3 : ∀ a, a < 6 → ∀ b, b < 6 → a ≠ b → (TX3 a).2.1 ≠ (TX3 b).2.1 := by decide +kernel
theorem tyX3_ok : ∀ k, k < 6 → parseFieldDescriptor (TX3 k).2.2.1 = some (tyX3 k) := by decide +kernel
def RX4 : String := "StairSteps"
def TX4 : u_T := fun k => match k with
  | 0 => ("StairSteps", "house", "LStairSteps$House;", true)
  | 1 => ("StairSteps", "firstImage", "LStairSteps$House;", true)
  | 2 => ("StairSteps", "secondImage", "LStairSteps$House;", true)
  | 3 => ("StairSteps", "firstKept", "Z", false)
  | 4 => ("StairSteps", "secondKept", "Z", false)
  | 5 => ("StairSteps", "trial", "LStairSteps$House;", true)
  | 6 => ("StairSteps", "climb", "LStairSteps$Climb;", true)
  | 7 => ("StairSteps", "otherClimb", "LStairSteps$Climb;", true)
  | 8 => ("StairSteps", "reader", "LStairSteps$Reader;", true)
  | 9 => ("StairSteps", "ways", "[I", true)
  | 10 => ("StairSteps", "waysBefore", "[I", true)
  | 11 => ("StairSteps", "alike", "[I", true)
  | 12 => ("StairSteps", "above", "J", false)
  | 13 => ("StairSteps", "below", "J", false)
  | 14 => ("StairSteps", "badCalls", "I", false)
  | 15 => ("StairSteps", "noCalls", "I", false)
  | _ => ("StairSteps", "fullCalls", "I", false)
def tyX4 : Nat → FieldType := fun k => match k with
  | 0 => .object "StairSteps$House"
  | 1 => .object "StairSteps$House"
  | 2 => .object "StairSteps$House"
  | 3 => .boolean
  | 4 => .boolean
  | 5 => .object "StairSteps$House"
  | 6 => .object "StairSteps$Climb"
  | 7 => .object "StairSteps$Climb"
  | 8 => .object "StairSteps$Reader"
  | 9 => .array .int
  | 10 => .array .int
  | 11 => .array .int
  | 12 => .long
  | 13 => .long
  | 14 => .int
  | 15 => .int
  | _ => .int
theorem nmX4 : ∀ a, a < 17 → ∀ b, b < 17 → a ≠ b → (TX4 a).2.1 ≠ (TX4 b).2.1 := by decide +kernel
theorem tyX4_ok : ∀ k, k < 17 → parseFieldDescriptor (TX4 k).2.2.1 = some (tyX4 k) := by decide +kernel
def RX5 : String := "StairStepsModel"
def TX5 : u_T := fun k => match k with
  | 0 => ("StairStepsModel", "w", "[I", true)
  | 1 => ("StairStepsModel", "isKept", "[Z", true)
  | 2 => ("StairStepsModel", "text", "[I", true)
  | 3 => ("StairStepsModel", "texted", "I", false)
  | 4 => ("StairStepsModel", "above", "J", false)
  | 5 => ("StairStepsModel", "below", "J", false)
  | 6 => ("StairStepsModel", "statuses", "[I", true)
  | 7 => ("StairStepsModel", "at", "I", false)
  | 8 => ("StairStepsModel", "start", "I", false)
  | 9 => ("StairStepsModel", "number", "I", false)
  | 10 => ("StairStepsModel", "left", "[I", true)
  | 11 => ("StairStepsModel", "one", "[I", true)
  | 12 => ("StairStepsModel", "two", "[I", true)
  | 13 => ("StairStepsModel", "by", "[I", true)
  | _ => ("StairStepsModel", "h", "J", false)
def tyX5 : Nat → FieldType := fun k => match k with
  | 0 => .array .int
  | 1 => .array .boolean
  | 2 => .array .int
  | 3 => .int
  | 4 => .long
  | 5 => .long
  | 6 => .array .int
  | 7 => .int
  | 8 => .int
  | 9 => .int
  | 10 => .array .int
  | 11 => .array .int
  | 12 => .array .int
  | 13 => .array .int
  | _ => .long
theorem nmX5 : ∀ a, a < 15 → ∀ b, b < 15 → a ≠ b → (TX5 a).2.1 ≠ (TX5 b).2.1 := by decide +kernel
theorem tyX5_ok : ∀ k, k < 15 → parseFieldDescriptor (TX5 k).2.2.1 = some (tyX5 k) := by decide +kernel
abbrev cX0_init : ByteArray := prog_2_method_1_code
def yX0_init : MethodName := ⟨RX0, "<init>", "()V"⟩
abbrev cX0_fewestFrom : ByteArray := prog_2_method_2_code
def yX0_fewestFrom : MethodName := ⟨RX0, "fewestFrom", "(III)I"⟩
abbrev cX0_restBehind : ByteArray := prog_2_method_3_code
def yX0_restBehind : MethodName := ⟨RX0, "restBehind", "(II)I"⟩
abbrev cX0_find : ByteArray := prog_2_method_4_code
def yX0_find : MethodName := ⟨RX0, "find", "(III)V"⟩
abbrev cX0_shortest : ByteArray := prog_2_method_5_code
def yX0_shortest : MethodName := ⟨RX0, "shortest", "(IIII)I"⟩
abbrev cX0_strideAt : ByteArray := prog_2_method_6_code
def yX0_strideAt : MethodName := ⟨RX0, "strideAt", "(I)I"⟩
abbrev cX1_init : ByteArray := prog_3_method_1_code
def yX1_init : MethodName := ⟨RX1, "<init>", "()V"⟩
abbrev cX1_empty : ByteArray := prog_3_method_2_code
def yX1_empty : MethodName := ⟨RX1, "empty", "()V"⟩
abbrev cX1_takeOver : ByteArray := prog_3_method_3_code
def yX1_takeOver : MethodName := ⟨RX1, "takeOver", "(LStairSteps$House;)V"⟩
abbrev cX1_hasFlight : ByteArray := prog_3_method_4_code
def yX1_hasFlight : MethodName := ⟨RX1, "hasFlight", "(I)Z"⟩
abbrev cX1_hasGoer : ByteArray := prog_3_method_5_code
def yX1_hasGoer : MethodName := ⟨RX1, "hasGoer", "(I)Z"⟩
abbrev cX1_addFlight : ByteArray := prog_3_method_6_code
def yX1_addFlight : MethodName := ⟨RX1, "addFlight", "(II)I"⟩
abbrev cX1_addGoer : ByteArray := prog_3_method_7_code
def yX1_addGoer : MethodName := ⟨RX1, "addGoer", "(III)I"⟩
abbrev cX1_keepMoment : ByteArray := prog_3_method_8_code
def yX1_keepMoment : MethodName := ⟨RX1, "keepMoment", "()V"⟩
abbrev cX1_dropMoment : ByteArray := prog_3_method_9_code
def yX1_dropMoment : MethodName := ⟨RX1, "dropMoment", "()V"⟩
abbrev cX1_ownerKind : ByteArray := prog_3_method_10_code
def yX1_ownerKind : MethodName := ⟨RX1, "ownerKind", "(I)I"⟩
abbrev cX1_ownerStep : ByteArray := prog_3_method_11_code
def yX1_ownerStep : MethodName := ⟨RX1, "ownerStep", "(I)I"⟩
abbrev cX1_setOwnerStep : ByteArray := prog_3_method_12_code
def yX1_setOwnerStep : MethodName := ⟨RX1, "setOwnerStep", "(II)V"⟩
abbrev cX1_legsOf : ByteArray := prog_3_method_13_code
def yX1_legsOf : MethodName := ⟨RX1, "legsOf", "(I)I"⟩
abbrev cX1_flightOf : ByteArray := prog_3_method_14_code
def yX1_flightOf : MethodName := ⟨RX1, "flightOf", "(I)I"⟩
abbrev cX1_stepOf : ByteArray := prog_3_method_15_code
def yX1_stepOf : MethodName := ⟨RX1, "stepOf", "(I)I"⟩
abbrev cX1_setStep : ByteArray := prog_3_method_16_code
def yX1_setStep : MethodName := ⟨RX1, "setStep", "(II)V"⟩
abbrev cX1_loadOf : ByteArray := prog_3_method_17_code
def yX1_loadOf : MethodName := ⟨RX1, "loadOf", "(I)I"⟩
abbrev cX1_setLoad : ByteArray := prog_3_method_18_code
def yX1_setLoad : MethodName := ⟨RX1, "setLoad", "(II)V"⟩
abbrev cX1_falls : ByteArray := prog_3_method_19_code
def yX1_falls : MethodName := ⟨RX1, "falls", "()I"⟩
abbrev cX1_hour : ByteArray := prog_3_method_20_code
def yX1_hour : MethodName := ⟨RX1, "hour", "()I"⟩
abbrev cX1_hourOfDay : ByteArray := prog_3_method_21_code
def yX1_hourOfDay : MethodName := ⟨RX1, "hourOfDay", "()I"⟩
abbrev cX1_pass : ByteArray := prog_3_method_22_code
def yX1_pass : MethodName := ⟨RX1, "pass", "(I)V"⟩
abbrev cX1_isOver : ByteArray := prog_3_method_23_code
def yX1_isOver : MethodName := ⟨RX1, "isOver", "(I)Z"⟩
abbrev cX1_over : ByteArray := prog_3_method_24_code
def yX1_over : MethodName := ⟨RX1, "over", "()I"⟩
abbrev cX1_barsAt : ByteArray := prog_3_method_25_code
def yX1_barsAt : MethodName := ⟨RX1, "barsAt", "(II)I"⟩
abbrev cX1_barsFor : ByteArray := prog_3_method_26_code
def yX1_barsFor : MethodName := ⟨RX1, "barsFor", "(I)I"⟩
abbrev cX1_reach : ByteArray := prog_3_method_27_code
def yX1_reach : MethodName := ⟨RX1, "reach", "(I)I"⟩
abbrev cX1_reachAt : ByteArray := prog_3_method_28_code
def yX1_reachAt : MethodName := ⟨RX1, "reachAt", "(II)I"⟩
abbrev cX1_ofGoer : ByteArray := prog_3_method_29_code
def yX1_ofGoer : MethodName := ⟨RX1, "ofGoer", "(II)I"⟩
abbrev cX1_stride : ByteArray := prog_3_method_30_code
def yX1_stride : MethodName := ⟨RX1, "stride", "(II)I"⟩
abbrev cX2_init : ByteArray := prog_4_method_1_code
def yX2_init : MethodName := ⟨RX2, "<init>", "(II)V"⟩
abbrev cX2_isFull : ByteArray := prog_4_method_2_code
def yX2_isFull : MethodName := ⟨RX2, "isFull", "()Z"⟩
abbrev cX2_empty : ByteArray := prog_4_method_3_code
def yX2_empty : MethodName := ⟨RX2, "empty", "()I"⟩
abbrev cX2_add : ByteArray := prog_4_method_4_code
def yX2_add : MethodName := ⟨RX2, "add", "(IIIII)I"⟩
abbrev cX2_set : ByteArray := prog_4_method_5_code
def yX2_set : MethodName := ⟨RX2, "set", "(II)V"⟩
abbrev cX2_cell : ByteArray := prog_4_method_6_code
def yX2_cell : MethodName := ⟨RX2, "cell", "(II)I"⟩
abbrev cX2_takeOver : ByteArray := prog_4_method_7_code
def yX2_takeOver : MethodName := ⟨RX2, "takeOver", "(LStairSteps$Ledger;)V"⟩
abbrev cX2_mixInto : ByteArray := prog_4_method_8_code
def yX2_mixInto : MethodName := ⟨RX2, "mixInto", "(J)J"⟩
abbrev cX3_init : ByteArray := prog_5_method_1_code
def yX3_init : MethodName := ⟨RX3, "<init>", "()V"⟩
abbrev cX3_append : ByteArray := prog_5_method_2_code
def yX3_append : MethodName := ⟨RX3, "append", "(I)I"⟩
abbrev cX3_readOpening : ByteArray := prog_5_method_3_code
def yX3_readOpening : MethodName := ⟨RX3, "readOpening", "()Z"⟩
abbrev cX3_movesOn : ByteArray := prog_5_method_4_code
def yX3_movesOn : MethodName := ⟨RX3, "movesOn", "()Z"⟩
abbrev cX3_readItem : ByteArray := prog_5_method_5_code
def yX3_readItem : MethodName := ⟨RX3, "readItem", "(LStairSteps$House;)Z"⟩
abbrev cX3_readFlight : ByteArray := prog_5_method_6_code
def yX3_readFlight : MethodName := ⟨RX3, "readFlight", "(LStairSteps$House;)Z"⟩
abbrev cX3_readGoer : ByteArray := prog_5_method_7_code
def yX3_readGoer : MethodName := ⟨RX3, "readGoer", "(LStairSteps$House;)Z"⟩
abbrev cX3_readLoad : ByteArray := prog_5_method_8_code
def yX3_readLoad : MethodName := ⟨RX3, "readLoad", "(LStairSteps$House;)Z"⟩
abbrev cX3_readStride : ByteArray := prog_5_method_9_code
def yX3_readStride : MethodName := ⟨RX3, "readStride", "(LStairSteps$House;)Z"⟩
abbrev cX3_readHours : ByteArray := prog_5_method_10_code
def yX3_readHours : MethodName := ⟨RX3, "readHours", "(LStairSteps$House;)Z"⟩
abbrev cX3_stops : ByteArray := prog_5_method_11_code
def yX3_stops : MethodName := ⟨RX3, "stops", "()Z"⟩
abbrev cX3_isNumber : ByteArray := prog_5_method_12_code
def yX3_isNumber : MethodName := ⟨RX3, "isNumber", "(II)Z"⟩
abbrev cX3_isWord : ByteArray := prog_5_method_13_code
def yX3_isWord : MethodName := ⟨RX3, "isWord", "(Ljava/lang/String;)Z"⟩
abbrev cX3_next : ByteArray := prog_5_method_14_code
def yX3_next : MethodName := ⟨RX3, "next", "()V"⟩
abbrev cX3_takeWord : ByteArray := prog_5_method_15_code
def yX3_takeWord : MethodName := ⟨RX3, "takeWord", "()V"⟩
abbrev cX3_takeNumber : ByteArray := prog_5_method_16_code
def yX3_takeNumber : MethodName := ⟨RX3, "takeNumber", "()V"⟩
abbrev cX3_isLetter : ByteArray := prog_5_method_17_code
def yX3_isLetter : MethodName := ⟨RX3, "isLetter", "(I)Z"⟩
abbrev cX3_isFigure : ByteArray := prog_5_method_18_code
def yX3_isFigure : MethodName := ⟨RX3, "isFigure", "(I)Z"⟩
abbrev cX4_init : ByteArray := prog_1_method_1_code
def yX4_init : MethodName := ⟨RX4, "<init>", "()V"⟩
abbrev cX4_tenement : ByteArray := prog_1_method_2_code
def yX4_tenement : MethodName := ⟨RX4, "tenement", "()I"⟩
abbrev cX4_flight : ByteArray := prog_1_method_3_code
def yX4_flight : MethodName := ⟨RX4, "flight", "(II)I"⟩
abbrev cX4_goer : ByteArray := prog_1_method_4_code
def yX4_goer : MethodName := ⟨RX4, "goer", "(III)I"⟩
abbrev cX4_type : ByteArray := prog_1_method_5_code
def yX4_type : MethodName := ⟨RX4, "type", "(I)I"⟩
abbrev cX4_clear : ByteArray := prog_1_method_6_code
def yX4_clear : MethodName := ⟨RX4, "clear", "()I"⟩
abbrev cX4_read : ByteArray := prog_1_method_7_code
def yX4_read : MethodName := ⟨RX4, "read", "()I"⟩
abbrev cX4_strides : ByteArray := prog_1_method_8_code
def yX4_strides : MethodName := ⟨RX4, "strides", "(II)I"⟩
abbrev cX4_begins : ByteArray := prog_1_method_9_code
def yX4_begins : MethodName := ⟨RX4, "begins", "(I)I"⟩
abbrev cX4_loads : ByteArray := prog_1_method_10_code
def yX4_loads : MethodName := ⟨RX4, "loads", "(II)I"⟩
abbrev cX4_sells : ByteArray := prog_1_method_11_code
def yX4_sells : MethodName := ⟨RX4, "sells", "(II)I"⟩
abbrev cX4_hours : ByteArray := prog_1_method_12_code
def yX4_hours : MethodName := ⟨RX4, "hours", "(I)I"⟩
abbrev cX4_undo : ByteArray := prog_1_method_13_code
def yX4_undo : MethodName := ⟨RX4, "undo", "()I"⟩
abbrev cX4_of : ByteArray := prog_1_method_14_code
def yX4_of : MethodName := ⟨RX4, "of", "(II)I"⟩
abbrev cX4_about : ByteArray := prog_1_method_15_code
def yX4_about : MethodName := ⟨RX4, "about", "(II)I"⟩
abbrev cX4_up : ByteArray := prog_1_method_16_code
def yX4_up : MethodName := ⟨RX4, "up", "(II)I"⟩
abbrev cX4_stuck : ByteArray := prog_1_method_17_code
def yX4_stuck : MethodName := ⟨RX4, "stuck", "()I"⟩
abbrev cX4_soon : ByteArray := prog_1_method_18_code
def yX4_soon : MethodName := ⟨RX4, "soon", "(II)I"⟩
abbrev cX4_site : ByteArray := prog_1_method_19_code
def yX4_site : MethodName := ⟨RX4, "site", "(II)I"⟩
abbrev cX4_allUp : ByteArray := prog_1_method_20_code
def yX4_allUp : MethodName := ⟨RX4, "allUp", "(II)I"⟩
abbrev cX4_meets : ByteArray := prog_1_method_21_code
def yX4_meets : MethodName := ⟨RX4, "meets", "(II)I"⟩
abbrev cX4_seen : ByteArray := prog_1_method_22_code
def yX4_seen : MethodName := ⟨RX4, "seen", "(IIII)I"⟩
abbrev cX4_whose : ByteArray := prog_1_method_23_code
def yX4_whose : MethodName := ⟨RX4, "whose", "(I)I"⟩
abbrev cX4_tell : ByteArray := prog_1_method_24_code
def yX4_tell : MethodName := ⟨RX4, "tell", "(I)I"⟩
abbrev cX4_fittingSteps : ByteArray := prog_1_method_25_code
def yX4_fittingSteps : MethodName := ⟨RX4, "fittingSteps", "(I)I"⟩
abbrev cX4_note : ByteArray := prog_1_method_26_code
def yX4_note : MethodName := ⟨RX4, "note", "(III)I"⟩
abbrev cX4_mark : ByteArray := prog_1_method_27_code
def yX4_mark : MethodName := ⟨RX4, "mark", "(IIIII)I"⟩
abbrev cX4_forget : ByteArray := prog_1_method_28_code
def yX4_forget : MethodName := ⟨RX4, "forget", "(I)I"⟩
abbrev cX4_is : ByteArray := prog_1_method_29_code
def yX4_is : MethodName := ⟨RX4, "is", "(I)I"⟩
abbrev cX4_look : ByteArray := prog_1_method_30_code
def yX4_look : MethodName := ⟨RX4, "look", "(I)I"⟩
abbrev cX4_ownerKinds : ByteArray := prog_1_method_31_code
def yX4_ownerKinds : MethodName := ⟨RX4, "ownerKinds", "(I)I"⟩
abbrev cX4_ownerFits : ByteArray := prog_1_method_32_code
def yX4_ownerFits : MethodName := ⟨RX4, "ownerFits", "(II)Z"⟩
abbrev cX4_mostOwnersAlike : ByteArray := prog_1_method_33_code
def yX4_mostOwnersAlike : MethodName := ⟨RX4, "mostOwnersAlike", "(II)I"⟩
abbrev cX4_oneMoreAlike : ByteArray := prog_1_method_34_code
def yX4_oneMoreAlike : MethodName := ⟨RX4, "oneMoreAlike", "(I)I"⟩
abbrev cX4_kinds : ByteArray := prog_1_method_35_code
def yX4_kinds : MethodName := ⟨RX4, "kinds", "(I)I"⟩
abbrev cX4_ask : ByteArray := prog_1_method_36_code
def yX4_ask : MethodName := ⟨RX4, "ask", "(I)I"⟩
abbrev cX4_goerKinds : ByteArray := prog_1_method_37_code
def yX4_goerKinds : MethodName := ⟨RX4, "goerKinds", "(I)I"⟩
abbrev cX4_goerFits : ByteArray := prog_1_method_38_code
def yX4_goerFits : MethodName := ⟨RX4, "goerFits", "(II)Z"⟩
abbrev cX4_mostGoersAlike : ByteArray := prog_1_method_39_code
def yX4_mostGoersAlike : MethodName := ⟨RX4, "mostGoersAlike", "(IIII)I"⟩
abbrev cX4_gap : ByteArray := prog_1_method_40_code
def yX4_gap : MethodName := ⟨RX4, "gap", "(II)I"⟩
abbrev cX4_rests : ByteArray := prog_1_method_41_code
def yX4_rests : MethodName := ⟨RX4, "rests", "(III)Z"⟩
abbrev cX4_gain : ByteArray := prog_1_method_42_code
def yX4_gain : MethodName := ⟨RX4, "gain", "(III)I"⟩
abbrev cX4_dark : ByteArray := prog_1_method_43_code
def yX4_dark : MethodName := ⟨RX4, "dark", "(III)I"⟩
abbrev cX4_strideInDark : ByteArray := prog_1_method_44_code
def yX4_strideInDark : MethodName := ⟨RX4, "strideInDark", "(III)V"⟩
abbrev cX4_comeDown : ByteArray := prog_1_method_45_code
def yX4_comeDown : MethodName := ⟨RX4, "comeDown", "(III)V"⟩
abbrev cX4_sum : ByteArray := prog_1_method_46_code
def yX4_sum : MethodName := ⟨RX4, "sum", "([I)I"⟩
abbrev cX4_setFraction : ByteArray := prog_1_method_47_code
def yX4_setFraction : MethodName := ⟨RX4, "setFraction", "(JJ)V"⟩
abbrev cX4_commonDivisor : ByteArray := prog_1_method_48_code
def yX4_commonDivisor : MethodName := ⟨RX4, "commonDivisor", "(JJ)J"⟩
abbrev cX4_years : ByteArray := prog_1_method_49_code
def yX4_years : MethodName := ⟨RX4, "years", "(II)I"⟩
abbrev cX4_strideByChance : ByteArray := prog_1_method_50_code
def yX4_strideByChance : MethodName := ⟨RX4, "strideByChance", "(IJ)V"⟩
abbrev cX4_part : ByteArray := prog_1_method_51_code
def yX4_part : MethodName := ⟨RX4, "part", "(I)J"⟩
abbrev cX4_image : ByteArray := prog_1_method_52_code
def yX4_image : MethodName := ⟨RX4, "image", "(I)I"⟩
abbrev cX4_from : ByteArray := prog_1_method_53_code
def yX4_from : MethodName := ⟨RX4, "from", "(I)I"⟩
abbrev cX4_status : ByteArray := prog_1_method_54_code
def yX4_status : MethodName := ⟨RX4, "status", "(I)I"⟩
abbrev cX4_count : ByteArray := prog_1_method_55_code
def yX4_count : MethodName := ⟨RX4, "count", "(I)I"⟩
abbrev cX4_howMany : ByteArray := prog_1_method_56_code
def yX4_howMany : MethodName := ⟨RX4, "howMany", "(I)I"⟩
abbrev cX4_digest : ByteArray := prog_1_method_57_code
def yX4_digest : MethodName := ⟨RX4, "digest", "()J"⟩
abbrev cX4_bad : ByteArray := prog_1_method_58_code
def yX4_bad : MethodName := ⟨RX4, "bad", "()I"⟩
abbrev cX4_no : ByteArray := prog_1_method_59_code
def yX4_no : MethodName := ⟨RX4, "no", "()I"⟩
abbrev cX4_full : ByteArray := prog_1_method_60_code
def yX4_full : MethodName := ⟨RX4, "full", "()I"⟩
abbrev cX4_isKind : ByteArray := prog_1_method_61_code
def yX4_isKind : MethodName := ⟨RX4, "isKind", "(I)Z"⟩
abbrev cX4_isOwnable : ByteArray := prog_1_method_62_code
def yX4_isOwnable : MethodName := ⟨RX4, "isOwnable", "(I)Z"⟩
abbrev cX4_isLoad : ByteArray := prog_1_method_63_code
def yX4_isLoad : MethodName := ⟨RX4, "isLoad", "(I)Z"⟩
abbrev cX4_isHour : ByteArray := prog_1_method_64_code
def yX4_isHour : MethodName := ⟨RX4, "isHour", "(I)Z"⟩
abbrev cX4_at : ByteArray := prog_1_method_65_code
def yX4_at : MethodName := ⟨RX4, "at", "([II)I"⟩
abbrev cX4_put : ByteArray := prog_1_method_66_code
def yX4_put : MethodName := ⟨RX4, "put", "([III)V"⟩
abbrev cX4_copyInto : ByteArray := prog_1_method_67_code
def yX4_copyInto : MethodName := ⟨RX4, "copyInto", "([I[I)V"⟩
abbrev cX4_barCount : ByteArray := prog_1_method_68_code
def yX4_barCount : MethodName := ⟨RX4, "barCount", "(II)I"⟩
abbrev cX4_barBits : ByteArray := prog_1_method_69_code
def yX4_barBits : MethodName := ⟨RX4, "barBits", "(II)I"⟩
abbrev cX4_ownersBarring : ByteArray := prog_1_method_70_code
def yX4_ownersBarring : MethodName := ⟨RX4, "ownersBarring", "(II)I"⟩
abbrev cX4_lowBits : ByteArray := prog_1_method_71_code
def yX4_lowBits : MethodName := ⟨RX4, "lowBits", "(I)I"⟩
abbrev cX4_isBarred : ByteArray := prog_1_method_72_code
def yX4_isBarred : MethodName := ⟨RX4, "isBarred", "(II)Z"⟩
abbrev cX4_strideOf : ByteArray := prog_1_method_73_code
def yX4_strideOf : MethodName := ⟨RX4, "strideOf", "(IIII)I"⟩
abbrev cX5_init : ByteArray := prog_7_method_1_code
def yX5_init : MethodName := ⟨RX5, "<init>", "()V"⟩
abbrev cX5_in : ByteArray := prog_7_method_3_code
def yX5_in : MethodName := ⟨RX5, "in", "(JJJ)Z"⟩
abbrev cX5_has : ByteArray := prog_7_method_4_code
def yX5_has : MethodName := ⟨RX5, "has", "(II)Z"⟩
abbrev cX5_bad : ByteArray := prog_7_method_5_code
def yX5_bad : MethodName := ⟨RX5, "bad", "(I)I"⟩
abbrev cX5_no : ByteArray := prog_7_method_6_code
def yX5_no : MethodName := ⟨RX5, "no", "()I"⟩
abbrev cX5_full : ByteArray := prog_7_method_7_code
def yX5_full : MethodName := ⟨RX5, "full", "()I"⟩
abbrev cX5_copy : ByteArray := prog_7_method_8_code
def yX5_copy : MethodName := ⟨RX5, "copy", "(II)V"⟩
abbrev cX5_empties : ByteArray := prog_7_method_9_code
def yX5_empties : MethodName := ⟨RX5, "empties", "(I)V"⟩
abbrev cX5_isGoer : ByteArray := prog_7_method_10_code
def yX5_isGoer : MethodName := ⟨RX5, "isGoer", "(I)Z"⟩
abbrev cX5_isFlight : ByteArray := prog_7_method_11_code
def yX5_isFlight : MethodName := ⟨RX5, "isFlight", "(I)Z"⟩
abbrev cX5_isHour : ByteArray := prog_7_method_12_code
def yX5_isHour : MethodName := ⟨RX5, "isHour", "(I)Z"⟩
abbrev cX5_clerk : ByteArray := prog_7_method_13_code
def yX5_clerk : MethodName := ⟨RX5, "clerk", "(I)I"⟩
abbrev cX5_lady : ByteArray := prog_7_method_14_code
def yX5_lady : MethodName := ⟨RX5, "lady", "(I)I"⟩
abbrev cX5_barsOf : ByteArray := prog_7_method_15_code
def yX5_barsOf : MethodName := ⟨RX5, "barsOf", "(II)I"⟩
abbrev cX5_porter : ByteArray := prog_7_method_16_code
def yX5_porter : MethodName := ⟨RX5, "porter", "(II)I"⟩
abbrev cX5_stridesOf : ByteArray := prog_7_method_17_code
def yX5_stridesOf : MethodName := ⟨RX5, "stridesOf", "(IIII)I"⟩
abbrev cX5_barsFrom : ByteArray := prog_7_method_18_code
def yX5_barsFrom : MethodName := ⟨RX5, "barsFrom", "(III)I"⟩
abbrev cX5_bars : ByteArray := prog_7_method_19_code
def yX5_bars : MethodName := ⟨RX5, "bars", "(II)I"⟩
abbrev cX5_stridesIn : ByteArray := prog_7_method_20_code
def yX5_stridesIn : MethodName := ⟨RX5, "stridesIn", "(II)I"⟩
abbrev cX5_tenement : ByteArray := prog_7_method_21_code
def yX5_tenement : MethodName := ⟨RX5, "tenement", "()I"⟩
abbrev cX5_addsFlight : ByteArray := prog_7_method_22_code
def yX5_addsFlight : MethodName := ⟨RX5, "addsFlight", "(III)V"⟩
abbrev cX5_flight : ByteArray := prog_7_method_23_code
def yX5_flight : MethodName := ⟨RX5, "flight", "(II)I"⟩
abbrev cX5_addsGoer : ByteArray := prog_7_method_24_code
def yX5_addsGoer : MethodName := ⟨RX5, "addsGoer", "(IIII)V"⟩
abbrev cX5_goer : ByteArray := prog_7_method_25_code
def yX5_goer : MethodName := ⟨RX5, "goer", "(III)I"⟩
abbrev cX5_type : ByteArray := prog_7_method_26_code
def yX5_type : MethodName := ⟨RX5, "type", "(I)I"⟩
abbrev cX5_clear : ByteArray := prog_7_method_27_code
def yX5_clear : MethodName := ⟨RX5, "clear", "()I"⟩
abbrev cX5_byteAt : ByteArray := prog_7_method_28_code
def yX5_byteAt : MethodName := ⟨RX5, "byteAt", "(I)I"⟩
abbrev cX5_blanks : ByteArray := prog_7_method_29_code
def yX5_blanks : MethodName := ⟨RX5, "blanks", "()V"⟩
abbrev cX5_takesWord : ByteArray := prog_7_method_30_code
def yX5_takesWord : MethodName := ⟨RX5, "takesWord", "()V"⟩
abbrev cX5_isWord : ByteArray := prog_7_method_31_code
def yX5_isWord : MethodName := ⟨RX5, "isWord", "(IIIIIIII)Z"⟩
abbrev cX5_isLetter : ByteArray := prog_7_method_32_code
def yX5_isLetter : MethodName := ⟨RX5, "isLetter", "(III)Z"⟩
abbrev cX5_wordOf : ByteArray := prog_7_method_33_code
def yX5_wordOf : MethodName := ⟨RX5, "wordOf", "()I"⟩
abbrev cX5_takesNumber : ByteArray := prog_7_method_34_code
def yX5_takesNumber : MethodName := ⟨RX5, "takesNumber", "(II)Z"⟩
abbrev cX5_takesEnd : ByteArray := prog_7_method_35_code
def yX5_takesEnd : MethodName := ⟨RX5, "takesEnd", "()Z"⟩
abbrev cX5_readsFlight : ByteArray := prog_7_method_36_code
def yX5_readsFlight : MethodName := ⟨RX5, "readsFlight", "()Z"⟩
abbrev cX5_readsGoer : ByteArray := prog_7_method_37_code
def yX5_readsGoer : MethodName := ⟨RX5, "readsGoer", "()Z"⟩
abbrev cX5_readsLoad : ByteArray := prog_7_method_38_code
def yX5_readsLoad : MethodName := ⟨RX5, "readsLoad", "()Z"⟩
abbrev cX5_readsStride : ByteArray := prog_7_method_39_code
def yX5_readsStride : MethodName := ⟨RX5, "readsStride", "()Z"⟩
abbrev cX5_readsHours : ByteArray := prog_7_method_40_code
def yX5_readsHours : MethodName := ⟨RX5, "readsHours", "()Z"⟩
abbrev cX5_readsItem : ByteArray := prog_7_method_41_code
def yX5_readsItem : MethodName := ⟨RX5, "readsItem", "(Z)Z"⟩
abbrev cX5_read : ByteArray := prog_7_method_42_code
def yX5_read : MethodName := ⟨RX5, "read", "()I"⟩
abbrev cX5_goes : ByteArray := prog_7_method_43_code
def yX5_goes : MethodName := ⟨RX5, "goes", "(III)V"⟩
abbrev cX5_passes : ByteArray := prog_7_method_44_code
def yX5_passes : MethodName := ⟨RX5, "passes", "(II)V"⟩
abbrev cX5_minds : ByteArray := prog_7_method_45_code
def yX5_minds : MethodName := ⟨RX5, "minds", "()V"⟩
abbrev cX5_strides : ByteArray := prog_7_method_46_code
def yX5_strides : MethodName := ⟨RX5, "strides", "(II)I"⟩
abbrev cX5_begins : ByteArray := prog_7_method_47_code
def yX5_begins : MethodName := ⟨RX5, "begins", "(I)I"⟩
abbrev cX5_loads : ByteArray := prog_7_method_48_code
def yX5_loads : MethodName := ⟨RX5, "loads", "(II)I"⟩
abbrev cX5_sells : ByteArray := prog_7_method_49_code
def yX5_sells : MethodName := ⟨RX5, "sells", "(II)I"⟩
abbrev cX5_hours : ByteArray := prog_7_method_50_code
def yX5_hours : MethodName := ⟨RX5, "hours", "(I)I"⟩
abbrev cX5_undo : ByteArray := prog_7_method_51_code
def yX5_undo : MethodName := ⟨RX5, "undo", "()I"⟩
abbrev cX5_of : ByteArray := prog_7_method_52_code
def yX5_of : MethodName := ⟨RX5, "of", "(II)I"⟩
abbrev cX5_ofGoer : ByteArray := prog_7_method_53_code
def yX5_ofGoer : MethodName := ⟨RX5, "ofGoer", "(II)I"⟩
abbrev cX5_about : ByteArray := prog_7_method_54_code
def yX5_about : MethodName := ⟨RX5, "about", "(II)I"⟩
abbrev cX5_laysLeft : ByteArray := prog_7_method_55_code
def yX5_laysLeft : MethodName := ⟨RX5, "laysLeft", "(II)V"⟩
abbrev cX5_firstFrom : ByteArray := prog_7_method_56_code
def yX5_firstFrom : MethodName := ⟨RX5, "firstFrom", "(II)I"⟩
abbrev cX5_stepUp : ByteArray := prog_7_method_57_code
def yX5_stepUp : MethodName := ⟨RX5, "stepUp", "(II)I"⟩
abbrev cX5_laysNow : ByteArray := prog_7_method_58_code
def yX5_laysNow : MethodName := ⟨RX5, "laysNow", "(I)V"⟩
abbrev cX5_up : ByteArray := prog_7_method_59_code
def yX5_up : MethodName := ⟨RX5, "up", "(II)I"⟩
abbrev cX5_stuck : ByteArray := prog_7_method_60_code
def yX5_stuck : MethodName := ⟨RX5, "stuck", "()I"⟩
abbrev cX5_soon : ByteArray := prog_7_method_61_code
def yX5_soon : MethodName := ⟨RX5, "soon", "(II)I"⟩
abbrev cX5_site : ByteArray := prog_7_method_62_code
def yX5_site : MethodName := ⟨RX5, "site", "(II)I"⟩
abbrev cX5_laysWay : ByteArray := prog_7_method_63_code
def yX5_laysWay : MethodName := ⟨RX5, "laysWay", "(I[I)Z"⟩
abbrev cX5_meets : ByteArray := prog_7_method_64_code
def yX5_meets : MethodName := ⟨RX5, "meets", "(II)I"⟩
abbrev cX5_seen : ByteArray := prog_7_method_65_code
def yX5_seen : MethodName := ⟨RX5, "seen", "(IIII)I"⟩
abbrev cX5_canBe : ByteArray := prog_7_method_66_code
def yX5_canBe : MethodName := ⟨RX5, "canBe", "(II)Z"⟩
abbrev cX5_whoseOf : ByteArray := prog_7_method_67_code
def yX5_whoseOf : MethodName := ⟨RX5, "whoseOf", "(I)I"⟩
abbrev cX5_whose : ByteArray := prog_7_method_68_code
def yX5_whose : MethodName := ⟨RX5, "whose", "(I)I"⟩
abbrev cX5_tell : ByteArray := prog_7_method_69_code
def yX5_tell : MethodName := ⟨RX5, "tell", "(I)I"⟩
abbrev cX5_note : ByteArray := prog_7_method_70_code
def yX5_note : MethodName := ⟨RX5, "note", "(III)I"⟩
abbrev cX5_mark : ByteArray := prog_7_method_71_code
def yX5_mark : MethodName := ⟨RX5, "mark", "(IIIII)I"⟩
abbrev cX5_forget : ByteArray := prog_7_method_72_code
def yX5_forget : MethodName := ⟨RX5, "forget", "(I)I"⟩
abbrev cX5_isSo : ByteArray := prog_7_method_73_code
def yX5_isSo : MethodName := ⟨RX5, "isSo", "(II)Z"⟩
abbrev cX5_isOf : ByteArray := prog_7_method_74_code
def yX5_isOf : MethodName := ⟨RX5, "isOf", "(I)I"⟩
abbrev cX5_is : ByteArray := prog_7_method_75_code
def yX5_is : MethodName := ⟨RX5, "is", "(I)I"⟩
abbrev cX5_look : ByteArray := prog_7_method_76_code
def yX5_look : MethodName := ⟨RX5, "look", "(I)I"⟩
abbrev cX5_canStride : ByteArray := prog_7_method_77_code
def yX5_canStride : MethodName := ⟨RX5, "canStride", "(II)Z"⟩
abbrev cX5_kindsOf : ByteArray := prog_7_method_78_code
def yX5_kindsOf : MethodName := ⟨RX5, "kindsOf", "(I)I"⟩
abbrev cX5_kinds : ByteArray := prog_7_method_79_code
def yX5_kinds : MethodName := ⟨RX5, "kinds", "(I)I"⟩
abbrev cX5_ask : ByteArray := prog_7_method_80_code
def yX5_ask : MethodName := ⟨RX5, "ask", "(I)I"⟩
abbrev cX5_gets : ByteArray := prog_7_method_81_code
def yX5_gets : MethodName := ⟨RX5, "gets", "(ZZI)I"⟩
abbrev cX5_gap : ByteArray := prog_7_method_82_code
def yX5_gap : MethodName := ⟨RX5, "gap", "(II)I"⟩
abbrev cX5_tells : ByteArray := prog_7_method_83_code
def yX5_tells : MethodName := ⟨RX5, "tells", "(JJ)I"⟩
abbrev cX5_dark : ByteArray := prog_7_method_84_code
def yX5_dark : MethodName := ⟨RX5, "dark", "(III)I"⟩
abbrev cX5_years : ByteArray := prog_7_method_85_code
def yX5_years : MethodName := ⟨RX5, "years", "(II)I"⟩
abbrev cX5_part : ByteArray := prog_7_method_86_code
def yX5_part : MethodName := ⟨RX5, "part", "(I)J"⟩
abbrev cX5_image : ByteArray := prog_7_method_87_code
def yX5_image : MethodName := ⟨RX5, "image", "(I)I"⟩
abbrev cX5_from : ByteArray := prog_7_method_88_code
def yX5_from : MethodName := ⟨RX5, "from", "(I)I"⟩
abbrev cX5_status : ByteArray := prog_7_method_89_code
def yX5_status : MethodName := ⟨RX5, "status", "(I)I"⟩
abbrev cX5_over : ByteArray := prog_7_method_90_code
def yX5_over : MethodName := ⟨RX5, "over", "()I"⟩
abbrev cX5_countOf : ByteArray := prog_7_method_91_code
def yX5_countOf : MethodName := ⟨RX5, "countOf", "(I)I"⟩
abbrev cX5_count : ByteArray := prog_7_method_92_code
def yX5_count : MethodName := ⟨RX5, "count", "(I)I"⟩
abbrev cX5_mix : ByteArray := prog_7_method_93_code
def yX5_mix : MethodName := ⟨RX5, "mix", "(J)V"⟩
abbrev cX5_mixes : ByteArray := prog_7_method_94_code
def yX5_mixes : MethodName := ⟨RX5, "mixes", "(II)V"⟩
abbrev cX5_digest : ByteArray := prog_7_method_95_code
def yX5_digest : MethodName := ⟨RX5, "digest", "()J"⟩
abbrev cJ6_bitCount_0f7a4 : ByteArray := prog_8_method_49_code
def yJ6_bitCount_0f7a4 : MethodName := ⟨"java/lang/Integer", "bitCount", "(I)I"⟩
abbrev cJ7_fill_53178 : ByteArray := prog_14_method_103_code
def yJ7_fill_53178 : MethodName := ⟨"java/util/Arrays", "fill", "([II)V"⟩
abbrev cJ9_max_7cf53 : ByteArray := prog_9_method_65_code
def yJ9_max_7cf53 : MethodName := ⟨"java/lang/Math", "max", "(II)I"⟩
abbrev cJ9_min_7cf53 : ByteArray := prog_9_method_69_code
def yJ9_min_7cf53 : MethodName := ⟨"java/lang/Math", "min", "(II)I"⟩
abbrev cJ0_length_8abf5 : ByteArray := prog_10_method_54_code
def yJ0_length_8abf5 : MethodName := ⟨"java/lang/String", "length", "()I"⟩
abbrev cJ0_charAt_5068e : ByteArray := prog_10_method_56_code
def yJ0_charAt_5068e : MethodName := ⟨"java/lang/String", "charAt", "(I)C"⟩
abbrev cJ0_coder_7d493 : ByteArray := prog_10_method_152_code
def yJ0_coder_7d493 : MethodName := ⟨"java/lang/String", "coder", "()B"⟩
abbrev cJ0_isLatin1_aae02 : ByteArray := prog_10_method_154_code
def yJ0_isLatin1_aae02 : MethodName := ⟨"java/lang/String", "isLatin1", "()Z"⟩
abbrev cJ0_checkIndex_df160 : ByteArray := prog_10_method_155_code
def yJ0_checkIndex_df160 : MethodName := ⟨"java/lang/String", "checkIndex", "(II)V"⟩
abbrev cJ1_charAt_3b067 : ByteArray := prog_11_method_2_code
def yJ1_charAt_3b067 : MethodName := ⟨"java/lang/StringLatin1", "charAt", "([BI)C"⟩
abbrev cJ3_checkIndex_8e157 : ByteArray := prog_15_method_11_code
def yJ3_checkIndex_8e157 : MethodName := ⟨"jdk/internal/util/Preconditions", "checkIndex", "(IILjava/util/function/BiFunction;)I"⟩
