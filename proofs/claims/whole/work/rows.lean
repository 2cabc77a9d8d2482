section
/-! names: PART A of the skeleton, the classes, the methods -/
-- ===== PART A: goes FIRST, ahead of the names: the tables' words, and 'selects' of the private methods out of them =====
/-- a private method of a class that the tables say can be made, by its rows of tables_1 -/
def lw_okq (q : MethodName × Nat) : Prop := (q.1.cls ≠ "java/lang/invoke/MethodHandle" ∧ q.1.cls ≠ "java/lang/invoke/VarHandle") ∧ Cond.instantiable q.1.cls q.2 ∈ tables_1 ∧ Cond.privateMethod q.1 ∈ tables_1 ∧ Cond.instanceMethod q.1 ∈ tables_1
theorem lw_p0 : lw_okq (⟨"StairSteps", "bad", "()I"⟩, 17) := ⟨⟨by decide +kernel, by decide +kernel⟩, List.mem_of_getElem? (i := 16) (by decide +kernel), List.mem_of_getElem? (i := 217) (by decide +kernel), List.mem_of_getElem? (i := 218) (by decide +kernel)⟩
theorem lw_p1 : lw_okq (⟨"StairSteps", "full", "()I"⟩, 17) := ⟨⟨by decide +kernel, by decide +kernel⟩, List.mem_of_getElem? (i := 16) (by decide +kernel), List.mem_of_getElem? (i := 221) (by decide +kernel), List.mem_of_getElem? (i := 222) (by decide +kernel)⟩
theorem lw_p2 : lw_okq (⟨"StairSteps$Reader", "next", "()V"⟩, 6) := ⟨⟨by decide +kernel, by decide +kernel⟩, List.mem_of_getElem? (i := 113) (by decide +kernel), List.mem_of_getElem? (i := 277) (by decide +kernel), List.mem_of_getElem? (i := 278) (by decide +kernel)⟩
theorem lw_p3 : lw_okq (⟨"StairSteps$Reader", "isLetter", "(I)Z"⟩, 6) := ⟨⟨by decide +kernel, by decide +kernel⟩, List.mem_of_getElem? (i := 113) (by decide +kernel), List.mem_of_getElem? (i := 284) (by decide +kernel), List.mem_of_getElem? (i := 285) (by decide +kernel)⟩
theorem lw_p4 : lw_okq (⟨"StairSteps$Reader", "takeWord", "()V"⟩, 6) := ⟨⟨by decide +kernel, by decide +kernel⟩, List.mem_of_getElem? (i := 113) (by decide +kernel), List.mem_of_getElem? (i := 288) (by decide +kernel), List.mem_of_getElem? (i := 289) (by decide +kernel)⟩
theorem lw_p5 : lw_okq (⟨"StairSteps$Reader", "isFigure", "(I)Z"⟩, 6) := ⟨⟨by decide +kernel, by decide +kernel⟩, List.mem_of_getElem? (i := 113) (by decide +kernel), List.mem_of_getElem? (i := 292) (by decide +kernel), List.mem_of_getElem? (i := 293) (by decide +kernel)⟩
theorem lw_p6 : lw_okq (⟨"StairSteps$Reader", "takeNumber", "()V"⟩, 6) := ⟨⟨by decide +kernel, by decide +kernel⟩, List.mem_of_getElem? (i := 113) (by decide +kernel), List.mem_of_getElem? (i := 296) (by decide +kernel), List.mem_of_getElem? (i := 297) (by decide +kernel)⟩
theorem lw_p7 : lw_okq (⟨"StairSteps$Reader", "isWord", "(Ljava/lang/String;)Z"⟩, 6) := ⟨⟨by decide +kernel, by decide +kernel⟩, List.mem_of_getElem? (i := 113) (by decide +kernel), List.mem_of_getElem? (i := 301) (by decide +kernel), List.mem_of_getElem? (i := 302) (by decide +kernel)⟩
theorem lw_p8 : lw_okq (⟨"StairSteps$Reader", "stops", "()Z"⟩, 6) := ⟨⟨by decide +kernel, by decide +kernel⟩, List.mem_of_getElem? (i := 113) (by decide +kernel), List.mem_of_getElem? (i := 353) (by decide +kernel), List.mem_of_getElem? (i := 354) (by decide +kernel)⟩
theorem lw_p9 : lw_okq (⟨"StairSteps$Reader", "readFlight", "(LStairSteps$House;)Z"⟩, 6) := ⟨⟨by decide +kernel, by decide +kernel⟩, List.mem_of_getElem? (i := 113) (by decide +kernel), List.mem_of_getElem? (i := 366) (by decide +kernel), List.mem_of_getElem? (i := 367) (by decide +kernel)⟩
theorem lw_p10 : lw_okq (⟨"StairSteps$Reader", "isNumber", "(II)Z"⟩, 6) := ⟨⟨by decide +kernel, by decide +kernel⟩, List.mem_of_getElem? (i := 113) (by decide +kernel), List.mem_of_getElem? (i := 370) (by decide +kernel), List.mem_of_getElem? (i := 371) (by decide +kernel)⟩
theorem lw_p11 : lw_okq (⟨"StairSteps$Reader", "readGoer", "(LStairSteps$House;)Z"⟩, 6) := ⟨⟨by decide +kernel, by decide +kernel⟩, List.mem_of_getElem? (i := 113) (by decide +kernel), List.mem_of_getElem? (i := 376) (by decide +kernel), List.mem_of_getElem? (i := 377) (by decide +kernel)⟩
theorem lw_p12 : lw_okq (⟨"StairSteps$Reader", "readLoad", "(LStairSteps$House;)Z"⟩, 6) := ⟨⟨by decide +kernel, by decide +kernel⟩, List.mem_of_getElem? (i := 113) (by decide +kernel), List.mem_of_getElem? (i := 382) (by decide +kernel), List.mem_of_getElem? (i := 383) (by decide +kernel)⟩
theorem lw_p13 : lw_okq (⟨"StairSteps$Reader", "readStride", "(LStairSteps$House;)Z"⟩, 6) := ⟨⟨by decide +kernel, by decide +kernel⟩, List.mem_of_getElem? (i := 113) (by decide +kernel), List.mem_of_getElem? (i := 388) (by decide +kernel), List.mem_of_getElem? (i := 389) (by decide +kernel)⟩
theorem lw_p14 : lw_okq (⟨"StairSteps$Reader", "readHours", "(LStairSteps$House;)Z"⟩, 6) := ⟨⟨by decide +kernel, by decide +kernel⟩, List.mem_of_getElem? (i := 113) (by decide +kernel), List.mem_of_getElem? (i := 456) (by decide +kernel), List.mem_of_getElem? (i := 457) (by decide +kernel)⟩
theorem lw_p15 : lw_okq (⟨"StairSteps", "no", "()I"⟩, 17) := ⟨⟨by decide +kernel, by decide +kernel⟩, List.mem_of_getElem? (i := 16) (by decide +kernel), List.mem_of_getElem? (i := 494) (by decide +kernel), List.mem_of_getElem? (i := 495) (by decide +kernel)⟩
def lw_privs_1 : List (MethodName × Nat) := [(⟨"StairSteps", "bad", "()I"⟩, 17), (⟨"StairSteps", "full", "()I"⟩, 17), (⟨"StairSteps$Reader", "next", "()V"⟩, 6), (⟨"StairSteps$Reader", "isLetter", "(I)Z"⟩, 6), (⟨"StairSteps$Reader", "takeWord", "()V"⟩, 6), (⟨"StairSteps$Reader", "isFigure", "(I)Z"⟩, 6), (⟨"StairSteps$Reader", "takeNumber", "()V"⟩, 6), (⟨"StairSteps$Reader", "isWord", "(Ljava/lang/String;)Z"⟩, 6), (⟨"StairSteps$Reader", "stops", "()Z"⟩, 6), (⟨"StairSteps$Reader", "readFlight", "(LStairSteps$House;)Z"⟩, 6), (⟨"StairSteps$Reader", "isNumber", "(II)Z"⟩, 6), (⟨"StairSteps$Reader", "readGoer", "(LStairSteps$House;)Z"⟩, 6), (⟨"StairSteps$Reader", "readLoad", "(LStairSteps$House;)Z"⟩, 6), (⟨"StairSteps$Reader", "readStride", "(LStairSteps$House;)Z"⟩, 6), (⟨"StairSteps$Reader", "readHours", "(LStairSteps$House;)Z"⟩, 6), (⟨"StairSteps", "no", "()I"⟩, 17)]
theorem lw_r1 : ∀ q ∈ lw_privs_1, lw_okq q := List.forall_mem_cons.mpr ⟨lw_p0, List.forall_mem_cons.mpr ⟨lw_p1, List.forall_mem_cons.mpr ⟨lw_p2, List.forall_mem_cons.mpr ⟨lw_p3, List.forall_mem_cons.mpr ⟨lw_p4, List.forall_mem_cons.mpr ⟨lw_p5, List.forall_mem_cons.mpr ⟨lw_p6, List.forall_mem_cons.mpr ⟨lw_p7, List.forall_mem_cons.mpr ⟨lw_p8, List.forall_mem_cons.mpr ⟨lw_p9, List.forall_mem_cons.mpr ⟨lw_p10, List.forall_mem_cons.mpr ⟨lw_p11, List.forall_mem_cons.mpr ⟨lw_p12, List.forall_mem_cons.mpr ⟨lw_p13, List.forall_mem_cons.mpr ⟨lw_p14, List.forall_mem_cons.mpr ⟨lw_p15, fun _ h => absurd h List.not_mem_nil⟩⟩⟩⟩⟩⟩⟩⟩⟩⟩⟩⟩⟩⟩⟩⟩
theorem lw_p16 : lw_okq (⟨"StairSteps$Climb", "restBehind", "(II)I"⟩, 3) := ⟨⟨by decide +kernel, by decide +kernel⟩, List.mem_of_getElem? (i := 96) (by decide +kernel), List.mem_of_getElem? (i := 583) (by decide +kernel), List.mem_of_getElem? (i := 584) (by decide +kernel)⟩
theorem lw_p17 : lw_okq (⟨"StairSteps$Climb", "shortest", "(IIII)I"⟩, 3) := ⟨⟨by decide +kernel, by decide +kernel⟩, List.mem_of_getElem? (i := 96) (by decide +kernel), List.mem_of_getElem? (i := 589) (by decide +kernel), List.mem_of_getElem? (i := 590) (by decide +kernel)⟩
theorem lw_p18 : lw_okq (⟨"StairSteps", "allUp", "(II)I"⟩, 17) := ⟨⟨by decide +kernel, by decide +kernel⟩, List.mem_of_getElem? (i := 16) (by decide +kernel), List.mem_of_getElem? (i := 612) (by decide +kernel), List.mem_of_getElem? (i := 613) (by decide +kernel)⟩
theorem lw_p19 : lw_okq (⟨"StairSteps$Ledger", "set", "(II)V"⟩, 4) := ⟨⟨by decide +kernel, by decide +kernel⟩, List.mem_of_getElem? (i := 30) (by decide +kernel), List.mem_of_getElem? (i := 638) (by decide +kernel), List.mem_of_getElem? (i := 639) (by decide +kernel)⟩
theorem lw_p20 : lw_okq (⟨"StairSteps", "fittingSteps", "(I)I"⟩, 17) := ⟨⟨by decide +kernel, by decide +kernel⟩, List.mem_of_getElem? (i := 16) (by decide +kernel), List.mem_of_getElem? (i := 647) (by decide +kernel), List.mem_of_getElem? (i := 648) (by decide +kernel)⟩
theorem lw_p21 : lw_okq (⟨"StairSteps", "ownerKinds", "(I)I"⟩, 17) := ⟨⟨by decide +kernel, by decide +kernel⟩, List.mem_of_getElem? (i := 16) (by decide +kernel), List.mem_of_getElem? (i := 686) (by decide +kernel), List.mem_of_getElem? (i := 687) (by decide +kernel)⟩
theorem lw_p22 : lw_okq (⟨"StairSteps", "ownerFits", "(II)Z"⟩, 17) := ⟨⟨by decide +kernel, by decide +kernel⟩, List.mem_of_getElem? (i := 16) (by decide +kernel), List.mem_of_getElem? (i := 690) (by decide +kernel), List.mem_of_getElem? (i := 691) (by decide +kernel)⟩
theorem lw_p23 : lw_okq (⟨"StairSteps", "mostOwnersAlike", "(II)I"⟩, 17) := ⟨⟨by decide +kernel, by decide +kernel⟩, List.mem_of_getElem? (i := 16) (by decide +kernel), List.mem_of_getElem? (i := 698) (by decide +kernel), List.mem_of_getElem? (i := 699) (by decide +kernel)⟩
theorem lw_p24 : lw_okq (⟨"StairSteps", "oneMoreAlike", "(I)I"⟩, 17) := ⟨⟨by decide +kernel, by decide +kernel⟩, List.mem_of_getElem? (i := 16) (by decide +kernel), List.mem_of_getElem? (i := 703) (by decide +kernel), List.mem_of_getElem? (i := 704) (by decide +kernel)⟩
theorem lw_p25 : lw_okq (⟨"StairSteps", "goerKinds", "(I)I"⟩, 17) := ⟨⟨by decide +kernel, by decide +kernel⟩, List.mem_of_getElem? (i := 16) (by decide +kernel), List.mem_of_getElem? (i := 713) (by decide +kernel), List.mem_of_getElem? (i := 714) (by decide +kernel)⟩
theorem lw_p26 : lw_okq (⟨"StairSteps", "goerFits", "(II)Z"⟩, 17) := ⟨⟨by decide +kernel, by decide +kernel⟩, List.mem_of_getElem? (i := 16) (by decide +kernel), List.mem_of_getElem? (i := 717) (by decide +kernel), List.mem_of_getElem? (i := 718) (by decide +kernel)⟩
theorem lw_p27 : lw_okq (⟨"StairSteps", "mostGoersAlike", "(IIII)I"⟩, 17) := ⟨⟨by decide +kernel, by decide +kernel⟩, List.mem_of_getElem? (i := 16) (by decide +kernel), List.mem_of_getElem? (i := 727) (by decide +kernel), List.mem_of_getElem? (i := 728) (by decide +kernel)⟩
theorem lw_p28 : lw_okq (⟨"StairSteps", "rests", "(III)Z"⟩, 17) := ⟨⟨by decide +kernel, by decide +kernel⟩, List.mem_of_getElem? (i := 16) (by decide +kernel), List.mem_of_getElem? (i := 735) (by decide +kernel), List.mem_of_getElem? (i := 736) (by decide +kernel)⟩
theorem lw_p29 : lw_okq (⟨"StairSteps", "gain", "(III)I"⟩, 17) := ⟨⟨by decide +kernel, by decide +kernel⟩, List.mem_of_getElem? (i := 16) (by decide +kernel), List.mem_of_getElem? (i := 739) (by decide +kernel), List.mem_of_getElem? (i := 740) (by decide +kernel)⟩
theorem lw_p30 : lw_okq (⟨"StairSteps", "setFraction", "(JJ)V"⟩, 17) := ⟨⟨by decide +kernel, by decide +kernel⟩, List.mem_of_getElem? (i := 16) (by decide +kernel), List.mem_of_getElem? (i := 747) (by decide +kernel), List.mem_of_getElem? (i := 748) (by decide +kernel)⟩
theorem lw_p31 : lw_okq (⟨"StairSteps", "strideInDark", "(III)V"⟩, 17) := ⟨⟨by decide +kernel, by decide +kernel⟩, List.mem_of_getElem? (i := 16) (by decide +kernel), List.mem_of_getElem? (i := 754) (by decide +kernel), List.mem_of_getElem? (i := 755) (by decide +kernel)⟩
def lw_privs_2 : List (MethodName × Nat) := [(⟨"StairSteps$Climb", "restBehind", "(II)I"⟩, 3), (⟨"StairSteps$Climb", "shortest", "(IIII)I"⟩, 3), (⟨"StairSteps", "allUp", "(II)I"⟩, 17), (⟨"StairSteps$Ledger", "set", "(II)V"⟩, 4), (⟨"StairSteps", "fittingSteps", "(I)I"⟩, 17), (⟨"StairSteps", "ownerKinds", "(I)I"⟩, 17), (⟨"StairSteps", "ownerFits", "(II)Z"⟩, 17), (⟨"StairSteps", "mostOwnersAlike", "(II)I"⟩, 17), (⟨"StairSteps", "oneMoreAlike", "(I)I"⟩, 17), (⟨"StairSteps", "goerKinds", "(I)I"⟩, 17), (⟨"StairSteps", "goerFits", "(II)Z"⟩, 17), (⟨"StairSteps", "mostGoersAlike", "(IIII)I"⟩, 17), (⟨"StairSteps", "rests", "(III)Z"⟩, 17), (⟨"StairSteps", "gain", "(III)I"⟩, 17), (⟨"StairSteps", "setFraction", "(JJ)V"⟩, 17), (⟨"StairSteps", "strideInDark", "(III)V"⟩, 17)]
theorem lw_r2 : ∀ q ∈ lw_privs_2, lw_okq q := List.forall_mem_cons.mpr ⟨lw_p16, List.forall_mem_cons.mpr ⟨lw_p17, List.forall_mem_cons.mpr ⟨lw_p18, List.forall_mem_cons.mpr ⟨lw_p19, List.forall_mem_cons.mpr ⟨lw_p20, List.forall_mem_cons.mpr ⟨lw_p21, List.forall_mem_cons.mpr ⟨lw_p22, List.forall_mem_cons.mpr ⟨lw_p23, List.forall_mem_cons.mpr ⟨lw_p24, List.forall_mem_cons.mpr ⟨lw_p25, List.forall_mem_cons.mpr ⟨lw_p26, List.forall_mem_cons.mpr ⟨lw_p27, List.forall_mem_cons.mpr ⟨lw_p28, List.forall_mem_cons.mpr ⟨lw_p29, List.forall_mem_cons.mpr ⟨lw_p30, List.forall_mem_cons.mpr ⟨lw_p31, fun _ h => absurd h List.not_mem_nil⟩⟩⟩⟩⟩⟩⟩⟩⟩⟩⟩⟩⟩⟩⟩⟩
theorem lw_p32 : lw_okq (⟨"StairSteps", "comeDown", "(III)V"⟩, 17) := ⟨⟨by decide +kernel, by decide +kernel⟩, List.mem_of_getElem? (i := 16) (by decide +kernel), List.mem_of_getElem? (i := 759) (by decide +kernel), List.mem_of_getElem? (i := 760) (by decide +kernel)⟩
theorem lw_p33 : lw_okq (⟨"StairSteps", "strideByChance", "(IJ)V"⟩, 17) := ⟨⟨by decide +kernel, by decide +kernel⟩, List.mem_of_getElem? (i := 16) (by decide +kernel), List.mem_of_getElem? (i := 778) (by decide +kernel), List.mem_of_getElem? (i := 779) (by decide +kernel)⟩
theorem lw_p34 : lw_okq (⟨"StairSteps", "howMany", "(I)I"⟩, 17) := ⟨⟨by decide +kernel, by decide +kernel⟩, List.mem_of_getElem? (i := 16) (by decide +kernel), List.mem_of_getElem? (i := 803) (by decide +kernel), List.mem_of_getElem? (i := 804) (by decide +kernel)⟩
theorem lw_p35 : lw_okq (⟨"StairStepsModel", "empties", "(I)V"⟩, 15) := ⟨⟨by decide +kernel, by decide +kernel⟩, List.mem_of_getElem? (i := 824) (by decide +kernel), List.mem_of_getElem? (i := 881) (by decide +kernel), List.mem_of_getElem? (i := 882) (by decide +kernel)⟩
theorem lw_p36 : lw_okq (⟨"StairStepsModel", "bad", "(I)I"⟩, 15) := ⟨⟨by decide +kernel, by decide +kernel⟩, List.mem_of_getElem? (i := 824) (by decide +kernel), List.mem_of_getElem? (i := 894) (by decide +kernel), List.mem_of_getElem? (i := 895) (by decide +kernel)⟩
theorem lw_p37 : lw_okq (⟨"StairStepsModel", "full", "()I"⟩, 15) := ⟨⟨by decide +kernel, by decide +kernel⟩, List.mem_of_getElem? (i := 824) (by decide +kernel), List.mem_of_getElem? (i := 898) (by decide +kernel), List.mem_of_getElem? (i := 899) (by decide +kernel)⟩
theorem lw_p38 : lw_okq (⟨"StairStepsModel", "addsFlight", "(III)V"⟩, 15) := ⟨⟨by decide +kernel, by decide +kernel⟩, List.mem_of_getElem? (i := 824) (by decide +kernel), List.mem_of_getElem? (i := 902) (by decide +kernel), List.mem_of_getElem? (i := 903) (by decide +kernel)⟩
theorem lw_p39 : lw_okq (⟨"StairStepsModel", "isFlight", "(I)Z"⟩, 15) := ⟨⟨by decide +kernel, by decide +kernel⟩, List.mem_of_getElem? (i := 824) (by decide +kernel), List.mem_of_getElem? (i := 911) (by decide +kernel), List.mem_of_getElem? (i := 912) (by decide +kernel)⟩
theorem lw_p40 : lw_okq (⟨"StairStepsModel", "addsGoer", "(IIII)V"⟩, 15) := ⟨⟨by decide +kernel, by decide +kernel⟩, List.mem_of_getElem? (i := 824) (by decide +kernel), List.mem_of_getElem? (i := 915) (by decide +kernel), List.mem_of_getElem? (i := 916) (by decide +kernel)⟩
theorem lw_p41 : lw_okq (⟨"StairStepsModel", "blanks", "()V"⟩, 15) := ⟨⟨by decide +kernel, by decide +kernel⟩, List.mem_of_getElem? (i := 824) (by decide +kernel), List.mem_of_getElem? (i := 932) (by decide +kernel), List.mem_of_getElem? (i := 933) (by decide +kernel)⟩
theorem lw_p42 : lw_okq (⟨"StairStepsModel", "byteAt", "(I)I"⟩, 15) := ⟨⟨by decide +kernel, by decide +kernel⟩, List.mem_of_getElem? (i := 824) (by decide +kernel), List.mem_of_getElem? (i := 936) (by decide +kernel), List.mem_of_getElem? (i := 937) (by decide +kernel)⟩
theorem lw_p43 : lw_okq (⟨"StairStepsModel", "readsItem", "(Z)Z"⟩, 15) := ⟨⟨by decide +kernel, by decide +kernel⟩, List.mem_of_getElem? (i := 824) (by decide +kernel), List.mem_of_getElem? (i := 940) (by decide +kernel), List.mem_of_getElem? (i := 941) (by decide +kernel)⟩
theorem lw_p44 : lw_okq (⟨"StairStepsModel", "takesWord", "()V"⟩, 15) := ⟨⟨by decide +kernel, by decide +kernel⟩, List.mem_of_getElem? (i := 824) (by decide +kernel), List.mem_of_getElem? (i := 944) (by decide +kernel), List.mem_of_getElem? (i := 945) (by decide +kernel)⟩
theorem lw_p45 : lw_okq (⟨"StairStepsModel", "wordOf", "()I"⟩, 15) := ⟨⟨by decide +kernel, by decide +kernel⟩, List.mem_of_getElem? (i := 824) (by decide +kernel), List.mem_of_getElem? (i := 950) (by decide +kernel), List.mem_of_getElem? (i := 951) (by decide +kernel)⟩
theorem lw_p46 : lw_okq (⟨"StairStepsModel", "isWord", "(IIIIIIII)Z"⟩, 15) := ⟨⟨by decide +kernel, by decide +kernel⟩, List.mem_of_getElem? (i := 824) (by decide +kernel), List.mem_of_getElem? (i := 954) (by decide +kernel), List.mem_of_getElem? (i := 955) (by decide +kernel)⟩
theorem lw_p47 : lw_okq (⟨"StairStepsModel", "isLetter", "(III)Z"⟩, 15) := ⟨⟨by decide +kernel, by decide +kernel⟩, List.mem_of_getElem? (i := 824) (by decide +kernel), List.mem_of_getElem? (i := 958) (by decide +kernel), List.mem_of_getElem? (i := 959) (by decide +kernel)⟩
def lw_privs_3 : List (MethodName × Nat) := [(⟨"StairSteps", "comeDown", "(III)V"⟩, 17), (⟨"StairSteps", "strideByChance", "(IJ)V"⟩, 17), (⟨"StairSteps", "howMany", "(I)I"⟩, 17), (⟨"StairStepsModel", "empties", "(I)V"⟩, 15), (⟨"StairStepsModel", "bad", "(I)I"⟩, 15), (⟨"StairStepsModel", "full", "()I"⟩, 15), (⟨"StairStepsModel", "addsFlight", "(III)V"⟩, 15), (⟨"StairStepsModel", "isFlight", "(I)Z"⟩, 15), (⟨"StairStepsModel", "addsGoer", "(IIII)V"⟩, 15), (⟨"StairStepsModel", "blanks", "()V"⟩, 15), (⟨"StairStepsModel", "byteAt", "(I)I"⟩, 15), (⟨"StairStepsModel", "readsItem", "(Z)Z"⟩, 15), (⟨"StairStepsModel", "takesWord", "()V"⟩, 15), (⟨"StairStepsModel", "wordOf", "()I"⟩, 15), (⟨"StairStepsModel", "isWord", "(IIIIIIII)Z"⟩, 15), (⟨"StairStepsModel", "isLetter", "(III)Z"⟩, 15)]
theorem lw_r3 : ∀ q ∈ lw_privs_3, lw_okq q := List.forall_mem_cons.mpr ⟨lw_p32, List.forall_mem_cons.mpr ⟨lw_p33, List.forall_mem_cons.mpr ⟨lw_p34, List.forall_mem_cons.mpr ⟨lw_p35, List.forall_mem_cons.mpr ⟨lw_p36, List.forall_mem_cons.mpr ⟨lw_p37, List.forall_mem_cons.mpr ⟨lw_p38, List.forall_mem_cons.mpr ⟨lw_p39, List.forall_mem_cons.mpr ⟨lw_p40, List.forall_mem_cons.mpr ⟨lw_p41, List.forall_mem_cons.mpr ⟨lw_p42, List.forall_mem_cons.mpr ⟨lw_p43, List.forall_mem_cons.mpr ⟨lw_p44, List.forall_mem_cons.mpr ⟨lw_p45, List.forall_mem_cons.mpr ⟨lw_p46, List.forall_mem_cons.mpr ⟨lw_p47, fun _ h => absurd h List.not_mem_nil⟩⟩⟩⟩⟩⟩⟩⟩⟩⟩⟩⟩⟩⟩⟩⟩
theorem lw_p48 : lw_okq (⟨"StairStepsModel", "readsFlight", "()Z"⟩, 15) := ⟨⟨by decide +kernel, by decide +kernel⟩, List.mem_of_getElem? (i := 824) (by decide +kernel), List.mem_of_getElem? (i := 962) (by decide +kernel), List.mem_of_getElem? (i := 963) (by decide +kernel)⟩
theorem lw_p49 : lw_okq (⟨"StairStepsModel", "takesNumber", "(II)Z"⟩, 15) := ⟨⟨by decide +kernel, by decide +kernel⟩, List.mem_of_getElem? (i := 824) (by decide +kernel), List.mem_of_getElem? (i := 966) (by decide +kernel), List.mem_of_getElem? (i := 967) (by decide +kernel)⟩
theorem lw_p50 : lw_okq (⟨"StairStepsModel", "readsGoer", "()Z"⟩, 15) := ⟨⟨by decide +kernel, by decide +kernel⟩, List.mem_of_getElem? (i := 824) (by decide +kernel), List.mem_of_getElem? (i := 973) (by decide +kernel), List.mem_of_getElem? (i := 974) (by decide +kernel)⟩
theorem lw_p51 : lw_okq (⟨"StairStepsModel", "readsLoad", "()Z"⟩, 15) := ⟨⟨by decide +kernel, by decide +kernel⟩, List.mem_of_getElem? (i := 824) (by decide +kernel), List.mem_of_getElem? (i := 977) (by decide +kernel), List.mem_of_getElem? (i := 978) (by decide +kernel)⟩
theorem lw_p52 : lw_okq (⟨"StairStepsModel", "readsStride", "()Z"⟩, 15) := ⟨⟨by decide +kernel, by decide +kernel⟩, List.mem_of_getElem? (i := 824) (by decide +kernel), List.mem_of_getElem? (i := 981) (by decide +kernel), List.mem_of_getElem? (i := 982) (by decide +kernel)⟩
theorem lw_p53 : lw_okq (⟨"StairStepsModel", "stridesIn", "(II)I"⟩, 15) := ⟨⟨by decide +kernel, by decide +kernel⟩, List.mem_of_getElem? (i := 824) (by decide +kernel), List.mem_of_getElem? (i := 985) (by decide +kernel), List.mem_of_getElem? (i := 986) (by decide +kernel)⟩
theorem lw_p54 : lw_okq (⟨"StairStepsModel", "goes", "(III)V"⟩, 15) := ⟨⟨by decide +kernel, by decide +kernel⟩, List.mem_of_getElem? (i := 824) (by decide +kernel), List.mem_of_getElem? (i := 995) (by decide +kernel), List.mem_of_getElem? (i := 996) (by decide +kernel)⟩
theorem lw_p55 : lw_okq (⟨"StairStepsModel", "bars", "(II)I"⟩, 15) := ⟨⟨by decide +kernel, by decide +kernel⟩, List.mem_of_getElem? (i := 824) (by decide +kernel), List.mem_of_getElem? (i := 999) (by decide +kernel), List.mem_of_getElem? (i := 1000) (by decide +kernel)⟩
theorem lw_p56 : lw_okq (⟨"StairStepsModel", "readsHours", "()Z"⟩, 15) := ⟨⟨by decide +kernel, by decide +kernel⟩, List.mem_of_getElem? (i := 824) (by decide +kernel), List.mem_of_getElem? (i := 1020) (by decide +kernel), List.mem_of_getElem? (i := 1021) (by decide +kernel)⟩
theorem lw_p57 : lw_okq (⟨"StairStepsModel", "passes", "(II)V"⟩, 15) := ⟨⟨by decide +kernel, by decide +kernel⟩, List.mem_of_getElem? (i := 824) (by decide +kernel), List.mem_of_getElem? (i := 1024) (by decide +kernel), List.mem_of_getElem? (i := 1025) (by decide +kernel)⟩
theorem lw_p58 : lw_okq (⟨"StairStepsModel", "takesEnd", "()Z"⟩, 15) := ⟨⟨by decide +kernel, by decide +kernel⟩, List.mem_of_getElem? (i := 824) (by decide +kernel), List.mem_of_getElem? (i := 1028) (by decide +kernel), List.mem_of_getElem? (i := 1029) (by decide +kernel)⟩
theorem lw_p59 : lw_okq (⟨"StairStepsModel", "copy", "(II)V"⟩, 15) := ⟨⟨by decide +kernel, by decide +kernel⟩, List.mem_of_getElem? (i := 824) (by decide +kernel), List.mem_of_getElem? (i := 1032) (by decide +kernel), List.mem_of_getElem? (i := 1033) (by decide +kernel)⟩
theorem lw_p60 : lw_okq (⟨"StairStepsModel", "isGoer", "(I)Z"⟩, 15) := ⟨⟨by decide +kernel, by decide +kernel⟩, List.mem_of_getElem? (i := 824) (by decide +kernel), List.mem_of_getElem? (i := 1040) (by decide +kernel), List.mem_of_getElem? (i := 1041) (by decide +kernel)⟩
theorem lw_p61 : lw_okq (⟨"StairStepsModel", "no", "()I"⟩, 15) := ⟨⟨by decide +kernel, by decide +kernel⟩, List.mem_of_getElem? (i := 824) (by decide +kernel), List.mem_of_getElem? (i := 1044) (by decide +kernel), List.mem_of_getElem? (i := 1045) (by decide +kernel)⟩
theorem lw_p62 : lw_okq (⟨"StairStepsModel", "minds", "()V"⟩, 15) := ⟨⟨by decide +kernel, by decide +kernel⟩, List.mem_of_getElem? (i := 824) (by decide +kernel), List.mem_of_getElem? (i := 1048) (by decide +kernel), List.mem_of_getElem? (i := 1049) (by decide +kernel)⟩
theorem lw_p63 : lw_okq (⟨"StairStepsModel", "ofGoer", "(II)I"⟩, 15) := ⟨⟨by decide +kernel, by decide +kernel⟩, List.mem_of_getElem? (i := 824) (by decide +kernel), List.mem_of_getElem? (i := 1077) (by decide +kernel), List.mem_of_getElem? (i := 1078) (by decide +kernel)⟩
def lw_privs_4 : List (MethodName × Nat) := [(⟨"StairStepsModel", "readsFlight", "()Z"⟩, 15), (⟨"StairStepsModel", "takesNumber", "(II)Z"⟩, 15), (⟨"StairStepsModel", "readsGoer", "()Z"⟩, 15), (⟨"StairStepsModel", "readsLoad", "()Z"⟩, 15), (⟨"StairStepsModel", "readsStride", "()Z"⟩, 15), (⟨"StairStepsModel", "stridesIn", "(II)I"⟩, 15), (⟨"StairStepsModel", "goes", "(III)V"⟩, 15), (⟨"StairStepsModel", "bars", "(II)I"⟩, 15), (⟨"StairStepsModel", "readsHours", "()Z"⟩, 15), (⟨"StairStepsModel", "passes", "(II)V"⟩, 15), (⟨"StairStepsModel", "takesEnd", "()Z"⟩, 15), (⟨"StairStepsModel", "copy", "(II)V"⟩, 15), (⟨"StairStepsModel", "isGoer", "(I)Z"⟩, 15), (⟨"StairStepsModel", "no", "()I"⟩, 15), (⟨"StairStepsModel", "minds", "()V"⟩, 15), (⟨"StairStepsModel", "ofGoer", "(II)I"⟩, 15)]
theorem lw_r4 : ∀ q ∈ lw_privs_4, lw_okq q := List.forall_mem_cons.mpr ⟨lw_p48, List.forall_mem_cons.mpr ⟨lw_p49, List.forall_mem_cons.mpr ⟨lw_p50, List.forall_mem_cons.mpr ⟨lw_p51, List.forall_mem_cons.mpr ⟨lw_p52, List.forall_mem_cons.mpr ⟨lw_p53, List.forall_mem_cons.mpr ⟨lw_p54, List.forall_mem_cons.mpr ⟨lw_p55, List.forall_mem_cons.mpr ⟨lw_p56, List.forall_mem_cons.mpr ⟨lw_p57, List.forall_mem_cons.mpr ⟨lw_p58, List.forall_mem_cons.mpr ⟨lw_p59, List.forall_mem_cons.mpr ⟨lw_p60, List.forall_mem_cons.mpr ⟨lw_p61, List.forall_mem_cons.mpr ⟨lw_p62, List.forall_mem_cons.mpr ⟨lw_p63, fun _ h => absurd h List.not_mem_nil⟩⟩⟩⟩⟩⟩⟩⟩⟩⟩⟩⟩⟩⟩⟩⟩
theorem lw_p64 : lw_okq (⟨"StairStepsModel", "laysNow", "(I)V"⟩, 15) := ⟨⟨by decide +kernel, by decide +kernel⟩, List.mem_of_getElem? (i := 824) (by decide +kernel), List.mem_of_getElem? (i := 1089) (by decide +kernel), List.mem_of_getElem? (i := 1090) (by decide +kernel)⟩
theorem lw_p65 : lw_okq (⟨"StairStepsModel", "laysLeft", "(II)V"⟩, 15) := ⟨⟨by decide +kernel, by decide +kernel⟩, List.mem_of_getElem? (i := 824) (by decide +kernel), List.mem_of_getElem? (i := 1093) (by decide +kernel), List.mem_of_getElem? (i := 1094) (by decide +kernel)⟩
theorem lw_p66 : lw_okq (⟨"StairStepsModel", "firstFrom", "(II)I"⟩, 15) := ⟨⟨by decide +kernel, by decide +kernel⟩, List.mem_of_getElem? (i := 824) (by decide +kernel), List.mem_of_getElem? (i := 1098) (by decide +kernel), List.mem_of_getElem? (i := 1099) (by decide +kernel)⟩
theorem lw_p67 : lw_okq (⟨"StairStepsModel", "laysWay", "(I[I)Z"⟩, 15) := ⟨⟨by decide +kernel, by decide +kernel⟩, List.mem_of_getElem? (i := 824) (by decide +kernel), List.mem_of_getElem? (i := 1121) (by decide +kernel), List.mem_of_getElem? (i := 1122) (by decide +kernel)⟩
theorem lw_p68 : lw_okq (⟨"StairStepsModel", "whoseOf", "(I)I"⟩, 15) := ⟨⟨by decide +kernel, by decide +kernel⟩, List.mem_of_getElem? (i := 824) (by decide +kernel), List.mem_of_getElem? (i := 1137) (by decide +kernel), List.mem_of_getElem? (i := 1138) (by decide +kernel)⟩
theorem lw_p69 : lw_okq (⟨"StairStepsModel", "canBe", "(II)Z"⟩, 15) := ⟨⟨by decide +kernel, by decide +kernel⟩, List.mem_of_getElem? (i := 824) (by decide +kernel), List.mem_of_getElem? (i := 1141) (by decide +kernel), List.mem_of_getElem? (i := 1142) (by decide +kernel)⟩
theorem lw_p70 : lw_okq (⟨"StairStepsModel", "isOf", "(I)I"⟩, 15) := ⟨⟨by decide +kernel, by decide +kernel⟩, List.mem_of_getElem? (i := 824) (by decide +kernel), List.mem_of_getElem? (i := 1165) (by decide +kernel), List.mem_of_getElem? (i := 1166) (by decide +kernel)⟩
theorem lw_p71 : lw_okq (⟨"StairStepsModel", "isSo", "(II)Z"⟩, 15) := ⟨⟨by decide +kernel, by decide +kernel⟩, List.mem_of_getElem? (i := 824) (by decide +kernel), List.mem_of_getElem? (i := 1169) (by decide +kernel), List.mem_of_getElem? (i := 1170) (by decide +kernel)⟩
theorem lw_p72 : lw_okq (⟨"StairStepsModel", "kindsOf", "(I)I"⟩, 15) := ⟨⟨by decide +kernel, by decide +kernel⟩, List.mem_of_getElem? (i := 824) (by decide +kernel), List.mem_of_getElem? (i := 1181) (by decide +kernel), List.mem_of_getElem? (i := 1182) (by decide +kernel)⟩
theorem lw_p73 : lw_okq (⟨"StairStepsModel", "canStride", "(II)Z"⟩, 15) := ⟨⟨by decide +kernel, by decide +kernel⟩, List.mem_of_getElem? (i := 824) (by decide +kernel), List.mem_of_getElem? (i := 1185) (by decide +kernel), List.mem_of_getElem? (i := 1186) (by decide +kernel)⟩
theorem lw_p74 : lw_okq (⟨"StairStepsModel", "tells", "(JJ)I"⟩, 15) := ⟨⟨by decide +kernel, by decide +kernel⟩, List.mem_of_getElem? (i := 824) (by decide +kernel), List.mem_of_getElem? (i := 1205) (by decide +kernel), List.mem_of_getElem? (i := 1206) (by decide +kernel)⟩
theorem lw_p75 : lw_okq (⟨"StairStepsModel", "countOf", "(I)I"⟩, 15) := ⟨⟨by decide +kernel, by decide +kernel⟩, List.mem_of_getElem? (i := 824) (by decide +kernel), List.mem_of_getElem? (i := 1240) (by decide +kernel), List.mem_of_getElem? (i := 1241) (by decide +kernel)⟩
theorem lw_p76 : lw_okq (⟨"StairStepsModel", "over", "()I"⟩, 15) := ⟨⟨by decide +kernel, by decide +kernel⟩, List.mem_of_getElem? (i := 824) (by decide +kernel), List.mem_of_getElem? (i := 1244) (by decide +kernel), List.mem_of_getElem? (i := 1245) (by decide +kernel)⟩
theorem lw_p77 : lw_okq (⟨"StairStepsModel", "mix", "(J)V"⟩, 15) := ⟨⟨by decide +kernel, by decide +kernel⟩, List.mem_of_getElem? (i := 824) (by decide +kernel), List.mem_of_getElem? (i := 1253) (by decide +kernel), List.mem_of_getElem? (i := 1254) (by decide +kernel)⟩
theorem lw_p78 : lw_okq (⟨"StairStepsModel", "mixes", "(II)V"⟩, 15) := ⟨⟨by decide +kernel, by decide +kernel⟩, List.mem_of_getElem? (i := 824) (by decide +kernel), List.mem_of_getElem? (i := 1258) (by decide +kernel), List.mem_of_getElem? (i := 1259) (by decide +kernel)⟩
def lw_privs_5 : List (MethodName × Nat) := [(⟨"StairStepsModel", "laysNow", "(I)V"⟩, 15), (⟨"StairStepsModel", "laysLeft", "(II)V"⟩, 15), (⟨"StairStepsModel", "firstFrom", "(II)I"⟩, 15), (⟨"StairStepsModel", "laysWay", "(I[I)Z"⟩, 15), (⟨"StairStepsModel", "whoseOf", "(I)I"⟩, 15), (⟨"StairStepsModel", "canBe", "(II)Z"⟩, 15), (⟨"StairStepsModel", "isOf", "(I)I"⟩, 15), (⟨"StairStepsModel", "isSo", "(II)Z"⟩, 15), (⟨"StairStepsModel", "kindsOf", "(I)I"⟩, 15), (⟨"StairStepsModel", "canStride", "(II)Z"⟩, 15), (⟨"StairStepsModel", "tells", "(JJ)I"⟩, 15), (⟨"StairStepsModel", "countOf", "(I)I"⟩, 15), (⟨"StairStepsModel", "over", "()I"⟩, 15), (⟨"StairStepsModel", "mix", "(J)V"⟩, 15), (⟨"StairStepsModel", "mixes", "(II)V"⟩, 15)]
theorem lw_r5 : ∀ q ∈ lw_privs_5, lw_okq q := List.forall_mem_cons.mpr ⟨lw_p64, List.forall_mem_cons.mpr ⟨lw_p65, List.forall_mem_cons.mpr ⟨lw_p66, List.forall_mem_cons.mpr ⟨lw_p67, List.forall_mem_cons.mpr ⟨lw_p68, List.forall_mem_cons.mpr ⟨lw_p69, List.forall_mem_cons.mpr ⟨lw_p70, List.forall_mem_cons.mpr ⟨lw_p71, List.forall_mem_cons.mpr ⟨lw_p72, List.forall_mem_cons.mpr ⟨lw_p73, List.forall_mem_cons.mpr ⟨lw_p74, List.forall_mem_cons.mpr ⟨lw_p75, List.forall_mem_cons.mpr ⟨lw_p76, List.forall_mem_cons.mpr ⟨lw_p77, List.forall_mem_cons.mpr ⟨lw_p78, fun _ h => absurd h List.not_mem_nil⟩⟩⟩⟩⟩⟩⟩⟩⟩⟩⟩⟩⟩⟩⟩
def lw_privs : List (MethodName × Nat) := lw_privs_1 ++ (lw_privs_2 ++ (lw_privs_3 ++ (lw_privs_4 ++ (lw_privs_5))))
def lw_tbl : List Cond := k2_sels lw_privs ++ tables_1
theorem lw_privs_ok : ∀ q ∈ lw_privs, lw_okq q := by
  show ∀ q ∈ lw_privs_1 ++ (lw_privs_2 ++ (lw_privs_3 ++ (lw_privs_4 ++ (lw_privs_5)))), lw_okq q
  exact List.forall_mem_append.mpr ⟨lw_r1, List.forall_mem_append.mpr ⟨lw_r2, List.forall_mem_append.mpr ⟨lw_r3, List.forall_mem_append.mpr ⟨lw_r4, lw_r5⟩⟩⟩⟩

def RX0 : String := "StairSteps$Climb"
def TX0 : u_T := fun k => match k with
  | 0 => ("StairSteps$Climb", "fewest", "[I", true)
  | 1 => ("StairSteps$Climb", "row", "[I", true)
  | _ => ("StairSteps$Climb", "length", "I", false)
def tyX0 : Nat → FieldType := fun k => match k with
  | 0 => .array .int
  | 1 => .array .int
  | _ => .int
theorem nmX0 : ∀ a, a < 3 → ∀ b, b < 3 → a ≠ b → (TX0 a).2.1 ≠ (TX0 b).2.1 := by decide +kernel
theorem tyX0_ok : ∀ k, k < 3 → parseFieldDescriptor (TX0 k).2.2.1 = some (tyX0 k) := by decide +kernel
def RX1 : String := "StairSteps$House"
def TX1 : u_T := fun k => match k with
  | 0 => ("StairSteps$House", "flights", "I", false)
  | 1 => ("StairSteps$House", "goers", "I", false)
  | 2 => ("StairSteps$House", "kept", "I", false)
  | 3 => ("StairSteps$House", "ownerKinds", "[I", true)
  | 4 => ("StairSteps$House", "goerKinds", "[I", true)
  | 5 => ("StairSteps$House", "legs", "[I", true)
  | 6 => ("StairSteps$House", "goerFlights", "[I", true)
  | 7 => ("StairSteps$House", "now", "[I", true)
  | 8 => ("StairSteps$House", "past", "[I", true)
  | 9 => ("StairSteps$House", "seen", "LStairSteps$Ledger;", true)
  | 10 => ("StairSteps$House", "notes", "LStairSteps$Ledger;", true)
  | _ => ("StairSteps$House", "marks", "LStairSteps$Ledger;", true)
def tyX1 : Nat → FieldType := fun k => match k with
  | 0 => .int
  | 1 => .int
  | 2 => .int
  | 3 => .array .int
  | 4 => .array .int
  | 5 => .array .int
  | 6 => .array .int
  | 7 => .array .int
  | 8 => .array .int
  | 9 => .object "StairSteps$Ledger"
  | 10 => .object "StairSteps$Ledger"
  | _ => .object "StairSteps$Ledger"
theorem nmX1 : ∀ a, a < 12 → ∀ b, b < 12 → a ≠ b → (TX1 a).2.1 ≠ (TX1 b).2.1 := by decide +kernel
theorem tyX1_ok : ∀ k, k < 12 → parseFieldDescriptor (TX1 k).2.2.1 = some (tyX1 k) := by decide +kernel
def RX2 : String := "StairSteps$Ledger"
def TX2 : u_T := fun k => match k with
  | 0 => ("StairSteps$Ledger", "width", "I", true)
  | 1 => ("StairSteps$Ledger", "most", "I", true)
  | 2 => ("StairSteps$Ledger", "cells", "[I", true)
  | _ => ("StairSteps$Ledger", "size", "I", false)
def tyX2 : Nat → FieldType := fun k => match k with
  | 0 => .int
  | 1 => .int
  | 2 => .array .int
  | _ => .int
theorem nmX2 : ∀ a, a < 4 → ∀ b, b < 4 → a ≠ b → (TX2 a).2.1 ≠ (TX2 b).2.1 := by decide +kernel
theorem tyX2_ok : ∀ k, k < 4 → parseFieldDescriptor (TX2 k).2.2.1 = some (tyX2 k) := by decide +kernel
def RX3 : String := "StairSteps$Reader"
def TX3 : u_T := fun k => match k with
  | 0 => ("StairSteps$Reader", "bytes", "[I", true)
  | 1 => ("StairSteps$Reader", "length", "I", false)
  | 2 => ("StairSteps$Reader", "start", "I", false)
  | 3 => ("StairSteps$Reader", "behind", "I", false)
  | 4 => ("StairSteps$Reader", "sort", "I", false)
  | _ => ("StairSteps$Reader", "value", "I", false)
def tyX3 : Nat → FieldType := fun k => match k with
  | 0 => .array .int
  | 1 => .int
  | 2 => .int
  | 3 => .int
  | 4 => .int
  | _ => .int
theorem nmX3 : ∀ a, a < 6 → ∀ b, b < 6 → a ≠ b → (TX3 a).2.1 ≠ (TX3 b).2.1 := by decide +kernel
theorem tyX3_ok : ∀ k, k < 6 → parseFieldDescriptor (TX3 k).2.2.1 = some (tyX3 k) := by decide +kernel
def RX4 : String := "StairSteps"
def TX4 : u_T := fun k => match k with
  | 0 => ("StairSteps", "house", "LStairSteps$House;", true)
  | 1 => ("StairSteps", "firstImage", "LStairSteps$House;", true)
  | 2 => ("StairSteps", "secondImage", "LStairSteps$House;", true)
  | 3 => ("StairSteps", "firstKept", "Z", false)
  | 4 => ("StairSteps", "secondKept", "Z", false)
  | 5 => ("StairSteps", "trial", "LStairSteps$House;", true)
  | 6 => ("StairSteps", "climb", "LStairSteps$Climb;", true)
  | 7 => ("StairSteps", "otherClimb", "LStairSteps$Climb;", true)
  | 8 => ("StairSteps", "reader", "LStairSteps$Reader;", true)
  | 9 => ("StairSteps", "ways", "[I", true)
  | 10 => ("StairSteps", "waysBefore", "[I", true)
  | 11 => ("StairSteps", "alike", "[I", true)
  | 12 => ("StairSteps", "above", "J", false)
  | 13 => ("StairSteps", "below", "J", false)
  | 14 => ("StairSteps", "badCalls", "I", false)
  | 15 => ("StairSteps", "noCalls", "I", false)
  | _ => ("StairSteps", "fullCalls", "I", false)
def tyX4 : Nat → FieldType := fun k => match k with
  | 0 => .object "StairSteps$House"
  | 1 => .object "StairSteps$House"
  | 2 => .object "StairSteps$House"
  | 3 => .boolean
  | 4 => .boolean
  | 5 => .object "StairSteps$House"
  | 6 => .object "StairSteps$Climb"
  | 7 => .object "StairSteps$Climb"
  | 8 => .object "StairSteps$Reader"
  | 9 => .array .int
  | 10 => .array .int
  | 11 => .array .int
  | 12 => .long
  | 13 => .long
  | 14 => .int
  | 15 => .int
  | _ => .int
theorem nmX4 : ∀ a, a < 17 → ∀ b, b < 17 → a ≠ b → (TX4 a).2.1 ≠ (TX4 b).2.1 := by decide +kernel
theorem tyX4_ok : ∀ k, k < 17 → parseFieldDescriptor (TX4 k).2.2.1 = some (tyX4 k) := by decide +kernel
def RX5 : String := "StairStepsModel"
def TX5 : u_T := fun k => match k with
  | 0 => ("StairStepsModel", "w", "[I", true)
  | 1 => ("StairStepsModel", "isKept", "[Z", true)
  | 2 => ("StairStepsModel", "text", "[I", true)
  | 3 => ("StairStepsModel", "texted", "I", false)
  | 4 => ("StairStepsModel", "above", "J", false)
  | 5 => ("StairStepsModel", "below", "J", false)
  | 6 => ("StairStepsModel", "statuses", "[I", true)
  | 7 => ("StairStepsModel", "at", "I", false)
  | 8 => ("StairStepsModel", "start", "I", false)
  | 9 => ("StairStepsModel", "number", "I", false)
  | 10 => ("StairStepsModel", "left", "[I", true)
  | 11 => ("StairStepsModel", "one", "[I", true)
  | 12 => ("StairStepsModel", "two", "[I", true)
  | 13 => ("StairStepsModel", "by", "[I", true)
  | _ => ("StairStepsModel", "h", "J", false)
def tyX5 : Nat → FieldType := fun k => match k with
  | 0 => .array .int
  | 1 => .array .boolean
  | 2 => .array .int
  | 3 => .int
  | 4 => .long
  | 5 => .long
  | 6 => .array .int
  | 7 => .int
  | 8 => .int
  | 9 => .int
  | 10 => .array .int
  | 11 => .array .int
  | 12 => .array .int
  | 13 => .array .int
  | _ => .long
theorem nmX5 : ∀ a, a < 15 → ∀ b, b < 15 → a ≠ b → (TX5 a).2.1 ≠ (TX5 b).2.1 := by decide +kernel
theorem tyX5_ok : ∀ k, k < 15 → parseFieldDescriptor (TX5 k).2.2.1 = some (tyX5 k) := by decide +kernel
abbrev cX0_init : ByteArray := prog_2_method_1_code
def yX0_init : MethodName := ⟨RX0, "<init>", "()V"⟩
abbrev cX0_fewestFrom : ByteArray := prog_2_method_2_code
def yX0_fewestFrom : MethodName := ⟨RX0, "fewestFrom", "(III)I"⟩
abbrev cX0_restBehind : ByteArray := prog_2_method_3_code
def yX0_restBehind : MethodName := ⟨RX0, "restBehind", "(II)I"⟩
abbrev cX0_find : ByteArray := prog_2_method_4_code
def yX0_find : MethodName := ⟨RX0, "find", "(III)V"⟩
abbrev cX0_shortest : ByteArray := prog_2_method_5_code
def yX0_shortest : MethodName := ⟨RX0, "shortest", "(IIII)I"⟩
abbrev cX0_strideAt : ByteArray := prog_2_method_6_code
def yX0_strideAt : MethodName := ⟨RX0, "strideAt", "(I)I"⟩
abbrev cX1_init : ByteArray := prog_3_method_1_code
def yX1_init : MethodName := ⟨RX1, "<init>", "()V"⟩
abbrev cX1_empty : ByteArray := prog_3_method_2_code
def yX1_empty : MethodName := ⟨RX1, "empty", "()V"⟩
abbrev cX1_takeOver : ByteArray := prog_3_method_3_code
def yX1_takeOver : MethodName := ⟨RX1, "takeOver", "(LStairSteps$House;)V"⟩
abbrev cX1_hasFlight : ByteArray := prog_3_method_4_code
def yX1_hasFlight : MethodName := ⟨RX1, "hasFlight", "(I)Z"⟩
abbrev cX1_hasGoer : ByteArray := prog_3_method_5_code
def yX1_hasGoer : MethodName := ⟨RX1, "hasGoer", "(I)Z"⟩
abbrev cX1_addFlight : ByteArray := prog_3_method_6_code
def yX1_addFlight : MethodName := ⟨RX1, "addFlight", "(II)I"⟩
abbrev cX1_addGoer : ByteArray := prog_3_method_7_code
def yX1_addGoer : MethodName := ⟨RX1, "addGoer", "(III)I"⟩
abbrev cX1_keepMoment : ByteArray := prog_3_method_8_code
def yX1_keepMoment : MethodName := ⟨RX1, "keepMoment", "()V"⟩
abbrev cX1_dropMoment : ByteArray := prog_3_method_9_code
def yX1_dropMoment : MethodName := ⟨RX1, "dropMoment", "()V"⟩
abbrev cX1_ownerKind : ByteArray := prog_3_method_10_code
def yX1_ownerKind : MethodName := ⟨RX1, "ownerKind", "(I)I"⟩
abbrev cX1_ownerStep : ByteArray := prog_3_method_11_code
def yX1_ownerStep : MethodName := ⟨RX1, "ownerStep", "(I)I"⟩
abbrev cX1_setOwnerStep : ByteArray := prog_3_method_12_code
def yX1_setOwnerStep : MethodName := ⟨RX1, "setOwnerStep", "(II)V"⟩
abbrev cX1_legsOf : ByteArray := prog_3_method_13_code
def yX1_legsOf : MethodName := ⟨RX1, "legsOf", "(I)I"⟩
abbrev cX1_flightOf : ByteArray := prog_3_method_14_code
def yX1_flightOf : MethodName := ⟨RX1, "flightOf", "(I)I"⟩
abbrev cX1_stepOf : ByteArray := prog_3_method_15_code
def yX1_stepOf : MethodName := ⟨RX1, "stepOf", "(I)I"⟩
abbrev cX1_setStep : ByteArray := prog_3_method_16_code
def yX1_setStep : MethodName := ⟨RX1, "setStep", "(II)V"⟩
abbrev cX1_loadOf : ByteArray := prog_3_method_17_code
def yX1_loadOf : MethodName := ⟨RX1, "loadOf", "(I)I"⟩
abbrev cX1_setLoad : ByteArray := prog_3_method_18_code
def yX1_setLoad : MethodName := ⟨RX1, "setLoad", "(II)V"⟩
abbrev cX1_falls : ByteArray := prog_3_method_19_code
def yX1_falls : MethodName := ⟨RX1, "falls", "()I"⟩
abbrev cX1_hour : ByteArray := prog_3_method_20_code
def yX1_hour : MethodName := ⟨RX1, "hour", "()I"⟩
abbrev cX1_hourOfDay : ByteArray := prog_3_method_21_code
def yX1_hourOfDay : MethodName := ⟨RX1, "hourOfDay", "()I"⟩
abbrev cX1_pass : ByteArray := prog_3_method_22_code
def yX1_pass : MethodName := ⟨RX1, "pass", "(I)V"⟩
abbrev cX1_isOver : ByteArray := prog_3_method_23_code
def yX1_isOver : MethodName := ⟨RX1, "isOver", "(I)Z"⟩
abbrev cX1_over : ByteArray := prog_3_method_24_code
def yX1_over : MethodName := ⟨RX1, "over", "()I"⟩
abbrev cX1_barsAt : ByteArray := prog_3_method_25_code
def yX1_barsAt : MethodName := ⟨RX1, "barsAt", "(II)I"⟩
abbrev cX1_barsFor : ByteArray := prog_3_method_26_code
def yX1_barsFor : MethodName := ⟨RX1, "barsFor", "(I)I"⟩
abbrev cX1_reach : ByteArray := prog_3_method_27_code
def yX1_reach : MethodName := ⟨RX1, "reach", "(I)I"⟩
abbrev cX1_reachAt : ByteArray := prog_3_method_28_code
def yX1_reachAt : MethodName := ⟨RX1, "reachAt", "(II)I"⟩
abbrev cX1_ofGoer : ByteArray := prog_3_method_29_code
def yX1_ofGoer : MethodName := ⟨RX1, "ofGoer", "(II)I"⟩
abbrev cX1_stride : ByteArray := prog_3_method_30_code
def yX1_stride : MethodName := ⟨RX1, "stride", "(II)I"⟩
abbrev cX2_init : ByteArray := prog_4_method_1_code
def yX2_init : MethodName := ⟨RX2, "<init>", "(II)V"⟩
abbrev cX2_isFull : ByteArray := prog_4_method_2_code
def yX2_isFull : MethodName := ⟨RX2, "isFull", "()Z"⟩
abbrev cX2_empty : ByteArray := prog_4_method_3_code
def yX2_empty : MethodName := ⟨RX2, "empty", "()I"⟩
abbrev cX2_add : ByteArray := prog_4_method_4_code
def yX2_add : MethodName := ⟨RX2, "add", "(IIIII)I"⟩
abbrev cX2_set : ByteArray := prog_4_method_5_code
def yX2_set : MethodName := ⟨RX2, "set", "(II)V"⟩
abbrev cX2_cell : ByteArray := prog_4_method_6_code
def yX2_cell : MethodName := ⟨RX2, "cell", "(II)I"⟩
abbrev cX2_takeOver : ByteArray := prog_4_method_7_code
def yX2_takeOver : MethodName := ⟨RX2, "takeOver", "(LStairSteps$Ledger;)V"⟩
abbrev cX2_mixInto : ByteArray := prog_4_method_8_code
def yX2_mixInto : MethodName := ⟨RX2, "mixInto", "(J)J"⟩
abbrev cX3_init : ByteArray := prog_5_method_1_code
def yX3_init : MethodName := ⟨RX3, "<init>", "()V"⟩
abbrev cX3_append : ByteArray := prog_5_method_2_code
def yX3_append : MethodName := ⟨RX3, "append", "(I)I"⟩
abbrev cX3_readOpening : ByteArray := prog_5_method_3_code
def yX3_readOpening : MethodName := ⟨RX3, "readOpening", "()Z"⟩
abbrev cX3_movesOn : ByteArray := prog_5_method_4_code
def yX3_movesOn : MethodName := ⟨RX3, "movesOn", "()Z"⟩
abbrev cX3_readItem : ByteArray := prog_5_method_5_code
def yX3_readItem : MethodName := ⟨RX3, "readItem", "(LStairSteps$House;)Z"⟩
abbrev cX3_readFlight : ByteArray := prog_5_method_6_code
def yX3_readFlight : MethodName := ⟨RX3, "readFlight", "(LStairSteps$House;)Z"⟩
abbrev cX3_readGoer : ByteArray := prog_5_method_7_code
def yX3_readGoer : MethodName := ⟨RX3, "readGoer", "(LStairSteps$House;)Z"⟩
abbrev cX3_readLoad : ByteArray := prog_5_method_8_code
def yX3_readLoad : MethodName := ⟨RX3, "readLoad", "(LStairSteps$House;)Z"⟩
abbrev cX3_readStride : ByteArray := prog_5_method_9_code
def yX3_readStride : MethodName := ⟨RX3, "readStride", "(LStairSteps$House;)Z"⟩
abbrev cX3_readHours : ByteArray := prog_5_method_10_code
def yX3_readHours : MethodName := ⟨RX3, "readHours", "(LStairSteps$House;)Z"⟩
abbrev cX3_stops : ByteArray := prog_5_method_11_code
def yX3_stops : MethodName := ⟨RX3, "stops", "()Z"⟩
abbrev cX3_isNumber : ByteArray := prog_5_method_12_code
def yX3_isNumber : MethodName := ⟨RX3, "isNumber", "(II)Z"⟩
abbrev cX3_isWord : ByteArray := prog_5_method_13_code
def yX3_isWord : MethodName := ⟨RX3, "isWord", "(Ljava/lang/String;)Z"⟩
abbrev cX3_next : ByteArray := prog_5_method_14_code
def yX3_next : MethodName := ⟨RX3, "next", "()V"⟩
abbrev cX3_takeWord : ByteArray := prog_5_method_15_code
def yX3_takeWord : MethodName := ⟨RX3, "takeWord", "()V"⟩
abbrev cX3_takeNumber : ByteArray := prog_5_method_16_code
def yX3_takeNumber : MethodName := ⟨RX3, "takeNumber", "()V"⟩
abbrev cX3_isLetter : ByteArray := prog_5_method_17_code
def yX3_isLetter : MethodName := ⟨RX3, "isLetter", "(I)Z"⟩
abbrev cX3_isFigure : ByteArray := prog_5_method_18_code
def yX3_isFigure : MethodName := ⟨RX3, "isFigure", "(I)Z"⟩
abbrev cX4_init : ByteArray := prog_1_method_1_code
def yX4_init : MethodName := ⟨RX4, "<init>", "()V"⟩
abbrev cX4_tenement : ByteArray := prog_1_method_2_code
def yX4_tenement : MethodName := ⟨RX4, "tenement", "()I"⟩
abbrev cX4_flight : ByteArray := prog_1_method_3_code
def yX4_flight : MethodName := ⟨RX4, "flight", "(II)I"⟩
abbrev cX4_goer : ByteArray := prog_1_method_4_code
def yX4_goer : MethodName := ⟨RX4, "goer", "(III)I"⟩
abbrev cX4_type : ByteArray := prog_1_method_5_code
def yX4_type : MethodName := ⟨RX4, "type", "(I)I"⟩
abbrev cX4_clear : ByteArray := prog_1_method_6_code
def yX4_clear : MethodName := ⟨RX4, "clear", "()I"⟩
abbrev cX4_read : ByteArray := prog_1_method_7_code
def yX4_read : MethodName := ⟨RX4, "read", "()I"⟩
abbrev cX4_strides : ByteArray := prog_1_method_8_code
def yX4_strides : MethodName := ⟨RX4, "strides", "(II)I"⟩
abbrev cX4_begins : ByteArray := prog_1_method_9_code
def yX4_begins : MethodName := ⟨RX4, "begins", "(I)I"⟩
abbrev cX4_loads : ByteArray := prog_1_method_10_code
def yX4_loads : MethodName := ⟨RX4, "loads", "(II)I"⟩
abbrev cX4_sells : ByteArray := prog_1_method_11_code
def yX4_sells : MethodName := ⟨RX4, "sells", "(II)I"⟩
abbrev cX4_hours : ByteArray := prog_1_method_12_code
def yX4_hours : MethodName := ⟨RX4, "hours", "(I)I"⟩
abbrev cX4_undo : ByteArray := prog_1_method_13_code
def yX4_undo : MethodName := ⟨RX4, "undo", "()I"⟩
abbrev cX4_of : ByteArray := prog_1_method_14_code
def yX4_of : MethodName := ⟨RX4, "of", "(II)I"⟩
abbrev cX4_about : ByteArray := prog_1_method_15_code
def yX4_about : MethodName := ⟨RX4, "about", "(II)I"⟩
abbrev cX4_up : ByteArray := prog_1_method_16_code
def yX4_up : MethodName := ⟨RX4, "up", "(II)I"⟩
abbrev cX4_stuck : ByteArray := prog_1_method_17_code
def yX4_stuck : MethodName := ⟨RX4, "stuck", "()I"⟩
abbrev cX4_soon : ByteArray := prog_1_method_18_code
def yX4_soon : MethodName := ⟨RX4, "soon", "(II)I"⟩
abbrev cX4_site : ByteArray := prog_1_method_19_code
def yX4_site : MethodName := ⟨RX4, "site", "(II)I"⟩
abbrev cX4_allUp : ByteArray := prog_1_method_20_code
def yX4_allUp : MethodName := ⟨RX4, "allUp", "(II)I"⟩
abbrev cX4_meets : ByteArray := prog_1_method_21_code
def yX4_meets : MethodName := ⟨RX4, "meets", "(II)I"⟩
abbrev cX4_seen : ByteArray := prog_1_method_22_code
def yX4_seen : MethodName := ⟨RX4, "seen", "(IIII)I"⟩
abbrev cX4_whose : ByteArray := prog_1_method_23_code
def yX4_whose : MethodName := ⟨RX4, "whose", "(I)I"⟩
abbrev cX4_tell : ByteArray := prog_1_method_24_code
def yX4_tell : MethodName := ⟨RX4, "tell", "(I)I"⟩
abbrev cX4_fittingSteps : ByteArray := prog_1_method_25_code
def yX4_fittingSteps : MethodName := ⟨RX4, "fittingSteps", "(I)I"⟩
abbrev cX4_note : ByteArray := prog_1_method_26_code
def yX4_note : MethodName := ⟨RX4, "note", "(III)I"⟩
abbrev cX4_mark : ByteArray := prog_1_method_27_code
def yX4_mark : MethodName := ⟨RX4, "mark", "(IIIII)I"⟩
abbrev cX4_forget : ByteArray := prog_1_method_28_code
def yX4_forget : MethodName := ⟨RX4, "forget", "(I)I"⟩
abbrev cX4_is : ByteArray := prog_1_method_29_code
def yX4_is : MethodName := ⟨RX4, "is", "(I)I"⟩
abbrev cX4_look : ByteArray := prog_1_method_30_code
def yX4_look : MethodName := ⟨RX4, "look", "(I)I"⟩
abbrev cX4_ownerKinds : ByteArray := prog_1_method_31_code
def yX4_ownerKinds : MethodName := ⟨RX4, "ownerKinds", "(I)I"⟩
abbrev cX4_ownerFits : ByteArray := prog_1_method_32_code
def yX4_ownerFits : MethodName := ⟨RX4, "ownerFits", "(II)Z"⟩
abbrev cX4_mostOwnersAlike : ByteArray := prog_1_method_33_code
def yX4_mostOwnersAlike : MethodName := ⟨RX4, "mostOwnersAlike", "(II)I"⟩
abbrev cX4_oneMoreAlike : ByteArray := prog_1_method_34_code
def yX4_oneMoreAlike : MethodName := ⟨RX4, "oneMoreAlike", "(I)I"⟩
abbrev cX4_kinds : ByteArray := prog_1_method_35_code
def yX4_kinds : MethodName := ⟨RX4, "kinds", "(I)I"⟩
abbrev cX4_ask : ByteArray := prog_1_method_36_code
def yX4_ask : MethodName := ⟨RX4, "ask", "(I)I"⟩
abbrev cX4_goerKinds : ByteArray := prog_1_method_37_code
def yX4_goerKinds : MethodName := ⟨RX4, "goerKinds", "(I)I"⟩
abbrev cX4_goerFits : ByteArray := prog_1_method_38_code
def yX4_goerFits : MethodName := ⟨RX4, "goerFits", "(II)Z"⟩
abbrev cX4_mostGoersAlike : ByteArray := prog_1_method_39_code
def yX4_mostGoersAlike : MethodName := ⟨RX4, "mostGoersAlike", "(IIII)I"⟩
abbrev cX4_gap : ByteArray := prog_1_method_40_code
def yX4_gap : MethodName := ⟨RX4, "gap", "(II)I"⟩
abbrev cX4_rests : ByteArray := prog_1_method_41_code
def yX4_rests : MethodName := ⟨RX4, "rests", "(III)Z"⟩
abbrev cX4_gain : ByteArray := prog_1_method_42_code
def yX4_gain : MethodName := ⟨RX4, "gain", "(III)I"⟩
abbrev cX4_dark : ByteArray := prog_1_method_43_code
def yX4_dark : MethodName := ⟨RX4, "dark", "(III)I"⟩
abbrev cX4_strideInDark : ByteArray := prog_1_method_44_code
def yX4_strideInDark : MethodName := ⟨RX4, "strideInDark", "(III)V"⟩
abbrev cX4_comeDown : ByteArray := prog_1_method_45_code
def yX4_comeDown : MethodName := ⟨RX4, "comeDown", "(III)V"⟩
abbrev cX4_sum : ByteArray := prog_1_method_46_code
def yX4_sum : MethodName := ⟨RX4, "sum", "([I)I"⟩
abbrev cX4_setFraction : ByteArray := prog_1_method_47_code
def yX4_setFraction : MethodName := ⟨RX4, "setFraction", "(JJ)V"⟩
abbrev cX4_commonDivisor : ByteArray := prog_1_method_48_code
def yX4_commonDivisor : MethodName := ⟨RX4, "commonDivisor", "(JJ)J"⟩
abbrev cX4_years : ByteArray := prog_1_method_49_code
def yX4_years : MethodName := ⟨RX4, "years", "(II)I"⟩
abbrev cX4_strideByChance : ByteArray := prog_1_method_50_code
def yX4_strideByChance : MethodName := ⟨RX4, "strideByChance", "(IJ)V"⟩
abbrev cX4_part : ByteArray := prog_1_method_51_code
def yX4_part : MethodName := ⟨RX4, "part", "(I)J"⟩
abbrev cX4_image : ByteArray := prog_1_method_52_code
def yX4_image : MethodName := ⟨RX4, "image", "(I)I"⟩
abbrev cX4_from : ByteArray := prog_1_method_53_code
def yX4_from : MethodName := ⟨RX4, "from", "(I)I"⟩
abbrev cX4_status : ByteArray := prog_1_method_54_code
def yX4_status : MethodName := ⟨RX4, "status", "(I)I"⟩
abbrev cX4_count : ByteArray := prog_1_method_55_code
def yX4_count : MethodName := ⟨RX4, "count", "(I)I"⟩
abbrev cX4_howMany : ByteArray := prog_1_method_56_code
def yX4_howMany : MethodName := ⟨RX4, "howMany", "(I)I"⟩
abbrev cX4_digest : ByteArray := prog_1_method_57_code
def yX4_digest : MethodName := ⟨RX4, "digest", "()J"⟩
abbrev cX4_bad : ByteArray := prog_1_method_58_code
def yX4_bad : MethodName := ⟨RX4, "bad", "()I"⟩
abbrev cX4_no : ByteArray := prog_1_method_59_code
def yX4_no : MethodName := ⟨RX4, "no", "()I"⟩
abbrev cX4_full : ByteArray := prog_1_method_60_code
def yX4_full : MethodName := ⟨RX4, "full", "()I"⟩
abbrev cX4_isKind : ByteArray := prog_1_method_61_code
def yX4_isKind : MethodName := ⟨RX4, "isKind", "(I)Z"⟩
abbrev cX4_isOwnable : ByteArray := prog_1_method_62_code
def yX4_isOwnable : MethodName := ⟨RX4, "isOwnable", "(I)Z"⟩
abbrev cX4_isLoad : ByteArray := prog_1_method_63_code
def yX4_isLoad : MethodName := ⟨RX4, "isLoad", "(I)Z"⟩
abbrev cX4_isHour : ByteArray := prog_1_method_64_code
def yX4_isHour : MethodName := ⟨RX4, "isHour", "(I)Z"⟩
abbrev cX4_at : ByteArray := prog_1_method_65_code
def yX4_at : MethodName := ⟨RX4, "at", "([II)I"⟩
abbrev cX4_put : ByteArray := prog_1_method_66_code
def yX4_put : MethodName := ⟨RX4, "put", "([III)V"⟩
abbrev cX4_copyInto : ByteArray := prog_1_method_67_code
def yX4_copyInto : MethodName := ⟨RX4, "copyInto", "([I[I)V"⟩
abbrev cX4_barCount : ByteArray := prog_1_method_68_code
def yX4_barCount : MethodName := ⟨RX4, "barCount", "(II)I"⟩
abbrev cX4_barBits : ByteArray := prog_1_method_69_code
def yX4_barBits : MethodName := ⟨RX4, "barBits", "(II)I"⟩
abbrev cX4_ownersBarring : ByteArray := prog_1_method_70_code
def yX4_ownersBarring : MethodName := ⟨RX4, "ownersBarring", "(II)I"⟩
abbrev cX4_lowBits : ByteArray := prog_1_method_71_code
def yX4_lowBits : MethodName := ⟨RX4, "lowBits", "(I)I"⟩
abbrev cX4_isBarred : ByteArray := prog_1_method_72_code
def yX4_isBarred : MethodName := ⟨RX4, "isBarred", "(II)Z"⟩
abbrev cX4_strideOf : ByteArray := prog_1_method_73_code
def yX4_strideOf : MethodName := ⟨RX4, "strideOf", "(IIII)I"⟩
abbrev cX5_init : ByteArray := prog_7_method_1_code
def yX5_init : MethodName := ⟨RX5, "<init>", "()V"⟩
abbrev cX5_in : ByteArray := prog_7_method_3_code
def yX5_in : MethodName := ⟨RX5, "in", "(JJJ)Z"⟩
abbrev cX5_has : ByteArray := prog_7_method_4_code
def yX5_has : MethodName := ⟨RX5, "has", "(II)Z"⟩
abbrev cX5_bad : ByteArray := prog_7_method_5_code
def yX5_bad : MethodName := ⟨RX5, "bad", "(I)I"⟩
abbrev cX5_no : ByteArray := prog_7_method_6_code
def yX5_no : MethodName := ⟨RX5, "no", "()I"⟩
abbrev cX5_full : ByteArray := prog_7_method_7_code
def yX5_full : MethodName := ⟨RX5, "full", "()I"⟩
abbrev cX5_copy : ByteArray := prog_7_method_8_code
def yX5_copy : MethodName := ⟨RX5, "copy", "(II)V"⟩
abbrev cX5_empties : ByteArray := prog_7_method_9_code
def yX5_empties : MethodName := ⟨RX5, "empties", "(I)V"⟩
abbrev cX5_isGoer : ByteArray := prog_7_method_10_code
def yX5_isGoer : MethodName := ⟨RX5, "isGoer", "(I)Z"⟩
abbrev cX5_isFlight : ByteArray := prog_7_method_11_code
def yX5_isFlight : MethodName := ⟨RX5, "isFlight", "(I)Z"⟩
abbrev cX5_isHour : ByteArray := prog_7_method_12_code
def yX5_isHour : MethodName := ⟨RX5, "isHour", "(I)Z"⟩
abbrev cX5_clerk : ByteArray := prog_7_method_13_code
def yX5_clerk : MethodName := ⟨RX5, "clerk", "(I)I"⟩
abbrev cX5_lady : ByteArray := prog_7_method_14_code
def yX5_lady : MethodName := ⟨RX5, "lady", "(I)I"⟩
abbrev cX5_barsOf : ByteArray := prog_7_method_15_code
def yX5_barsOf : MethodName := ⟨RX5, "barsOf", "(II)I"⟩
abbrev cX5_porter : ByteArray := prog_7_method_16_code
def yX5_porter : MethodName := ⟨RX5, "porter", "(II)I"⟩
abbrev cX5_stridesOf : ByteArray := prog_7_method_17_code
def yX5_stridesOf : MethodName := ⟨RX5, "stridesOf", "(IIII)I"⟩
abbrev cX5_barsFrom : ByteArray := prog_7_method_18_code
def yX5_barsFrom : MethodName := ⟨RX5, "barsFrom", "(III)I"⟩
abbrev cX5_bars : ByteArray := prog_7_method_19_code
def yX5_bars : MethodName := ⟨RX5, "bars", "(II)I"⟩
abbrev cX5_stridesIn : ByteArray := prog_7_method_20_code
def yX5_stridesIn : MethodName := ⟨RX5, "stridesIn", "(II)I"⟩
abbrev cX5_tenement : ByteArray := prog_7_method_21_code
def yX5_tenement : MethodName := ⟨RX5, "tenement", "()I"⟩
abbrev cX5_addsFlight : ByteArray := prog_7_method_22_code
def yX5_addsFlight : MethodName := ⟨RX5, "addsFlight", "(III)V"⟩
abbrev cX5_flight : ByteArray := prog_7_method_23_code
def yX5_flight : MethodName := ⟨RX5, "flight", "(II)I"⟩
abbrev cX5_addsGoer : ByteArray := prog_7_method_24_code
def yX5_addsGoer : MethodName := ⟨RX5, "addsGoer", "(IIII)V"⟩
abbrev cX5_goer : ByteArray := prog_7_method_25_code
def yX5_goer : MethodName := ⟨RX5, "goer", "(III)I"⟩
abbrev cX5_type : ByteArray := prog_7_method_26_code
def yX5_type : MethodName := ⟨RX5, "type", "(I)I"⟩
abbrev cX5_clear : ByteArray := prog_7_method_27_code
def yX5_clear : MethodName := ⟨RX5, "clear", "()I"⟩
abbrev cX5_byteAt : ByteArray := prog_7_method_28_code
def yX5_byteAt : MethodName := ⟨RX5, "byteAt", "(I)I"⟩
abbrev cX5_blanks : ByteArray := prog_7_method_29_code
def yX5_blanks : MethodName := ⟨RX5, "blanks", "()V"⟩
abbrev cX5_takesWord : ByteArray := prog_7_method_30_code
def yX5_takesWord : MethodName := ⟨RX5, "takesWord", "()V"⟩
abbrev cX5_isWord : ByteArray := prog_7_method_31_code
def yX5_isWord : MethodName := ⟨RX5, "isWord", "(IIIIIIII)Z"⟩
abbrev cX5_isLetter : ByteArray := prog_7_method_32_code
def yX5_isLetter : MethodName := ⟨RX5, "isLetter", "(III)Z"⟩
abbrev cX5_wordOf : ByteArray := prog_7_method_33_code
def yX5_wordOf : MethodName := ⟨RX5, "wordOf", "()I"⟩
abbrev cX5_takesNumber : ByteArray := prog_7_method_34_code
def yX5_takesNumber : MethodName := ⟨RX5, "takesNumber", "(II)Z"⟩
abbrev cX5_takesEnd : ByteArray := prog_7_method_35_code
def yX5_takesEnd : MethodName := ⟨RX5, "takesEnd", "()Z"⟩
abbrev cX5_readsFlight : ByteArray := prog_7_method_36_code
def yX5_readsFlight : MethodName := ⟨RX5, "readsFlight", "()Z"⟩
abbrev cX5_readsGoer : ByteArray := prog_7_method_37_code
def yX5_readsGoer : MethodName := ⟨RX5, "readsGoer", "()Z"⟩
abbrev cX5_readsLoad : ByteArray := prog_7_method_38_code
def yX5_readsLoad : MethodName := ⟨RX5, "readsLoad", "()Z"⟩
abbrev cX5_readsStride : ByteArray := prog_7_method_39_code
def yX5_readsStride : MethodName := ⟨RX5, "readsStride", "()Z"⟩
abbrev cX5_readsHours : ByteArray := prog_7_method_40_code
def yX5_readsHours : MethodName := ⟨RX5, "readsHours", "()Z"⟩
abbrev cX5_readsItem : ByteArray := prog_7_method_41_code
def yX5_readsItem : MethodName := ⟨RX5, "readsItem", "(Z)Z"⟩
abbrev cX5_read : ByteArray := prog_7_method_42_code
def yX5_read : MethodName := ⟨RX5, "read", "()I"⟩
abbrev cX5_goes : ByteArray := prog_7_method_43_code
def yX5_goes : MethodName := ⟨RX5, "goes", "(III)V"⟩
abbrev cX5_passes : ByteArray := prog_7_method_44_code
def yX5_passes : MethodName := ⟨RX5, "passes", "(II)V"⟩
abbrev cX5_minds : ByteArray := prog_7_method_45_code
def yX5_minds : MethodName := ⟨RX5, "minds", "()V"⟩
abbrev cX5_strides : ByteArray := prog_7_method_46_code
def yX5_strides : MethodName := ⟨RX5, "strides", "(II)I"⟩
abbrev cX5_begins : ByteArray := prog_7_method_47_code
def yX5_begins : MethodName := ⟨RX5, "begins", "(I)I"⟩
abbrev cX5_loads : ByteArray := prog_7_method_48_code
def yX5_loads : MethodName := ⟨RX5, "loads", "(II)I"⟩
abbrev cX5_sells : ByteArray := prog_7_method_49_code
def yX5_sells : MethodName := ⟨RX5, "sells", "(II)I"⟩
abbrev cX5_hours : ByteArray := prog_7_method_50_code
def yX5_hours : MethodName := ⟨RX5, "hours", "(I)I"⟩
abbrev cX5_undo : ByteArray := prog_7_method_51_code
def yX5_undo : MethodName := ⟨RX5, "undo", "()I"⟩
abbrev cX5_of : ByteArray := prog_7_method_52_code
def yX5_of : MethodName := ⟨RX5, "of", "(II)I"⟩
abbrev cX5_ofGoer : ByteArray := prog_7_method_53_code
def yX5_ofGoer : MethodName := ⟨RX5, "ofGoer", "(II)I"⟩
abbrev cX5_about : ByteArray := prog_7_method_54_code
def yX5_about : MethodName := ⟨RX5, "about", "(II)I"⟩
abbrev cX5_laysLeft : ByteArray := prog_7_method_55_code
def yX5_laysLeft : MethodName := ⟨RX5, "laysLeft", "(II)V"⟩
abbrev cX5_firstFrom : ByteArray := prog_7_method_56_code
def yX5_firstFrom : MethodName := ⟨RX5, "firstFrom", "(II)I"⟩
abbrev cX5_stepUp : ByteArray := prog_7_method_57_code
def yX5_stepUp : MethodName := ⟨RX5, "stepUp", "(II)I"⟩
abbrev cX5_laysNow : ByteArray := prog_7_method_58_code
def yX5_laysNow : MethodName := ⟨RX5, "laysNow", "(I)V"⟩
abbrev cX5_up : ByteArray := prog_7_method_59_code
def yX5_up : MethodName := ⟨RX5, "up", "(II)I"⟩
abbrev cX5_stuck : ByteArray := prog_7_method_60_code
def yX5_stuck : MethodName := ⟨RX5, "stuck", "()I"⟩
abbrev cX5_soon : ByteArray := prog_7_method_61_code
def yX5_soon : MethodName := ⟨RX5, "soon", "(II)I"⟩
abbrev cX5_site : ByteArray := prog_7_method_62_code
def yX5_site : MethodName := ⟨RX5, "site", "(II)I"⟩
abbrev cX5_laysWay : ByteArray := prog_7_method_63_code
def yX5_laysWay : MethodName := ⟨RX5, "laysWay", "(I[I)Z"⟩
abbrev cX5_meets : ByteArray := prog_7_method_64_code
def yX5_meets : MethodName := ⟨RX5, "meets", "(II)I"⟩
abbrev cX5_seen : ByteArray := prog_7_method_65_code
def yX5_seen : MethodName := ⟨RX5, "seen", "(IIII)I"⟩
abbrev cX5_canBe : ByteArray := prog_7_method_66_code
def yX5_canBe : MethodName := ⟨RX5, "canBe", "(II)Z"⟩
abbrev cX5_whoseOf : ByteArray := prog_7_method_67_code
def yX5_whoseOf : MethodName := ⟨RX5, "whoseOf", "(I)I"⟩
abbrev cX5_whose : ByteArray := prog_7_method_68_code
def yX5_whose : MethodName := ⟨RX5, "whose", "(I)I"⟩
abbrev cX5_tell : ByteArray := prog_7_method_69_code
def yX5_tell : MethodName := ⟨RX5, "tell", "(I)I"⟩
abbrev cX5_note : ByteArray := prog_7_method_70_code
def yX5_note : MethodName := ⟨RX5, "note", "(III)I"⟩
abbrev cX5_mark : ByteArray := prog_7_method_71_code
def yX5_mark : MethodName := ⟨RX5, "mark", "(IIIII)I"⟩
abbrev cX5_forget : ByteArray := prog_7_method_72_code
def yX5_forget : MethodName := ⟨RX5, "forget", "(I)I"⟩
abbrev cX5_isSo : ByteArray := prog_7_method_73_code
def yX5_isSo : MethodName := ⟨RX5, "isSo", "(II)Z"⟩
abbrev cX5_isOf : ByteArray := prog_7_method_74_code
def yX5_isOf : MethodName := ⟨RX5, "isOf", "(I)I"⟩
abbrev cX5_is : ByteArray := prog_7_method_75_code
def yX5_is : MethodName := ⟨RX5, "is", "(I)I"⟩
abbrev cX5_look : ByteArray := prog_7_method_76_code
def yX5_look : MethodName := ⟨RX5, "look", "(I)I"⟩
abbrev cX5_canStride : ByteArray := prog_7_method_77_code
def yX5_canStride : MethodName := ⟨RX5, "canStride", "(II)Z"⟩
abbrev cX5_kindsOf : ByteArray := prog_7_method_78_code
def yX5_kindsOf : MethodName := ⟨RX5, "kindsOf", "(I)I"⟩
abbrev cX5_kinds : ByteArray := prog_7_method_79_code
def yX5_kinds : MethodName := ⟨RX5, "kinds", "(I)I"⟩
abbrev cX5_ask : ByteArray := prog_7_method_80_code
def yX5_ask : MethodName := ⟨RX5, "ask", "(I)I"⟩
abbrev cX5_gets : ByteArray := prog_7_method_81_code
def yX5_gets : MethodName := ⟨RX5, "gets", "(ZZI)I"⟩
abbrev cX5_gap : ByteArray := prog_7_method_82_code
def yX5_gap : MethodName := ⟨RX5, "gap", "(II)I"⟩
abbrev cX5_tells : ByteArray := prog_7_method_83_code
def yX5_tells : MethodName := ⟨RX5, "tells", "(JJ)I"⟩
abbrev cX5_dark : ByteArray := prog_7_method_84_code
def yX5_dark : MethodName := ⟨RX5, "dark", "(III)I"⟩
abbrev cX5_years : ByteArray := prog_7_method_85_code
def yX5_years : MethodName := ⟨RX5, "years", "(II)I"⟩
abbrev cX5_part : ByteArray := prog_7_method_86_code
def yX5_part : MethodName := ⟨RX5, "part", "(I)J"⟩
abbrev cX5_image : ByteArray := prog_7_method_87_code
def yX5_image : MethodName := ⟨RX5, "image", "(I)I"⟩
abbrev cX5_from : ByteArray := prog_7_method_88_code
def yX5_from : MethodName := ⟨RX5, "from", "(I)I"⟩
abbrev cX5_status : ByteArray := prog_7_method_89_code
def yX5_status : MethodName := ⟨RX5, "status", "(I)I"⟩
abbrev cX5_over : ByteArray := prog_7_method_90_code
def yX5_over : MethodName := ⟨RX5, "over", "()I"⟩
abbrev cX5_countOf : ByteArray := prog_7_method_91_code
def yX5_countOf : MethodName := ⟨RX5, "countOf", "(I)I"⟩
abbrev cX5_count : ByteArray := prog_7_method_92_code
def yX5_count : MethodName := ⟨RX5, "count", "(I)I"⟩
abbrev cX5_mix : ByteArray := prog_7_method_93_code
def yX5_mix : MethodName := ⟨RX5, "mix", "(J)V"⟩
abbrev cX5_mixes : ByteArray := prog_7_method_94_code
def yX5_mixes : MethodName := ⟨RX5, "mixes", "(II)V"⟩
abbrev cX5_digest : ByteArray := prog_7_method_95_code
def yX5_digest : MethodName := ⟨RX5, "digest", "()J"⟩
abbrev cJ6_bitCount_0f7a4 : ByteArray := prog_8_method_49_code
def yJ6_bitCount_0f7a4 : MethodName := ⟨"java/lang/Integer", "bitCount", "(I)I"⟩
abbrev cJ7_fill_53178 : ByteArray := prog_14_method_103_code
def yJ7_fill_53178 : MethodName := ⟨"java/util/Arrays", "fill", "([II)V"⟩
abbrev cJ9_max_7cf53 : ByteArray := prog_9_method_65_code
def yJ9_max_7cf53 : MethodName := ⟨"java/lang/Math", "max", "(II)I"⟩
abbrev cJ9_min_7cf53 : ByteArray := prog_9_method_69_code
def yJ9_min_7cf53 : MethodName := ⟨"java/lang/Math", "min", "(II)I"⟩
abbrev cJ0_length_8abf5 : ByteArray := prog_10_method_54_code
def yJ0_length_8abf5 : MethodName := ⟨"java/lang/String", "length", "()I"⟩
abbrev cJ0_charAt_5068e : ByteArray := prog_10_method_56_code
def yJ0_charAt_5068e : MethodName := ⟨"java/lang/String", "charAt", "(I)C"⟩
abbrev cJ0_coder_7d493 : ByteArray := prog_10_method_152_code
def yJ0_coder_7d493 : MethodName := ⟨"java/lang/String", "coder", "()B"⟩
abbrev cJ0_isLatin1_aae02 : ByteArray := prog_10_method_154_code
def yJ0_isLatin1_aae02 : MethodName := ⟨"java/lang/String", "isLatin1", "()Z"⟩
abbrev cJ0_checkIndex_df160 : ByteArray := prog_10_method_155_code
def yJ0_checkIndex_df160 : MethodName := ⟨"java/lang/String", "checkIndex", "(II)V"⟩
abbrev cJ1_charAt_3b067 : ByteArray := prog_11_method_2_code
def yJ1_charAt_3b067 : MethodName := ⟨"java/lang/StringLatin1", "charAt", "([BI)C"⟩
abbrev cJ3_checkIndex_8e157 : ByteArray := prog_15_method_11_code
def yJ3_checkIndex_8e157 : MethodName := ⟨"jdk/internal/util/Preconditions", "checkIndex", "(IILjava/util/function/BiFunction;)I"⟩
end
section
/-! tables: a method is a number y; a class of the world is a number; rows written by wip/whole/gen2.py -/
def nth {α : Type} : List α → Nat → α → α
  | [], _, d => d
  | a :: _, 0, _ => a
  | _ :: l, n + 1, d => nth l n d
theorem nth_get {α : Type} {d : α} : ∀ (l : List α) (n : Nat), n < l.length → l[n]? = some (nth l n d)
  | [], n, h => by simp at h
  | a :: l, 0, _ => rfl
  | a :: l, n + 1, h => by
    rw [List.getElem?_cons_succ]
    exact nth_get l n (by simpa using h)
theorem nth_out {α : Type} {d : α} : ∀ (l : List α) (n : Nat), l.length ≤ n → nth l n d = d
  | [], n, h => rfl
  | a :: l, 0, h => by simp at h
  | a :: l, n + 1, h => nth_out l n (by simpa using h)
def tb0 : List (Nat × Instr × Nat) := [(0, .aload_n 0, 1), (1, .getfield 9, 3), (4, .bipush 11, 2), (6, .iconst 0, 1), (7, .invokestatic 22, 3), (10, .bipush 10, 2), (12, .istore 4, 2), (14, .iload 4, 2), (16, .iload_n 1, 1), (17, .if_icmp .lt 87, 3), (20, .iconst (-1), 1), (21, .istore 5, 2), (23, .iconst 1, 1), (24, .istore 6, 2), (26, .iload 6, 2), (28, .iload_n 2, 1), (29, .if_icmp .gt 58, 3), (32, .iload 4, 2), (34, .iload 6, 2), (36, .iadd, 1), (37, .bipush 11, 2), (39, .if_icmp .gt 48, 3), (42, .aload_n 0, 1), (43, .iload 4, 2), (45, .iload 6, 2), (47, .iadd, 1), (48, .iload_n 3, 1), (49, .invokevirtual 26, 3), (52, .istore 7, 2), (54, .iload 7, 2), (56, .iconst (-1), 1), (57, .if_icmp .eq 24, 3), (60, .iload 5, 2), (62, .iconst (-1), 1), (63, .if_icmp .eq 12, 3), (66, .iload 7, 2), (68, .iconst 1, 1), (69, .iadd, 1), (70, .iload 5, 2), (72, .if_icmp .ge 9, 3), (75, .iload 7, 2), (77, .iconst 1, 1), (78, .iadd, 1), (79, .istore 5, 2), (81, .iinc 6 1, 3), (84, .goto (-58), 3), (87, .aload_n 0, 1), (88, .getfield 9, 3), (91, .iload 4, 2), (93, .iload 5, 2), (95, .invokestatic 22, 3), (98, .iinc 4 (-1), 3), (101, .goto (-87), 3), (104, .aload_n 0, 1), (105, .getfield 9, 3), (108, .iload_n 1, 1), (109, .invokestatic 30, 3), (112, .ireturn, 1)]
def tb1 : List (Nat × Instr × Nat) := [(0, .iload_n 2, 1), (1, .iload_n 1, 1), (2, .invokestatic 34, 3), (5, .ifCond .eq 7, 3), (8, .iconst (-1), 1), (9, .goto 11, 3), (12, .aload_n 0, 1), (13, .getfield 9, 3), (16, .iload_n 1, 1), (17, .invokestatic 30, 3), (20, .ireturn, 1)]
def tb2 : List (Nat × Instr × Nat) := [(0, .aload_n 0, 1), (1, .aload_n 0, 1), (2, .iload_n 1, 1), (3, .iload_n 2, 1), (4, .iload_n 3, 1), (5, .invokevirtual 38, 3), (8, .putfield 18, 3), (11, .iload_n 1, 1), (12, .istore 4, 2), (14, .iconst 0, 1), (15, .istore 5, 2), (17, .iload 5, 2), (19, .aload_n 0, 1), (20, .getfield 18, 3), (23, .if_icmp .ge 46, 3), (26, .aload_n 0, 1), (27, .iload 4, 2), (29, .iload_n 2, 1), (30, .iload_n 3, 1), (31, .aload_n 0, 1), (32, .getfield 18, 3), (35, .iload 5, 2), (37, .isub, 1), (38, .iconst 1, 1), (39, .isub, 1), (40, .invokevirtual 42, 3), (43, .istore 6, 2), (45, .aload_n 0, 1), (46, .getfield 15, 3), (49, .iload 5, 2), (51, .iload 6, 2), (53, .invokestatic 22, 3), (56, .iload 4, 2), (58, .iload 6, 2), (60, .iadd, 1), (61, .istore 4, 2), (63, .iinc 5 1, 3), (66, .goto (-49), 3), (69, .return_, 1)]
def tb3 : List (Nat × Instr × Nat) := [(0, .iconst 1, 1), (1, .istore 5, 2), (3, .iload 5, 2), (5, .iload_n 2, 1), (6, .if_icmp .gt 35, 3), (9, .iload_n 1, 1), (10, .iload 5, 2), (12, .iadd, 1), (13, .bipush 11, 2), (15, .if_icmp .gt 26, 3), (18, .aload_n 0, 1), (19, .iload_n 1, 1), (20, .iload 5, 2), (22, .iadd, 1), (23, .iload_n 3, 1), (24, .invokevirtual 26, 3), (27, .iload 4, 2), (29, .if_icmp .ne 6, 3), (32, .iload 5, 2), (34, .ireturn, 1), (35, .iinc 5 1, 3), (38, .goto (-35), 3), (41, .iconst 0, 1), (42, .ireturn, 1)]
def tb4 : List (Nat × Instr × Nat) := [(0, .iload_n 1, 1), (1, .aload_n 0, 1), (2, .getfield 18, 3), (5, .if_icmp .ge 14, 3), (8, .aload_n 0, 1), (9, .getfield 15, 3), (12, .iload_n 1, 1), (13, .invokestatic 30, 3), (16, .goto 4, 3), (19, .iconst 0, 1), (20, .ireturn, 1)]
def tb5 : List (Nat × Instr × Nat) := [(0, .aload_n 0, 1), (1, .iconst 0, 1), (2, .putfield 45, 3), (5, .aload_n 0, 1), (6, .iconst 0, 1), (7, .putfield 49, 3), (10, .aload_n 0, 1), (11, .iconst 0, 1), (12, .putfield 52, 3), (15, .aload_n 0, 1), (16, .getfield 24, 3), (19, .iconst 0, 1), (20, .invokestatic 55, 3), (23, .aload_n 0, 1), (24, .getfield 35, 3), (27, .invokevirtual 61, 3), (30, .pop, 1), (31, .aload_n 0, 1), (32, .getfield 39, 3), (35, .invokevirtual 61, 3), (38, .pop, 1), (39, .aload_n 0, 1), (40, .getfield 42, 3), (43, .invokevirtual 61, 3), (46, .pop, 1), (47, .return_, 1)]
def tb6 : List (Nat × Instr × Nat) := [(0, .aload_n 0, 1), (1, .aload_n 1, 1), (2, .getfield 45, 3), (5, .putfield 45, 3), (8, .aload_n 0, 1), (9, .aload_n 1, 1), (10, .getfield 49, 3), (13, .putfield 49, 3), (16, .aload_n 0, 1), (17, .aload_n 1, 1), (18, .getfield 52, 3), (21, .putfield 52, 3), (24, .aload_n 0, 1), (25, .getfield 11, 3), (28, .aload_n 1, 1), (29, .getfield 11, 3), (32, .invokestatic 65, 3), (35, .aload_n 0, 1), (36, .getfield 15, 3), (39, .aload_n 1, 1), (40, .getfield 15, 3), (43, .invokestatic 65, 3), (46, .aload_n 0, 1), (47, .getfield 18, 3), (50, .aload_n 1, 1), (51, .getfield 18, 3), (54, .invokestatic 65, 3), (57, .aload_n 0, 1), (58, .getfield 21, 3), (61, .aload_n 1, 1), (62, .getfield 21, 3), (65, .invokestatic 65, 3), (68, .aload_n 0, 1), (69, .getfield 24, 3), (72, .aload_n 1, 1), (73, .getfield 24, 3), (76, .invokestatic 65, 3), (79, .aload_n 0, 1), (80, .getfield 27, 3), (83, .aload_n 1, 1), (84, .getfield 27, 3), (87, .invokestatic 65, 3), (90, .aload_n 0, 1), (91, .getfield 35, 3), (94, .aload_n 1, 1), (95, .getfield 35, 3), (98, .invokevirtual 69, 3), (101, .aload_n 0, 1), (102, .getfield 39, 3), (105, .aload_n 1, 1), (106, .getfield 39, 3), (109, .invokevirtual 69, 3), (112, .aload_n 0, 1), (113, .getfield 42, 3), (116, .aload_n 1, 1), (117, .getfield 42, 3), (120, .invokevirtual 69, 3), (123, .return_, 1)]
def tb7 : List (Nat × Instr × Nat) := [(0, .iload_n 1, 1), (1, .ifCond .lt 15, 3), (4, .iload_n 1, 1), (5, .aload_n 0, 1), (6, .getfield 45, 3), (9, .if_icmp .ge 7, 3), (12, .iconst 1, 1), (13, .goto 4, 3), (16, .iconst 0, 1), (17, .ireturn, 1)]
def tb8 : List (Nat × Instr × Nat) := [(0, .iload_n 1, 1), (1, .ifCond .lt 15, 3), (4, .iload_n 1, 1), (5, .aload_n 0, 1), (6, .getfield 49, 3), (9, .if_icmp .ge 7, 3), (12, .iconst 1, 1), (13, .goto 4, 3), (16, .iconst 0, 1), (17, .ireturn, 1)]
def tb9 : List (Nat × Instr × Nat) := [(0, .aload_n 0, 1), (1, .getfield 45, 3), (4, .istore_n 3, 1), (5, .aload_n 0, 1), (6, .getfield 11, 3), (9, .iload_n 3, 1), (10, .iload_n 1, 1), (11, .invokestatic 73, 3), (14, .aload_n 0, 1), (15, .iload_n 3, 1), (16, .iload_n 2, 1), (17, .invokevirtual 77, 3), (20, .aload_n 0, 1), (21, .dup, 1), (22, .getfield 45, 3), (25, .iconst 1, 1), (26, .iadd, 1), (27, .putfield 45, 3), (30, .aload_n 0, 1), (31, .iconst 0, 1), (32, .putfield 52, 3), (35, .iload_n 3, 1), (36, .ireturn, 1)]
def tb10 : List (Nat × Instr × Nat) := [(0, .aload_n 0, 1), (1, .getfield 49, 3), (4, .istore 4, 2), (6, .aload_n 0, 1), (7, .getfield 15, 3), (10, .iload 4, 2), (12, .iload_n 1, 1), (13, .invokestatic 73, 3), (16, .aload_n 0, 1), (17, .getfield 18, 3), (20, .iload 4, 2), (22, .iload_n 2, 1), (23, .invokestatic 73, 3), (26, .aload_n 0, 1), (27, .getfield 21, 3), (30, .iload 4, 2), (32, .iload_n 3, 1), (33, .invokestatic 73, 3), (36, .aload_n 0, 1), (37, .iload 4, 2), (39, .iconst 0, 1), (40, .invokevirtual 80, 3), (43, .aload_n 0, 1), (44, .iload 4, 2), (46, .iconst 0, 1), (47, .invokevirtual 83, 3), (50, .aload_n 0, 1), (51, .dup, 1), (52, .getfield 49, 3), (55, .iconst 1, 1), (56, .iadd, 1), (57, .putfield 49, 3), (60, .aload_n 0, 1), (61, .iconst 0, 1), (62, .putfield 52, 3), (65, .iload 4, 2), (67, .ireturn, 1)]
def tb11 : List (Nat × Instr × Nat) := [(0, .aload_n 0, 1), (1, .getfield 52, 3), (4, .bipush 8, 2), (6, .if_icmp .lt 25, 3), (9, .aload_n 0, 1), (10, .getfield 27, 3), (13, .bipush 17, 2), (15, .aload_n 0, 1), (16, .getfield 27, 3), (19, .iconst 0, 1), (20, .bipush 119, 2), (22, .invokestatic 86, 3), (25, .aload_n 0, 1), (26, .bipush 7, 2), (28, .putfield 52, 3), (31, .aload_n 0, 1), (32, .getfield 52, 3), (35, .ifCond .lt 24, 3), (38, .aload_n 0, 1), (39, .getfield 24, 3), (42, .iconst 0, 1), (43, .aload_n 0, 1), (44, .getfield 27, 3), (47, .aload_n 0, 1), (48, .getfield 52, 3), (51, .bipush 17, 2), (53, .imul, 1), (54, .bipush 17, 2), (56, .invokestatic 86, 3), (59, .aload_n 0, 1), (60, .dup, 1), (61, .getfield 52, 3), (64, .iconst 1, 1), (65, .iadd, 1), (66, .putfield 52, 3), (69, .return_, 1)]
def tb12 : List (Nat × Instr × Nat) := [(0, .aload_n 0, 1), (1, .getfield 52, 3), (4, .iconst 1, 1), (5, .if_icmp .lt 12, 3), (8, .aload_n 0, 1), (9, .getfield 52, 3), (12, .bipush 8, 2), (14, .if_icmp .le 4, 3), (17, .return_, 1), (18, .aload_n 0, 1), (19, .dup, 1), (20, .getfield 52, 3), (23, .iconst 1, 1), (24, .isub, 1), (25, .putfield 52, 3), (28, .aload_n 0, 1), (29, .getfield 27, 3), (32, .aload_n 0, 1), (33, .getfield 52, 3), (36, .bipush 17, 2), (38, .imul, 1), (39, .aload_n 0, 1), (40, .getfield 24, 3), (43, .iconst 0, 1), (44, .bipush 17, 2), (46, .invokestatic 86, 3), (49, .return_, 1)]
def tb13 : List (Nat × Instr × Nat) := [(0, .aload_n 0, 1), (1, .getfield 11, 3), (4, .iload_n 1, 1), (5, .invokestatic 92, 3), (8, .ireturn, 1)]
def tb14 : List (Nat × Instr × Nat) := [(0, .aload_n 0, 1), (1, .getfield 24, 3), (4, .bipush 12, 2), (6, .iload_n 1, 1), (7, .iadd, 1), (8, .invokestatic 92, 3), (11, .ireturn, 1)]
def tb15 : List (Nat × Instr × Nat) := [(0, .aload_n 0, 1), (1, .getfield 24, 3), (4, .bipush 12, 2), (6, .iload_n 1, 1), (7, .iadd, 1), (8, .iload_n 2, 1), (9, .invokestatic 73, 3), (12, .return_, 1)]
def tb16 : List (Nat × Instr × Nat) := [(0, .aload_n 0, 1), (1, .getfield 18, 3), (4, .iload_n 1, 1), (5, .invokestatic 92, 3), (8, .ireturn, 1)]
def tb17 : List (Nat × Instr × Nat) := [(0, .aload_n 0, 1), (1, .getfield 21, 3), (4, .iload_n 1, 1), (5, .invokestatic 92, 3), (8, .ireturn, 1)]
def tb18 : List (Nat × Instr × Nat) := [(0, .aload_n 0, 1), (1, .getfield 24, 3), (4, .iconst 0, 1), (5, .iload_n 1, 1), (6, .iadd, 1), (7, .invokestatic 92, 3), (10, .ireturn, 1)]
def tb19 : List (Nat × Instr × Nat) := [(0, .aload_n 0, 1), (1, .getfield 24, 3), (4, .iconst 0, 1), (5, .iload_n 1, 1), (6, .iadd, 1), (7, .iload_n 2, 1), (8, .invokestatic 73, 3), (11, .return_, 1)]
def tb20 : List (Nat × Instr × Nat) := [(0, .aload_n 0, 1), (1, .getfield 24, 3), (4, .bipush 6, 2), (6, .iload_n 1, 1), (7, .iadd, 1), (8, .invokestatic 92, 3), (11, .ireturn, 1)]
def tb21 : List (Nat × Instr × Nat) := [(0, .aload_n 0, 1), (1, .getfield 24, 3), (4, .bipush 6, 2), (6, .iload_n 1, 1), (7, .iadd, 1), (8, .iload_n 2, 1), (9, .invokestatic 73, 3), (12, .return_, 1)]
def tb22 : List (Nat × Instr × Nat) := [(0, .aload_n 0, 1), (1, .getfield 24, 3), (4, .bipush 15, 2), (6, .invokestatic 92, 3), (9, .ireturn, 1)]
def tb23 : List (Nat × Instr × Nat) := [(0, .aload_n 0, 1), (1, .getfield 24, 3), (4, .bipush 16, 2), (6, .invokestatic 92, 3), (9, .ireturn, 1)]
def tb24 : List (Nat × Instr × Nat) := [(0, .aload_n 0, 1), (1, .getfield 24, 3), (4, .bipush 16, 2), (6, .invokestatic 92, 3), (9, .bipush 24, 2), (11, .irem, 1), (12, .ireturn, 1)]
def tb25 : List (Nat × Instr × Nat) := [(0, .aload_n 0, 1), (1, .getfield 24, 3), (4, .bipush 16, 2), (6, .sipush 9999, 3), (9, .aload_n 0, 1), (10, .invokevirtual 96, 3), (13, .iload_n 1, 1), (14, .iadd, 1), (15, .invokestatic 99, 3), (18, .invokestatic 73, 3), (21, .return_, 1)]
def tb26 : List (Nat × Instr × Nat) := [(0, .aload_n 0, 1), (1, .iload_n 1, 1), (2, .invokevirtual 105, 3), (5, .bipush 11, 2), (7, .if_icmp .lt 7, 3), (10, .iconst 1, 1), (11, .goto 4, 3), (14, .iconst 0, 1), (15, .ireturn, 1)]
def tb27 : List (Nat × Instr × Nat) := [(0, .iconst 0, 1), (1, .istore_n 1, 1), (2, .iconst 0, 1), (3, .istore_n 2, 1), (4, .iload_n 2, 1), (5, .aload_n 0, 1), (6, .getfield 49, 3), (9, .if_icmp .ge 20, 3), (12, .aload_n 0, 1), (13, .iload_n 2, 1), (14, .invokevirtual 109, 3), (17, .ifCond .eq 6, 3), (20, .iinc 1 1, 3), (23, .iinc 2 1, 3), (26, .goto (-22), 3), (29, .iload_n 1, 1), (30, .ireturn, 1)]
def tb28 : List (Nat × Instr × Nat) := [(0, .aload_n 0, 1), (1, .getfield 24, 3), (4, .bipush 12, 2), (6, .iload_n 1, 1), (7, .iadd, 1), (8, .invokestatic 92, 3), (11, .aload_n 0, 1), (12, .getfield 11, 3), (15, .iload_n 1, 1), (16, .invokestatic 92, 3), (19, .iload_n 2, 1), (20, .invokestatic 113, 3), (23, .invokestatic 116, 3), (26, .ireturn, 1)]
def tb29 : List (Nat × Instr × Nat) := [(0, .aload_n 0, 1), (1, .aload_n 0, 1), (2, .iload_n 1, 1), (3, .invokevirtual 119, 3), (6, .aload_n 0, 1), (7, .invokevirtual 122, 3), (10, .invokevirtual 125, 3), (13, .ireturn, 1)]
def tb30 : List (Nat × Instr × Nat) := [(0, .aload_n 0, 1), (1, .iload_n 1, 1), (2, .aload_n 0, 1), (3, .invokevirtual 122, 3), (6, .invokevirtual 128, 3), (9, .ireturn, 1)]
def tb31 : List (Nat × Instr × Nat) := [(0, .aload_n 0, 1), (1, .getfield 15, 3), (4, .iload_n 1, 1), (5, .invokestatic 92, 3), (8, .aload_n 0, 1), (9, .getfield 18, 3), (12, .iload_n 1, 1), (13, .invokestatic 92, 3), (16, .aload_n 0, 1), (17, .getfield 24, 3), (20, .bipush 6, 2), (22, .iload_n 1, 1), (23, .iadd, 1), (24, .invokestatic 92, 3), (27, .iload_n 2, 1), (28, .invokestatic 131, 3), (31, .ireturn, 1)]
def tb32 : List (Nat × Instr × Nat) := [(0, .iload_n 2, 1), (1, .tableswitch 68 0 4 #[35, 44, 50, 56, 62], 35), (36, .aload_n 0, 1), (37, .getfield 15, 3), (40, .iload_n 1, 1), (41, .invokestatic 92, 3), (44, .ireturn, 1), (45, .aload_n 0, 1), (46, .iload_n 1, 1), (47, .invokevirtual 135, 3), (50, .ireturn, 1), (51, .aload_n 0, 1), (52, .iload_n 1, 1), (53, .invokevirtual 119, 3), (56, .ireturn, 1), (57, .aload_n 0, 1), (58, .iload_n 1, 1), (59, .invokevirtual 105, 3), (62, .ireturn, 1), (63, .aload_n 0, 1), (64, .iload_n 1, 1), (65, .invokevirtual 138, 3), (68, .ireturn, 1), (69, .aload_n 0, 1), (70, .iload_n 1, 1), (71, .invokevirtual 141, 3), (74, .ireturn, 1)]
def tb33 : List (Nat × Instr × Nat) := [(0, .bipush 11, 2), (2, .aload_n 0, 1), (3, .iload_n 1, 1), (4, .invokevirtual 105, 3), (7, .iload_n 2, 1), (8, .iadd, 1), (9, .invokestatic 99, 3), (12, .istore_n 3, 1), (13, .aload_n 0, 1), (14, .iload_n 1, 1), (15, .invokevirtual 144, 3), (18, .iload_n 3, 1), (19, .invokestatic 147, 3), (22, .ifCond .eq 26, 3), (25, .iconst 0, 1), (26, .istore_n 3, 1), (27, .aload_n 0, 1), (28, .getfield 24, 3), (31, .bipush 15, 2), (33, .sipush 9999, 3), (36, .aload_n 0, 1), (37, .invokevirtual 151, 3), (40, .iconst 1, 1), (41, .iadd, 1), (42, .invokestatic 99, 3), (45, .invokestatic 73, 3), (48, .aload_n 0, 1), (49, .iload_n 1, 1), (50, .iload_n 3, 1), (51, .invokevirtual 80, 3), (54, .iload_n 3, 1), (55, .ireturn, 1)]
def tb34 : List (Nat × Instr × Nat) := [(0, .aload_n 0, 1), (1, .getfield 20, 3), (4, .aload_n 0, 1), (5, .getfield 13, 3), (8, .if_icmp .lt 7, 3), (11, .iconst 1, 1), (12, .goto 4, 3), (15, .iconst 0, 1), (16, .ireturn, 1)]
def tb35 : List (Nat × Instr × Nat) := [(0, .aload_n 0, 1), (1, .getfield 20, 3), (4, .istore_n 1, 1), (5, .aload_n 0, 1), (6, .iconst 0, 1), (7, .putfield 20, 3), (10, .iload_n 1, 1), (11, .ireturn, 1)]
def tb36 : List (Nat × Instr × Nat) := [(0, .aload_n 0, 1), (1, .invokevirtual 23, 3), (4, .ifCond .eq 8, 3), (7, .aload_n 0, 1), (8, .getfield 20, 3), (11, .ireturn, 1), (12, .aload_n 0, 1), (13, .dup, 1), (14, .getfield 20, 3), (17, .iconst 1, 1), (18, .iadd, 1), (19, .putfield 20, 3), (22, .aload_n 0, 1), (23, .iconst 0, 1), (24, .iload_n 1, 1), (25, .invokevirtual 27, 3), (28, .aload_n 0, 1), (29, .iconst 1, 1), (30, .iload_n 2, 1), (31, .invokevirtual 27, 3), (34, .aload_n 0, 1), (35, .iconst 2, 1), (36, .iload_n 3, 1), (37, .invokevirtual 27, 3), (40, .aload_n 0, 1), (41, .iconst 3, 1), (42, .iload 4, 2), (44, .invokevirtual 27, 3), (47, .aload_n 0, 1), (48, .iconst 4, 1), (49, .iload 5, 2), (51, .invokevirtual 27, 3), (54, .aload_n 0, 1), (55, .getfield 20, 3), (58, .ireturn, 1)]
def tb37 : List (Nat × Instr × Nat) := [(0, .iload_n 1, 1), (1, .aload_n 0, 1), (2, .getfield 7, 3), (5, .if_icmp .ge 24, 3), (8, .aload_n 0, 1), (9, .getfield 16, 3), (12, .aload_n 0, 1), (13, .getfield 20, 3), (16, .iconst 1, 1), (17, .isub, 1), (18, .aload_n 0, 1), (19, .getfield 7, 3), (22, .imul, 1), (23, .iload_n 1, 1), (24, .iadd, 1), (25, .iload_n 2, 1), (26, .invokestatic 31, 3), (29, .return_, 1)]
def tb38 : List (Nat × Instr × Nat) := [(0, .aload_n 0, 1), (1, .getfield 16, 3), (4, .iload_n 1, 1), (5, .aload_n 0, 1), (6, .getfield 7, 3), (9, .imul, 1), (10, .iload_n 2, 1), (11, .iadd, 1), (12, .invokestatic 37, 3), (15, .ireturn, 1)]
def tb39 : List (Nat × Instr × Nat) := [(0, .aload_n 0, 1), (1, .aload_n 1, 1), (2, .getfield 20, 3), (5, .putfield 20, 3), (8, .aload_n 0, 1), (9, .getfield 16, 3), (12, .aload_n 1, 1), (13, .getfield 16, 3), (16, .invokestatic 41, 3), (19, .return_, 1)]
def tb40 : List (Nat × Instr × Nat) := [(0, .lload_n 1, 1), (1, .lstore_n 3, 1), (2, .iconst 0, 1), (3, .istore 5, 2), (5, .iload 5, 2), (7, .aload_n 0, 1), (8, .getfield 20, 3), (11, .if_icmp .ge 43, 3), (14, .iconst 0, 1), (15, .istore 6, 2), (17, .iload 6, 2), (19, .aload_n 0, 1), (20, .getfield 7, 3), (23, .if_icmp .ge 25, 3), (26, .ldc2_w 45, 3), (29, .lload_n 3, 1), (30, .lmul, 1), (31, .aload_n 0, 1), (32, .iload 5, 2), (34, .iload 6, 2), (36, .invokevirtual 47, 3), (39, .i2l, 1), (40, .ladd, 1), (41, .lstore_n 3, 1), (42, .iinc 6 1, 3), (45, .goto (-28), 3), (48, .iinc 5 1, 3), (51, .goto (-46), 3), (54, .lload_n 3, 1), (55, .lreturn, 1)]
def tb41 : List (Nat × Instr × Nat) := [(0, .aload_n 0, 1), (1, .getfield 9, 3), (4, .aload_n 0, 1), (5, .getfield 15, 3), (8, .iload_n 1, 1), (9, .invokestatic 19, 3), (12, .aload_n 0, 1), (13, .dup, 1), (14, .getfield 15, 3), (17, .iconst 1, 1), (18, .iadd, 1), (19, .putfield 15, 3), (22, .aload_n 0, 1), (23, .getfield 15, 3), (26, .ireturn, 1)]
def tb42 : List (Nat × Instr × Nat) := [(0, .aload_n 0, 1), (1, .iconst 0, 1), (2, .putfield 23, 3), (5, .aload_n 0, 1), (6, .invokevirtual 26, 3), (9, .aload_n 0, 1), (10, .ldc 29, 2), (12, .invokevirtual 31, 3), (15, .ifCond .eq 14, 3), (18, .aload_n 0, 1), (19, .invokevirtual 35, 3), (22, .ifCond .eq 7, 3), (25, .iconst 1, 1), (26, .goto 4, 3), (29, .iconst 0, 1), (30, .ireturn, 1)]
def tb43 : List (Nat × Instr × Nat) := [(0, .aload_n 0, 1), (1, .invokevirtual 26, 3), (4, .aload_n 0, 1), (5, .getfield 39, 3), (8, .ifCond .eq 7, 3), (11, .iconst 1, 1), (12, .goto 4, 3), (15, .iconst 0, 1), (16, .ireturn, 1)]
def tb44 : List (Nat × Instr × Nat) := [(0, .aload_n 0, 1), (1, .ldc 42, 2), (3, .invokevirtual 31, 3), (6, .ifCond .eq 9, 3), (9, .aload_n 0, 1), (10, .aload_n 1, 1), (11, .invokevirtual 44, 3), (14, .ireturn, 1), (15, .aload_n 0, 1), (16, .ldc 48, 2), (18, .invokevirtual 31, 3), (21, .ifCond .eq 9, 3), (24, .aload_n 0, 1), (25, .aload_n 1, 1), (26, .invokevirtual 50, 3), (29, .ireturn, 1), (30, .aload_n 0, 1), (31, .ldc 53, 2), (33, .invokevirtual 31, 3), (36, .ifCond .eq 9, 3), (39, .aload_n 0, 1), (40, .aload_n 1, 1), (41, .invokevirtual 55, 3), (44, .ireturn, 1), (45, .aload_n 0, 1), (46, .ldc 58, 2), (48, .invokevirtual 31, 3), (51, .ifCond .eq 9, 3), (54, .aload_n 0, 1), (55, .aload_n 1, 1), (56, .invokevirtual 60, 3), (59, .ireturn, 1), (60, .aload_n 0, 1), (61, .ldc 63, 2), (63, .invokevirtual 31, 3), (66, .ifCond .eq 15, 3), (69, .aload_n 0, 1), (70, .aload_n 1, 1), (71, .invokevirtual 65, 3), (74, .ifCond .eq 7, 3), (77, .iconst 1, 1), (78, .goto 4, 3), (81, .iconst 0, 1), (82, .ireturn, 1)]
def tb45 : List (Nat × Instr × Nat) := [(0, .aload_n 1, 1), (1, .getfield 68, 3), (4, .iconst 3, 1), (5, .if_icmp .ge 12, 3), (8, .aload_n 0, 1), (9, .iconst 0, 1), (10, .iconst 5, 1), (11, .invokevirtual 73, 3), (14, .ifCond .ne 5, 3), (17, .iconst 0, 1), (18, .ireturn, 1), (19, .aload_n 0, 1), (20, .getfield 77, 3), (23, .istore_n 2, 1), (24, .aload_n 0, 1), (25, .iconst 1, 1), (26, .bipush 10, 2), (28, .invokevirtual 73, 3), (31, .ifCond .ne 5, 3), (34, .iconst 0, 1), (35, .ireturn, 1), (36, .aload_n 1, 1), (37, .iload_n 2, 1), (38, .aload_n 0, 1), (39, .getfield 77, 3), (42, .invokevirtual 80, 3), (45, .pop, 1), (46, .aload_n 0, 1), (47, .invokevirtual 35, 3), (50, .ireturn, 1)]
def tb46 : List (Nat × Instr × Nat) := [(0, .aload_n 1, 1), (1, .getfield 84, 3), (4, .bipush 6, 2), (6, .if_icmp .ge 12, 3), (9, .aload_n 0, 1), (10, .iconst 0, 1), (11, .iconst 5, 1), (12, .invokevirtual 73, 3), (15, .ifCond .ne 5, 3), (18, .iconst 0, 1), (19, .ireturn, 1), (20, .aload_n 0, 1), (21, .getfield 77, 3), (24, .istore_n 2, 1), (25, .aload_n 0, 1), (26, .iconst 1, 1), (27, .iconst 4, 1), (28, .invokevirtual 73, 3), (31, .ifCond .ne 5, 3), (34, .iconst 0, 1), (35, .ireturn, 1), (36, .aload_n 0, 1), (37, .getfield 77, 3), (40, .istore_n 3, 1), (41, .aload_n 0, 1), (42, .iconst 0, 1), (43, .aload_n 1, 1), (44, .getfield 68, 3), (47, .iconst 1, 1), (48, .isub, 1), (49, .invokevirtual 73, 3), (52, .ifCond .ne 5, 3), (55, .iconst 0, 1), (56, .ireturn, 1), (57, .aload_n 1, 1), (58, .iload_n 2, 1), (59, .iload_n 3, 1), (60, .aload_n 0, 1), (61, .getfield 77, 3), (64, .invokevirtual 87, 3), (67, .pop, 1), (68, .aload_n 0, 1), (69, .invokevirtual 35, 3), (72, .ireturn, 1)]
def tb47 : List (Nat × Instr × Nat) := [(0, .aload_n 0, 1), (1, .iconst 0, 1), (2, .aload_n 1, 1), (3, .getfield 84, 3), (6, .iconst 1, 1), (7, .isub, 1), (8, .invokevirtual 73, 3), (11, .ifCond .ne 5, 3), (14, .iconst 0, 1), (15, .ireturn, 1), (16, .aload_n 0, 1), (17, .getfield 77, 3), (20, .istore_n 2, 1), (21, .aload_n 0, 1), (22, .iconst 0, 1), (23, .bipush 9, 2), (25, .invokevirtual 73, 3), (28, .ifCond .ne 5, 3), (31, .iconst 0, 1), (32, .ireturn, 1), (33, .aload_n 1, 1), (34, .iload_n 2, 1), (35, .aload_n 0, 1), (36, .getfield 77, 3), (39, .invokevirtual 91, 3), (42, .aload_n 0, 1), (43, .invokevirtual 35, 3), (46, .ireturn, 1)]
def tb48 : List (Nat × Instr × Nat) := [(0, .aload_n 0, 1), (1, .iconst 0, 1), (2, .aload_n 1, 1), (3, .getfield 84, 3), (6, .iconst 1, 1), (7, .isub, 1), (8, .invokevirtual 73, 3), (11, .ifCond .eq 14, 3), (14, .aload_n 1, 1), (15, .aload_n 0, 1), (16, .getfield 77, 3), (19, .invokevirtual 95, 3), (22, .ifCond .eq 5, 3), (25, .iconst 0, 1), (26, .ireturn, 1), (27, .aload_n 0, 1), (28, .getfield 77, 3), (31, .istore_n 2, 1), (32, .aload_n 0, 1), (33, .iconst 1, 1), (34, .aload_n 1, 1), (35, .iload_n 2, 1), (36, .invokevirtual 99, 3), (39, .invokevirtual 73, 3), (42, .ifCond .ne 5, 3), (45, .iconst 0, 1), (46, .ireturn, 1), (47, .aload_n 1, 1), (48, .iload_n 2, 1), (49, .aload_n 0, 1), (50, .getfield 77, 3), (53, .invokevirtual 103, 3), (56, .pop, 1), (57, .aload_n 0, 1), (58, .invokevirtual 35, 3), (61, .ireturn, 1)]
def tb49 : List (Nat × Instr × Nat) := [(0, .aload_n 0, 1), (1, .iconst 1, 1), (2, .bipush 99, 2), (4, .invokevirtual 73, 3), (7, .ifCond .ne 5, 3), (10, .iconst 0, 1), (11, .ireturn, 1), (12, .aload_n 1, 1), (13, .aload_n 0, 1), (14, .getfield 77, 3), (17, .invokevirtual 105, 3), (20, .aload_n 0, 1), (21, .invokevirtual 35, 3), (24, .ireturn, 1)]
def tb50 : List (Nat × Instr × Nat) := [(0, .aload_n 0, 1), (1, .invokevirtual 26, 3), (4, .aload_n 0, 1), (5, .getfield 39, 3), (8, .iconst 3, 1), (9, .if_icmp .ne 7, 3), (12, .iconst 1, 1), (13, .goto 4, 3), (16, .iconst 0, 1), (17, .ireturn, 1)]
def tb51 : List (Nat × Instr × Nat) := [(0, .aload_n 0, 1), (1, .invokevirtual 26, 3), (4, .aload_n 0, 1), (5, .getfield 39, 3), (8, .iconst 2, 1), (9, .if_icmp .ne 23, 3), (12, .aload_n 0, 1), (13, .getfield 77, 3), (16, .iload_n 1, 1), (17, .if_icmp .lt 15, 3), (20, .aload_n 0, 1), (21, .getfield 77, 3), (24, .iload_n 2, 1), (25, .if_icmp .gt 7, 3), (28, .iconst 1, 1), (29, .goto 4, 3), (32, .iconst 0, 1), (33, .ireturn, 1)]
def tb52 : List (Nat × Instr × Nat) := [(0, .aload_n 0, 1), (1, .getfield 39, 3), (4, .iconst 1, 1), (5, .if_icmp .ne 19, 3), (8, .aload_n 0, 1), (9, .getfield 23, 3), (12, .aload_n 0, 1), (13, .getfield 109, 3), (16, .isub, 1), (17, .aload_n 1, 1), (18, .invokevirtual 112, 3), (21, .if_icmp .eq 5, 3), (24, .iconst 0, 1), (25, .ireturn, 1), (26, .iconst 0, 1), (27, .istore_n 2, 1), (28, .iload_n 2, 1), (29, .aload_n 1, 1), (30, .invokevirtual 112, 3), (33, .if_icmp .ge 32, 3), (36, .aload_n 0, 1), (37, .getfield 9, 3), (40, .aload_n 0, 1), (41, .getfield 109, 3), (44, .iload_n 2, 1), (45, .iadd, 1), (46, .invokestatic 117, 3), (49, .aload_n 1, 1), (50, .iload_n 2, 1), (51, .invokevirtual 121, 3), (54, .if_icmp .eq 5, 3), (57, .iconst 0, 1), (58, .ireturn, 1), (59, .iinc 2 1, 3), (62, .goto (-34), 3), (65, .iconst 1, 1), (66, .ireturn, 1)]
def tb53 : List (Nat × Instr × Nat) := [(0, .aload_n 0, 1), (1, .aload_n 0, 1), (2, .getfield 23, 3), (5, .putfield 109, 3), (8, .aload_n 0, 1), (9, .getfield 109, 3), (12, .aload_n 0, 1), (13, .getfield 15, 3), (16, .if_icmp .ge 32, 3), (19, .aload_n 0, 1), (20, .getfield 9, 3), (23, .aload_n 0, 1), (24, .getfield 109, 3), (27, .invokestatic 117, 3), (30, .bipush 32, 2), (32, .if_icmp .ne 16, 3), (35, .aload_n 0, 1), (36, .dup, 1), (37, .getfield 109, 3), (40, .iconst 1, 1), (41, .iadd, 1), (42, .putfield 109, 3), (45, .goto (-37), 3), (48, .aload_n 0, 1), (49, .aload_n 0, 1), (50, .getfield 109, 3), (53, .putfield 23, 3), (56, .aload_n 0, 1), (57, .getfield 109, 3), (60, .aload_n 0, 1), (61, .getfield 15, 3), (64, .if_icmp .lt 11, 3), (67, .aload_n 0, 1), (68, .iconst 0, 1), (69, .putfield 39, 3), (72, .goto 74, 3), (75, .aload_n 0, 1), (76, .aload_n 0, 1), (77, .getfield 109, 3), (80, .invokevirtual 125, 3), (83, .ifCond .eq 10, 3), (86, .aload_n 0, 1), (87, .invokevirtual 128, 3), (90, .goto 56, 3), (93, .aload_n 0, 1), (94, .aload_n 0, 1), (95, .getfield 109, 3), (98, .invokevirtual 131, 3), (101, .ifCond .eq 10, 3), (104, .aload_n 0, 1), (105, .invokevirtual 134, 3), (108, .goto 38, 3), (111, .aload_n 0, 1), (112, .aload_n 0, 1), (113, .getfield 9, 3), (116, .aload_n 0, 1), (117, .getfield 109, 3), (120, .invokestatic 117, 3), (123, .bipush 59, 2), (125, .if_icmp .ne 7, 3), (128, .iconst 3, 1), (129, .goto 4, 3), (132, .iconst 4, 1), (133, .putfield 39, 3), (136, .aload_n 0, 1), (137, .aload_n 0, 1), (138, .getfield 109, 3), (141, .iconst 1, 1), (142, .iadd, 1), (143, .putfield 23, 3), (146, .return_, 1)]
def tb54 : List (Nat × Instr × Nat) := [(0, .aload_n 0, 1), (1, .iconst 1, 1), (2, .putfield 39, 3), (5, .aload_n 0, 1), (6, .getfield 23, 3), (9, .aload_n 0, 1), (10, .getfield 15, 3), (13, .if_icmp .ge 27, 3), (16, .aload_n 0, 1), (17, .aload_n 0, 1), (18, .getfield 23, 3), (21, .invokevirtual 125, 3), (24, .ifCond .eq 16, 3), (27, .aload_n 0, 1), (28, .dup, 1), (29, .getfield 23, 3), (32, .iconst 1, 1), (33, .iadd, 1), (34, .putfield 23, 3), (37, .goto (-32), 3), (40, .return_, 1)]
def tb55 : List (Nat × Instr × Nat) := [(0, .aload_n 0, 1), (1, .iconst 0, 1), (2, .putfield 77, 3), (5, .aload_n 0, 1), (6, .getfield 23, 3), (9, .aload_n 0, 1), (10, .getfield 15, 3), (13, .if_icmp .ge 53, 3), (16, .aload_n 0, 1), (17, .aload_n 0, 1), (18, .getfield 23, 3), (21, .invokevirtual 131, 3), (24, .ifCond .eq 42, 3), (27, .aload_n 0, 1), (28, .aload_n 0, 1), (29, .getfield 77, 3), (32, .bipush 10, 2), (34, .imul, 1), (35, .aload_n 0, 1), (36, .getfield 9, 3), (39, .aload_n 0, 1), (40, .getfield 23, 3), (43, .invokestatic 117, 3), (46, .iadd, 1), (47, .bipush 48, 2), (49, .isub, 1), (50, .putfield 77, 3), (53, .aload_n 0, 1), (54, .dup, 1), (55, .getfield 23, 3), (58, .iconst 1, 1), (59, .iadd, 1), (60, .putfield 23, 3), (63, .goto (-58), 3), (66, .aload_n 0, 1), (67, .aload_n 0, 1), (68, .getfield 23, 3), (71, .aload_n 0, 1), (72, .getfield 109, 3), (75, .isub, 1), (76, .iconst 2, 1), (77, .if_icmp .gt 7, 3), (80, .iconst 2, 1), (81, .goto 4, 3), (84, .iconst 4, 1), (85, .putfield 39, 3), (88, .return_, 1)]
def tb56 : List (Nat × Instr × Nat) := [(0, .aload_n 0, 1), (1, .getfield 9, 3), (4, .iload_n 1, 1), (5, .invokestatic 117, 3), (8, .bipush 97, 2), (10, .if_icmp .lt 20, 3), (13, .aload_n 0, 1), (14, .getfield 9, 3), (17, .iload_n 1, 1), (18, .invokestatic 117, 3), (21, .bipush 122, 2), (23, .if_icmp .gt 7, 3), (26, .iconst 1, 1), (27, .goto 4, 3), (30, .iconst 0, 1), (31, .ireturn, 1)]
def tb57 : List (Nat × Instr × Nat) := [(0, .aload_n 0, 1), (1, .getfield 9, 3), (4, .iload_n 1, 1), (5, .invokestatic 117, 3), (8, .bipush 48, 2), (10, .if_icmp .lt 20, 3), (13, .aload_n 0, 1), (14, .getfield 9, 3), (17, .iload_n 1, 1), (18, .invokestatic 117, 3), (21, .bipush 57, 2), (23, .if_icmp .gt 7, 3), (26, .iconst 1, 1), (27, .goto 4, 3), (30, .iconst 0, 1), (31, .ireturn, 1)]
def tb58 : List (Nat × Instr × Nat) := [(0, .aload_n 0, 1), (1, .getfield 10, 3), (4, .getfield 59, 3), (7, .istore_n 1, 1), (8, .aload_n 0, 1), (9, .getfield 10, 3), (12, .invokevirtual 63, 3), (15, .iload_n 1, 1), (16, .ireturn, 1)]
def tb59 : List (Nat × Instr × Nat) := [(0, .iload_n 1, 1), (1, .invokestatic 66, 3), (4, .ifCond .eq 10, 3), (7, .iload_n 2, 1), (8, .invokestatic 70, 3), (11, .ifCond .ne 8, 3), (14, .aload_n 0, 1), (15, .invokevirtual 73, 3), (18, .ireturn, 1), (19, .aload_n 0, 1), (20, .getfield 10, 3), (23, .getfield 77, 3), (26, .iconst 3, 1), (27, .if_icmp .lt 8, 3), (30, .aload_n 0, 1), (31, .invokevirtual 80, 3), (34, .ireturn, 1), (35, .aload_n 0, 1), (36, .getfield 10, 3), (39, .iload_n 1, 1), (40, .iload_n 2, 1), (41, .invokevirtual 83, 3), (44, .ireturn, 1)]
def tb60 : List (Nat × Instr × Nat) := [(0, .iload_n 1, 1), (1, .invokestatic 66, 3), (4, .ifCond .eq 24, 3), (7, .iload_n 2, 1), (8, .iconst 1, 1), (9, .if_icmp .lt 19, 3), (12, .iload_n 2, 1), (13, .iconst 4, 1), (14, .if_icmp .gt 14, 3), (17, .aload_n 0, 1), (18, .getfield 10, 3), (21, .iload_n 3, 1), (22, .invokevirtual 87, 3), (25, .ifCond .ne 8, 3), (28, .aload_n 0, 1), (29, .invokevirtual 73, 3), (32, .ireturn, 1), (33, .aload_n 0, 1), (34, .getfield 10, 3), (37, .getfield 59, 3), (40, .bipush 6, 2), (42, .if_icmp .lt 8, 3), (45, .aload_n 0, 1), (46, .invokevirtual 80, 3), (49, .ireturn, 1), (50, .aload_n 0, 1), (51, .getfield 10, 3), (54, .iload_n 1, 1), (55, .iload_n 2, 1), (56, .iload_n 3, 1), (57, .invokevirtual 90, 3), (60, .ireturn, 1)]
def tb61 : List (Nat × Instr × Nat) := [(0, .iload_n 1, 1), (1, .ifCond .lt 9, 3), (4, .iload_n 1, 1), (5, .bipush 127, 2), (7, .if_icmp .le 8, 3), (10, .aload_n 0, 1), (11, .invokevirtual 73, 3), (14, .ireturn, 1), (15, .aload_n 0, 1), (16, .getfield 38, 3), (19, .getfield 94, 3), (22, .sipush 150, 3), (25, .if_icmp .lt 8, 3), (28, .aload_n 0, 1), (29, .invokevirtual 80, 3), (32, .ireturn, 1), (33, .aload_n 0, 1), (34, .getfield 38, 3), (37, .iload_n 1, 1), (38, .invokevirtual 97, 3), (41, .ireturn, 1)]
def tb62 : List (Nat × Instr × Nat) := [(0, .aload_n 0, 1), (1, .getfield 38, 3), (4, .getfield 94, 3), (7, .istore_n 1, 1), (8, .aload_n 0, 1), (9, .getfield 38, 3), (12, .iconst 0, 1), (13, .putfield 94, 3), (16, .iload_n 1, 1), (17, .ireturn, 1)]
def tb63 : List (Nat × Instr × Nat) := [(0, .aload_n 0, 1), (1, .getfield 22, 3), (4, .invokevirtual 63, 3), (7, .aload_n 0, 1), (8, .getfield 38, 3), (11, .invokevirtual 101, 3), (14, .istore_n 1, 1), (15, .iconst 1, 1), (16, .istore_n 2, 1), (17, .iload_n 1, 1), (18, .ifCond .eq 38, 3), (21, .iload_n 2, 1), (22, .sipush 150, 3), (25, .if_icmp .gt 31, 3), (28, .aload_n 0, 1), (29, .getfield 38, 3), (32, .invokevirtual 105, 3), (35, .ifCond .eq 21, 3), (38, .aload_n 0, 1), (39, .getfield 38, 3), (42, .aload_n 0, 1), (43, .getfield 22, 3), (46, .invokevirtual 108, 3), (49, .istore_n 1, 1), (50, .iinc 2 1, 3), (53, .goto (-36), 3), (56, .iload_n 1, 1), (57, .ifCond .ne 14, 3), (60, .bipush (-10), 2), (62, .aload_n 0, 1), (63, .getfield 38, 3), (66, .getfield 112, 3), (69, .isub, 1), (70, .ireturn, 1), (71, .aload_n 0, 1), (72, .getfield 10, 3), (75, .aload_n 0, 1), (76, .getfield 22, 3), (79, .invokevirtual 115, 3), (82, .iload_n 2, 1), (83, .ireturn, 1)]
def tb64 : List (Nat × Instr × Nat) := [(0, .aload_n 0, 1), (1, .getfield 10, 3), (4, .iload_n 1, 1), (5, .invokevirtual 119, 3), (8, .ifCond .eq 14, 3), (11, .iload_n 2, 1), (12, .iconst 1, 1), (13, .if_icmp .lt 9, 3), (16, .iload_n 2, 1), (17, .bipush 9, 2), (19, .if_icmp .le 8, 3), (22, .aload_n 0, 1), (23, .invokevirtual 73, 3), (26, .ireturn, 1), (27, .aload_n 0, 1), (28, .getfield 10, 3), (31, .iload_n 1, 1), (32, .invokevirtual 122, 3), (35, .ifCond .ne 15, 3), (38, .iload_n 2, 1), (39, .aload_n 0, 1), (40, .getfield 10, 3), (43, .iload_n 1, 1), (44, .invokevirtual 125, 3), (47, .if_icmp .le 8, 3), (50, .aload_n 0, 1), (51, .invokevirtual 128, 3), (54, .ireturn, 1), (55, .aload_n 0, 1), (56, .getfield 10, 3), (59, .invokevirtual 131, 3), (62, .aload_n 0, 1), (63, .getfield 10, 3), (66, .iload_n 1, 1), (67, .iload_n 2, 1), (68, .invokevirtual 134, 3), (71, .ireturn, 1)]
def tb65 : List (Nat × Instr × Nat) := [(0, .aload_n 0, 1), (1, .getfield 10, 3), (4, .iload_n 1, 1), (5, .invokevirtual 119, 3), (8, .ifCond .ne 8, 3), (11, .aload_n 0, 1), (12, .invokevirtual 73, 3), (15, .ireturn, 1), (16, .aload_n 0, 1), (17, .getfield 10, 3), (20, .iload_n 1, 1), (21, .invokevirtual 137, 3), (24, .istore_n 2, 1), (25, .iload_n 2, 1), (26, .ifCond .ne 8, 3), (29, .aload_n 0, 1), (30, .invokevirtual 128, 3), (33, .ireturn, 1), (34, .aload_n 0, 1), (35, .getfield 10, 3), (38, .invokevirtual 131, 3), (41, .aload_n 0, 1), (42, .getfield 10, 3), (45, .iload_n 1, 1), (46, .iconst 0, 1), (47, .invokevirtual 140, 3), (50, .iload_n 2, 1), (51, .ireturn, 1)]
def tb66 : List (Nat × Instr × Nat) := [(0, .aload_n 0, 1), (1, .getfield 10, 3), (4, .iload_n 1, 1), (5, .invokevirtual 119, 3), (8, .ifCond .eq 10, 3), (11, .iload_n 2, 1), (12, .invokestatic 144, 3), (15, .ifCond .ne 8, 3), (18, .aload_n 0, 1), (19, .invokevirtual 73, 3), (22, .ireturn, 1), (23, .aload_n 0, 1), (24, .getfield 10, 3), (27, .iload_n 1, 1), (28, .invokevirtual 147, 3), (31, .istore_n 3, 1), (32, .iload_n 3, 1), (33, .iload_n 2, 1), (34, .if_icmp .ne 8, 3), (37, .aload_n 0, 1), (38, .invokevirtual 128, 3), (41, .ireturn, 1), (42, .aload_n 0, 1), (43, .getfield 10, 3), (46, .invokevirtual 131, 3), (49, .aload_n 0, 1), (50, .getfield 10, 3), (53, .iload_n 1, 1), (54, .iload_n 2, 1), (55, .invokevirtual 150, 3), (58, .iload_n 3, 1), (59, .ireturn, 1)]
def tb67 : List (Nat × Instr × Nat) := [(0, .aload_n 0, 1), (1, .getfield 10, 3), (4, .iload_n 1, 1), (5, .invokevirtual 87, 3), (8, .ifCond .eq 10, 3), (11, .iload_n 2, 1), (12, .invokestatic 70, 3), (15, .ifCond .ne 8, 3), (18, .aload_n 0, 1), (19, .invokevirtual 73, 3), (22, .ireturn, 1), (23, .aload_n 0, 1), (24, .getfield 10, 3), (27, .iload_n 1, 1), (28, .invokevirtual 153, 3), (31, .istore_n 3, 1), (32, .iload_n 3, 1), (33, .iload_n 2, 1), (34, .if_icmp .ne 8, 3), (37, .aload_n 0, 1), (38, .invokevirtual 128, 3), (41, .ireturn, 1), (42, .aload_n 0, 1), (43, .getfield 10, 3), (46, .invokevirtual 131, 3), (49, .aload_n 0, 1), (50, .getfield 10, 3), (53, .iload_n 1, 1), (54, .iload_n 2, 1), (55, .invokevirtual 156, 3), (58, .iload_n 3, 1), (59, .ireturn, 1)]
def tb68 : List (Nat × Instr × Nat) := [(0, .iload_n 1, 1), (1, .iconst 1, 1), (2, .if_icmp .lt 9, 3), (5, .iload_n 1, 1), (6, .bipush 99, 2), (8, .if_icmp .le 8, 3), (11, .aload_n 0, 1), (12, .invokevirtual 73, 3), (15, .ireturn, 1), (16, .aload_n 0, 1), (17, .getfield 10, 3), (20, .invokevirtual 131, 3), (23, .aload_n 0, 1), (24, .getfield 10, 3), (27, .iload_n 1, 1), (28, .invokevirtual 159, 3), (31, .aload_n 0, 1), (32, .getfield 10, 3), (35, .invokevirtual 163, 3), (38, .ireturn, 1)]
def tb69 : List (Nat × Instr × Nat) := [(0, .aload_n 0, 1), (1, .getfield 10, 3), (4, .getfield 166, 3), (7, .ifCond .gt 8, 3), (10, .aload_n 0, 1), (11, .invokevirtual 128, 3), (14, .ireturn, 1), (15, .aload_n 0, 1), (16, .getfield 10, 3), (19, .invokevirtual 169, 3), (22, .aload_n 0, 1), (23, .getfield 10, 3), (26, .invokevirtual 163, 3), (29, .ireturn, 1)]
def tb70 : List (Nat × Instr × Nat) := [(0, .aload_n 0, 1), (1, .getfield 10, 3), (4, .iload_n 1, 1), (5, .invokevirtual 119, 3), (8, .ifCond .eq 12, 3), (11, .iload_n 2, 1), (12, .ifCond .lt 8, 3), (15, .iload_n 2, 1), (16, .iconst 5, 1), (17, .if_icmp .le 8, 3), (20, .aload_n 0, 1), (21, .invokevirtual 73, 3), (24, .ireturn, 1), (25, .aload_n 0, 1), (26, .getfield 10, 3), (29, .iload_n 1, 1), (30, .iload_n 2, 1), (31, .invokevirtual 172, 3), (34, .ireturn, 1)]
def tb71 : List (Nat × Instr × Nat) := [(0, .aload_n 0, 1), (1, .getfield 10, 3), (4, .iload_n 1, 1), (5, .invokevirtual 87, 3), (8, .ifCond .eq 12, 3), (11, .iload_n 2, 1), (12, .ifCond .lt 8, 3), (15, .iload_n 2, 1), (16, .iconst 2, 1), (17, .if_icmp .le 8, 3), (20, .aload_n 0, 1), (21, .invokevirtual 73, 3), (24, .ireturn, 1), (25, .iload_n 2, 1), (26, .ifCond .ne 14, 3), (29, .aload_n 0, 1), (30, .getfield 10, 3), (33, .iload_n 1, 1), (34, .invokevirtual 175, 3), (37, .goto 34, 3), (40, .iload_n 2, 1), (41, .iconst 1, 1), (42, .if_icmp .ne 14, 3), (45, .aload_n 0, 1), (46, .getfield 10, 3), (49, .iload_n 1, 1), (50, .invokevirtual 153, 3), (53, .goto 18, 3), (56, .aload_n 0, 1), (57, .getfield 10, 3), (60, .iload_n 1, 1), (61, .aload_n 0, 1), (62, .getfield 10, 3), (65, .invokevirtual 178, 3), (68, .invokevirtual 181, 3), (71, .ireturn, 1)]
def tb72 : List (Nat × Instr × Nat) := [(0, .aload_n 0, 1), (1, .getfield 10, 3), (4, .iload_n 1, 1), (5, .invokevirtual 119, 3), (8, .ifCond .eq 8, 3), (11, .iload_n 2, 1), (12, .iconst (-1), 1), (13, .if_icmp .ge 11, 3), (16, .aload_n 0, 1), (17, .invokevirtual 73, 3), (20, .pop, 1), (21, .bipush (-10), 2), (23, .ireturn, 1), (24, .aload_n 0, 1), (25, .getfield 28, 3), (28, .aload_n 0, 1), (29, .getfield 10, 3), (32, .iload_n 1, 1), (33, .invokevirtual 137, 3), (36, .aload_n 0, 1), (37, .getfield 10, 3), (40, .iload_n 1, 1), (41, .invokevirtual 125, 3), (44, .aload_n 0, 1), (45, .getfield 10, 3), (48, .iload_n 1, 1), (49, .invokevirtual 184, 3), (52, .invokevirtual 187, 3), (55, .aload_n 0, 1), (56, .getfield 28, 3), (59, .getfield 191, 3), (62, .iconst (-1), 1), (63, .if_icmp .ne 6, 3), (66, .bipush (-6), 2), (68, .ireturn, 1), (69, .iload_n 2, 1), (70, .iconst (-1), 1), (71, .if_icmp .ne 11, 3), (74, .aload_n 0, 1), (75, .getfield 28, 3), (78, .getfield 191, 3), (81, .ireturn, 1), (82, .iload_n 2, 1), (83, .aload_n 0, 1), (84, .getfield 28, 3), (87, .getfield 191, 3), (90, .if_icmp .ge 14, 3), (93, .aload_n 0, 1), (94, .getfield 28, 3), (97, .iload_n 2, 1), (98, .invokevirtual 192, 3), (101, .goto 5, 3), (104, .bipush (-5), 2), (106, .ireturn, 1)]
def tb73 : List (Nat × Instr × Nat) := [(0, .iconst 0, 1), (1, .istore_n 1, 1), (2, .iconst 0, 1), (3, .istore_n 2, 1), (4, .iload_n 2, 1), (5, .aload_n 0, 1), (6, .getfield 10, 3), (9, .getfield 59, 3), (12, .if_icmp .ge 52, 3), (15, .aload_n 0, 1), (16, .getfield 28, 3), (19, .aload_n 0, 1), (20, .getfield 10, 3), (23, .iload_n 2, 1), (24, .invokevirtual 137, 3), (27, .aload_n 0, 1), (28, .getfield 10, 3), (31, .iload_n 2, 1), (32, .invokevirtual 125, 3), (35, .aload_n 0, 1), (36, .getfield 10, 3), (39, .iload_n 2, 1), (40, .invokevirtual 184, 3), (43, .invokevirtual 195, 3), (46, .istore_n 3, 1), (47, .iload_n 3, 1), (48, .iconst (-1), 1), (49, .if_icmp .ne 9, 3), (52, .iload_n 1, 1), (53, .iconst 1, 1), (54, .iload_n 2, 1), (55, .ishl, 1), (56, .ior, 1), (57, .istore_n 1, 1), (58, .iinc 2 1, 3), (61, .goto (-57), 3), (64, .iload_n 1, 1), (65, .ireturn, 1)]
def tb74 : List (Nat × Instr × Nat) := [(0, .aload_n 0, 1), (1, .getfield 10, 3), (4, .iload_n 1, 1), (5, .invokevirtual 119, 3), (8, .ifCond .eq 12, 3), (11, .iload_n 2, 1), (12, .ifCond .lt 8, 3), (15, .iload_n 2, 1), (16, .iconst 1, 1), (17, .if_icmp .le 8, 3), (20, .aload_n 0, 1), (21, .invokevirtual 73, 3), (24, .ireturn, 1), (25, .iconst (-1), 1), (26, .istore_n 3, 1), (27, .iconst (-1), 1), (28, .istore 4, 2), (30, .iconst 0, 1), (31, .istore 5, 2), (33, .iload 5, 2), (35, .bipush 24, 2), (37, .if_icmp .ge 82, 3), (40, .aload_n 0, 1), (41, .getfield 28, 3), (44, .aload_n 0, 1), (45, .getfield 10, 3), (48, .iload_n 1, 1), (49, .invokevirtual 137, 3), (52, .aload_n 0, 1), (53, .getfield 10, 3), (56, .iload_n 1, 1), (57, .iload 5, 2), (59, .invokevirtual 198, 3), (62, .aload_n 0, 1), (63, .getfield 10, 3), (66, .aload_n 0, 1), (67, .getfield 10, 3), (70, .iload_n 1, 1), (71, .invokevirtual 201, 3), (74, .iload 5, 2), (76, .invokevirtual 181, 3), (79, .invokevirtual 195, 3), (82, .istore 6, 2), (84, .iload 6, 2), (86, .iconst (-1), 1), (87, .if_icmp .eq 26, 3), (90, .iload 4, 2), (92, .iconst (-1), 1), (93, .if_icmp .eq 13, 3), (96, .iload 6, 2), (98, .iload 4, 2), (100, .if_icmp .lt 6, 3), (103, .goto 10, 3), (106, .iload 6, 2), (108, .istore 4, 2), (110, .iload 5, 2), (112, .istore_n 3, 1), (113, .iinc 5 1, 3), (116, .goto (-83), 3), (119, .iload_n 2, 1), (120, .ifCond .ne 7, 3), (123, .iload_n 3, 1), (124, .goto 5, 3), (127, .iload 4, 2), (129, .ireturn, 1)]
def tb75 : List (Nat × Instr × Nat) := [(0, .aload_n 0, 1), (1, .getfield 10, 3), (4, .iload_n 1, 1), (5, .invokevirtual 87, 3), (8, .ifCond .eq 12, 3), (11, .iload_n 2, 1), (12, .ifCond .lt 8, 3), (15, .iload_n 2, 1), (16, .iconst 1, 1), (17, .if_icmp .le 8, 3), (20, .aload_n 0, 1), (21, .invokevirtual 73, 3), (24, .ireturn, 1), (25, .iconst (-1), 1), (26, .istore_n 3, 1), (27, .iconst (-1), 1), (28, .istore 4, 2), (30, .iconst 1, 1), (31, .istore 5, 2), (33, .iload 5, 2), (35, .bipush 10, 2), (37, .if_icmp .gt 41, 3), (40, .aload_n 0, 1), (41, .iload_n 1, 1), (42, .iload 5, 2), (44, .invokevirtual 204, 3), (47, .istore 6, 2), (49, .iload 4, 2), (51, .iconst (-1), 1), (52, .if_icmp .eq 13, 3), (55, .iload 6, 2), (57, .iload 4, 2), (59, .if_icmp .lt 6, 3), (62, .goto 10, 3), (65, .iload 6, 2), (67, .istore 4, 2), (69, .iload 5, 2), (71, .istore_n 3, 1), (72, .iinc 5 1, 3), (75, .goto (-42), 3), (78, .iload_n 2, 1), (79, .ifCond .ne 7, 3), (82, .iload_n 3, 1), (83, .goto 5, 3), (86, .iload 4, 2), (88, .ireturn, 1)]
def tb76 : List (Nat × Instr × Nat) := [(0, .iload_n 2, 1), (1, .aload_n 0, 1), (2, .getfield 10, 3), (5, .iload_n 1, 1), (6, .invokevirtual 175, 3), (9, .aload_n 0, 1), (10, .getfield 10, 3), (13, .invokevirtual 178, 3), (16, .invokestatic 207, 3), (19, .invokestatic 210, 3), (22, .istore_n 3, 1), (23, .iconst 0, 1), (24, .istore 4, 2), (26, .iconst 0, 1), (27, .istore 5, 2), (29, .iload 5, 2), (31, .aload_n 0, 1), (32, .getfield 10, 3), (35, .getfield 59, 3), (38, .if_icmp .ge 63, 3), (41, .aload_n 0, 1), (42, .getfield 10, 3), (45, .iload 5, 2), (47, .invokevirtual 201, 3), (50, .iload_n 1, 1), (51, .if_icmp .eq 6, 3), (54, .goto 41, 3), (57, .aload_n 0, 1), (58, .getfield 28, 3), (61, .iconst 0, 1), (62, .aload_n 0, 1), (63, .getfield 10, 3), (66, .iload 5, 2), (68, .invokevirtual 125, 3), (71, .iload_n 3, 1), (72, .invokevirtual 195, 3), (75, .istore 6, 2), (77, .iload 4, 2), (79, .iload 6, 2), (81, .iconst (-1), 1), (82, .if_icmp .ne 8, 3), (85, .bipush 20, 2), (87, .goto 5, 3), (90, .iload 6, 2), (92, .iadd, 1), (93, .istore 4, 2), (95, .iinc 5 1, 3), (98, .goto (-69), 3), (101, .iload 4, 2), (103, .ireturn, 1)]
def tb77 : List (Nat × Instr × Nat) := [(0, .aload_n 0, 1), (1, .getfield 10, 3), (4, .iload_n 1, 1), (5, .invokevirtual 119, 3), (8, .ifCond .eq 19, 3), (11, .aload_n 0, 1), (12, .getfield 10, 3), (15, .iload_n 2, 1), (16, .invokevirtual 119, 3), (19, .ifCond .eq 8, 3), (22, .iload_n 1, 1), (23, .iload_n 2, 1), (24, .if_icmp .ne 8, 3), (27, .aload_n 0, 1), (28, .invokevirtual 73, 3), (31, .ireturn, 1), (32, .aload_n 0, 1), (33, .getfield 10, 3), (36, .iload_n 1, 1), (37, .invokevirtual 201, 3), (40, .aload_n 0, 1), (41, .getfield 10, 3), (44, .iload_n 2, 1), (45, .invokevirtual 201, 3), (48, .if_icmp .eq 8, 3), (51, .aload_n 0, 1), (52, .invokevirtual 73, 3), (55, .ireturn, 1), (56, .aload_n 0, 1), (57, .getfield 10, 3), (60, .iload_n 1, 1), (61, .invokevirtual 184, 3), (64, .istore_n 3, 1), (65, .aload_n 0, 1), (66, .getfield 28, 3), (69, .aload_n 0, 1), (70, .getfield 10, 3), (73, .iload_n 1, 1), (74, .invokevirtual 137, 3), (77, .aload_n 0, 1), (78, .getfield 10, 3), (81, .iload_n 1, 1), (82, .invokevirtual 125, 3), (85, .iload_n 3, 1), (86, .invokevirtual 187, 3), (89, .aload_n 0, 1), (90, .getfield 32, 3), (93, .aload_n 0, 1), (94, .getfield 10, 3), (97, .iload_n 2, 1), (98, .invokevirtual 137, 3), (101, .aload_n 0, 1), (102, .getfield 10, 3), (105, .iload_n 2, 1), (106, .invokevirtual 125, 3), (109, .iload_n 3, 1), (110, .invokevirtual 187, 3), (113, .aload_n 0, 1), (114, .getfield 28, 3), (117, .getfield 191, 3), (120, .iconst (-1), 1), (121, .if_icmp .eq 14, 3), (124, .aload_n 0, 1), (125, .getfield 32, 3), (128, .getfield 191, 3), (131, .iconst (-1), 1), (132, .if_icmp .ne 5, 3), (135, .iconst (-1), 1), (136, .ireturn, 1), (137, .aload_n 0, 1), (138, .getfield 10, 3), (141, .iload_n 1, 1), (142, .invokevirtual 137, 3), (145, .istore 4, 2), (147, .aload_n 0, 1), (148, .getfield 10, 3), (151, .iload_n 2, 1), (152, .invokevirtual 137, 3), (155, .istore 5, 2), (157, .iconst 0, 1), (158, .istore 6, 2), (160, .iload 6, 2), (162, .bipush 11, 2), (164, .if_icmp .gt 47, 3), (167, .iload 4, 2), (169, .iload 5, 2), (171, .if_icmp .ne 6, 3), (174, .iload 6, 2), (176, .ireturn, 1), (177, .iload 4, 2), (179, .aload_n 0, 1), (180, .getfield 28, 3), (183, .iload 6, 2), (185, .invokevirtual 192, 3), (188, .iadd, 1), (189, .istore 4, 2), (191, .iload 5, 2), (193, .aload_n 0, 1), (194, .getfield 32, 3), (197, .iload 6, 2), (199, .invokevirtual 192, 3), (202, .iadd, 1), (203, .istore 5, 2), (205, .iinc 6 1, 3), (208, .goto (-48), 3), (211, .iconst (-1), 1), (212, .ireturn, 1)]
def tb78 : List (Nat × Instr × Nat) := [(0, .aload_n 0, 1), (1, .getfield 10, 3), (4, .iload_n 1, 1), (5, .invokevirtual 87, 3), (8, .ifCond .eq 28, 3), (11, .iload_n 2, 1), (12, .invokestatic 70, 3), (15, .ifCond .eq 21, 3), (18, .iload_n 3, 1), (19, .invokestatic 213, 3), (22, .ifCond .eq 14, 3), (25, .iload 4, 2), (27, .ifCond .lt 9, 3), (30, .iload 4, 2), (32, .iconst 1, 1), (33, .if_icmp .le 8, 3), (36, .aload_n 0, 1), (37, .invokevirtual 73, 3), (40, .ireturn, 1), (41, .aload_n 0, 1), (42, .getfield 10, 3), (45, .getfield 216, 3), (48, .invokevirtual 220, 3), (51, .ifCond .eq 8, 3), (54, .aload_n 0, 1), (55, .invokevirtual 80, 3), (58, .ireturn, 1), (59, .aload_n 0, 1), (60, .getfield 10, 3), (63, .getfield 216, 3), (66, .iload_n 1, 1), (67, .iload_n 2, 1), (68, .iload_n 3, 1), (69, .iload 4, 2), (71, .iconst 0, 1), (72, .invokevirtual 225, 3), (75, .ireturn, 1)]
def tb79 : List (Nat × Instr × Nat) := [(0, .aload_n 0, 1), (1, .getfield 10, 3), (4, .iload_n 1, 1), (5, .invokevirtual 87, 3), (8, .ifCond .ne 8, 3), (11, .aload_n 0, 1), (12, .invokevirtual 73, 3), (15, .ireturn, 1), (16, .aload_n 0, 1), (17, .iload_n 1, 1), (18, .invokevirtual 229, 3), (21, .ireturn, 1)]
def tb80 : List (Nat × Instr × Nat) := [(0, .aload_n 0, 1), (1, .getfield 10, 3), (4, .iload_n 1, 1), (5, .invokevirtual 87, 3), (8, .ifCond .ne 8, 3), (11, .aload_n 0, 1), (12, .invokevirtual 73, 3), (15, .ireturn, 1), (16, .aload_n 0, 1), (17, .iload_n 1, 1), (18, .invokevirtual 229, 3), (21, .istore_n 2, 1), (22, .iload_n 2, 1), (23, .ifCond .ne 5, 3), (26, .iconst (-1), 1), (27, .ireturn, 1), (28, .iconst (-1), 1), (29, .istore_n 3, 1), (30, .iconst (-1), 1), (31, .istore 4, 2), (33, .iconst 1, 1), (34, .istore 5, 2), (36, .iload 5, 2), (38, .bipush 10, 2), (40, .if_icmp .gt 93, 3), (43, .iconst 0, 1), (44, .istore 6, 2), (46, .iload 6, 2), (48, .bipush 24, 2), (50, .if_icmp .ge 77, 3), (53, .iload_n 2, 1), (54, .iload 5, 2), (56, .aload_n 0, 1), (57, .getfield 10, 3), (60, .iload_n 1, 1), (61, .invokevirtual 175, 3), (64, .iload 6, 2), (66, .invokestatic 207, 3), (69, .invokestatic 232, 3), (72, .iand, 1), (73, .invokestatic 235, 3), (76, .istore 7, 2), (78, .iload 7, 2), (80, .iload_n 2, 1), (81, .invokestatic 235, 3), (84, .iload 7, 2), (86, .isub, 1), (87, .invokestatic 240, 3), (90, .istore 8, 2), (92, .iload 4, 2), (94, .iconst (-1), 1), (95, .if_icmp .eq 13, 3), (98, .iload 8, 2), (100, .iload 4, 2), (102, .if_icmp .lt 6, 3), (105, .goto 16, 3), (108, .iload 8, 2), (110, .istore 4, 2), (112, .bipush 100, 2), (114, .iload 5, 2), (116, .imul, 1), (117, .iload 6, 2), (119, .iadd, 1), (120, .istore_n 3, 1), (121, .iinc 6 1, 3), (124, .goto (-78), 3), (127, .iinc 5 1, 3), (130, .goto (-94), 3), (133, .iload_n 3, 1), (134, .ireturn, 1)]
def tb81 : List (Nat × Instr × Nat) := [(0, .sipush 2046, 3), (3, .istore_n 2, 1), (4, .aload_n 0, 1), (5, .getfield 10, 3), (8, .getfield 216, 3), (11, .astore_n 3, 1), (12, .iconst 0, 1), (13, .istore 4, 2), (15, .iload 4, 2), (17, .aload_n 3, 1), (18, .getfield 245, 3), (21, .if_icmp .ge 76, 3), (24, .aload_n 3, 1), (25, .iload 4, 2), (27, .iconst 0, 1), (28, .invokevirtual 248, 3), (31, .iload_n 1, 1), (32, .if_icmp .eq 6, 3), (35, .goto 56, 3), (38, .aload_n 3, 1), (39, .iload 4, 2), (41, .iconst 1, 1), (42, .invokevirtual 248, 3), (45, .aload_n 0, 1), (46, .getfield 10, 3), (49, .iload_n 1, 1), (50, .invokevirtual 175, 3), (53, .aload_n 3, 1), (54, .iload 4, 2), (56, .iconst 2, 1), (57, .invokevirtual 248, 3), (60, .invokestatic 207, 3), (63, .invokestatic 232, 3), (66, .istore 5, 2), (68, .iload_n 2, 1), (69, .aload_n 3, 1), (70, .iload 4, 2), (72, .iconst 3, 1), (73, .invokevirtual 248, 3), (76, .iconst 1, 1), (77, .if_icmp .ne 8, 3), (80, .iload 5, 2), (82, .goto 7, 3), (85, .iload 5, 2), (87, .iconst (-1), 1), (88, .ixor, 1), (89, .iand, 1), (90, .istore_n 2, 1), (91, .iinc 4 1, 3), (94, .goto (-79), 3), (97, .iload_n 2, 1), (98, .ireturn, 1)]
def tb82 : List (Nat × Instr × Nat) := [(0, .aload_n 0, 1), (1, .getfield 10, 3), (4, .iload_n 1, 1), (5, .invokevirtual 87, 3), (8, .ifCond .eq 20, 3), (11, .iload_n 2, 1), (12, .invokestatic 213, 3), (15, .ifCond .eq 13, 3), (18, .iload_n 3, 1), (19, .ifCond .lt 9, 3), (22, .iload_n 3, 1), (23, .bipush 9, 2), (25, .if_icmp .le 8, 3), (28, .aload_n 0, 1), (29, .invokevirtual 73, 3), (32, .ireturn, 1), (33, .aload_n 0, 1), (34, .getfield 10, 3), (37, .getfield 251, 3), (40, .invokevirtual 220, 3), (43, .ifCond .eq 8, 3), (46, .aload_n 0, 1), (47, .invokevirtual 80, 3), (50, .ireturn, 1), (51, .aload_n 0, 1), (52, .getfield 10, 3), (55, .getfield 251, 3), (58, .iload_n 1, 1), (59, .iload_n 2, 1), (60, .iload_n 3, 1), (61, .iconst 0, 1), (62, .iconst 0, 1), (63, .invokevirtual 225, 3), (66, .ireturn, 1)]
def tb83 : List (Nat × Instr × Nat) := [(0, .aload_n 0, 1), (1, .getfield 10, 3), (4, .iload_n 1, 1), (5, .invokevirtual 119, 3), (8, .ifCond .eq 20, 3), (11, .iload_n 2, 1), (12, .iconst 1, 1), (13, .if_icmp .lt 15, 3), (16, .iload_n 2, 1), (17, .iconst 4, 1), (18, .if_icmp .gt 10, 3), (21, .iload_n 3, 1), (22, .invokestatic 144, 3), (25, .ifCond .ne 8, 3), (28, .aload_n 0, 1), (29, .invokevirtual 73, 3), (32, .ireturn, 1), (33, .iload 4, 2), (35, .invokestatic 213, 3), (38, .ifCond .eq 15, 3), (41, .iload 5, 2), (43, .ifCond .lt 10, 3), (46, .iload 5, 2), (48, .bipush 9, 2), (50, .if_icmp .le 8, 3), (53, .aload_n 0, 1), (54, .invokevirtual 73, 3), (57, .ireturn, 1), (58, .aload_n 0, 1), (59, .getfield 10, 3), (62, .getfield 254, 3), (65, .invokevirtual 220, 3), (68, .ifCond .eq 8, 3), (71, .aload_n 0, 1), (72, .invokevirtual 80, 3), (75, .ireturn, 1), (76, .aload_n 0, 1), (77, .getfield 10, 3), (80, .getfield 254, 3), (83, .iload_n 1, 1), (84, .iload_n 2, 1), (85, .iload_n 3, 1), (86, .iload 4, 2), (88, .iload 5, 2), (90, .invokevirtual 225, 3), (93, .ireturn, 1)]
def tb84 : List (Nat × Instr × Nat) := [(0, .iload_n 1, 1), (1, .tableswitch 60 0 2 #[27, 38, 49], 27), (28, .aload_n 0, 1), (29, .getfield 10, 3), (32, .getfield 216, 3), (35, .invokevirtual 257, 3), (38, .ireturn, 1), (39, .aload_n 0, 1), (40, .getfield 10, 3), (43, .getfield 251, 3), (46, .invokevirtual 257, 3), (49, .ireturn, 1), (50, .aload_n 0, 1), (51, .getfield 10, 3), (54, .getfield 254, 3), (57, .invokevirtual 257, 3), (60, .ireturn, 1), (61, .aload_n 0, 1), (62, .invokevirtual 73, 3), (65, .ireturn, 1)]
def tb85 : List (Nat × Instr × Nat) := [(0, .aload_n 0, 1), (1, .getfield 10, 3), (4, .iload_n 1, 1), (5, .invokevirtual 87, 3), (8, .ifCond .ne 8, 3), (11, .aload_n 0, 1), (12, .invokevirtual 73, 3), (15, .ireturn, 1), (16, .aload_n 0, 1), (17, .iload_n 1, 1), (18, .invokevirtual 259, 3), (21, .ireturn, 1)]
def tb86 : List (Nat × Instr × Nat) := [(0, .aload_n 0, 1), (1, .getfield 10, 3), (4, .iload_n 1, 1), (5, .invokevirtual 87, 3), (8, .ifCond .ne 8, 3), (11, .aload_n 0, 1), (12, .invokevirtual 73, 3), (15, .ireturn, 1), (16, .aload_n 0, 1), (17, .iload_n 1, 1), (18, .invokevirtual 259, 3), (21, .istore_n 2, 1), (22, .iload_n 2, 1), (23, .ifCond .ne 5, 3), (26, .iconst (-1), 1), (27, .ireturn, 1), (28, .iconst (-1), 1), (29, .istore_n 3, 1), (30, .iconst (-1), 1), (31, .istore 4, 2), (33, .iconst 0, 1), (34, .istore 5, 2), (36, .iload 5, 2), (38, .bipush 24, 2), (40, .if_icmp .ge 41, 3), (43, .aload_n 0, 1), (44, .iload_n 2, 1), (45, .iload 5, 2), (47, .invokevirtual 262, 3), (50, .istore 6, 2), (52, .iload 4, 2), (54, .iconst (-1), 1), (55, .if_icmp .eq 13, 3), (58, .iload 6, 2), (60, .iload 4, 2), (62, .if_icmp .lt 6, 3), (65, .goto 10, 3), (68, .iload 6, 2), (70, .istore 4, 2), (72, .iload 5, 2), (74, .istore_n 3, 1), (75, .iinc 5 1, 3), (78, .goto (-42), 3), (81, .iload_n 3, 1), (82, .ireturn, 1)]
def tb87 : List (Nat × Instr × Nat) := [(0, .iconst 0, 1), (1, .istore_n 2, 1), (2, .iconst 0, 1), (3, .istore_n 3, 1), (4, .iload_n 3, 1), (5, .bipush 6, 2), (7, .if_icmp .ge 24, 3), (10, .aload_n 0, 1), (11, .iload_n 1, 1), (12, .iload_n 3, 1), (13, .invokevirtual 265, 3), (16, .ifCond .eq 9, 3), (19, .iload_n 2, 1), (20, .iconst 1, 1), (21, .iload_n 3, 1), (22, .ishl, 1), (23, .ior, 1), (24, .istore_n 2, 1), (25, .iinc 3 1, 3), (28, .goto (-24), 3), (31, .iload_n 2, 1), (32, .ireturn, 1)]
def tb88 : List (Nat × Instr × Nat) := [(0, .aload_n 0, 1), (1, .getfield 10, 3), (4, .getfield 251, 3), (7, .astore_n 3, 1), (8, .iconst 0, 1), (9, .istore 4, 2), (11, .iload 4, 2), (13, .aload_n 3, 1), (14, .getfield 245, 3), (17, .if_icmp .ge 43, 3), (20, .aload_n 3, 1), (21, .iload 4, 2), (23, .iconst 0, 1), (24, .invokevirtual 248, 3), (27, .iload_n 1, 1), (28, .if_icmp .ne 26, 3), (31, .iload_n 2, 1), (32, .aload_n 3, 1), (33, .iload 4, 2), (35, .iconst 1, 1), (36, .invokevirtual 248, 3), (39, .invokestatic 207, 3), (42, .aload_n 3, 1), (43, .iload 4, 2), (45, .iconst 2, 1), (46, .invokevirtual 248, 3), (49, .if_icmp .eq 5, 3), (52, .iconst 0, 1), (53, .ireturn, 1), (54, .iinc 4 1, 3), (57, .goto (-46), 3), (60, .iconst 1, 1), (61, .ireturn, 1)]
def tb89 : List (Nat × Instr × Nat) := [(0, .aload_n 0, 1), (1, .getfield 49, 3), (4, .iconst 0, 1), (5, .invokestatic 269, 3), (8, .iconst 0, 1), (9, .istore_n 3, 1), (10, .iconst 0, 1), (11, .istore 4, 2), (13, .iload 4, 2), (15, .bipush 6, 2), (17, .if_icmp .ge 34, 3), (20, .iload_n 1, 1), (21, .iload 4, 2), (23, .ishr, 1), (24, .iconst 1, 1), (25, .iand, 1), (26, .iconst 1, 1), (27, .if_icmp .ne 18, 3), (30, .iload_n 3, 1), (31, .aload_n 0, 1), (32, .iload 4, 2), (34, .iload_n 2, 1), (35, .invokestatic 207, 3), (38, .invokevirtual 275, 3), (41, .invokestatic 240, 3), (44, .istore_n 3, 1), (45, .iinc 4 1, 3), (48, .goto (-35), 3), (51, .iload_n 3, 1), (52, .ireturn, 1)]
def tb90 : List (Nat × Instr × Nat) := [(0, .aload_n 0, 1), (1, .getfield 49, 3), (4, .iload_n 1, 1), (5, .aload_n 0, 1), (6, .getfield 49, 3), (9, .iload_n 1, 1), (10, .invokestatic 278, 3), (13, .iconst 1, 1), (14, .iadd, 1), (15, .invokestatic 282, 3), (18, .aload_n 0, 1), (19, .getfield 49, 3), (22, .iload_n 1, 1), (23, .invokestatic 278, 3), (26, .ireturn, 1)]
def tb91 : List (Nat × Instr × Nat) := [(0, .aload_n 0, 1), (1, .getfield 10, 3), (4, .iload_n 1, 1), (5, .invokevirtual 119, 3), (8, .ifCond .ne 8, 3), (11, .aload_n 0, 1), (12, .invokevirtual 73, 3), (15, .ireturn, 1), (16, .aload_n 0, 1), (17, .iload_n 1, 1), (18, .invokevirtual 286, 3), (21, .ireturn, 1)]
def tb92 : List (Nat × Instr × Nat) := [(0, .aload_n 0, 1), (1, .getfield 10, 3), (4, .iload_n 1, 1), (5, .invokevirtual 119, 3), (8, .ifCond .ne 8, 3), (11, .aload_n 0, 1), (12, .invokevirtual 73, 3), (15, .ireturn, 1), (16, .aload_n 0, 1), (17, .iload_n 1, 1), (18, .invokevirtual 286, 3), (21, .istore_n 2, 1), (22, .iload_n 2, 1), (23, .ifCond .ne 5, 3), (26, .iconst (-1), 1), (27, .ireturn, 1), (28, .iconst (-1), 1), (29, .istore_n 3, 1), (30, .iconst (-1), 1), (31, .istore 4, 2), (33, .iconst 0, 1), (34, .istore 5, 2), (36, .iload 5, 2), (38, .bipush 9, 2), (40, .if_icmp .gt 73, 3), (43, .iconst 0, 1), (44, .istore 6, 2), (46, .iload 6, 2), (48, .bipush 24, 2), (50, .if_icmp .ge 57, 3), (53, .aload_n 0, 1), (54, .iload_n 2, 1), (55, .aload_n 0, 1), (56, .getfield 10, 3), (59, .iload_n 1, 1), (60, .invokevirtual 289, 3), (63, .iload 5, 2), (65, .iload 6, 2), (67, .invokevirtual 292, 3), (70, .istore 7, 2), (72, .iload 4, 2), (74, .iconst (-1), 1), (75, .if_icmp .eq 13, 3), (78, .iload 7, 2), (80, .iload 4, 2), (82, .if_icmp .lt 6, 3), (85, .goto 16, 3), (88, .iload 7, 2), (90, .istore 4, 2), (92, .bipush 100, 2), (94, .iload 5, 2), (96, .imul, 1), (97, .iload 6, 2), (99, .iadd, 1), (100, .istore_n 3, 1), (101, .iinc 6 1, 3), (104, .goto (-58), 3), (107, .iinc 5 1, 3), (110, .goto (-74), 3), (113, .iload_n 3, 1), (114, .ireturn, 1)]
def tb93 : List (Nat × Instr × Nat) := [(0, .iconst 0, 1), (1, .istore_n 2, 1), (2, .iconst 0, 1), (3, .istore_n 3, 1), (4, .iload_n 3, 1), (5, .bipush 6, 2), (7, .if_icmp .ge 24, 3), (10, .aload_n 0, 1), (11, .iload_n 1, 1), (12, .iload_n 3, 1), (13, .invokevirtual 296, 3), (16, .ifCond .eq 9, 3), (19, .iload_n 2, 1), (20, .iconst 1, 1), (21, .iload_n 3, 1), (22, .ishl, 1), (23, .ior, 1), (24, .istore_n 2, 1), (25, .iinc 3 1, 3), (28, .goto (-24), 3), (31, .iload_n 2, 1), (32, .ireturn, 1)]
def tb94 : List (Nat × Instr × Nat) := [(0, .aload_n 0, 1), (1, .getfield 10, 3), (4, .getfield 254, 3), (7, .astore_n 3, 1), (8, .iconst 0, 1), (9, .istore 4, 2), (11, .iload 4, 2), (13, .aload_n 3, 1), (14, .getfield 245, 3), (17, .if_icmp .ge 64, 3), (20, .aload_n 3, 1), (21, .iload 4, 2), (23, .iconst 0, 1), (24, .invokevirtual 248, 3), (27, .iload_n 1, 1), (28, .if_icmp .eq 6, 3), (31, .goto 44, 3), (34, .iload_n 2, 1), (35, .aload_n 3, 1), (36, .iload 4, 2), (38, .iconst 1, 1), (39, .invokevirtual 248, 3), (42, .aload_n 3, 1), (43, .iload 4, 2), (45, .iconst 2, 1), (46, .invokevirtual 248, 3), (49, .aload_n 3, 1), (50, .iload 4, 2), (52, .iconst 3, 1), (53, .invokevirtual 248, 3), (56, .invokestatic 299, 3), (59, .istore 5, 2), (61, .iload 5, 2), (63, .aload_n 3, 1), (64, .iload 4, 2), (66, .iconst 4, 1), (67, .invokevirtual 248, 3), (70, .if_icmp .eq 5, 3), (73, .iconst 0, 1), (74, .ireturn, 1), (75, .iinc 4 1, 3), (78, .goto (-67), 3), (81, .iconst 1, 1), (82, .ireturn, 1)]
def tb95 : List (Nat × Instr × Nat) := [(0, .aload_n 0, 1), (1, .getfield 49, 3), (4, .iconst 0, 1), (5, .invokestatic 269, 3), (8, .iconst 0, 1), (9, .istore 5, 2), (11, .iconst 0, 1), (12, .istore 6, 2), (14, .iload 6, 2), (16, .bipush 6, 2), (18, .if_icmp .ge 39, 3), (21, .iload_n 1, 1), (22, .iload 6, 2), (24, .ishr, 1), (25, .iconst 1, 1), (26, .iand, 1), (27, .iconst 1, 1), (28, .if_icmp .ne 23, 3), (31, .iload 5, 2), (33, .aload_n 0, 1), (34, .iload 6, 2), (36, .iload_n 2, 1), (37, .iload_n 3, 1), (38, .iload 4, 2), (40, .invokestatic 299, 3), (43, .invokevirtual 275, 3), (46, .invokestatic 240, 3), (49, .istore 5, 2), (51, .iinc 6 1, 3), (54, .goto (-40), 3), (57, .iload 5, 2), (59, .ireturn, 1)]
def tb96 : List (Nat × Instr × Nat) := [(0, .aload_n 0, 1), (1, .getfield 10, 3), (4, .iload_n 1, 1), (5, .invokevirtual 119, 3), (8, .ifCond .eq 19, 3), (11, .aload_n 0, 1), (12, .getfield 10, 3), (15, .iload_n 2, 1), (16, .invokevirtual 119, 3), (19, .ifCond .eq 8, 3), (22, .iload_n 1, 1), (23, .iload_n 2, 1), (24, .if_icmp .ne 8, 3), (27, .aload_n 0, 1), (28, .invokevirtual 73, 3), (31, .ireturn, 1), (32, .iconst 0, 1), (33, .istore_n 3, 1), (34, .iconst 0, 1), (35, .istore 4, 2), (37, .iload 4, 2), (39, .iconst 4, 1), (40, .if_icmp .ge 52, 3), (43, .iload 4, 2), (45, .iconst 1, 1), (46, .iand, 1), (47, .istore 5, 2), (49, .iload 4, 2), (51, .iconst 1, 1), (52, .ishr, 1), (53, .istore 6, 2), (55, .aload_n 0, 1), (56, .iload_n 1, 1), (57, .iload 5, 2), (59, .iload 6, 2), (61, .invokevirtual 302, 3), (64, .ifCond .eq 22, 3), (67, .aload_n 0, 1), (68, .iload_n 2, 1), (69, .iload 6, 2), (71, .iload 5, 2), (73, .invokevirtual 302, 3), (76, .ifCond .eq 10, 3), (79, .iload_n 3, 1), (80, .iconst 1, 1), (81, .iload 4, 2), (83, .ishl, 1), (84, .ior, 1), (85, .istore_n 3, 1), (86, .iinc 4 1, 3), (89, .goto (-52), 3), (92, .iload_n 3, 1), (93, .ireturn, 1)]
def tb97 : List (Nat × Instr × Nat) := [(0, .aload_n 0, 1), (1, .iload_n 1, 1), (2, .iload_n 2, 1), (3, .iload_n 3, 1), (4, .invokevirtual 306, 3), (7, .aload_n 0, 1), (8, .iload_n 1, 1), (9, .iconst 1, 1), (10, .iload_n 2, 1), (11, .isub, 1), (12, .iload_n 3, 1), (13, .invokevirtual 306, 3), (16, .if_icmp .lt 7, 3), (19, .iconst 1, 1), (20, .goto 4, 3), (23, .iconst 0, 1), (24, .ireturn, 1)]
def tb98 : List (Nat × Instr × Nat) := [(0, .iload_n 2, 1), (1, .iconst 1, 1), (2, .if_icmp .ne 20, 3), (5, .iload_n 3, 1), (6, .iconst 1, 1), (7, .if_icmp .ne 15, 3), (10, .aload_n 0, 1), (11, .getfield 10, 3), (14, .iload_n 1, 1), (15, .invokevirtual 147, 3), (18, .ineg, 1), (19, .iconst 2, 1), (20, .isub, 1), (21, .ireturn, 1), (22, .iload_n 2, 1), (23, .iconst 1, 1), (24, .if_icmp .ne 5, 3), (27, .iconst 4, 1), (28, .ireturn, 1), (29, .iload_n 3, 1), (30, .iconst 1, 1), (31, .if_icmp .ne 7, 3), (34, .iconst 1, 1), (35, .goto 4, 3), (38, .iconst 2, 1), (39, .ireturn, 1)]
def tb99 : List (Nat × Instr × Nat) := [(0, .aload_n 0, 1), (1, .getfield 10, 3), (4, .iload_n 1, 1), (5, .invokevirtual 119, 3), (8, .ifCond .eq 23, 3), (11, .iload_n 2, 1), (12, .ifCond .lt 19, 3), (15, .iload_n 2, 1), (16, .bipush 6, 2), (18, .if_icmp .gt 13, 3), (21, .iload_n 3, 1), (22, .ifCond .lt 9, 3), (25, .iload_n 3, 1), (26, .bipush 10, 2), (28, .if_icmp .le 8, 3), (31, .aload_n 0, 1), (32, .invokevirtual 73, 3), (35, .ireturn, 1), (36, .aload_n 0, 1), (37, .getfield 10, 3), (40, .iload_n 1, 1), (41, .invokevirtual 184, 3), (44, .istore 4, 2), (46, .aload_n 0, 1), (47, .getfield 28, 3), (50, .aload_n 0, 1), (51, .getfield 10, 3), (54, .iload_n 1, 1), (55, .invokevirtual 137, 3), (58, .aload_n 0, 1), (59, .getfield 10, 3), (62, .iload_n 1, 1), (63, .invokevirtual 125, 3), (66, .iload 4, 2), (68, .invokevirtual 187, 3), (71, .aload_n 0, 1), (72, .getfield 28, 3), (75, .getfield 191, 3), (78, .iconst (-1), 1), (79, .if_icmp .ne 11, 3), (82, .aload_n 0, 1), (83, .lconst 0, 1), (84, .lconst 1, 1), (85, .invokevirtual 309, 3), (88, .iconst 1, 1), (89, .ireturn, 1), (90, .aload_n 0, 1), (91, .getfield 42, 3), (94, .iconst 0, 1), (95, .invokestatic 269, 3), (98, .aload_n 0, 1), (99, .getfield 42, 3), (102, .aload_n 0, 1), (103, .getfield 10, 3), (106, .iload_n 1, 1), (107, .invokevirtual 137, 3), (110, .iconst 1, 1), (111, .invokestatic 282, 3), (114, .iconst 1, 1), (115, .istore 5, 2), (117, .iconst 0, 1), (118, .istore 6, 2), (120, .iload 6, 2), (122, .iload_n 2, 1), (123, .if_icmp .ge 44, 3), (126, .iload 6, 2), (128, .aload_n 0, 1), (129, .getfield 28, 3), (132, .getfield 191, 3), (135, .if_icmp .ge 32, 3), (138, .aload_n 0, 1), (139, .aload_n 0, 1), (140, .getfield 28, 3), (143, .iload 6, 2), (145, .invokevirtual 192, 3), (148, .iload_n 3, 1), (149, .iload 4, 2), (151, .invokevirtual 313, 3), (154, .iload 5, 2), (156, .bipush 10, 2), (158, .imul, 1), (159, .istore 5, 2), (161, .iinc 6 1, 3), (164, .goto (-44), 3), (167, .aload_n 0, 1), (168, .aload_n 0, 1), (169, .getfield 42, 3), (172, .invokestatic 316, 3), (175, .i2l, 1), (176, .iload 5, 2), (178, .i2l, 1), (179, .invokevirtual 309, 3), (182, .iconst 1, 1), (183, .ireturn, 1)]
def tb100 : List (Nat × Instr × Nat) := [(0, .aload_n 0, 1), (1, .getfield 46, 3), (4, .aload_n 0, 1), (5, .getfield 42, 3), (8, .invokestatic 320, 3), (11, .aload_n 0, 1), (12, .getfield 42, 3), (15, .iconst 0, 1), (16, .invokestatic 269, 3), (19, .iconst 0, 1), (20, .istore 4, 2), (22, .iload 4, 2), (24, .bipush 11, 2), (26, .if_icmp .gt 61, 3), (29, .aload_n 0, 1), (30, .getfield 46, 3), (33, .iload 4, 2), (35, .invokestatic 278, 3), (38, .istore 5, 2), (40, .aload_n 0, 1), (41, .bipush 11, 2), (43, .iload 4, 2), (45, .iload_n 1, 1), (46, .iadd, 1), (47, .invokestatic 324, 3), (50, .iload 5, 2), (52, .bipush 10, 2), (54, .iload_n 2, 1), (55, .isub, 1), (56, .imul, 1), (57, .iload_n 3, 1), (58, .invokevirtual 327, 3), (61, .aload_n 0, 1), (62, .bipush 11, 2), (64, .iload 4, 2), (66, .iload_n 1, 1), (67, .iadd, 1), (68, .iconst 1, 1), (69, .iadd, 1), (70, .invokestatic 324, 3), (73, .iload 5, 2), (75, .iload_n 2, 1), (76, .imul, 1), (77, .iload_n 3, 1), (78, .invokevirtual 327, 3), (81, .iinc 4 1, 3), (84, .goto (-62), 3), (87, .return_, 1)]
def tb101 : List (Nat × Instr × Nat) := [(0, .iload_n 3, 1), (1, .iload_n 1, 1), (2, .invokestatic 330, 3), (5, .ifCond .ne 21, 3), (8, .aload_n 0, 1), (9, .getfield 42, 3), (12, .iload_n 1, 1), (13, .aload_n 0, 1), (14, .getfield 42, 3), (17, .iload_n 1, 1), (18, .invokestatic 278, 3), (21, .iload_n 2, 1), (22, .iadd, 1), (23, .invokestatic 282, 3), (26, .return_, 1)]
def tb102 : List (Nat × Instr × Nat) := [(0, .iconst 0, 1), (1, .istore_n 1, 1), (2, .iconst 0, 1), (3, .istore_n 2, 1), (4, .iload_n 2, 1), (5, .aload_n 0, 1), (6, .arraylength, 1), (7, .if_icmp .ge 15, 3), (10, .iload_n 1, 1), (11, .aload_n 0, 1), (12, .iload_n 2, 1), (13, .iaload, 1), (14, .iadd, 1), (15, .istore_n 1, 1), (16, .iinc 2 1, 3), (19, .goto (-15), 3), (22, .iload_n 1, 1), (23, .ireturn, 1)]
def tb103 : List (Nat × Instr × Nat) := [(0, .lload_n 1, 1), (1, .lload_n 3, 1), (2, .invokestatic 333, 3), (5, .lstore 5, 2), (7, .lload 5, 2), (9, .lconst 1, 1), (10, .lcmp, 1), (11, .ifCond .ge 4, 3), (14, .return_, 1), (15, .aload_n 0, 1), (16, .lload_n 1, 1), (17, .lload 5, 2), (19, .ldiv, 1), (20, .putfield 52, 3), (23, .aload_n 0, 1), (24, .lload_n 3, 1), (25, .lload 5, 2), (27, .ldiv, 1), (28, .putfield 56, 3), (31, .return_, 1)]
def tb104 : List (Nat × Instr × Nat) := [(0, .lload_n 0, 1), (1, .lstore 4, 2), (3, .lload_n 2, 1), (4, .lstore 6, 2), (6, .iconst 0, 1), (7, .istore 8, 2), (9, .iload 8, 2), (11, .bipush 100, 2), (13, .if_icmp .ge 31, 3), (16, .lload 6, 2), (18, .lconst 0, 1), (19, .lcmp, 1), (20, .ifCond .le 24, 3), (23, .lload 4, 2), (25, .lload 6, 2), (27, .lrem, 1), (28, .lstore 9, 2), (30, .lload 6, 2), (32, .lstore 4, 2), (34, .lload 9, 2), (36, .lstore 6, 2), (38, .iinc 8 1, 3), (41, .goto (-32), 3), (44, .lload 4, 2), (46, .lreturn, 1)]
def tb105 : List (Nat × Instr × Nat) := [(0, .iload_n 1, 1), (1, .ifCond .lt 20, 3), (4, .iload_n 1, 1), (5, .ldc_w 337, 3), (8, .if_icmp .gt 13, 3), (11, .iload_n 2, 1), (12, .ifCond .lt 9, 3), (15, .iload_n 2, 1), (16, .bipush 60, 2), (18, .if_icmp .le 8, 3), (21, .aload_n 0, 1), (22, .invokevirtual 73, 3), (25, .ireturn, 1), (26, .aload_n 0, 1), (27, .getfield 22, 3), (30, .aload_n 0, 1), (31, .getfield 10, 3), (34, .invokevirtual 115, 3), (37, .iload_n 1, 1), (38, .i2l, 1), (39, .lstore_n 3, 1), (40, .iconst 0, 1), (41, .istore 5, 2), (43, .iload 5, 2), (45, .iload_n 2, 1), (46, .if_icmp .ge 50, 3), (49, .lload_n 3, 1), (50, .ldc2_w 338, 3), (53, .lmul, 1), (54, .ldc2_w 340, 3), (57, .ladd, 1), (58, .ldc2_w 342, 3), (61, .lrem, 1), (62, .lstore_n 3, 1), (63, .aload_n 0, 1), (64, .lload_n 3, 1), (65, .ldc2_w 344, 3), (68, .ldiv, 1), (69, .ldc2_w 346, 3), (72, .lrem, 1), (73, .l2i, 1), (74, .lload_n 3, 1), (75, .ldc2_w 348, 3), (78, .ldiv, 1), (79, .invokevirtual 350, 3), (82, .aload_n 0, 1), (83, .getfield 22, 3), (86, .iconst 1, 1), (87, .invokevirtual 159, 3), (90, .iinc 5 1, 3), (93, .goto (-50), 3), (96, .aload_n 0, 1), (97, .getfield 22, 3), (100, .invokevirtual 354, 3), (103, .aload_n 0, 1), (104, .getfield 10, 3), (107, .invokevirtual 354, 3), (110, .isub, 1), (111, .ireturn, 1)]
def tb106 : List (Nat × Instr × Nat) := [(0, .aload_n 0, 1), (1, .getfield 22, 3), (4, .iload_n 1, 1), (5, .invokevirtual 119, 3), (8, .ifCond .eq 14, 3), (11, .aload_n 0, 1), (12, .getfield 22, 3), (15, .iload_n 1, 1), (16, .invokevirtual 122, 3), (19, .ifCond .eq 4, 3), (22, .return_, 1), (23, .aload_n 0, 1), (24, .getfield 22, 3), (27, .iload_n 1, 1), (28, .invokevirtual 125, 3), (31, .istore 4, 2), (33, .iload 4, 2), (35, .ifCond .le 20, 3), (38, .aload_n 0, 1), (39, .getfield 22, 3), (42, .iload_n 1, 1), (43, .lload_n 2, 1), (44, .iload 4, 2), (46, .i2l, 1), (47, .lrem, 1), (48, .l2i, 1), (49, .iconst 1, 1), (50, .iadd, 1), (51, .invokevirtual 134, 3), (54, .pop, 1), (55, .return_, 1)]
def tb107 : List (Nat × Instr × Nat) := [(0, .iload_n 1, 1), (1, .ifCond .lt 8, 3), (4, .iload_n 1, 1), (5, .iconst 1, 1), (6, .if_icmp .le 9, 3), (9, .aload_n 0, 1), (10, .invokevirtual 73, 3), (13, .i2l, 1), (14, .lreturn, 1), (15, .iload_n 1, 1), (16, .ifCond .ne 10, 3), (19, .aload_n 0, 1), (20, .getfield 52, 3), (23, .goto 7, 3), (26, .aload_n 0, 1), (27, .getfield 56, 3), (30, .lreturn, 1)]
def tb108 : List (Nat × Instr × Nat) := [(0, .iload_n 1, 1), (1, .ifCond .lt 8, 3), (4, .iload_n 1, 1), (5, .iconst 1, 1), (6, .if_icmp .le 8, 3), (9, .aload_n 0, 1), (10, .invokevirtual 73, 3), (13, .ireturn, 1), (14, .iload_n 1, 1), (15, .ifCond .ne 22, 3), (18, .aload_n 0, 1), (19, .getfield 16, 3), (22, .aload_n 0, 1), (23, .getfield 10, 3), (26, .invokevirtual 115, 3), (29, .aload_n 0, 1), (30, .iconst 1, 1), (31, .putfield 357, 3), (34, .goto 19, 3), (37, .aload_n 0, 1), (38, .getfield 19, 3), (41, .aload_n 0, 1), (42, .getfield 10, 3), (45, .invokevirtual 115, 3), (48, .aload_n 0, 1), (49, .iconst 1, 1), (50, .putfield 361, 3), (53, .iconst 1, 1), (54, .ireturn, 1)]
def tb109 : List (Nat × Instr × Nat) := [(0, .iload_n 1, 1), (1, .ifCond .lt 8, 3), (4, .iload_n 1, 1), (5, .iconst 1, 1), (6, .if_icmp .le 8, 3), (9, .aload_n 0, 1), (10, .invokevirtual 73, 3), (13, .ireturn, 1), (14, .iload_n 1, 1), (15, .ifCond .ne 13, 3), (18, .aload_n 0, 1), (19, .getfield 357, 3), (22, .ifCond .eq 13, 3), (25, .goto 15, 3), (28, .aload_n 0, 1), (29, .getfield 361, 3), (32, .ifCond .ne 8, 3), (35, .aload_n 0, 1), (36, .invokevirtual 128, 3), (39, .ireturn, 1), (40, .aload_n 0, 1), (41, .getfield 10, 3), (44, .iload_n 1, 1), (45, .ifCond .ne 10, 3), (48, .aload_n 0, 1), (49, .getfield 16, 3), (52, .goto 7, 3), (55, .aload_n 0, 1), (56, .getfield 19, 3), (59, .invokevirtual 115, 3), (62, .iconst 1, 1), (63, .ireturn, 1)]
def tb110 : List (Nat × Instr × Nat) := [(0, .iload_n 1, 1), (1, .tableswitch 42 0 2 #[27, 32, 37], 27), (28, .aload_n 0, 1), (29, .getfield 364, 3), (32, .ireturn, 1), (33, .aload_n 0, 1), (34, .getfield 367, 3), (37, .ireturn, 1), (38, .aload_n 0, 1), (39, .getfield 370, 3), (42, .ireturn, 1), (43, .aload_n 0, 1), (44, .invokevirtual 73, 3), (47, .pop, 1), (48, .iconst (-1), 1), (49, .ireturn, 1)]
def tb111 : List (Nat × Instr × Nat) := [(0, .iload_n 1, 1), (1, .ifCond .lt 9, 3), (4, .iload_n 1, 1), (5, .bipush 9, 2), (7, .if_icmp .le 8, 3), (10, .aload_n 0, 1), (11, .invokevirtual 73, 3), (14, .ireturn, 1), (15, .aload_n 0, 1), (16, .iload_n 1, 1), (17, .invokevirtual 373, 3), (20, .ireturn, 1)]
def tb112 : List (Nat × Instr × Nat) := [(0, .iload_n 1, 1), (1, .tableswitch 132 0 8 #[51, 59, 67, 75, 83, 91, 102, 113, 124], 51), (52, .aload_n 0, 1), (53, .getfield 10, 3), (56, .getfield 59, 3), (59, .ireturn, 1), (60, .aload_n 0, 1), (61, .getfield 10, 3), (64, .getfield 77, 3), (67, .ireturn, 1), (68, .aload_n 0, 1), (69, .getfield 10, 3), (72, .invokevirtual 376, 3), (75, .ireturn, 1), (76, .aload_n 0, 1), (77, .getfield 10, 3), (80, .invokevirtual 163, 3), (83, .ireturn, 1), (84, .aload_n 0, 1), (85, .getfield 10, 3), (88, .invokevirtual 354, 3), (91, .ireturn, 1), (92, .aload_n 0, 1), (93, .getfield 10, 3), (96, .getfield 216, 3), (99, .getfield 245, 3), (102, .ireturn, 1), (103, .aload_n 0, 1), (104, .getfield 10, 3), (107, .getfield 251, 3), (110, .getfield 245, 3), (113, .ireturn, 1), (114, .aload_n 0, 1), (115, .getfield 10, 3), (118, .getfield 254, 3), (121, .getfield 245, 3), (124, .ireturn, 1), (125, .aload_n 0, 1), (126, .getfield 10, 3), (129, .getfield 166, 3), (132, .ireturn, 1), (133, .aload_n 0, 1), (134, .getfield 38, 3), (137, .getfield 94, 3), (140, .ireturn, 1)]
def tb113 : List (Nat × Instr × Nat) := [(0, .ldc2_w 379, 3), (3, .lstore_n 1, 1), (4, .iconst 0, 1), (5, .istore_n 3, 1), (6, .iload_n 3, 1), (7, .bipush 9, 2), (9, .if_icmp .gt 22, 3), (12, .ldc2_w 381, 3), (15, .lload_n 1, 1), (16, .lmul, 1), (17, .aload_n 0, 1), (18, .iload_n 3, 1), (19, .invokevirtual 373, 3), (22, .i2l, 1), (23, .ladd, 1), (24, .lstore_n 1, 1), (25, .iinc 3 1, 3), (28, .goto (-22), 3), (31, .iconst 0, 1), (32, .istore_n 3, 1), (33, .iload_n 3, 1), (34, .aload_n 0, 1), (35, .getfield 10, 3), (38, .getfield 77, 3), (41, .if_icmp .ge 41, 3), (44, .ldc2_w 381, 3), (47, .lload_n 1, 1), (48, .lmul, 1), (49, .aload_n 0, 1), (50, .getfield 10, 3), (53, .iload_n 3, 1), (54, .invokevirtual 175, 3), (57, .i2l, 1), (58, .ladd, 1), (59, .lstore_n 1, 1), (60, .ldc2_w 381, 3), (63, .lload_n 1, 1), (64, .lmul, 1), (65, .aload_n 0, 1), (66, .getfield 10, 3), (69, .iload_n 3, 1), (70, .invokevirtual 153, 3), (73, .i2l, 1), (74, .ladd, 1), (75, .lstore_n 1, 1), (76, .iinc 3 1, 3), (79, .goto (-46), 3), (82, .iconst 0, 1), (83, .istore_n 3, 1), (84, .iload_n 3, 1), (85, .aload_n 0, 1), (86, .getfield 10, 3), (89, .getfield 59, 3), (92, .if_icmp .ge 42, 3), (95, .iconst 0, 1), (96, .istore 4, 2), (98, .iload 4, 2), (100, .iconst 4, 1), (101, .if_icmp .gt 27, 3), (104, .ldc2_w 381, 3), (107, .lload_n 1, 1), (108, .lmul, 1), (109, .aload_n 0, 1), (110, .getfield 10, 3), (113, .iload_n 3, 1), (114, .iload 4, 2), (116, .invokevirtual 172, 3), (119, .i2l, 1), (120, .ladd, 1), (121, .lstore_n 1, 1), (122, .iinc 4 1, 3), (125, .goto (-27), 3), (128, .iinc 3 1, 3), (131, .goto (-47), 3), (134, .aload_n 0, 1), (135, .getfield 10, 3), (138, .getfield 216, 3), (141, .lload_n 1, 1), (142, .invokevirtual 383, 3), (145, .lstore_n 1, 1), (146, .aload_n 0, 1), (147, .getfield 10, 3), (150, .getfield 251, 3), (153, .lload_n 1, 1), (154, .invokevirtual 383, 3), (157, .lstore_n 1, 1), (158, .aload_n 0, 1), (159, .getfield 10, 3), (162, .getfield 254, 3), (165, .lload_n 1, 1), (166, .invokevirtual 383, 3), (169, .lstore_n 1, 1), (170, .ldc2_w 381, 3), (173, .lload_n 1, 1), (174, .lmul, 1), (175, .aload_n 0, 1), (176, .getfield 52, 3), (179, .ladd, 1), (180, .lstore_n 1, 1), (181, .ldc2_w 381, 3), (184, .lload_n 1, 1), (185, .lmul, 1), (186, .aload_n 0, 1), (187, .getfield 56, 3), (190, .ladd, 1), (191, .lreturn, 1)]
def tb114 : List (Nat × Instr × Nat) := [(0, .aload_n 0, 1), (1, .dup, 1), (2, .getfield 364, 3), (5, .iconst 1, 1), (6, .iadd, 1), (7, .putfield 364, 3), (10, .bipush (-2), 2), (12, .ireturn, 1)]
def tb115 : List (Nat × Instr × Nat) := [(0, .aload_n 0, 1), (1, .dup, 1), (2, .getfield 367, 3), (5, .iconst 1, 1), (6, .iadd, 1), (7, .putfield 367, 3), (10, .bipush (-3), 2), (12, .ireturn, 1)]
def tb116 : List (Nat × Instr × Nat) := [(0, .aload_n 0, 1), (1, .dup, 1), (2, .getfield 370, 3), (5, .iconst 1, 1), (6, .iadd, 1), (7, .putfield 370, 3), (10, .bipush (-4), 2), (12, .ireturn, 1)]
def tb117 : List (Nat × Instr × Nat) := [(0, .iload_n 0, 1), (1, .ifCond .lt 13, 3), (4, .iload_n 0, 1), (5, .bipush 6, 2), (7, .if_icmp .ge 7, 3), (10, .iconst 1, 1), (11, .goto 4, 3), (14, .iconst 0, 1), (15, .ireturn, 1)]
def tb118 : List (Nat × Instr × Nat) := [(0, .iload_n 0, 1), (1, .iconst 1, 1), (2, .if_icmp .lt 13, 3), (5, .iload_n 0, 1), (6, .bipush 10, 2), (8, .if_icmp .gt 7, 3), (11, .iconst 1, 1), (12, .goto 4, 3), (15, .iconst 0, 1), (16, .ireturn, 1)]
def tb119 : List (Nat × Instr × Nat) := [(0, .iload_n 0, 1), (1, .ifCond .lt 13, 3), (4, .iload_n 0, 1), (5, .bipush 9, 2), (7, .if_icmp .gt 7, 3), (10, .iconst 1, 1), (11, .goto 4, 3), (14, .iconst 0, 1), (15, .ireturn, 1)]
def tb120 : List (Nat × Instr × Nat) := [(0, .iload_n 0, 1), (1, .ifCond .lt 13, 3), (4, .iload_n 0, 1), (5, .bipush 24, 2), (7, .if_icmp .ge 7, 3), (10, .iconst 1, 1), (11, .goto 4, 3), (14, .iconst 0, 1), (15, .ireturn, 1)]
def tb121 : List (Nat × Instr × Nat) := [(0, .iload_n 1, 1), (1, .ifCond .lt 15, 3), (4, .iload_n 1, 1), (5, .aload_n 0, 1), (6, .arraylength, 1), (7, .if_icmp .ge 9, 3), (10, .aload_n 0, 1), (11, .iload_n 1, 1), (12, .iaload, 1), (13, .goto 4, 3), (16, .iconst 0, 1), (17, .ireturn, 1)]
def tb122 : List (Nat × Instr × Nat) := [(0, .iload_n 1, 1), (1, .ifCond .lt 13, 3), (4, .iload_n 1, 1), (5, .aload_n 0, 1), (6, .arraylength, 1), (7, .if_icmp .ge 7, 3), (10, .aload_n 0, 1), (11, .iload_n 1, 1), (12, .iload_n 2, 1), (13, .iastore, 1), (14, .return_, 1)]
def tb123 : List (Nat × Instr × Nat) := [(0, .aload_n 1, 1), (1, .iconst 0, 1), (2, .aload_n 0, 1), (3, .iconst 0, 1), (4, .aload_n 1, 1), (5, .arraylength, 1), (6, .aload_n 0, 1), (7, .arraylength, 1), (8, .invokestatic 324, 3), (11, .invokestatic 387, 3), (14, .return_, 1)]
def tb124 : List (Nat × Instr × Nat) := [(0, .iconst 1, 1), (1, .istore_n 2, 1), (2, .iload_n 2, 1), (3, .iload_n 1, 1), (4, .bipush 18, 2), (6, .if_icmp .lt 7, 3), (9, .iconst 1, 1), (10, .goto 4, 3), (13, .iconst 0, 1), (14, .iadd, 1), (15, .istore_n 3, 1), (16, .iload_n 2, 1), (17, .iload_n 1, 1), (18, .bipush 9, 2), (20, .if_icmp .lt 13, 3), (23, .iload_n 1, 1), (24, .bipush 16, 2), (26, .if_icmp .gt 7, 3), (29, .iconst 2, 1), (30, .goto 4, 3), (33, .iconst 0, 1), (34, .iadd, 1), (35, .istore 4, 2), (37, .iload_n 0, 1), (38, .tableswitch 74 1 5 #[34, 36, 51, 54, 63], 34), (72, .iload_n 3, 1), (73, .ireturn, 1), (74, .iload_n 3, 1), (75, .iload_n 1, 1), (76, .bipush 6, 2), (78, .irem, 1), (79, .ifCond .ne 7, 3), (82, .iconst 1, 1), (83, .goto 4, 3), (86, .iconst 0, 1), (87, .iadd, 1), (88, .ireturn, 1), (89, .iload 4, 2), (91, .ireturn, 1), (92, .iconst 1, 1), (93, .iload 4, 2), (95, .iconst 1, 1), (96, .isub, 1), (97, .invokestatic 240, 3), (100, .ireturn, 1), (101, .iload_n 1, 1), (102, .iconst 5, 1), (103, .if_icmp .ge 7, 3), (106, .iconst 0, 1), (107, .goto 4, 3), (110, .iload_n 2, 1), (111, .ireturn, 1), (112, .iload_n 2, 1), (113, .ireturn, 1)]
def tb125 : List (Nat × Instr × Nat) := [(0, .iload_n 1, 1), (1, .invokestatic 393, 3), (4, .iload_n 0, 1), (5, .ishl, 1), (6, .sipush 2046, 3), (9, .iand, 1), (10, .ireturn, 1)]
def tb126 : List (Nat × Instr × Nat) := [(0, .iload_n 1, 1), (1, .iconst 1, 1), (2, .if_icmp .ge 5, 3), (5, .iconst 0, 1), (6, .ireturn, 1), (7, .iload_n 1, 1), (8, .invokestatic 393, 3), (11, .iload_n 0, 1), (12, .ishl, 1), (13, .iload_n 1, 1), (14, .iconst 1, 1), (15, .isub, 1), (16, .ishr, 1), (17, .sipush 2046, 3), (20, .iand, 1), (21, .ireturn, 1)]
def tb127 : List (Nat × Instr × Nat) := [(0, .iconst 1, 1), (1, .iload_n 0, 1), (2, .ishl, 1), (3, .iconst 1, 1), (4, .isub, 1), (5, .ireturn, 1)]
def tb128 : List (Nat × Instr × Nat) := [(0, .iload_n 0, 1), (1, .iload_n 1, 1), (2, .ishr, 1), (3, .iconst 1, 1), (4, .iand, 1), (5, .iconst 1, 1), (6, .if_icmp .ne 7, 3), (9, .iconst 1, 1), (10, .goto 4, 3), (13, .iconst 0, 1), (14, .ireturn, 1)]
def tb129 : List (Nat × Instr × Nat) := [(0, .iload_n 1, 1), (1, .istore 4, 2), (3, .iload 4, 2), (5, .iconst 1, 1), (6, .iadd, 1), (7, .iconst 2, 1), (8, .idiv, 1), (9, .istore 5, 2), (11, .iconst 1, 1), (12, .iload 4, 2), (14, .iload_n 2, 1), (15, .iconst 3, 1), (16, .idiv, 1), (17, .isub, 1), (18, .invokestatic 240, 3), (21, .istore 6, 2), (23, .iload_n 0, 1), (24, .tableswitch 77 1 5 #[36, 39, 42, 49, 64], 36), (60, .iload 5, 2), (62, .ireturn, 1), (63, .iload 6, 2), (65, .ireturn, 1), (66, .iconst 2, 1), (67, .iload 6, 2), (69, .invokestatic 324, 3), (72, .ireturn, 1), (73, .iload 4, 2), (75, .iload_n 3, 1), (76, .bipush 18, 2), (78, .if_icmp .lt 7, 3), (81, .iconst 1, 1), (82, .goto 4, 3), (85, .iconst 0, 1), (86, .iadd, 1), (87, .ireturn, 1), (88, .iload_n 3, 1), (89, .bipush 8, 2), (91, .if_icmp .ge 7, 3), (94, .iconst 1, 1), (95, .goto 5, 3), (98, .iload 5, 2), (100, .ireturn, 1), (101, .iload 4, 2), (103, .ireturn, 1)]
def tb130 : List (Nat × Instr × Nat) := [(0, .lload_n 0, 1), (1, .lload_n 2, 1), (2, .lcmp, 1), (3, .ifCond .lt 14, 3), (6, .lload_n 0, 1), (7, .lload 4, 2), (9, .lcmp, 1), (10, .ifCond .gt 7, 3), (13, .iconst 1, 1), (14, .goto 4, 3), (17, .iconst 0, 1), (18, .ireturn, 1)]
def tb131 : List (Nat × Instr × Nat) := [(0, .iload_n 0, 1), (1, .iload_n 1, 1), (2, .ishr, 1), (3, .iconst 1, 1), (4, .iand, 1), (5, .iconst 1, 1), (6, .if_icmp .ne 7, 3), (9, .iconst 1, 1), (10, .goto 4, 3), (13, .iconst 0, 1), (14, .ireturn, 1)]
def tb132 : List (Nat × Instr × Nat) := [(0, .aload_n 0, 1), (1, .getfield 27, 3), (4, .iconst 0, 1), (5, .dup2, 1), (6, .iaload, 1), (7, .iconst 1, 1), (8, .iadd, 1), (9, .iastore, 1), (10, .iload_n 1, 1), (11, .ireturn, 1)]
def tb133 : List (Nat × Instr × Nat) := [(0, .aload_n 0, 1), (1, .getfield 27, 3), (4, .iconst 1, 1), (5, .dup2, 1), (6, .iaload, 1), (7, .iconst 1, 1), (8, .iadd, 1), (9, .iastore, 1), (10, .bipush (-3), 2), (12, .ireturn, 1)]
def tb134 : List (Nat × Instr × Nat) := [(0, .aload_n 0, 1), (1, .getfield 27, 3), (4, .iconst 2, 1), (5, .dup2, 1), (6, .iaload, 1), (7, .iconst 1, 1), (8, .iadd, 1), (9, .iastore, 1), (10, .bipush (-4), 2), (12, .ireturn, 1)]
def tb135 : List (Nat × Instr × Nat) := [(0, .iconst 0, 1), (1, .istore_n 3, 1), (2, .iload_n 3, 1), (3, .sipush 248, 3), (6, .if_icmp .ge 25, 3), (9, .aload_n 0, 1), (10, .getfield 7, 3), (13, .iload_n 2, 1), (14, .iload_n 3, 1), (15, .iadd, 1), (16, .aload_n 0, 1), (17, .getfield 7, 3), (20, .iload_n 1, 1), (21, .iload_n 3, 1), (22, .iadd, 1), (23, .iaload, 1), (24, .iastore, 1), (25, .iinc 3 1, 3), (28, .goto (-26), 3), (31, .return_, 1)]
def tb136 : List (Nat × Instr × Nat) := [(0, .iconst 0, 1), (1, .istore_n 2, 1), (2, .iload_n 2, 1), (3, .sipush 248, 3), (6, .if_icmp .ge 18, 3), (9, .aload_n 0, 1), (10, .getfield 7, 3), (13, .iload_n 1, 1), (14, .iload_n 2, 1), (15, .iadd, 1), (16, .iconst 0, 1), (17, .iastore, 1), (18, .iinc 2 1, 3), (21, .goto (-19), 3), (24, .return_, 1)]
def tb137 : List (Nat × Instr × Nat) := [(0, .iload_n 1, 1), (1, .i2l, 1), (2, .lconst 0, 1), (3, .aload_n 0, 1), (4, .getfield 7, 3), (7, .iconst 1, 1), (8, .iaload, 1), (9, .iconst 1, 1), (10, .isub, 1), (11, .i2l, 1), (12, .invokestatic 46, 3), (15, .ireturn, 1)]
def tb138 : List (Nat × Instr × Nat) := [(0, .iload_n 1, 1), (1, .i2l, 1), (2, .lconst 0, 1), (3, .aload_n 0, 1), (4, .getfield 7, 3), (7, .iconst 0, 1), (8, .iaload, 1), (9, .iconst 1, 1), (10, .isub, 1), (11, .i2l, 1), (12, .invokestatic 46, 3), (15, .ireturn, 1)]
def tb139 : List (Nat × Instr × Nat) := [(0, .iload_n 0, 1), (1, .i2l, 1), (2, .lconst 0, 1), (3, .ldc2_w 50, 3), (6, .invokestatic 46, 3), (9, .ireturn, 1)]
def tb140 : List (Nat × Instr × Nat) := [(0, .iload_n 0, 1), (1, .bipush 18, 2), (3, .if_icmp .lt 7, 3), (6, .iconst 2, 1), (7, .goto 4, 3), (10, .iconst 1, 1), (11, .ireturn, 1)]
def tb141 : List (Nat × Instr × Nat) := [(0, .iload_n 0, 1), (1, .i2l, 1), (2, .ldc2_w 52, 3), (5, .ldc2_w 54, 3), (8, .invokestatic 46, 3), (11, .ifCond .eq 7, 3), (14, .iconst 3, 1), (15, .goto 4, 3), (18, .iconst 1, 1), (19, .ireturn, 1)]
def tb142 : List (Nat × Instr × Nat) := [(0, .iload_n 0, 1), (1, .tableswitch 96 1 5 #[35, 40, 61, 66, 85], 35), (36, .iload_n 1, 1), (37, .invokestatic 56, 3), (40, .ireturn, 1), (41, .iload_n 1, 1), (42, .bipush 6, 2), (44, .irem, 1), (45, .ifCond .ne 12, 3), (48, .iload_n 1, 1), (49, .invokestatic 56, 3), (52, .iconst 1, 1), (53, .iadd, 1), (54, .goto 7, 3), (57, .iload_n 1, 1), (58, .invokestatic 56, 3), (61, .ireturn, 1), (62, .iload_n 1, 1), (63, .invokestatic 60, 3), (66, .ireturn, 1), (67, .iload_n 1, 1), (68, .invokestatic 60, 3), (71, .iconst 1, 1), (72, .if_icmp .le 12, 3), (75, .iload_n 1, 1), (76, .invokestatic 60, 3), (79, .iconst 1, 1), (80, .isub, 1), (81, .goto 4, 3), (84, .iconst 1, 1), (85, .ireturn, 1), (86, .iload_n 1, 1), (87, .iconst 5, 1), (88, .if_icmp .ge 7, 3), (91, .iconst 0, 1), (92, .goto 4, 3), (95, .iconst 1, 1), (96, .ireturn, 1), (97, .iconst 1, 1), (98, .ireturn, 1)]
def tb143 : List (Nat × Instr × Nat) := [(0, .iload_n 0, 1), (1, .iload_n 1, 1), (2, .iconst 3, 1), (3, .idiv, 1), (4, .isub, 1), (5, .iconst 1, 1), (6, .if_icmp .le 11, 3), (9, .iload_n 0, 1), (10, .iload_n 1, 1), (11, .iconst 3, 1), (12, .idiv, 1), (13, .isub, 1), (14, .goto 4, 3), (17, .iconst 1, 1), (18, .ireturn, 1)]
def tb144 : List (Nat × Instr × Nat) := [(0, .iload_n 0, 1), (1, .tableswitch 96 1 5 #[35, 41, 47, 66, 80], 35), (36, .iload_n 1, 1), (37, .iconst 1, 1), (38, .iadd, 1), (39, .iconst 2, 1), (40, .idiv, 1), (41, .ireturn, 1), (42, .iload_n 1, 1), (43, .iload_n 2, 1), (44, .invokestatic 63, 3), (47, .ireturn, 1), (48, .iload_n 1, 1), (49, .iload_n 2, 1), (50, .invokestatic 63, 3), (53, .iconst 2, 1), (54, .if_icmp .le 7, 3), (57, .iconst 2, 1), (58, .goto 8, 3), (61, .iload_n 1, 1), (62, .iload_n 2, 1), (63, .invokestatic 63, 3), (66, .ireturn, 1), (67, .iload_n 3, 1), (68, .bipush 18, 2), (70, .if_icmp .lt 9, 3), (73, .iload_n 1, 1), (74, .iconst 1, 1), (75, .iadd, 1), (76, .goto 4, 3), (79, .iload_n 1, 1), (80, .ireturn, 1), (81, .iload_n 3, 1), (82, .bipush 8, 2), (84, .if_icmp .ge 7, 3), (87, .iconst 1, 1), (88, .goto 8, 3), (91, .iload_n 1, 1), (92, .iconst 1, 1), (93, .iadd, 1), (94, .iconst 2, 1), (95, .idiv, 1), (96, .ireturn, 1), (97, .iload_n 1, 1), (98, .ireturn, 1)]
def tb145 : List (Nat × Instr × Nat) := [(0, .iconst 0, 1), (1, .istore_n 3, 1), (2, .iload_n 1, 1), (3, .istore 4, 2), (5, .iload 4, 2), (7, .iload_n 1, 1), (8, .iload_n 0, 1), (9, .iload_n 2, 1), (10, .invokestatic 67, 3), (13, .iadd, 1), (14, .if_icmp .ge 23, 3), (17, .iload 4, 2), (19, .bipush 11, 2), (21, .if_icmp .ge 16, 3), (24, .iload_n 3, 1), (25, .iconst 1, 1), (26, .iload 4, 2), (28, .ishl, 1), (29, .ior, 1), (30, .istore_n 3, 1), (31, .iinc 4 1, 3), (34, .goto (-29), 3), (37, .iload_n 3, 1), (38, .ireturn, 1)]
def tb146 : List (Nat × Instr × Nat) := [(0, .aload_n 0, 1), (1, .getfield 7, 3), (4, .iload_n 1, 1), (5, .iconst 4, 1), (6, .iadd, 1), (7, .iload_n 2, 1), (8, .iadd, 1), (9, .iaload, 1), (10, .aload_n 0, 1), (11, .getfield 7, 3), (14, .iload_n 1, 1), (15, .bipush 7, 2), (17, .iadd, 1), (18, .iload_n 2, 1), (19, .iadd, 1), (20, .iaload, 1), (21, .aload_n 0, 1), (22, .getfield 7, 3), (25, .iload_n 1, 1), (26, .iconst 2, 1), (27, .iadd, 1), (28, .iaload, 1), (29, .bipush 24, 2), (31, .irem, 1), (32, .invokestatic 70, 3), (35, .ireturn, 1)]
def tb147 : List (Nat × Instr × Nat) := [(0, .aload_n 0, 1), (1, .getfield 7, 3), (4, .iload_n 1, 1), (5, .bipush 10, 2), (7, .iadd, 1), (8, .iload_n 2, 1), (9, .iadd, 1), (10, .iaload, 1), (11, .aload_n 0, 1), (12, .getfield 7, 3), (15, .iload_n 1, 1), (16, .bipush 16, 2), (18, .iadd, 1), (19, .iload_n 2, 1), (20, .iadd, 1), (21, .iaload, 1), (22, .aload_n 0, 1), (23, .getfield 7, 3), (26, .iload_n 1, 1), (27, .bipush 34, 2), (29, .iadd, 1), (30, .iload_n 2, 1), (31, .iadd, 1), (32, .iaload, 1), (33, .aload_n 0, 1), (34, .getfield 7, 3), (37, .iload_n 1, 1), (38, .iconst 2, 1), (39, .iadd, 1), (40, .iaload, 1), (41, .bipush 24, 2), (43, .irem, 1), (44, .invokestatic 74, 3), (47, .ireturn, 1)]
def tb148 : List (Nat × Instr × Nat) := [(0, .aload_n 0, 1), (1, .getfield 7, 3), (4, .iconst 1, 1), (5, .iaload, 1), (6, .istore_n 1, 1), (7, .aload_n 0, 1), (8, .iconst 0, 1), (9, .invokevirtual 78, 3), (12, .iload_n 1, 1), (13, .ireturn, 1)]
def tb149 : List (Nat × Instr × Nat) := [(0, .aload_n 0, 1), (1, .getfield 7, 3), (4, .iload_n 1, 1), (5, .iconst 4, 1), (6, .iadd, 1), (7, .aload_n 0, 1), (8, .getfield 7, 3), (11, .iload_n 1, 1), (12, .iconst 0, 1), (13, .iadd, 1), (14, .iaload, 1), (15, .iadd, 1), (16, .iload_n 2, 1), (17, .iastore, 1), (18, .aload_n 0, 1), (19, .getfield 7, 3), (22, .iload_n 1, 1), (23, .bipush 7, 2), (25, .iadd, 1), (26, .aload_n 0, 1), (27, .getfield 7, 3), (30, .iload_n 1, 1), (31, .iconst 0, 1), (32, .iadd, 1), (33, .iaload, 1), (34, .iadd, 1), (35, .iload_n 3, 1), (36, .iastore, 1), (37, .aload_n 0, 1), (38, .getfield 7, 3), (41, .iload_n 1, 1), (42, .iconst 0, 1), (43, .iadd, 1), (44, .dup2, 1), (45, .iaload, 1), (46, .iconst 1, 1), (47, .iadd, 1), (48, .iastore, 1), (49, .return_, 1)]
def tb150 : List (Nat × Instr × Nat) := [(0, .iload_n 1, 1), (1, .i2l, 1), (2, .lconst 0, 1), (3, .ldc2_w 82, 3), (6, .invokestatic 46, 3), (9, .ifCond .eq 15, 3), (12, .iload_n 2, 1), (13, .i2l, 1), (14, .lconst 1, 1), (15, .ldc2_w 84, 3), (18, .invokestatic 46, 3), (21, .ifCond .ne 10, 3), (24, .aload_n 0, 1), (25, .bipush (-2), 2), (27, .invokevirtual 86, 3), (30, .ireturn, 1), (31, .aload_n 0, 1), (32, .getfield 7, 3), (35, .iconst 0, 1), (36, .iaload, 1), (37, .iconst 3, 1), (38, .if_icmp .ne 8, 3), (41, .aload_n 0, 1), (42, .invokevirtual 89, 3), (45, .ireturn, 1), (46, .aload_n 0, 1), (47, .iconst 0, 1), (48, .iload_n 1, 1), (49, .iload_n 2, 1), (50, .invokevirtual 93, 3), (53, .aload_n 0, 1), (54, .getfield 7, 3), (57, .bipush 111, 2), (59, .iconst 0, 1), (60, .iastore, 1), (61, .aload_n 0, 1), (62, .getfield 7, 3), (65, .iconst 0, 1), (66, .iaload, 1), (67, .iconst 1, 1), (68, .isub, 1), (69, .ireturn, 1)]
def tb151 : List (Nat × Instr × Nat) := [(0, .aload_n 0, 1), (1, .getfield 7, 3), (4, .iload_n 1, 1), (5, .iconst 1, 1), (6, .iadd, 1), (7, .iaload, 1), (8, .istore 5, 2), (10, .aload_n 0, 1), (11, .getfield 7, 3), (14, .iload_n 1, 1), (15, .bipush 10, 2), (17, .iadd, 1), (18, .iload 5, 2), (20, .iadd, 1), (21, .iload_n 2, 1), (22, .iastore, 1), (23, .aload_n 0, 1), (24, .getfield 7, 3), (27, .iload_n 1, 1), (28, .bipush 16, 2), (30, .iadd, 1), (31, .iload 5, 2), (33, .iadd, 1), (34, .iload_n 3, 1), (35, .iastore, 1), (36, .aload_n 0, 1), (37, .getfield 7, 3), (40, .iload_n 1, 1), (41, .bipush 22, 2), (43, .iadd, 1), (44, .iload 5, 2), (46, .iadd, 1), (47, .iload 4, 2), (49, .iastore, 1), (50, .aload_n 0, 1), (51, .getfield 7, 3), (54, .iload_n 1, 1), (55, .bipush 28, 2), (57, .iadd, 1), (58, .iload 5, 2), (60, .iadd, 1), (61, .iconst 0, 1), (62, .iastore, 1), (63, .aload_n 0, 1), (64, .getfield 7, 3), (67, .iload_n 1, 1), (68, .bipush 34, 2), (70, .iadd, 1), (71, .iload 5, 2), (73, .iadd, 1), (74, .iconst 0, 1), (75, .iastore, 1), (76, .aload_n 0, 1), (77, .getfield 7, 3), (80, .iload_n 1, 1), (81, .iconst 1, 1), (82, .iadd, 1), (83, .dup2, 1), (84, .iaload, 1), (85, .iconst 1, 1), (86, .iadd, 1), (87, .iastore, 1), (88, .return_, 1)]
def tb152 : List (Nat × Instr × Nat) := [(0, .iload_n 1, 1), (1, .i2l, 1), (2, .lconst 0, 1), (3, .ldc2_w 82, 3), (6, .invokestatic 46, 3), (9, .ifCond .eq 23, 3), (12, .iload_n 2, 1), (13, .i2l, 1), (14, .lconst 1, 1), (15, .ldc2_w 97, 3), (18, .invokestatic 46, 3), (21, .ifCond .eq 11, 3), (24, .aload_n 0, 1), (25, .iload_n 3, 1), (26, .invokevirtual 99, 3), (29, .ifCond .ne 10, 3), (32, .aload_n 0, 1), (33, .bipush (-2), 2), (35, .invokevirtual 86, 3), (38, .ireturn, 1), (39, .aload_n 0, 1), (40, .getfield 7, 3), (43, .iconst 1, 1), (44, .iaload, 1), (45, .bipush 6, 2), (47, .if_icmp .ne 8, 3), (50, .aload_n 0, 1), (51, .invokevirtual 89, 3), (54, .ireturn, 1), (55, .aload_n 0, 1), (56, .iconst 0, 1), (57, .iload_n 1, 1), (58, .iload_n 2, 1), (59, .iload_n 3, 1), (60, .invokevirtual 103, 3), (63, .aload_n 0, 1), (64, .getfield 7, 3), (67, .bipush 111, 2), (69, .iconst 0, 1), (70, .iastore, 1), (71, .aload_n 0, 1), (72, .getfield 7, 3), (75, .iconst 1, 1), (76, .iaload, 1), (77, .iconst 1, 1), (78, .isub, 1), (79, .ireturn, 1)]
def tb153 : List (Nat × Instr × Nat) := [(0, .iload_n 1, 1), (1, .i2l, 1), (2, .lconst 0, 1), (3, .ldc2_w 107, 3), (6, .invokestatic 46, 3), (9, .ifCond .ne 10, 3), (12, .aload_n 0, 1), (13, .bipush (-2), 2), (15, .invokevirtual 86, 3), (18, .ireturn, 1), (19, .aload_n 0, 1), (20, .getfield 42, 3), (23, .sipush 150, 3), (26, .if_icmp .ne 8, 3), (29, .aload_n 0, 1), (30, .invokevirtual 89, 3), (33, .ireturn, 1), (34, .aload_n 0, 1), (35, .getfield 17, 3), (38, .aload_n 0, 1), (39, .getfield 42, 3), (42, .iload_n 1, 1), (43, .iastore, 1), (44, .aload_n 0, 1), (45, .dup, 1), (46, .getfield 42, 3), (49, .iconst 1, 1), (50, .iadd, 1), (51, .putfield 42, 3), (54, .aload_n 0, 1), (55, .getfield 42, 3), (58, .ireturn, 1)]
def tb154 : List (Nat × Instr × Nat) := [(0, .aload_n 0, 1), (1, .getfield 42, 3), (4, .istore_n 1, 1), (5, .aload_n 0, 1), (6, .iconst 0, 1), (7, .putfield 42, 3), (10, .iload_n 1, 1), (11, .ireturn, 1)]
def tb155 : List (Nat × Instr × Nat) := [(0, .iload_n 1, 1), (1, .aload_n 0, 1), (2, .getfield 42, 3), (5, .if_icmp .ge 12, 3), (8, .aload_n 0, 1), (9, .getfield 17, 3), (12, .iload_n 1, 1), (13, .iaload, 1), (14, .goto 4, 3), (17, .iconst (-1), 1), (18, .ireturn, 1)]
def tb156 : List (Nat × Instr × Nat) := [(0, .aload_n 0, 1), (1, .aload_n 0, 1), (2, .getfield 109, 3), (5, .invokevirtual 112, 3), (8, .bipush 32, 2), (10, .if_icmp .ne 16, 3), (13, .aload_n 0, 1), (14, .dup, 1), (15, .getfield 109, 3), (18, .iconst 1, 1), (19, .iadd, 1), (20, .putfield 109, 3), (23, .goto (-23), 3), (26, .aload_n 0, 1), (27, .aload_n 0, 1), (28, .getfield 109, 3), (31, .putfield 115, 3), (34, .return_, 1)]
def tb157 : List (Nat × Instr × Nat) := [(0, .aload_n 0, 1), (1, .invokevirtual 118, 3), (4, .aload_n 0, 1), (5, .aload_n 0, 1), (6, .getfield 109, 3), (9, .invokevirtual 112, 3), (12, .i2l, 1), (13, .ldc2_w 121, 3), (16, .ldc2_w 123, 3), (19, .invokestatic 46, 3), (22, .ifCond .eq 16, 3), (25, .aload_n 0, 1), (26, .dup, 1), (27, .getfield 109, 3), (30, .iconst 1, 1), (31, .iadd, 1), (32, .putfield 109, 3), (35, .goto (-31), 3), (38, .return_, 1)]
def tb158 : List (Nat × Instr × Nat) := [(0, .aload_n 0, 1), (1, .getfield 109, 3), (4, .aload_n 0, 1), (5, .getfield 115, 3), (8, .isub, 1), (9, .istore 9, 2), (11, .aload_n 0, 1), (12, .iconst 0, 1), (13, .iload_n 1, 1), (14, .iload 9, 2), (16, .invokevirtual 125, 3), (19, .ifCond .eq 98, 3), (22, .aload_n 0, 1), (23, .iconst 1, 1), (24, .iload_n 2, 1), (25, .iload 9, 2), (27, .invokevirtual 125, 3), (30, .ifCond .eq 87, 3), (33, .aload_n 0, 1), (34, .iconst 2, 1), (35, .iload_n 3, 1), (36, .iload 9, 2), (38, .invokevirtual 125, 3), (41, .ifCond .eq 76, 3), (44, .aload_n 0, 1), (45, .iconst 3, 1), (46, .iload 4, 2), (48, .iload 9, 2), (50, .invokevirtual 125, 3), (53, .ifCond .eq 64, 3), (56, .aload_n 0, 1), (57, .iconst 4, 1), (58, .iload 5, 2), (60, .iload 9, 2), (62, .invokevirtual 125, 3), (65, .ifCond .eq 52, 3), (68, .aload_n 0, 1), (69, .iconst 5, 1), (70, .iload 6, 2), (72, .iload 9, 2), (74, .invokevirtual 125, 3), (77, .ifCond .eq 40, 3), (80, .aload_n 0, 1), (81, .bipush 6, 2), (83, .iload 7, 2), (85, .iload 9, 2), (87, .invokevirtual 125, 3), (90, .ifCond .eq 27, 3), (93, .aload_n 0, 1), (94, .bipush 7, 2), (96, .iload 8, 2), (98, .iload 9, 2), (100, .invokevirtual 125, 3), (103, .ifCond .eq 14, 3), (106, .iload 9, 2), (108, .bipush 9, 2), (110, .if_icmp .ge 7, 3), (113, .iconst 1, 1), (114, .goto 4, 3), (117, .iconst 0, 1), (118, .ireturn, 1)]
def tb159 : List (Nat × Instr × Nat) := [(0, .iload_n 2, 1), (1, .ifCond .ne 16, 3), (4, .iload_n 3, 1), (5, .iload_n 1, 1), (6, .if_icmp .gt 7, 3), (9, .iconst 1, 1), (10, .goto 32, 3), (13, .iconst 0, 1), (14, .goto 28, 3), (17, .iload_n 3, 1), (18, .iload_n 1, 1), (19, .if_icmp .le 22, 3), (22, .aload_n 0, 1), (23, .getfield 17, 3), (26, .aload_n 0, 1), (27, .getfield 115, 3), (30, .iload_n 1, 1), (31, .iadd, 1), (32, .iaload, 1), (33, .iload_n 2, 1), (34, .if_icmp .ne 7, 3), (37, .iconst 1, 1), (38, .goto 4, 3), (41, .iconst 0, 1), (42, .ireturn, 1)]
def tb160 : List (Nat × Instr × Nat) := [(0, .aload_n 0, 1), (1, .bipush 116, 2), (3, .bipush 101, 2), (5, .bipush 110, 2), (7, .bipush 101, 2), (9, .bipush 109, 2), (11, .bipush 101, 2), (13, .bipush 110, 2), (15, .bipush 116, 2), (17, .invokevirtual 129, 3), (20, .ifCond .eq 7, 3), (23, .iconst 1, 1), (24, .goto 125, 3), (27, .aload_n 0, 1), (28, .bipush 102, 2), (30, .bipush 108, 2), (32, .bipush 105, 2), (34, .bipush 103, 2), (36, .bipush 104, 2), (38, .bipush 116, 2), (40, .iconst 0, 1), (41, .iconst 0, 1), (42, .invokevirtual 129, 3), (45, .ifCond .eq 7, 3), (48, .iconst 2, 1), (49, .goto 100, 3), (52, .aload_n 0, 1), (53, .bipush 103, 2), (55, .bipush 111, 2), (57, .bipush 101, 2), (59, .bipush 114, 2), (61, .iconst 0, 1), (62, .iconst 0, 1), (63, .iconst 0, 1), (64, .iconst 0, 1), (65, .invokevirtual 129, 3), (68, .ifCond .eq 7, 3), (71, .iconst 3, 1), (72, .goto 77, 3), (75, .aload_n 0, 1), (76, .bipush 108, 2), (78, .bipush 111, 2), (80, .bipush 97, 2), (82, .bipush 100, 2), (84, .iconst 0, 1), (85, .iconst 0, 1), (86, .iconst 0, 1), (87, .iconst 0, 1), (88, .invokevirtual 129, 3), (91, .ifCond .eq 7, 3), (94, .iconst 4, 1), (95, .goto 54, 3), (98, .aload_n 0, 1), (99, .bipush 115, 2), (101, .bipush 116, 2), (103, .bipush 114, 2), (105, .bipush 105, 2), (107, .bipush 100, 2), (109, .bipush 101, 2), (111, .iconst 0, 1), (112, .iconst 0, 1), (113, .invokevirtual 129, 3), (116, .ifCond .eq 7, 3), (119, .iconst 5, 1), (120, .goto 29, 3), (123, .aload_n 0, 1), (124, .bipush 104, 2), (126, .bipush 111, 2), (128, .bipush 117, 2), (130, .bipush 114, 2), (132, .bipush 115, 2), (134, .iconst 0, 1), (135, .iconst 0, 1), (136, .iconst 0, 1), (137, .invokevirtual 129, 3), (140, .ifCond .eq 8, 3), (143, .bipush 6, 2), (145, .goto 4, 3), (148, .iconst 0, 1), (149, .ireturn, 1)]
def tb161 : List (Nat × Instr × Nat) := [(0, .aload_n 0, 1), (1, .invokevirtual 118, 3), (4, .aload_n 0, 1), (5, .iconst 0, 1), (6, .putfield 133, 3), (9, .aload_n 0, 1), (10, .aload_n 0, 1), (11, .getfield 109, 3), (14, .invokevirtual 112, 3), (17, .i2l, 1), (18, .ldc2_w 136, 3), (21, .ldc2_w 138, 3), (24, .invokestatic 46, 3), (27, .ifCond .eq 59, 3), (30, .aload_n 0, 1), (31, .aload_n 0, 1), (32, .getfield 109, 3), (35, .aload_n 0, 1), (36, .getfield 115, 3), (39, .isub, 1), (40, .iconst 2, 1), (41, .if_icmp .ge 25, 3), (44, .bipush 10, 2), (46, .aload_n 0, 1), (47, .getfield 133, 3), (50, .imul, 1), (51, .aload_n 0, 1), (52, .aload_n 0, 1), (53, .getfield 109, 3), (56, .invokevirtual 112, 3), (59, .iadd, 1), (60, .bipush 48, 2), (62, .isub, 1), (63, .goto 7, 3), (66, .aload_n 0, 1), (67, .getfield 133, 3), (70, .putfield 133, 3), (73, .aload_n 0, 1), (74, .dup, 1), (75, .getfield 109, 3), (78, .iconst 1, 1), (79, .iadd, 1), (80, .putfield 109, 3), (83, .goto (-74), 3), (86, .aload_n 0, 1), (87, .getfield 109, 3), (90, .aload_n 0, 1), (91, .getfield 115, 3), (94, .isub, 1), (95, .i2l, 1), (96, .lconst 1, 1), (97, .ldc2_w 140, 3), (100, .invokestatic 46, 3), (103, .ifCond .eq 22, 3), (106, .aload_n 0, 1), (107, .getfield 133, 3), (110, .i2l, 1), (111, .iload_n 1, 1), (112, .i2l, 1), (113, .iload_n 2, 1), (114, .i2l, 1), (115, .invokestatic 46, 3), (118, .ifCond .eq 7, 3), (121, .iconst 1, 1), (122, .goto 4, 3), (125, .iconst 0, 1), (126, .ireturn, 1)]
def tb162 : List (Nat × Instr × Nat) := [(0, .aload_n 0, 1), (1, .invokevirtual 118, 3), (4, .aload_n 0, 1), (5, .dup, 1), (6, .getfield 109, 3), (9, .iconst 1, 1), (10, .iadd, 1), (11, .putfield 109, 3), (14, .aload_n 0, 1), (15, .aload_n 0, 1), (16, .getfield 115, 3), (19, .invokevirtual 112, 3), (22, .bipush 59, 2), (24, .if_icmp .ne 7, 3), (27, .iconst 1, 1), (28, .goto 4, 3), (31, .iconst 0, 1), (32, .ireturn, 1)]
def tb163 : List (Nat × Instr × Nat) := [(0, .aload_n 0, 1), (1, .getfield 7, 3), (4, .sipush 744, 3), (7, .iaload, 1), (8, .iconst 3, 1), (9, .if_icmp .eq 12, 3), (12, .aload_n 0, 1), (13, .iconst 0, 1), (14, .iconst 5, 1), (15, .invokevirtual 142, 3), (18, .ifCond .ne 5, 3), (21, .iconst 0, 1), (22, .ireturn, 1), (23, .aload_n 0, 1), (24, .getfield 133, 3), (27, .istore_n 1, 1), (28, .aload_n 0, 1), (29, .iconst 1, 1), (30, .bipush 10, 2), (32, .invokevirtual 142, 3), (35, .ifCond .ne 5, 3), (38, .iconst 0, 1), (39, .ireturn, 1), (40, .aload_n 0, 1), (41, .sipush 744, 3), (44, .iload_n 1, 1), (45, .aload_n 0, 1), (46, .getfield 133, 3), (49, .invokevirtual 93, 3), (52, .iconst 1, 1), (53, .ireturn, 1)]
def tb164 : List (Nat × Instr × Nat) := [(0, .aload_n 0, 1), (1, .getfield 7, 3), (4, .sipush 745, 3), (7, .iaload, 1), (8, .bipush 6, 2), (10, .if_icmp .eq 12, 3), (13, .aload_n 0, 1), (14, .iconst 0, 1), (15, .iconst 5, 1), (16, .invokevirtual 142, 3), (19, .ifCond .ne 5, 3), (22, .iconst 0, 1), (23, .ireturn, 1), (24, .aload_n 0, 1), (25, .getfield 133, 3), (28, .istore_n 1, 1), (29, .aload_n 0, 1), (30, .iconst 1, 1), (31, .iconst 4, 1), (32, .invokevirtual 142, 3), (35, .ifCond .ne 5, 3), (38, .iconst 0, 1), (39, .ireturn, 1), (40, .aload_n 0, 1), (41, .getfield 133, 3), (44, .istore_n 2, 1), (45, .aload_n 0, 1), (46, .iconst 0, 1), (47, .aload_n 0, 1), (48, .getfield 7, 3), (51, .sipush 744, 3), (54, .iaload, 1), (55, .iconst 1, 1), (56, .isub, 1), (57, .invokevirtual 142, 3), (60, .ifCond .ne 5, 3), (63, .iconst 0, 1), (64, .ireturn, 1), (65, .aload_n 0, 1), (66, .sipush 744, 3), (69, .iload_n 1, 1), (70, .iload_n 2, 1), (71, .aload_n 0, 1), (72, .getfield 133, 3), (75, .invokevirtual 103, 3), (78, .iconst 1, 1), (79, .ireturn, 1)]
def tb165 : List (Nat × Instr × Nat) := [(0, .aload_n 0, 1), (1, .iconst 0, 1), (2, .aload_n 0, 1), (3, .getfield 7, 3), (6, .sipush 745, 3), (9, .iaload, 1), (10, .iconst 1, 1), (11, .isub, 1), (12, .invokevirtual 142, 3), (15, .ifCond .ne 5, 3), (18, .iconst 0, 1), (19, .ireturn, 1), (20, .aload_n 0, 1), (21, .getfield 133, 3), (24, .istore_n 1, 1), (25, .aload_n 0, 1), (26, .iconst 0, 1), (27, .bipush 9, 2), (29, .invokevirtual 142, 3), (32, .ifCond .ne 5, 3), (35, .iconst 0, 1), (36, .ireturn, 1), (37, .aload_n 0, 1), (38, .getfield 7, 3), (41, .sipush 778, 3), (44, .iload_n 1, 1), (45, .iadd, 1), (46, .aload_n 0, 1), (47, .getfield 133, 3), (50, .iastore, 1), (51, .iconst 1, 1), (52, .ireturn, 1)]
def tb166 : List (Nat × Instr × Nat) := [(0, .aload_n 0, 1), (1, .iconst 0, 1), (2, .aload_n 0, 1), (3, .getfield 7, 3), (6, .sipush 745, 3), (9, .iaload, 1), (10, .iconst 1, 1), (11, .isub, 1), (12, .invokevirtual 142, 3), (15, .ifCond .eq 21, 3), (18, .aload_n 0, 1), (19, .getfield 7, 3), (22, .sipush 772, 3), (25, .aload_n 0, 1), (26, .getfield 133, 3), (29, .iadd, 1), (30, .iaload, 1), (31, .bipush 11, 2), (33, .if_icmp .ne 5, 3), (36, .iconst 0, 1), (37, .ireturn, 1), (38, .aload_n 0, 1), (39, .getfield 133, 3), (42, .istore_n 1, 1), (43, .aload_n 0, 1), (44, .iconst 1, 1), (45, .aload_n 0, 1), (46, .sipush 744, 3), (49, .iload_n 1, 1), (50, .invokevirtual 146, 3), (53, .invokevirtual 142, 3), (56, .ifCond .ne 5, 3), (59, .iconst 0, 1), (60, .ireturn, 1), (61, .aload_n 0, 1), (62, .sipush 744, 3), (65, .iload_n 1, 1), (66, .aload_n 0, 1), (67, .getfield 133, 3), (70, .invokevirtual 149, 3), (73, .iconst 1, 1), (74, .ireturn, 1)]
def tb167 : List (Nat × Instr × Nat) := [(0, .aload_n 0, 1), (1, .iconst 1, 1), (2, .bipush 99, 2), (4, .invokevirtual 142, 3), (7, .ifCond .ne 5, 3), (10, .iconst 0, 1), (11, .ireturn, 1), (12, .aload_n 0, 1), (13, .sipush 744, 3), (16, .aload_n 0, 1), (17, .getfield 133, 3), (20, .invokevirtual 152, 3), (23, .iconst 1, 1), (24, .ireturn, 1)]
def tb168 : List (Nat × Instr × Nat) := [(0, .aload_n 0, 1), (1, .invokevirtual 156, 3), (4, .aload_n 0, 1), (5, .invokevirtual 159, 3), (8, .istore_n 2, 1), (9, .iload_n 1, 1), (10, .iload_n 2, 1), (11, .iconst 1, 1), (12, .if_icmp .ne 7, 3), (15, .iconst 1, 1), (16, .goto 4, 3), (19, .iconst 0, 1), (20, .if_icmp .eq 5, 3), (23, .iconst 0, 1), (24, .ireturn, 1), (25, .iload_n 2, 1), (26, .iconst 1, 1), (27, .if_icmp .eq 76, 3), (30, .iload_n 2, 1), (31, .iconst 2, 1), (32, .if_icmp .ne 13, 3), (35, .aload_n 0, 1), (36, .invokevirtual 162, 3), (39, .ifCond .eq 68, 3), (42, .goto 61, 3), (45, .iload_n 2, 1), (46, .iconst 3, 1), (47, .if_icmp .ne 13, 3), (50, .aload_n 0, 1), (51, .invokevirtual 166, 3), (54, .ifCond .eq 53, 3), (57, .goto 46, 3), (60, .iload_n 2, 1), (61, .iconst 4, 1), (62, .if_icmp .ne 13, 3), (65, .aload_n 0, 1), (66, .invokevirtual 169, 3), (69, .ifCond .eq 38, 3), (72, .goto 31, 3), (75, .iload_n 2, 1), (76, .iconst 5, 1), (77, .if_icmp .ne 13, 3), (80, .aload_n 0, 1), (81, .invokevirtual 172, 3), (84, .ifCond .eq 23, 3), (87, .goto 16, 3), (90, .iload_n 2, 1), (91, .bipush 6, 2), (93, .if_icmp .ne 14, 3), (96, .aload_n 0, 1), (97, .invokevirtual 175, 3), (100, .ifCond .eq 7, 3), (103, .iconst 1, 1), (104, .goto 4, 3), (107, .iconst 0, 1), (108, .istore_n 3, 1), (109, .iload_n 3, 1), (110, .ifCond .eq 14, 3), (113, .aload_n 0, 1), (114, .invokevirtual 178, 3), (117, .ifCond .eq 7, 3), (120, .iconst 1, 1), (121, .goto 4, 3), (124, .iconst 0, 1), (125, .ireturn, 1)]
def tb169 : List (Nat × Instr × Nat) := [(0, .aload_n 0, 1), (1, .sipush 744, 3), (4, .invokevirtual 78, 3), (7, .aload_n 0, 1), (8, .iconst 0, 1), (9, .putfield 109, 3), (12, .iconst 0, 1), (13, .istore_n 1, 1), (14, .aload_n 0, 1), (15, .invokevirtual 118, 3), (18, .iconst 1, 1), (19, .istore_n 2, 1), (20, .iload_n 2, 1), (21, .ifCond .eq 46, 3), (24, .aload_n 0, 1), (25, .getfield 115, 3), (28, .aload_n 0, 1), (29, .getfield 42, 3), (32, .if_icmp .lt 7, 3), (35, .iload_n 1, 1), (36, .ifCond .ne 31, 3), (39, .aload_n 0, 1), (40, .iload_n 1, 1), (41, .ifCond .ne 7, 3), (44, .iconst 1, 1), (45, .goto 4, 3), (48, .iconst 0, 1), (49, .invokevirtual 181, 3), (52, .istore_n 2, 1), (53, .iinc 1 1, 3), (56, .iload_n 2, 1), (57, .ifCond .eq (-37), 3), (60, .aload_n 0, 1), (61, .invokevirtual 118, 3), (64, .goto (-44), 3), (67, .iload_n 2, 1), (68, .ifCond .ne 11, 3), (71, .bipush (-10), 2), (73, .aload_n 0, 1), (74, .getfield 115, 3), (77, .isub, 1), (78, .ireturn, 1), (79, .aload_n 0, 1), (80, .sipush 744, 3), (83, .iconst 0, 1), (84, .invokevirtual 185, 3), (87, .iload_n 1, 1), (88, .ireturn, 1)]
def tb170 : List (Nat × Instr × Nat) := [(0, .aload_n 0, 1), (1, .getfield 7, 3), (4, .iload_n 1, 1), (5, .bipush 28, 2), (7, .iadd, 1), (8, .iload_n 2, 1), (9, .iadd, 1), (10, .iaload, 1), (11, .iload_n 3, 1), (12, .iadd, 1), (13, .istore 4, 2), (15, .iload 4, 2), (17, .bipush 11, 2), (19, .if_icmp .le 8, 3), (22, .bipush 11, 2), (24, .goto 5, 3), (27, .iload 4, 2), (29, .istore 4, 2), (31, .aload_n 0, 1), (32, .iload_n 1, 1), (33, .aload_n 0, 1), (34, .getfield 7, 3), (37, .iload_n 1, 1), (38, .bipush 22, 2), (40, .iadd, 1), (41, .iload_n 2, 1), (42, .iadd, 1), (43, .iaload, 1), (44, .invokevirtual 188, 3), (47, .iload 4, 2), (49, .invokestatic 191, 3), (52, .istore 5, 2), (54, .aload_n 0, 1), (55, .getfield 7, 3), (58, .iload_n 1, 1), (59, .bipush 28, 2), (61, .iadd, 1), (62, .iload_n 2, 1), (63, .iadd, 1), (64, .iload 5, 2), (66, .ifCond .eq 7, 3), (69, .iconst 0, 1), (70, .goto 5, 3), (73, .iload 4, 2), (75, .iastore, 1), (76, .aload_n 0, 1), (77, .getfield 7, 3), (80, .iload_n 1, 1), (81, .iconst 3, 1), (82, .iadd, 1), (83, .dup2, 1), (84, .iaload, 1), (85, .iload 5, 2), (87, .ifCond .eq 21, 3), (90, .aload_n 0, 1), (91, .getfield 7, 3), (94, .iload_n 1, 1), (95, .iconst 3, 1), (96, .iadd, 1), (97, .iaload, 1), (98, .sipush 9999, 3), (101, .if_icmp .ge 7, 3), (104, .iconst 1, 1), (105, .goto 4, 3), (108, .iconst 0, 1), (109, .iadd, 1), (110, .iastore, 1), (111, .return_, 1)]
def tb171 : List (Nat × Instr × Nat) := [(0, .aload_n 0, 1), (1, .getfield 7, 3), (4, .iload_n 1, 1), (5, .iconst 2, 1), (6, .iadd, 1), (7, .aload_n 0, 1), (8, .getfield 7, 3), (11, .iload_n 1, 1), (12, .iconst 2, 1), (13, .iadd, 1), (14, .iaload, 1), (15, .iload_n 2, 1), (16, .iadd, 1), (17, .sipush 9999, 3), (20, .if_icmp .le 9, 3), (23, .sipush 9999, 3), (26, .goto 13, 3), (29, .aload_n 0, 1), (30, .getfield 7, 3), (33, .iload_n 1, 1), (34, .iconst 2, 1), (35, .iadd, 1), (36, .iaload, 1), (37, .iload_n 2, 1), (38, .iadd, 1), (39, .iastore, 1), (40, .return_, 1)]
def tb172 : List (Nat × Instr × Nat) := [(0, .aload_n 0, 1), (1, .getfield 7, 3), (4, .bipush 111, 2), (6, .iaload, 1), (7, .bipush 8, 2), (9, .if_icmp .ne 49, 3), (12, .iconst 0, 1), (13, .istore_n 1, 1), (14, .iload_n 1, 1), (15, .bipush 119, 2), (17, .if_icmp .ge 30, 3), (20, .aload_n 0, 1), (21, .getfield 7, 3), (24, .bipush 112, 2), (26, .iload_n 1, 1), (27, .iadd, 1), (28, .aload_n 0, 1), (29, .getfield 7, 3), (32, .bipush 112, 2), (34, .iload_n 1, 1), (35, .iadd, 1), (36, .bipush 17, 2), (38, .iadd, 1), (39, .iaload, 1), (40, .iastore, 1), (41, .iinc 1 1, 3), (44, .goto (-30), 3), (47, .aload_n 0, 1), (48, .getfield 7, 3), (51, .bipush 111, 2), (53, .dup2, 1), (54, .iaload, 1), (55, .iconst 1, 1), (56, .isub, 1), (57, .iastore, 1), (58, .bipush 112, 2), (60, .bipush 17, 2), (62, .aload_n 0, 1), (63, .getfield 7, 3), (66, .bipush 111, 2), (68, .iaload, 1), (69, .imul, 1), (70, .iadd, 1), (71, .istore_n 1, 1), (72, .aload_n 0, 1), (73, .getfield 7, 3), (76, .iload_n 1, 1), (77, .aload_n 0, 1), (78, .getfield 7, 3), (81, .iconst 2, 1), (82, .iaload, 1), (83, .iastore, 1), (84, .aload_n 0, 1), (85, .getfield 7, 3), (88, .iload_n 1, 1), (89, .iconst 1, 1), (90, .iadd, 1), (91, .aload_n 0, 1), (92, .getfield 7, 3), (95, .iconst 3, 1), (96, .iaload, 1), (97, .iastore, 1), (98, .iconst 0, 1), (99, .istore_n 2, 1), (100, .iload_n 2, 1), (101, .iconst 3, 1), (102, .if_icmp .ge 28, 3), (105, .aload_n 0, 1), (106, .getfield 7, 3), (109, .iload_n 1, 1), (110, .iconst 2, 1), (111, .iadd, 1), (112, .iload_n 2, 1), (113, .iadd, 1), (114, .aload_n 0, 1), (115, .getfield 7, 3), (118, .bipush 7, 2), (120, .iload_n 2, 1), (121, .iadd, 1), (122, .iaload, 1), (123, .iastore, 1), (124, .iinc 2 1, 3), (127, .goto (-27), 3), (130, .iconst 0, 1), (131, .istore_n 2, 1), (132, .iload_n 2, 1), (133, .bipush 6, 2), (135, .if_icmp .ge 48, 3), (138, .aload_n 0, 1), (139, .getfield 7, 3), (142, .iload_n 1, 1), (143, .iconst 5, 1), (144, .iadd, 1), (145, .iload_n 2, 1), (146, .iadd, 1), (147, .aload_n 0, 1), (148, .getfield 7, 3), (151, .bipush 28, 2), (153, .iload_n 2, 1), (154, .iadd, 1), (155, .iaload, 1), (156, .iastore, 1), (157, .aload_n 0, 1), (158, .getfield 7, 3), (161, .iload_n 1, 1), (162, .bipush 11, 2), (164, .iadd, 1), (165, .iload_n 2, 1), (166, .iadd, 1), (167, .aload_n 0, 1), (168, .getfield 7, 3), (171, .bipush 34, 2), (173, .iload_n 2, 1), (174, .iadd, 1), (175, .iaload, 1), (176, .iastore, 1), (177, .iinc 2 1, 3), (180, .goto (-48), 3), (183, .aload_n 0, 1), (184, .getfield 7, 3), (187, .bipush 111, 2), (189, .dup2, 1), (190, .iaload, 1), (191, .iconst 1, 1), (192, .iadd, 1), (193, .iastore, 1), (194, .return_, 1)]
def tb173 : List (Nat × Instr × Nat) := [(0, .aload_n 0, 1), (1, .iload_n 1, 1), (2, .invokevirtual 194, 3), (5, .ifCond .eq 15, 3), (8, .iload_n 2, 1), (9, .i2l, 1), (10, .lconst 1, 1), (11, .ldc2_w 52, 3), (14, .invokestatic 46, 3), (17, .ifCond .ne 10, 3), (20, .aload_n 0, 1), (21, .bipush (-2), 2), (23, .invokevirtual 86, 3), (26, .ireturn, 1), (27, .aload_n 0, 1), (28, .getfield 7, 3), (31, .bipush 28, 2), (33, .iload_n 1, 1), (34, .iadd, 1), (35, .iaload, 1), (36, .bipush 11, 2), (38, .if_icmp .eq 13, 3), (41, .iload_n 2, 1), (42, .aload_n 0, 1), (43, .iconst 0, 1), (44, .iload_n 1, 1), (45, .invokevirtual 146, 3), (48, .if_icmp .le 8, 3), (51, .aload_n 0, 1), (52, .invokevirtual 197, 3), (55, .ireturn, 1), (56, .aload_n 0, 1), (57, .invokevirtual 200, 3), (60, .aload_n 0, 1), (61, .iconst 0, 1), (62, .iload_n 1, 1), (63, .iload_n 2, 1), (64, .invokevirtual 149, 3), (67, .aload_n 0, 1), (68, .getfield 7, 3), (71, .bipush 28, 2), (73, .iload_n 1, 1), (74, .iadd, 1), (75, .iaload, 1), (76, .ireturn, 1)]
def tb174 : List (Nat × Instr × Nat) := [(0, .aload_n 0, 1), (1, .iload_n 1, 1), (2, .invokevirtual 194, 3), (5, .ifCond .ne 10, 3), (8, .aload_n 0, 1), (9, .bipush (-2), 2), (11, .invokevirtual 86, 3), (14, .ireturn, 1), (15, .aload_n 0, 1), (16, .getfield 7, 3), (19, .bipush 28, 2), (21, .iload_n 1, 1), (22, .iadd, 1), (23, .iaload, 1), (24, .istore_n 2, 1), (25, .iload_n 2, 1), (26, .ifCond .ne 8, 3), (29, .aload_n 0, 1), (30, .invokevirtual 197, 3), (33, .ireturn, 1), (34, .aload_n 0, 1), (35, .invokevirtual 200, 3), (38, .aload_n 0, 1), (39, .getfield 7, 3), (42, .bipush 28, 2), (44, .iload_n 1, 1), (45, .iadd, 1), (46, .iconst 0, 1), (47, .iastore, 1), (48, .iload_n 2, 1), (49, .ireturn, 1)]
def tb175 : List (Nat × Instr × Nat) := [(0, .aload_n 0, 1), (1, .iload_n 1, 1), (2, .invokevirtual 194, 3), (5, .ifCond .eq 15, 3), (8, .iload_n 2, 1), (9, .i2l, 1), (10, .lconst 0, 1), (11, .ldc2_w 52, 3), (14, .invokestatic 46, 3), (17, .ifCond .ne 10, 3), (20, .aload_n 0, 1), (21, .bipush (-2), 2), (23, .invokevirtual 86, 3), (26, .ireturn, 1), (27, .aload_n 0, 1), (28, .getfield 7, 3), (31, .bipush 34, 2), (33, .iload_n 1, 1), (34, .iadd, 1), (35, .iaload, 1), (36, .istore_n 3, 1), (37, .iload_n 3, 1), (38, .iload_n 2, 1), (39, .if_icmp .ne 8, 3), (42, .aload_n 0, 1), (43, .invokevirtual 197, 3), (46, .ireturn, 1), (47, .aload_n 0, 1), (48, .invokevirtual 200, 3), (51, .aload_n 0, 1), (52, .getfield 7, 3), (55, .bipush 34, 2), (57, .iload_n 1, 1), (58, .iadd, 1), (59, .iload_n 2, 1), (60, .iastore, 1), (61, .iload_n 3, 1), (62, .ireturn, 1)]
def tb176 : List (Nat × Instr × Nat) := [(0, .aload_n 0, 1), (1, .iload_n 1, 1), (2, .invokevirtual 99, 3), (5, .ifCond .eq 15, 3), (8, .iload_n 2, 1), (9, .i2l, 1), (10, .lconst 1, 1), (11, .ldc2_w 84, 3), (14, .invokestatic 46, 3), (17, .ifCond .ne 10, 3), (20, .aload_n 0, 1), (21, .bipush (-2), 2), (23, .invokevirtual 86, 3), (26, .ireturn, 1), (27, .aload_n 0, 1), (28, .getfield 7, 3), (31, .bipush 7, 2), (33, .iload_n 1, 1), (34, .iadd, 1), (35, .iaload, 1), (36, .istore_n 3, 1), (37, .iload_n 3, 1), (38, .iload_n 2, 1), (39, .if_icmp .ne 8, 3), (42, .aload_n 0, 1), (43, .invokevirtual 197, 3), (46, .ireturn, 1), (47, .aload_n 0, 1), (48, .invokevirtual 200, 3), (51, .aload_n 0, 1), (52, .getfield 7, 3), (55, .bipush 7, 2), (57, .iload_n 1, 1), (58, .iadd, 1), (59, .iload_n 2, 1), (60, .iastore, 1), (61, .iload_n 3, 1), (62, .ireturn, 1)]
def tb177 : List (Nat × Instr × Nat) := [(0, .iload_n 1, 1), (1, .i2l, 1), (2, .lconst 1, 1), (3, .ldc2_w 203, 3), (6, .invokestatic 46, 3), (9, .ifCond .ne 10, 3), (12, .aload_n 0, 1), (13, .bipush (-2), 2), (15, .invokevirtual 86, 3), (18, .ireturn, 1), (19, .aload_n 0, 1), (20, .invokevirtual 200, 3), (23, .aload_n 0, 1), (24, .iconst 0, 1), (25, .iload_n 1, 1), (26, .invokevirtual 152, 3), (29, .aload_n 0, 1), (30, .getfield 7, 3), (33, .iconst 2, 1), (34, .iaload, 1), (35, .ireturn, 1)]
def tb178 : List (Nat × Instr × Nat) := [(0, .aload_n 0, 1), (1, .getfield 7, 3), (4, .bipush 111, 2), (6, .iaload, 1), (7, .ifCond .ne 8, 3), (10, .aload_n 0, 1), (11, .invokevirtual 197, 3), (14, .ireturn, 1), (15, .aload_n 0, 1), (16, .getfield 7, 3), (19, .bipush 111, 2), (21, .dup2, 1), (22, .iaload, 1), (23, .iconst 1, 1), (24, .isub, 1), (25, .iastore, 1), (26, .bipush 112, 2), (28, .bipush 17, 2), (30, .aload_n 0, 1), (31, .getfield 7, 3), (34, .bipush 111, 2), (36, .iaload, 1), (37, .imul, 1), (38, .iadd, 1), (39, .istore_n 1, 1), (40, .aload_n 0, 1), (41, .getfield 7, 3), (44, .iconst 2, 1), (45, .aload_n 0, 1), (46, .getfield 7, 3), (49, .iload_n 1, 1), (50, .iaload, 1), (51, .iastore, 1), (52, .aload_n 0, 1), (53, .getfield 7, 3), (56, .iconst 3, 1), (57, .aload_n 0, 1), (58, .getfield 7, 3), (61, .iload_n 1, 1), (62, .iconst 1, 1), (63, .iadd, 1), (64, .iaload, 1), (65, .iastore, 1), (66, .iconst 0, 1), (67, .istore_n 2, 1), (68, .iload_n 2, 1), (69, .iconst 3, 1), (70, .if_icmp .ge 28, 3), (73, .aload_n 0, 1), (74, .getfield 7, 3), (77, .bipush 7, 2), (79, .iload_n 2, 1), (80, .iadd, 1), (81, .aload_n 0, 1), (82, .getfield 7, 3), (85, .iload_n 1, 1), (86, .iconst 2, 1), (87, .iadd, 1), (88, .iload_n 2, 1), (89, .iadd, 1), (90, .iaload, 1), (91, .iastore, 1), (92, .iinc 2 1, 3), (95, .goto (-27), 3), (98, .iconst 0, 1), (99, .istore_n 2, 1), (100, .iload_n 2, 1), (101, .bipush 6, 2), (103, .if_icmp .ge 48, 3), (106, .aload_n 0, 1), (107, .getfield 7, 3), (110, .bipush 28, 2), (112, .iload_n 2, 1), (113, .iadd, 1), (114, .aload_n 0, 1), (115, .getfield 7, 3), (118, .iload_n 1, 1), (119, .iconst 5, 1), (120, .iadd, 1), (121, .iload_n 2, 1), (122, .iadd, 1), (123, .iaload, 1), (124, .iastore, 1), (125, .aload_n 0, 1), (126, .getfield 7, 3), (129, .bipush 34, 2), (131, .iload_n 2, 1), (132, .iadd, 1), (133, .aload_n 0, 1), (134, .getfield 7, 3), (137, .iload_n 1, 1), (138, .bipush 11, 2), (140, .iadd, 1), (141, .iload_n 2, 1), (142, .iadd, 1), (143, .iaload, 1), (144, .iastore, 1), (145, .iinc 2 1, 3), (148, .goto (-48), 3), (151, .aload_n 0, 1), (152, .getfield 7, 3), (155, .iconst 2, 1), (156, .iaload, 1), (157, .ireturn, 1)]
def tb179 : List (Nat × Instr × Nat) := [(0, .aload_n 0, 1), (1, .iload_n 1, 1), (2, .invokevirtual 194, 3), (5, .ifCond .eq 15, 3), (8, .iload_n 2, 1), (9, .i2l, 1), (10, .lconst 0, 1), (11, .ldc2_w 82, 3), (14, .invokestatic 46, 3), (17, .ifCond .ne 10, 3), (20, .aload_n 0, 1), (21, .bipush (-2), 2), (23, .invokevirtual 86, 3), (26, .ireturn, 1), (27, .aload_n 0, 1), (28, .iload_n 1, 1), (29, .iload_n 2, 1), (30, .invokevirtual 205, 3), (33, .ireturn, 1)]
def tb180 : List (Nat × Instr × Nat) := [(0, .iload_n 2, 1), (1, .tableswitch 85 0 4 #[35, 45, 55, 65, 75], 35), (36, .aload_n 0, 1), (37, .getfield 7, 3), (40, .bipush 10, 2), (42, .iload_n 1, 1), (43, .iadd, 1), (44, .iaload, 1), (45, .ireturn, 1), (46, .aload_n 0, 1), (47, .getfield 7, 3), (50, .bipush 16, 2), (52, .iload_n 1, 1), (53, .iadd, 1), (54, .iaload, 1), (55, .ireturn, 1), (56, .aload_n 0, 1), (57, .getfield 7, 3), (60, .bipush 22, 2), (62, .iload_n 1, 1), (63, .iadd, 1), (64, .iaload, 1), (65, .ireturn, 1), (66, .aload_n 0, 1), (67, .getfield 7, 3), (70, .bipush 28, 2), (72, .iload_n 1, 1), (73, .iadd, 1), (74, .iaload, 1), (75, .ireturn, 1), (76, .aload_n 0, 1), (77, .getfield 7, 3), (80, .bipush 34, 2), (82, .iload_n 1, 1), (83, .iadd, 1), (84, .iaload, 1), (85, .ireturn, 1), (86, .aload_n 0, 1), (87, .iconst 0, 1), (88, .iload_n 1, 1), (89, .invokevirtual 146, 3), (92, .ireturn, 1)]
def tb181 : List (Nat × Instr × Nat) := [(0, .aload_n 0, 1), (1, .iload_n 1, 1), (2, .invokevirtual 99, 3), (5, .ifCond .eq 15, 3), (8, .iload_n 2, 1), (9, .i2l, 1), (10, .lconst 0, 1), (11, .ldc2_w 140, 3), (14, .invokestatic 46, 3), (17, .ifCond .ne 10, 3), (20, .aload_n 0, 1), (21, .bipush (-2), 2), (23, .invokevirtual 86, 3), (26, .ireturn, 1), (27, .iload_n 2, 1), (28, .ifCond .ne 14, 3), (31, .aload_n 0, 1), (32, .getfield 7, 3), (35, .iconst 4, 1), (36, .iload_n 1, 1), (37, .iadd, 1), (38, .iaload, 1), (39, .goto 26, 3), (42, .iload_n 2, 1), (43, .iconst 1, 1), (44, .if_icmp .ne 15, 3), (47, .aload_n 0, 1), (48, .getfield 7, 3), (51, .bipush 7, 2), (53, .iload_n 1, 1), (54, .iadd, 1), (55, .iaload, 1), (56, .goto 9, 3), (59, .aload_n 0, 1), (60, .iconst 0, 1), (61, .iload_n 1, 1), (62, .invokevirtual 188, 3), (65, .ireturn, 1)]
def tb182 : List (Nat × Instr × Nat) := [(0, .aload_n 0, 1), (1, .getfield 30, 3), (4, .bipush 11, 2), (6, .iconst 0, 1), (7, .iastore, 1), (8, .bipush 10, 2), (10, .istore_n 3, 1), (11, .iload_n 3, 1), (12, .ifCond .lt 103, 3), (15, .aload_n 0, 1), (16, .getfield 30, 3), (19, .iload_n 3, 1), (20, .ldc 208, 2), (22, .iastore, 1), (23, .iconst 1, 1), (24, .istore 4, 2), (26, .iload 4, 2), (28, .iload_n 1, 1), (29, .if_icmp .gt 80, 3), (32, .iload_n 3, 1), (33, .iload 4, 2), (35, .iadd, 1), (36, .bipush 11, 2), (38, .if_icmp .le 8, 3), (41, .bipush 11, 2), (43, .goto 7, 3), (46, .iload_n 3, 1), (47, .iload 4, 2), (49, .iadd, 1), (50, .istore 5, 2), (52, .aload_n 0, 1), (53, .getfield 30, 3), (56, .iload_n 3, 1), (57, .iload_n 2, 1), (58, .iload 5, 2), (60, .invokestatic 191, 3), (63, .ifCond .ne 33, 3), (66, .aload_n 0, 1), (67, .getfield 30, 3), (70, .iload 5, 2), (72, .iaload, 1), (73, .iconst 1, 1), (74, .iadd, 1), (75, .aload_n 0, 1), (76, .getfield 30, 3), (79, .iload_n 3, 1), (80, .iaload, 1), (81, .if_icmp .ge 15, 3), (84, .aload_n 0, 1), (85, .getfield 30, 3), (88, .iload 5, 2), (90, .iaload, 1), (91, .iconst 1, 1), (92, .iadd, 1), (93, .goto 9, 3), (96, .aload_n 0, 1), (97, .getfield 30, 3), (100, .iload_n 3, 1), (101, .iaload, 1), (102, .iastore, 1), (103, .iinc 4 1, 3), (106, .goto (-80), 3), (109, .iinc 3 (-1), 3), (112, .goto (-101), 3), (115, .return_, 1)]
def tb183 : List (Nat × Instr × Nat) := [(0, .iconst 1, 1), (1, .istore_n 3, 1), (2, .iload_n 2, 1), (3, .iload_n 1, 1), (4, .iload_n 3, 1), (5, .iadd, 1), (6, .bipush 11, 2), (8, .if_icmp .le 8, 3), (11, .bipush 11, 2), (13, .goto 6, 3), (16, .iload_n 1, 1), (17, .iload_n 3, 1), (18, .iadd, 1), (19, .invokestatic 191, 3), (22, .ifCond .ne 35, 3), (25, .aload_n 0, 1), (26, .getfield 30, 3), (29, .iload_n 1, 1), (30, .iload_n 3, 1), (31, .iadd, 1), (32, .bipush 11, 2), (34, .if_icmp .le 8, 3), (37, .bipush 11, 2), (39, .goto 6, 3), (42, .iload_n 1, 1), (43, .iload_n 3, 1), (44, .iadd, 1), (45, .iaload, 1), (46, .aload_n 0, 1), (47, .getfield 30, 3), (50, .iload_n 1, 1), (51, .iaload, 1), (52, .iconst 1, 1), (53, .isub, 1), (54, .if_icmp .eq 9, 3), (57, .iinc 3 1, 3), (60, .goto (-58), 3), (63, .iload_n 3, 1), (64, .ireturn, 1)]
def tb184 : List (Nat × Instr × Nat) := [(0, .iload_n 0, 1), (1, .iload_n 1, 1), (2, .iadd, 1), (3, .bipush 11, 2), (5, .if_icmp .le 8, 3), (8, .bipush 11, 2), (10, .goto 6, 3), (13, .iload_n 0, 1), (14, .iload_n 1, 1), (15, .iadd, 1), (16, .ireturn, 1)]
def tb185 : List (Nat × Instr × Nat) := [(0, .aload_n 0, 1), (1, .aload_n 0, 1), (2, .iconst 0, 1), (3, .iload_n 1, 1), (4, .invokevirtual 146, 3), (7, .aload_n 0, 1), (8, .iconst 0, 1), (9, .aload_n 0, 1), (10, .getfield 7, 3), (13, .bipush 22, 2), (15, .iload_n 1, 1), (16, .iadd, 1), (17, .iaload, 1), (18, .invokevirtual 188, 3), (21, .invokevirtual 209, 3), (24, .return_, 1)]
def tb186 : List (Nat × Instr × Nat) := [(0, .aload_n 0, 1), (1, .iload_n 1, 1), (2, .invokevirtual 194, 3), (5, .ifCond .eq 8, 3), (8, .iload_n 2, 1), (9, .iconst (-1), 1), (10, .if_icmp .ge 10, 3), (13, .aload_n 0, 1), (14, .bipush (-10), 2), (16, .invokevirtual 86, 3), (19, .ireturn, 1), (20, .aload_n 0, 1), (21, .iload_n 1, 1), (22, .invokevirtual 212, 3), (25, .aload_n 0, 1), (26, .getfield 7, 3), (29, .bipush 28, 2), (31, .iload_n 1, 1), (32, .iadd, 1), (33, .iaload, 1), (34, .istore_n 3, 1), (35, .aload_n 0, 1), (36, .getfield 30, 3), (39, .iload_n 3, 1), (40, .iaload, 1), (41, .ldc 208, 2), (43, .if_icmp .lt 6, 3), (46, .bipush (-6), 2), (48, .ireturn, 1), (49, .aload_n 0, 1), (50, .getfield 30, 3), (53, .iload_n 3, 1), (54, .iaload, 1), (55, .istore 4, 2), (57, .iload_n 2, 1), (58, .iconst (-1), 1), (59, .if_icmp .ne 6, 3), (62, .iload 4, 2), (64, .ireturn, 1), (65, .iload_n 2, 1), (66, .iload 4, 2), (68, .if_icmp .lt 6, 3), (71, .bipush (-5), 2), (73, .ireturn, 1), (74, .iconst 0, 1), (75, .istore 5, 2), (77, .iconst 0, 1), (78, .istore 6, 2), (80, .iload 6, 2), (82, .iload_n 2, 1), (83, .if_icmp .gt 37, 3), (86, .aload_n 0, 1), (87, .iload_n 3, 1), (88, .aload_n 0, 1), (89, .iconst 0, 1), (90, .aload_n 0, 1), (91, .getfield 7, 3), (94, .bipush 22, 2), (96, .iload_n 1, 1), (97, .iadd, 1), (98, .iaload, 1), (99, .invokevirtual 188, 3), (102, .invokevirtual 215, 3), (105, .istore 5, 2), (107, .iload_n 3, 1), (108, .iload 5, 2), (110, .invokestatic 218, 3), (113, .istore_n 3, 1), (114, .iinc 6 1, 3), (117, .goto (-37), 3), (120, .iload 5, 2), (122, .ireturn, 1)]
def tb187 : List (Nat × Instr × Nat) := [(0, .iconst 0, 1), (1, .istore_n 1, 1), (2, .iconst 0, 1), (3, .istore_n 2, 1), (4, .iload_n 2, 1), (5, .aload_n 0, 1), (6, .getfield 7, 3), (9, .iconst 1, 1), (10, .iaload, 1), (11, .if_icmp .ge 43, 3), (14, .aload_n 0, 1), (15, .iload_n 2, 1), (16, .invokevirtual 212, 3), (19, .iload_n 1, 1), (20, .aload_n 0, 1), (21, .getfield 30, 3), (24, .aload_n 0, 1), (25, .getfield 7, 3), (28, .bipush 28, 2), (30, .iload_n 2, 1), (31, .iadd, 1), (32, .iaload, 1), (33, .iaload, 1), (34, .ldc 208, 2), (36, .if_icmp .lt 9, 3), (39, .iconst 1, 1), (40, .iload_n 2, 1), (41, .ishl, 1), (42, .goto 4, 3), (45, .iconst 0, 1), (46, .ior, 1), (47, .istore_n 1, 1), (48, .iinc 2 1, 3), (51, .goto (-47), 3), (54, .iload_n 1, 1), (55, .ireturn, 1)]
def tb188 : List (Nat × Instr × Nat) := [(0, .aload_n 0, 1), (1, .iload_n 1, 1), (2, .invokevirtual 194, 3), (5, .ifCond .eq 13, 3), (8, .iload_n 2, 1), (9, .i2l, 1), (10, .lconst 0, 1), (11, .lconst 1, 1), (12, .invokestatic 46, 3), (15, .ifCond .ne 10, 3), (18, .aload_n 0, 1), (19, .bipush (-2), 2), (21, .invokevirtual 86, 3), (24, .ireturn, 1), (25, .aload_n 0, 1), (26, .getfield 7, 3), (29, .bipush 22, 2), (31, .iload_n 1, 1), (32, .iadd, 1), (33, .iaload, 1), (34, .istore_n 3, 1), (35, .iconst (-1), 1), (36, .istore 4, 2), (38, .ldc 208, 2), (40, .istore 5, 2), (42, .iconst 0, 1), (43, .istore 6, 2), (45, .iload 6, 2), (47, .bipush 24, 2), (49, .if_icmp .ge 115, 3), (52, .aload_n 0, 1), (53, .aload_n 0, 1), (54, .getfield 7, 3), (57, .bipush 10, 2), (59, .iload_n 1, 1), (60, .iadd, 1), (61, .iaload, 1), (62, .aload_n 0, 1), (63, .getfield 7, 3), (66, .bipush 16, 2), (68, .iload_n 1, 1), (69, .iadd, 1), (70, .iaload, 1), (71, .aload_n 0, 1), (72, .getfield 7, 3), (75, .bipush 34, 2), (77, .iload_n 1, 1), (78, .iadd, 1), (79, .iaload, 1), (80, .iload 6, 2), (82, .invokestatic 74, 3), (85, .aload_n 0, 1), (86, .getfield 7, 3), (89, .iconst 4, 1), (90, .iload_n 3, 1), (91, .iadd, 1), (92, .iaload, 1), (93, .aload_n 0, 1), (94, .getfield 7, 3), (97, .bipush 7, 2), (99, .iload_n 3, 1), (100, .iadd, 1), (101, .iaload, 1), (102, .iload 6, 2), (104, .invokestatic 70, 3), (107, .invokevirtual 209, 3), (110, .aload_n 0, 1), (111, .getfield 30, 3), (114, .aload_n 0, 1), (115, .getfield 7, 3), (118, .bipush 28, 2), (120, .iload_n 1, 1), (121, .iadd, 1), (122, .iaload, 1), (123, .iaload, 1), (124, .istore 7, 2), (126, .iload 7, 2), (128, .iload 5, 2), (130, .if_icmp .ge 8, 3), (133, .iload 6, 2), (135, .goto 5, 3), (138, .iload 4, 2), (140, .istore 4, 2), (142, .iload 7, 2), (144, .iload 5, 2), (146, .if_icmp .ge 8, 3), (149, .iload 7, 2), (151, .goto 5, 3), (154, .iload 5, 2), (156, .istore 5, 2), (158, .iinc 6 1, 3), (161, .goto (-116), 3), (164, .iload 4, 2), (166, .iconst (-1), 1), (167, .if_icmp .ne 7, 3), (170, .iconst (-1), 1), (171, .goto 14, 3), (174, .iload_n 2, 1), (175, .ifCond .ne 8, 3), (178, .iload 4, 2), (180, .goto 5, 3), (183, .iload 5, 2), (185, .ireturn, 1)]
def tb189 : List (Nat × Instr × Nat) := [(0, .aload_n 0, 1), (1, .iload_n 1, 1), (2, .invokevirtual 99, 3), (5, .ifCond .eq 13, 3), (8, .iload_n 2, 1), (9, .i2l, 1), (10, .lconst 0, 1), (11, .lconst 1, 1), (12, .invokestatic 46, 3), (15, .ifCond .ne 10, 3), (18, .aload_n 0, 1), (19, .bipush (-2), 2), (21, .invokevirtual 86, 3), (24, .ireturn, 1), (25, .iconst (-1), 1), (26, .istore_n 3, 1), (27, .ldc 208, 2), (29, .istore 4, 2), (31, .iconst 1, 1), (32, .istore 5, 2), (34, .iload 5, 2), (36, .bipush 10, 2), (38, .if_icmp .gt 136, 3), (41, .iconst 0, 1), (42, .istore 6, 2), (44, .iconst 0, 1), (45, .istore 7, 2), (47, .iload 7, 2), (49, .aload_n 0, 1), (50, .getfield 7, 3), (53, .iconst 1, 1), (54, .iaload, 1), (55, .if_icmp .ge 83, 3), (58, .aload_n 0, 1), (59, .getfield 7, 3), (62, .bipush 22, 2), (64, .iload 7, 2), (66, .iadd, 1), (67, .iaload, 1), (68, .iload_n 1, 1), (69, .if_icmp .ne 63, 3), (72, .aload_n 0, 1), (73, .aload_n 0, 1), (74, .iconst 0, 1), (75, .iload 7, 2), (77, .invokevirtual 146, 3), (80, .aload_n 0, 1), (81, .getfield 7, 3), (84, .iconst 4, 1), (85, .iload_n 1, 1), (86, .iadd, 1), (87, .iaload, 1), (88, .iload 5, 2), (90, .aload_n 0, 1), (91, .getfield 7, 3), (94, .iconst 2, 1), (95, .iaload, 1), (96, .bipush 24, 2), (98, .irem, 1), (99, .invokestatic 70, 3), (102, .invokevirtual 209, 3), (105, .iload 6, 2), (107, .aload_n 0, 1), (108, .getfield 30, 3), (111, .iconst 0, 1), (112, .iaload, 1), (113, .ldc 208, 2), (115, .if_icmp .lt 8, 3), (118, .bipush 20, 2), (120, .goto 9, 3), (123, .aload_n 0, 1), (124, .getfield 30, 3), (127, .iconst 0, 1), (128, .iaload, 1), (129, .iadd, 1), (130, .istore 6, 2), (132, .iinc 7 1, 3), (135, .goto (-88), 3), (138, .iload 6, 2), (140, .iload 4, 2), (142, .if_icmp .ge 8, 3), (145, .iload 5, 2), (147, .goto 4, 3), (150, .iload_n 3, 1), (151, .istore_n 3, 1), (152, .iload 6, 2), (154, .iload 4, 2), (156, .if_icmp .ge 8, 3), (159, .iload 6, 2), (161, .goto 5, 3), (164, .iload 4, 2), (166, .istore 4, 2), (168, .iinc 5 1, 3), (171, .goto (-137), 3), (174, .iload_n 2, 1), (175, .ifCond .ne 7, 3), (178, .iload_n 3, 1), (179, .goto 5, 3), (182, .iload 4, 2), (184, .ireturn, 1)]
def tb190 : List (Nat × Instr × Nat) := [(0, .aload_n 0, 1), (1, .iload_n 1, 1), (2, .invokevirtual 212, 3), (5, .aload_n 0, 1), (6, .getfield 7, 3), (9, .bipush 28, 2), (11, .iload_n 1, 1), (12, .iadd, 1), (13, .iaload, 1), (14, .istore_n 3, 1), (15, .aload_n 0, 1), (16, .getfield 30, 3), (19, .iload_n 3, 1), (20, .iaload, 1), (21, .ldc 208, 2), (23, .if_icmp .ge 7, 3), (26, .iconst 1, 1), (27, .goto 4, 3), (30, .iconst 0, 1), (31, .istore 4, 2), (33, .aload_n 2, 1), (34, .iconst 0, 1), (35, .iload_n 3, 1), (36, .iastore, 1), (37, .iconst 1, 1), (38, .istore 5, 2), (40, .iload 5, 2), (42, .bipush 13, 2), (44, .if_icmp .ge 54, 3), (47, .iload 4, 2), (49, .ifCond .eq 49, 3), (52, .iload_n 3, 1), (53, .bipush 11, 2), (55, .if_icmp .ne 8, 3), (58, .bipush 11, 2), (60, .goto 26, 3), (63, .iload_n 3, 1), (64, .aload_n 0, 1), (65, .iload_n 3, 1), (66, .aload_n 0, 1), (67, .iconst 0, 1), (68, .aload_n 0, 1), (69, .getfield 7, 3), (72, .bipush 22, 2), (74, .iload_n 1, 1), (75, .iadd, 1), (76, .iaload, 1), (77, .invokevirtual 188, 3), (80, .invokevirtual 215, 3), (83, .invokestatic 218, 3), (86, .istore_n 3, 1), (87, .aload_n 2, 1), (88, .iload 5, 2), (90, .iload_n 3, 1), (91, .iastore, 1), (92, .iinc 5 1, 3), (95, .goto (-55), 3), (98, .iload 4, 2), (100, .ireturn, 1)]
def tb191 : List (Nat × Instr × Nat) := [(0, .aload_n 0, 1), (1, .iload_n 1, 1), (2, .invokevirtual 194, 3), (5, .ifCond .eq 37, 3), (8, .aload_n 0, 1), (9, .iload_n 2, 1), (10, .invokevirtual 194, 3), (13, .ifCond .eq 29, 3), (16, .iload_n 1, 1), (17, .iload_n 2, 1), (18, .if_icmp .eq 24, 3), (21, .aload_n 0, 1), (22, .getfield 7, 3), (25, .bipush 22, 2), (27, .iload_n 1, 1), (28, .iadd, 1), (29, .iaload, 1), (30, .aload_n 0, 1), (31, .getfield 7, 3), (34, .bipush 22, 2), (36, .iload_n 2, 1), (37, .iadd, 1), (38, .iaload, 1), (39, .if_icmp .eq 10, 3), (42, .aload_n 0, 1), (43, .bipush (-2), 2), (45, .invokevirtual 86, 3), (48, .ireturn, 1), (49, .aload_n 0, 1), (50, .iload_n 1, 1), (51, .aload_n 0, 1), (52, .getfield 33, 3), (55, .invokevirtual 221, 3), (58, .ifCond .eq 19, 3), (61, .aload_n 0, 1), (62, .iload_n 2, 1), (63, .aload_n 0, 1), (64, .getfield 36, 3), (67, .invokevirtual 221, 3), (70, .ifCond .eq 7, 3), (73, .iconst 1, 1), (74, .goto 4, 3), (77, .iconst 0, 1), (78, .istore_n 3, 1), (79, .iconst 0, 1), (80, .istore 4, 2), (82, .iload 4, 2), (84, .bipush 11, 2), (86, .if_icmp .gt 33, 3), (89, .iload_n 3, 1), (90, .ifCond .eq 29, 3), (93, .aload_n 0, 1), (94, .getfield 33, 3), (97, .iload 4, 2), (99, .iaload, 1), (100, .aload_n 0, 1), (101, .getfield 36, 3), (104, .iload 4, 2), (106, .iaload, 1), (107, .if_icmp .ne 6, 3), (110, .iload 4, 2), (112, .ireturn, 1), (113, .iinc 4 1, 3), (116, .goto (-34), 3), (119, .iconst (-1), 1), (120, .ireturn, 1)]
def tb192 : List (Nat × Instr × Nat) := [(0, .aload_n 0, 1), (1, .iload_n 1, 1), (2, .invokevirtual 99, 3), (5, .ifCond .eq 33, 3), (8, .iload_n 2, 1), (9, .i2l, 1), (10, .lconst 1, 1), (11, .ldc2_w 84, 3), (14, .invokestatic 46, 3), (17, .ifCond .eq 21, 3), (20, .iload_n 3, 1), (21, .invokestatic 225, 3), (24, .ifCond .eq 14, 3), (27, .iload 4, 2), (29, .i2l, 1), (30, .lconst 0, 1), (31, .lconst 1, 1), (32, .invokestatic 46, 3), (35, .ifCond .ne 10, 3), (38, .aload_n 0, 1), (39, .bipush (-2), 2), (41, .invokevirtual 86, 3), (44, .ireturn, 1), (45, .aload_n 0, 1), (46, .getfield 7, 3), (49, .bipush 40, 2), (51, .iaload, 1), (52, .iconst 5, 1), (53, .if_icmp .ne 8, 3), (56, .aload_n 0, 1), (57, .invokevirtual 89, 3), (60, .ireturn, 1), (61, .bipush 41, 2), (63, .iconst 4, 1), (64, .aload_n 0, 1), (65, .getfield 7, 3), (68, .bipush 40, 2), (70, .iaload, 1), (71, .imul, 1), (72, .iadd, 1), (73, .istore 5, 2), (75, .aload_n 0, 1), (76, .getfield 7, 3), (79, .iload 5, 2), (81, .iload_n 1, 1), (82, .iastore, 1), (83, .aload_n 0, 1), (84, .getfield 7, 3), (87, .iload 5, 2), (89, .iconst 1, 1), (90, .iadd, 1), (91, .iload_n 2, 1), (92, .iastore, 1), (93, .aload_n 0, 1), (94, .getfield 7, 3), (97, .iload 5, 2), (99, .iconst 2, 1), (100, .iadd, 1), (101, .iload_n 3, 1), (102, .iastore, 1), (103, .aload_n 0, 1), (104, .getfield 7, 3), (107, .iload 5, 2), (109, .iconst 3, 1), (110, .iadd, 1), (111, .iload 4, 2), (113, .iastore, 1), (114, .aload_n 0, 1), (115, .getfield 7, 3), (118, .bipush 40, 2), (120, .dup2, 1), (121, .iaload, 1), (122, .iconst 1, 1), (123, .iadd, 1), (124, .iastore, 1), (125, .aload_n 0, 1), (126, .getfield 7, 3), (129, .bipush 40, 2), (131, .iaload, 1), (132, .ireturn, 1)]
def tb193 : List (Nat × Instr × Nat) := [(0, .iconst 1, 1), (1, .istore_n 3, 1), (2, .iconst 0, 1), (3, .istore 4, 2), (5, .iload 4, 2), (7, .aload_n 0, 1), (8, .getfield 7, 3), (11, .bipush 40, 2), (13, .iaload, 1), (14, .if_icmp .ge 93, 3), (17, .bipush 41, 2), (19, .iconst 4, 1), (20, .iload 4, 2), (22, .imul, 1), (23, .iadd, 1), (24, .istore 5, 2), (26, .iload_n 3, 1), (27, .ifCond .eq 72, 3), (30, .aload_n 0, 1), (31, .getfield 7, 3), (34, .iload 5, 2), (36, .iaload, 1), (37, .iload_n 1, 1), (38, .if_icmp .ne 57, 3), (41, .aload_n 0, 1), (42, .getfield 7, 3), (45, .iconst 4, 1), (46, .iload_n 1, 1), (47, .iadd, 1), (48, .iaload, 1), (49, .iload_n 2, 1), (50, .aload_n 0, 1), (51, .getfield 7, 3), (54, .iload 5, 2), (56, .iconst 2, 1), (57, .iadd, 1), (58, .iaload, 1), (59, .invokestatic 70, 3), (62, .aload_n 0, 1), (63, .getfield 7, 3), (66, .iload 5, 2), (68, .iconst 1, 1), (69, .iadd, 1), (70, .iaload, 1), (71, .invokestatic 191, 3), (74, .aload_n 0, 1), (75, .getfield 7, 3), (78, .iload 5, 2), (80, .iconst 3, 1), (81, .iadd, 1), (82, .iaload, 1), (83, .iconst 1, 1), (84, .if_icmp .ne 7, 3), (87, .iconst 1, 1), (88, .goto 4, 3), (91, .iconst 0, 1), (92, .if_icmp .ne 7, 3), (95, .iconst 1, 1), (96, .goto 4, 3), (99, .iconst 0, 1), (100, .istore_n 3, 1), (101, .iinc 4 1, 3), (104, .goto (-99), 3), (107, .iload_n 3, 1), (108, .ireturn, 1)]
def tb194 : List (Nat × Instr × Nat) := [(0, .iconst 0, 1), (1, .istore_n 2, 1), (2, .iconst 1, 1), (3, .istore_n 3, 1), (4, .iload_n 3, 1), (5, .bipush 10, 2), (7, .if_icmp .gt 28, 3), (10, .iload_n 2, 1), (11, .aload_n 0, 1), (12, .iload_n 1, 1), (13, .iload_n 3, 1), (14, .invokevirtual 228, 3), (17, .ifCond .eq 9, 3), (20, .iconst 1, 1), (21, .iload_n 3, 1), (22, .ishl, 1), (23, .goto 4, 3), (26, .iconst 0, 1), (27, .ior, 1), (28, .istore_n 2, 1), (29, .iinc 3 1, 3), (32, .goto (-28), 3), (35, .iload_n 2, 1), (36, .ireturn, 1)]
def tb195 : List (Nat × Instr × Nat) := [(0, .aload_n 0, 1), (1, .iload_n 1, 1), (2, .invokevirtual 99, 3), (5, .ifCond .eq 11, 3), (8, .aload_n 0, 1), (9, .iload_n 1, 1), (10, .invokevirtual 231, 3), (13, .goto 9, 3), (16, .aload_n 0, 1), (17, .bipush (-2), 2), (19, .invokevirtual 86, 3), (22, .ireturn, 1)]
def tb196 : List (Nat × Instr × Nat) := [(0, .aload_n 0, 1), (1, .iload_n 1, 1), (2, .invokevirtual 99, 3), (5, .ifCond .ne 10, 3), (8, .aload_n 0, 1), (9, .bipush (-2), 2), (11, .invokevirtual 86, 3), (14, .ireturn, 1), (15, .aload_n 0, 1), (16, .iload_n 1, 1), (17, .invokevirtual 231, 3), (20, .istore_n 2, 1), (21, .iconst (-1), 1), (22, .istore_n 3, 1), (23, .ldc 208, 2), (25, .istore 4, 2), (27, .iconst 1, 1), (28, .istore 5, 2), (30, .iload 5, 2), (32, .bipush 10, 2), (34, .if_icmp .gt 173, 3), (37, .iload_n 2, 1), (38, .ifCond .le 169, 3), (41, .iconst 0, 1), (42, .istore 6, 2), (44, .iload 6, 2), (46, .bipush 24, 2), (48, .if_icmp .ge 153, 3), (51, .iconst 0, 1), (52, .istore 7, 2), (54, .iconst 0, 1), (55, .istore 8, 2), (57, .iconst 1, 1), (58, .istore 9, 2), (60, .iload 9, 2), (62, .bipush 10, 2), (64, .if_icmp .gt 79, 3), (67, .aload_n 0, 1), (68, .getfield 7, 3), (71, .iconst 4, 1), (72, .iload_n 1, 1), (73, .iadd, 1), (74, .iaload, 1), (75, .iload 9, 2), (77, .iload 6, 2), (79, .invokestatic 70, 3), (82, .iload 5, 2), (84, .invokestatic 191, 3), (87, .istore 10, 2), (89, .iload 7, 2), (91, .iload_n 2, 1), (92, .iload 9, 2), (94, .invokestatic 191, 3), (97, .ifCond .eq 12, 3), (100, .iload 10, 2), (102, .ifCond .eq 7, 3), (105, .iconst 1, 1), (106, .goto 4, 3), (109, .iconst 0, 1), (110, .iadd, 1), (111, .istore 7, 2), (113, .iload 8, 2), (115, .iload_n 2, 1), (116, .iload 9, 2), (118, .invokestatic 191, 3), (121, .ifCond .eq 12, 3), (124, .iload 10, 2), (126, .ifCond .ne 7, 3), (129, .iconst 1, 1), (130, .goto 4, 3), (133, .iconst 0, 1), (134, .iadd, 1), (135, .istore 8, 2), (137, .iinc 9 1, 3), (140, .goto (-80), 3), (143, .iload 7, 2), (145, .iload 8, 2), (147, .if_icmp .le 8, 3), (150, .iload 7, 2), (152, .goto 5, 3), (155, .iload 8, 2), (157, .istore 9, 2), (159, .iload 9, 2), (161, .iload 4, 2), (163, .if_icmp .ge 14, 3), (166, .bipush 100, 2), (168, .iload 5, 2), (170, .imul, 1), (171, .iload 6, 2), (173, .iadd, 1), (174, .goto 4, 3), (177, .iload_n 3, 1), (178, .istore_n 3, 1), (179, .iload 9, 2), (181, .iload 4, 2), (183, .if_icmp .ge 8, 3), (186, .iload 9, 2), (188, .goto 5, 3), (191, .iload 4, 2), (193, .istore 4, 2), (195, .iinc 6 1, 3), (198, .goto (-154), 3), (201, .iinc 5 1, 3), (204, .goto (-174), 3), (207, .iload_n 3, 1), (208, .ireturn, 1)]
def tb197 : List (Nat × Instr × Nat) := [(0, .aload_n 0, 1), (1, .iload_n 1, 1), (2, .invokevirtual 99, 3), (5, .ifCond .eq 22, 3), (8, .iload_n 2, 1), (9, .invokestatic 225, 3), (12, .ifCond .eq 15, 3), (15, .iload_n 3, 1), (16, .i2l, 1), (17, .lconst 0, 1), (18, .ldc2_w 52, 3), (21, .invokestatic 46, 3), (24, .ifCond .ne 10, 3), (27, .aload_n 0, 1), (28, .bipush (-2), 2), (30, .invokevirtual 86, 3), (33, .ireturn, 1), (34, .aload_n 0, 1), (35, .getfield 7, 3), (38, .bipush 61, 2), (40, .iaload, 1), (41, .bipush 6, 2), (43, .if_icmp .ne 8, 3), (46, .aload_n 0, 1), (47, .invokevirtual 89, 3), (50, .ireturn, 1), (51, .bipush 62, 2), (53, .iconst 3, 1), (54, .aload_n 0, 1), (55, .getfield 7, 3), (58, .bipush 61, 2), (60, .iaload, 1), (61, .imul, 1), (62, .iadd, 1), (63, .istore 4, 2), (65, .aload_n 0, 1), (66, .getfield 7, 3), (69, .iload 4, 2), (71, .iload_n 1, 1), (72, .iastore, 1), (73, .aload_n 0, 1), (74, .getfield 7, 3), (77, .iload 4, 2), (79, .iconst 1, 1), (80, .iadd, 1), (81, .iload_n 2, 1), (82, .iastore, 1), (83, .aload_n 0, 1), (84, .getfield 7, 3), (87, .iload 4, 2), (89, .iconst 2, 1), (90, .iadd, 1), (91, .iload_n 3, 1), (92, .iastore, 1), (93, .aload_n 0, 1), (94, .getfield 7, 3), (97, .bipush 61, 2), (99, .dup2, 1), (100, .iaload, 1), (101, .iconst 1, 1), (102, .iadd, 1), (103, .iastore, 1), (104, .aload_n 0, 1), (105, .getfield 7, 3), (108, .bipush 61, 2), (110, .iaload, 1), (111, .ireturn, 1)]
def tb198 : List (Nat × Instr × Nat) := [(0, .aload_n 0, 1), (1, .iload_n 1, 1), (2, .invokevirtual 194, 3), (5, .ifCond .eq 48, 3), (8, .iload_n 2, 1), (9, .i2l, 1), (10, .lconst 1, 1), (11, .ldc2_w 97, 3), (14, .invokestatic 46, 3), (17, .ifCond .eq 36, 3), (20, .iload_n 3, 1), (21, .i2l, 1), (22, .lconst 0, 1), (23, .ldc2_w 52, 3), (26, .invokestatic 46, 3), (29, .ifCond .eq 24, 3), (32, .iload 4, 2), (34, .invokestatic 225, 3), (37, .ifCond .eq 16, 3), (40, .iload 5, 2), (42, .i2l, 1), (43, .lconst 0, 1), (44, .ldc2_w 52, 3), (47, .invokestatic 46, 3), (50, .ifCond .ne 10, 3), (53, .aload_n 0, 1), (54, .bipush (-2), 2), (56, .invokevirtual 86, 3), (59, .ireturn, 1), (60, .aload_n 0, 1), (61, .getfield 7, 3), (64, .bipush 80, 2), (66, .iaload, 1), (67, .bipush 6, 2), (69, .if_icmp .ne 8, 3), (72, .aload_n 0, 1), (73, .invokevirtual 89, 3), (76, .ireturn, 1), (77, .bipush 81, 2), (79, .iconst 5, 1), (80, .aload_n 0, 1), (81, .getfield 7, 3), (84, .bipush 80, 2), (86, .iaload, 1), (87, .imul, 1), (88, .iadd, 1), (89, .istore 6, 2), (91, .aload_n 0, 1), (92, .getfield 7, 3), (95, .iload 6, 2), (97, .iload_n 1, 1), (98, .iastore, 1), (99, .aload_n 0, 1), (100, .getfield 7, 3), (103, .iload 6, 2), (105, .iconst 1, 1), (106, .iadd, 1), (107, .iload_n 2, 1), (108, .iastore, 1), (109, .aload_n 0, 1), (110, .getfield 7, 3), (113, .iload 6, 2), (115, .iconst 2, 1), (116, .iadd, 1), (117, .iload_n 3, 1), (118, .iastore, 1), (119, .aload_n 0, 1), (120, .getfield 7, 3), (123, .iload 6, 2), (125, .iconst 3, 1), (126, .iadd, 1), (127, .iload 4, 2), (129, .iastore, 1), (130, .aload_n 0, 1), (131, .getfield 7, 3), (134, .iload 6, 2), (136, .iconst 4, 1), (137, .iadd, 1), (138, .iload 5, 2), (140, .iastore, 1), (141, .aload_n 0, 1), (142, .getfield 7, 3), (145, .bipush 80, 2), (147, .dup2, 1), (148, .iaload, 1), (149, .iconst 1, 1), (150, .iadd, 1), (151, .iastore, 1), (152, .aload_n 0, 1), (153, .getfield 7, 3), (156, .bipush 80, 2), (158, .iaload, 1), (159, .ireturn, 1)]
def tb199 : List (Nat × Instr × Nat) := [(0, .iload_n 1, 1), (1, .i2l, 1), (2, .lconst 0, 1), (3, .ldc2_w 140, 3), (6, .invokestatic 46, 3), (9, .ifCond .ne 10, 3), (12, .aload_n 0, 1), (13, .bipush (-2), 2), (15, .invokevirtual 86, 3), (18, .ireturn, 1), (19, .iload_n 1, 1), (20, .ifCond .ne 8, 3), (23, .bipush 40, 2), (25, .goto 15, 3), (28, .iload_n 1, 1), (29, .iconst 1, 1), (30, .if_icmp .ne 8, 3), (33, .bipush 61, 2), (35, .goto 5, 3), (38, .bipush 80, 2), (40, .istore_n 2, 1), (41, .aload_n 0, 1), (42, .getfield 7, 3), (45, .iload_n 2, 1), (46, .iaload, 1), (47, .istore_n 3, 1), (48, .aload_n 0, 1), (49, .getfield 7, 3), (52, .iload_n 2, 1), (53, .iconst 0, 1), (54, .iastore, 1), (55, .iload_n 3, 1), (56, .ireturn, 1)]
def tb200 : List (Nat × Instr × Nat) := [(0, .iconst 1, 1), (1, .istore_n 3, 1), (2, .iconst 0, 1), (3, .istore 4, 2), (5, .iload 4, 2), (7, .aload_n 0, 1), (8, .getfield 7, 3), (11, .bipush 61, 2), (13, .iaload, 1), (14, .if_icmp .ge 64, 3), (17, .bipush 62, 2), (19, .iconst 3, 1), (20, .iload 4, 2), (22, .imul, 1), (23, .iadd, 1), (24, .istore 5, 2), (26, .iload_n 3, 1), (27, .ifCond .eq 43, 3), (30, .aload_n 0, 1), (31, .getfield 7, 3), (34, .iload 5, 2), (36, .iaload, 1), (37, .iload_n 1, 1), (38, .if_icmp .ne 28, 3), (41, .iload_n 2, 1), (42, .aload_n 0, 1), (43, .getfield 7, 3), (46, .iload 5, 2), (48, .iconst 1, 1), (49, .iadd, 1), (50, .iaload, 1), (51, .invokestatic 67, 3), (54, .aload_n 0, 1), (55, .getfield 7, 3), (58, .iload 5, 2), (60, .iconst 2, 1), (61, .iadd, 1), (62, .iaload, 1), (63, .if_icmp .ne 7, 3), (66, .iconst 1, 1), (67, .goto 4, 3), (70, .iconst 0, 1), (71, .istore_n 3, 1), (72, .iinc 4 1, 3), (75, .goto (-70), 3), (78, .iload_n 3, 1), (79, .ireturn, 1)]
def tb201 : List (Nat × Instr × Nat) := [(0, .iconst 0, 1), (1, .istore_n 2, 1), (2, .iconst 0, 1), (3, .istore_n 3, 1), (4, .iload_n 3, 1), (5, .iconst 5, 1), (6, .if_icmp .gt 28, 3), (9, .iload_n 2, 1), (10, .aload_n 0, 1), (11, .iload_n 1, 1), (12, .iload_n 3, 1), (13, .invokevirtual 234, 3), (16, .ifCond .eq 9, 3), (19, .iconst 1, 1), (20, .iload_n 3, 1), (21, .ishl, 1), (22, .goto 4, 3), (25, .iconst 0, 1), (26, .ior, 1), (27, .istore_n 2, 1), (28, .iinc 3 1, 3), (31, .goto (-27), 3), (34, .iload_n 2, 1), (35, .ireturn, 1)]
def tb202 : List (Nat × Instr × Nat) := [(0, .aload_n 0, 1), (1, .iload_n 1, 1), (2, .invokevirtual 99, 3), (5, .ifCond .eq 11, 3), (8, .aload_n 0, 1), (9, .iload_n 1, 1), (10, .invokevirtual 237, 3), (13, .goto 9, 3), (16, .aload_n 0, 1), (17, .bipush (-2), 2), (19, .invokevirtual 86, 3), (22, .ireturn, 1)]
def tb203 : List (Nat × Instr × Nat) := [(0, .aload_n 0, 1), (1, .iload_n 1, 1), (2, .invokevirtual 99, 3), (5, .ifCond .ne 10, 3), (8, .aload_n 0, 1), (9, .bipush (-2), 2), (11, .invokevirtual 86, 3), (14, .ireturn, 1), (15, .aload_n 0, 1), (16, .iload_n 1, 1), (17, .invokevirtual 237, 3), (20, .istore_n 2, 1), (21, .iconst (-1), 1), (22, .istore_n 3, 1), (23, .ldc 208, 2), (25, .istore 4, 2), (27, .iconst 0, 1), (28, .istore 5, 2), (30, .iload 5, 2), (32, .bipush 24, 2), (34, .if_icmp .ge 140, 3), (37, .iload_n 2, 1), (38, .ifCond .le 136, 3), (41, .iconst 0, 1), (42, .istore 6, 2), (44, .iconst 0, 1), (45, .istore 7, 2), (47, .iload 7, 2), (49, .iconst 5, 1), (50, .if_icmp .gt 88, 3), (53, .iconst 0, 1), (54, .istore 8, 2), (56, .iconst 0, 1), (57, .istore 9, 2), (59, .iload 9, 2), (61, .iconst 5, 1), (62, .if_icmp .gt 54, 3), (65, .iload 8, 2), (67, .iload_n 2, 1), (68, .iload 7, 2), (70, .invokestatic 191, 3), (73, .ifCond .eq 33, 3), (76, .iload_n 2, 1), (77, .iload 9, 2), (79, .invokestatic 191, 3), (82, .ifCond .eq 24, 3), (85, .iload 7, 2), (87, .iload 5, 2), (89, .invokestatic 67, 3), (92, .iload 9, 2), (94, .iload 5, 2), (96, .invokestatic 67, 3), (99, .if_icmp .ne 7, 3), (102, .iconst 1, 1), (103, .goto 4, 3), (106, .iconst 0, 1), (107, .iadd, 1), (108, .istore 8, 2), (110, .iinc 9 1, 3), (113, .goto (-54), 3), (116, .iload 8, 2), (118, .iload 6, 2), (120, .if_icmp .le 8, 3), (123, .iload 8, 2), (125, .goto 5, 3), (128, .iload 6, 2), (130, .istore 6, 2), (132, .iinc 7 1, 3), (135, .goto (-88), 3), (138, .iload 6, 2), (140, .iload 4, 2), (142, .if_icmp .ge 8, 3), (145, .iload 5, 2), (147, .goto 4, 3), (150, .iload_n 3, 1), (151, .istore_n 3, 1), (152, .iload 6, 2), (154, .iload 4, 2), (156, .if_icmp .ge 8, 3), (159, .iload 6, 2), (161, .goto 5, 3), (164, .iload 4, 2), (166, .istore 4, 2), (168, .iinc 5 1, 3), (171, .goto (-141), 3), (174, .iload_n 3, 1), (175, .ireturn, 1)]
def tb204 : List (Nat × Instr × Nat) := [(0, .iconst 1, 1), (1, .istore_n 3, 1), (2, .iconst 0, 1), (3, .istore 4, 2), (5, .iload 4, 2), (7, .aload_n 0, 1), (8, .getfield 7, 3), (11, .bipush 80, 2), (13, .iaload, 1), (14, .if_icmp .ge 82, 3), (17, .bipush 81, 2), (19, .iconst 5, 1), (20, .iload 4, 2), (22, .imul, 1), (23, .iadd, 1), (24, .istore 5, 2), (26, .iload_n 3, 1), (27, .ifCond .eq 61, 3), (30, .aload_n 0, 1), (31, .getfield 7, 3), (34, .iload 5, 2), (36, .iaload, 1), (37, .iload_n 1, 1), (38, .if_icmp .ne 46, 3), (41, .iload_n 2, 1), (42, .aload_n 0, 1), (43, .getfield 7, 3), (46, .iload 5, 2), (48, .iconst 1, 1), (49, .iadd, 1), (50, .iaload, 1), (51, .aload_n 0, 1), (52, .getfield 7, 3), (55, .iload 5, 2), (57, .iconst 2, 1), (58, .iadd, 1), (59, .iaload, 1), (60, .aload_n 0, 1), (61, .getfield 7, 3), (64, .iload 5, 2), (66, .iconst 3, 1), (67, .iadd, 1), (68, .iaload, 1), (69, .invokestatic 74, 3), (72, .aload_n 0, 1), (73, .getfield 7, 3), (76, .iload 5, 2), (78, .iconst 4, 1), (79, .iadd, 1), (80, .iaload, 1), (81, .if_icmp .ne 7, 3), (84, .iconst 1, 1), (85, .goto 4, 3), (88, .iconst 0, 1), (89, .istore_n 3, 1), (90, .iinc 4 1, 3), (93, .goto (-88), 3), (96, .iload_n 3, 1), (97, .ireturn, 1)]
def tb205 : List (Nat × Instr × Nat) := [(0, .iconst 0, 1), (1, .istore_n 2, 1), (2, .iconst 0, 1), (3, .istore_n 3, 1), (4, .iload_n 3, 1), (5, .iconst 5, 1), (6, .if_icmp .gt 28, 3), (9, .iload_n 2, 1), (10, .aload_n 0, 1), (11, .iload_n 1, 1), (12, .iload_n 3, 1), (13, .invokevirtual 240, 3), (16, .ifCond .eq 9, 3), (19, .iconst 1, 1), (20, .iload_n 3, 1), (21, .ishl, 1), (22, .goto 4, 3), (25, .iconst 0, 1), (26, .ior, 1), (27, .istore_n 2, 1), (28, .iinc 3 1, 3), (31, .goto (-27), 3), (34, .iload_n 2, 1), (35, .ireturn, 1)]
def tb206 : List (Nat × Instr × Nat) := [(0, .aload_n 0, 1), (1, .iload_n 1, 1), (2, .invokevirtual 194, 3), (5, .ifCond .eq 11, 3), (8, .aload_n 0, 1), (9, .iload_n 1, 1), (10, .invokevirtual 243, 3), (13, .goto 9, 3), (16, .aload_n 0, 1), (17, .bipush (-2), 2), (19, .invokevirtual 86, 3), (22, .ireturn, 1)]
def tb207 : List (Nat × Instr × Nat) := [(0, .aload_n 0, 1), (1, .iload_n 1, 1), (2, .invokevirtual 194, 3), (5, .ifCond .ne 10, 3), (8, .aload_n 0, 1), (9, .bipush (-2), 2), (11, .invokevirtual 86, 3), (14, .ireturn, 1), (15, .aload_n 0, 1), (16, .iload_n 1, 1), (17, .invokevirtual 243, 3), (20, .istore_n 2, 1), (21, .iconst (-1), 1), (22, .istore_n 3, 1), (23, .ldc 208, 2), (25, .istore 4, 2), (27, .iconst 0, 1), (28, .istore 5, 2), (30, .iload 5, 2), (32, .bipush 10, 2), (34, .if_icmp .ge 184, 3), (37, .iload_n 2, 1), (38, .ifCond .le 180, 3), (41, .iconst 0, 1), (42, .istore 6, 2), (44, .iload 6, 2), (46, .bipush 24, 2), (48, .if_icmp .ge 164, 3), (51, .iconst 0, 1), (52, .istore 7, 2), (54, .iconst 0, 1), (55, .istore 8, 2), (57, .iload 8, 2), (59, .iconst 5, 1), (60, .if_icmp .gt 110, 3), (63, .iconst 0, 1), (64, .istore 9, 2), (66, .iconst 0, 1), (67, .istore 10, 2), (69, .iload 10, 2), (71, .iconst 5, 1), (72, .if_icmp .gt 76, 3), (75, .iload 9, 2), (77, .iload_n 2, 1), (78, .iload 8, 2), (80, .invokestatic 191, 3), (83, .ifCond .eq 55, 3), (86, .iload_n 2, 1), (87, .iload 10, 2), (89, .invokestatic 191, 3), (92, .ifCond .eq 46, 3), (95, .iload 8, 2), (97, .aload_n 0, 1), (98, .getfield 7, 3), (101, .bipush 16, 2), (103, .iload_n 1, 1), (104, .iadd, 1), (105, .iaload, 1), (106, .iload 5, 2), (108, .iload 6, 2), (110, .invokestatic 74, 3), (113, .iload 10, 2), (115, .aload_n 0, 1), (116, .getfield 7, 3), (119, .bipush 16, 2), (121, .iload_n 1, 1), (122, .iadd, 1), (123, .iaload, 1), (124, .iload 5, 2), (126, .iload 6, 2), (128, .invokestatic 74, 3), (131, .if_icmp .ne 7, 3), (134, .iconst 1, 1), (135, .goto 4, 3), (138, .iconst 0, 1), (139, .iadd, 1), (140, .istore 9, 2), (142, .iinc 10 1, 3), (145, .goto (-76), 3), (148, .iload 9, 2), (150, .iload 7, 2), (152, .if_icmp .le 8, 3), (155, .iload 9, 2), (157, .goto 5, 3), (160, .iload 7, 2), (162, .istore 7, 2), (164, .iinc 8 1, 3), (167, .goto (-110), 3), (170, .iload 7, 2), (172, .iload 4, 2), (174, .if_icmp .ge 14, 3), (177, .bipush 100, 2), (179, .iload 5, 2), (181, .imul, 1), (182, .iload 6, 2), (184, .iadd, 1), (185, .goto 4, 3), (188, .iload_n 3, 1), (189, .istore_n 3, 1), (190, .iload 7, 2), (192, .iload 4, 2), (194, .if_icmp .ge 8, 3), (197, .iload 7, 2), (199, .goto 5, 3), (202, .iload 4, 2), (204, .istore 4, 2), (206, .iinc 6 1, 3), (209, .goto (-165), 3), (212, .iinc 5 1, 3), (215, .goto (-185), 3), (218, .iload_n 3, 1), (219, .ireturn, 1)]
def tb208 : List (Nat × Instr × Nat) := [(0, .iload_n 0, 1), (1, .ifCond .eq 18, 3), (4, .iload_n 1, 1), (5, .ifCond .eq 10, 3), (8, .iload_n 2, 1), (9, .ineg, 1), (10, .iconst 2, 1), (11, .isub, 1), (12, .goto 16, 3), (15, .iconst 4, 1), (16, .goto 12, 3), (19, .iload_n 1, 1), (20, .ifCond .eq 7, 3), (23, .iconst 1, 1), (24, .goto 4, 3), (27, .iconst 2, 1), (28, .ireturn, 1)]
def tb209 : List (Nat × Instr × Nat) := [(0, .aload_n 0, 1), (1, .iload_n 1, 1), (2, .invokevirtual 194, 3), (5, .ifCond .eq 16, 3), (8, .aload_n 0, 1), (9, .iload_n 2, 1), (10, .invokevirtual 194, 3), (13, .ifCond .eq 8, 3), (16, .iload_n 1, 1), (17, .iload_n 2, 1), (18, .if_icmp .ne 10, 3), (21, .aload_n 0, 1), (22, .bipush (-2), 2), (24, .invokevirtual 86, 3), (27, .ireturn, 1), (28, .iconst 0, 1), (29, .istore_n 3, 1), (30, .iconst 0, 1), (31, .istore 4, 2), (33, .iload 4, 2), (35, .iconst 4, 1), (36, .if_icmp .ge 150, 3), (39, .iload 4, 2), (41, .iconst 1, 1), (42, .if_icmp .eq 9, 3), (45, .iload 4, 2), (47, .iconst 3, 1), (48, .if_icmp .ne 7, 3), (51, .iconst 1, 1), (52, .goto 4, 3), (55, .iconst 0, 1), (56, .istore 5, 2), (58, .iload 4, 2), (60, .iconst 1, 1), (61, .if_icmp .le 7, 3), (64, .iconst 1, 1), (65, .goto 4, 3), (68, .iconst 0, 1), (69, .istore 6, 2), (71, .iload 5, 2), (73, .ifCond .ne 7, 3), (76, .iconst 1, 1), (77, .goto 4, 3), (80, .iconst 0, 1), (81, .iload 6, 2), (83, .aload_n 0, 1), (84, .getfield 7, 3), (87, .bipush 34, 2), (89, .iload_n 1, 1), (90, .iadd, 1), (91, .iaload, 1), (92, .invokestatic 246, 3), (95, .iload 5, 2), (97, .iload 6, 2), (99, .aload_n 0, 1), (100, .getfield 7, 3), (103, .bipush 34, 2), (105, .iload_n 1, 1), (106, .iadd, 1), (107, .iaload, 1), (108, .invokestatic 246, 3), (111, .if_icmp .gt 50, 3), (114, .iload 6, 2), (116, .ifCond .ne 7, 3), (119, .iconst 1, 1), (120, .goto 4, 3), (123, .iconst 0, 1), (124, .iload 5, 2), (126, .aload_n 0, 1), (127, .getfield 7, 3), (130, .bipush 34, 2), (132, .iload_n 2, 1), (133, .iadd, 1), (134, .iaload, 1), (135, .invokestatic 246, 3), (138, .iload 6, 2), (140, .iload 5, 2), (142, .aload_n 0, 1), (143, .getfield 7, 3), (146, .bipush 34, 2), (148, .iload_n 2, 1), (149, .iadd, 1), (150, .iaload, 1), (151, .invokestatic 246, 3), (154, .if_icmp .gt 7, 3), (157, .iconst 1, 1), (158, .goto 4, 3), (161, .iconst 0, 1), (162, .istore 7, 2), (164, .iload_n 3, 1), (165, .iload 7, 2), (167, .ifCond .eq 10, 3), (170, .iconst 1, 1), (171, .iload 4, 2), (173, .ishl, 1), (174, .goto 4, 3), (177, .iconst 0, 1), (178, .ior, 1), (179, .istore_n 3, 1), (180, .iinc 4 1, 3), (183, .goto (-150), 3), (186, .iload_n 3, 1), (187, .ireturn, 1)]
def tb210 : List (Nat × Instr × Nat) := [(0, .lload_n 1, 1), (1, .lstore 5, 2), (3, .lload_n 3, 1), (4, .lstore 7, 2), (6, .lload 7, 2), (8, .lconst 0, 1), (9, .lcmp, 1), (10, .ifCond .eq 21, 3), (13, .lload 5, 2), (15, .lload 7, 2), (17, .lrem, 1), (18, .lstore 9, 2), (20, .lload 7, 2), (22, .lstore 5, 2), (24, .lload 9, 2), (26, .lstore 7, 2), (28, .goto (-22), 3), (31, .aload_n 0, 1), (32, .lload_n 1, 1), (33, .lload 5, 2), (35, .ldiv, 1), (36, .putfield 20, 3), (39, .aload_n 0, 1), (40, .lload_n 3, 1), (41, .lload 5, 2), (43, .ldiv, 1), (44, .putfield 24, 3), (47, .iconst 1, 1), (48, .ireturn, 1)]
def tb211 : List (Nat × Instr × Nat) := [(0, .aload_n 0, 1), (1, .iload_n 1, 1), (2, .invokevirtual 194, 3), (5, .ifCond .eq 27, 3), (8, .iload_n 2, 1), (9, .i2l, 1), (10, .lconst 0, 1), (11, .ldc2_w 250, 3), (14, .invokestatic 46, 3), (17, .ifCond .eq 15, 3), (20, .iload_n 3, 1), (21, .i2l, 1), (22, .lconst 0, 1), (23, .ldc2_w 84, 3), (26, .invokestatic 46, 3), (29, .ifCond .ne 10, 3), (32, .aload_n 0, 1), (33, .bipush (-2), 2), (35, .invokevirtual 86, 3), (38, .ireturn, 1), (39, .aload_n 0, 1), (40, .iload_n 1, 1), (41, .invokevirtual 212, 3), (44, .aload_n 0, 1), (45, .iconst 0, 1), (46, .aload_n 0, 1), (47, .getfield 7, 3), (50, .bipush 22, 2), (52, .iload_n 1, 1), (53, .iadd, 1), (54, .iaload, 1), (55, .invokevirtual 188, 3), (58, .istore 4, 2), (60, .aload_n 0, 1), (61, .getfield 7, 3), (64, .bipush 28, 2), (66, .iload_n 1, 1), (67, .iadd, 1), (68, .iaload, 1), (69, .istore 5, 2), (71, .aload_n 0, 1), (72, .getfield 30, 3), (75, .iload 5, 2), (77, .iaload, 1), (78, .ldc 208, 2), (80, .if_icmp .lt 10, 3), (83, .aload_n 0, 1), (84, .lconst 0, 1), (85, .lconst 1, 1), (86, .invokevirtual 252, 3), (89, .ireturn, 1), (90, .aload_n 0, 1), (91, .getfield 30, 3), (94, .iload 5, 2), (96, .iaload, 1), (97, .iload_n 2, 1), (98, .if_icmp .ge 13, 3), (101, .aload_n 0, 1), (102, .getfield 30, 3), (105, .iload 5, 2), (107, .iaload, 1), (108, .goto 4, 3), (111, .iload_n 2, 1), (112, .istore 6, 2), (114, .iconst 0, 1), (115, .istore 7, 2), (117, .iload 7, 2), (119, .iload 6, 2), (121, .if_icmp .ge 38, 3), (124, .aload_n 0, 1), (125, .getfield 39, 3), (128, .iload 7, 2), (130, .aload_n 0, 1), (131, .iload 5, 2), (133, .iload 4, 2), (135, .invokevirtual 215, 3), (138, .iastore, 1), (139, .iload 5, 2), (141, .aload_n 0, 1), (142, .getfield 39, 3), (145, .iload 7, 2), (147, .iaload, 1), (148, .invokestatic 218, 3), (151, .istore 5, 2), (153, .iinc 7 1, 3), (156, .goto (-39), 3), (159, .lconst 0, 1), (160, .lstore 7, 2), (162, .lconst 1, 1), (163, .lstore 9, 2), (165, .iconst 0, 1), (166, .istore 11, 2), (168, .iload 11, 2), (170, .iload 6, 2), (172, .if_icmp .ge 17, 3), (175, .lload 9, 2), (177, .ldc2_w 84, 3), (180, .lmul, 1), (181, .lstore 9, 2), (183, .iinc 11 1, 3), (186, .goto (-18), 3), (189, .iconst 0, 1), (190, .istore 11, 2), (192, .iload 11, 2), (194, .iconst 1, 1), (195, .iload 6, 2), (197, .ishl, 1), (198, .if_icmp .ge 135, 3), (201, .lconst 1, 1), (202, .lstore 12, 2), (204, .iconst 0, 1), (205, .istore 14, 2), (207, .aload_n 0, 1), (208, .getfield 7, 3), (211, .bipush 28, 2), (213, .iload_n 1, 1), (214, .iadd, 1), (215, .iaload, 1), (216, .istore 5, 2), (218, .iconst 0, 1), (219, .istore 15, 2), (221, .iload 15, 2), (223, .iload 6, 2), (225, .if_icmp .ge 86, 3), (228, .lload 12, 2), (230, .iload 11, 2), (232, .iload 15, 2), (234, .invokestatic 191, 3), (237, .ifCond .eq 8, 3), (240, .iload_n 3, 1), (241, .i2l, 1), (242, .goto 8, 3), (245, .bipush 10, 2), (247, .iload_n 3, 1), (248, .isub, 1), (249, .i2l, 1), (250, .lmul, 1), (251, .lstore 12, 2), (253, .iload 5, 2), (255, .aload_n 0, 1), (256, .getfield 39, 3), (259, .iload 15, 2), (261, .iaload, 1), (262, .iload 11, 2), (264, .iload 15, 2), (266, .invokestatic 191, 3), (269, .ifCond .eq 7, 3), (272, .iconst 1, 1), (273, .goto 4, 3), (276, .iconst 0, 1), (277, .iadd, 1), (278, .invokestatic 218, 3), (281, .istore 5, 2), (283, .iload 14, 2), (285, .ifCond .ne 13, 3), (288, .iload 4, 2), (290, .iload 5, 2), (292, .invokestatic 191, 3), (295, .ifCond .eq 7, 3), (298, .iconst 1, 1), (299, .goto 4, 3), (302, .iconst 0, 1), (303, .istore 14, 2), (305, .iinc 15 1, 3), (308, .goto (-87), 3), (311, .lload 7, 2), (313, .iload 14, 2), (315, .ifCond .eq 7, 3), (318, .lconst 0, 1), (319, .goto 5, 3), (322, .lload 12, 2), (324, .ladd, 1), (325, .lstore 7, 2), (327, .iinc 11 1, 3), (330, .goto (-138), 3), (333, .aload_n 0, 1), (334, .lload 7, 2), (336, .lload 9, 2), (338, .invokevirtual 252, 3), (341, .ireturn, 1)]
def tb212 : List (Nat × Instr × Nat) := [(0, .iload_n 1, 1), (1, .i2l, 1), (2, .lconst 0, 1), (3, .ldc2_w 256, 3), (6, .invokestatic 46, 3), (9, .ifCond .eq 15, 3), (12, .iload_n 2, 1), (13, .i2l, 1), (14, .lconst 0, 1), (15, .ldc2_w 258, 3), (18, .invokestatic 46, 3), (21, .ifCond .ne 10, 3), (24, .aload_n 0, 1), (25, .bipush (-2), 2), (27, .invokevirtual 86, 3), (30, .ireturn, 1), (31, .iconst 0, 1), (32, .istore_n 3, 1), (33, .iload_n 3, 1), (34, .bipush 40, 2), (36, .if_icmp .ge 25, 3), (39, .aload_n 0, 1), (40, .getfield 7, 3), (43, .sipush 992, 3), (46, .iload_n 3, 1), (47, .iadd, 1), (48, .aload_n 0, 1), (49, .getfield 7, 3), (52, .iload_n 3, 1), (53, .iaload, 1), (54, .iastore, 1), (55, .iinc 3 1, 3), (58, .goto (-25), 3), (61, .aload_n 0, 1), (62, .getfield 7, 3), (65, .sipush 995, 3), (68, .iconst 0, 1), (69, .iastore, 1), (70, .iload_n 1, 1), (71, .i2l, 1), (72, .lstore_n 3, 1), (73, .iconst 0, 1), (74, .istore 5, 2), (76, .iload 5, 2), (78, .iload_n 2, 1), (79, .if_icmp .ge 98, 3), (82, .lload_n 3, 1), (83, .ldc2_w 260, 3), (86, .lmul, 1), (87, .ldc2_w 262, 3), (90, .ladd, 1), (91, .ldc2_w 264, 3), (94, .lrem, 1), (95, .lstore_n 3, 1), (96, .lload_n 3, 1), (97, .ldc2_w 266, 3), (100, .ldiv, 1), (101, .ldc2_w 250, 3), (104, .lrem, 1), (105, .l2i, 1), (106, .istore 6, 2), (108, .iload 6, 2), (110, .aload_n 0, 1), (111, .getfield 7, 3), (114, .iconst 1, 1), (115, .iaload, 1), (116, .if_icmp .ge 47, 3), (119, .aload_n 0, 1), (120, .getfield 7, 3), (123, .sipush 1020, 3), (126, .iload 6, 2), (128, .iadd, 1), (129, .iaload, 1), (130, .bipush 11, 2), (132, .if_icmp .ge 31, 3), (135, .aload_n 0, 1), (136, .sipush 992, 3), (139, .iload 6, 2), (141, .lload_n 3, 1), (142, .ldc2_w 268, 3), (145, .ldiv, 1), (146, .aload_n 0, 1), (147, .sipush 992, 3), (150, .iload 6, 2), (152, .invokevirtual 146, 3), (155, .i2l, 1), (156, .lrem, 1), (157, .l2i, 1), (158, .iconst 1, 1), (159, .iadd, 1), (160, .invokevirtual 149, 3), (163, .aload_n 0, 1), (164, .sipush 992, 3), (167, .iconst 1, 1), (168, .invokevirtual 152, 3), (171, .iinc 5 1, 3), (174, .goto (-98), 3), (177, .aload_n 0, 1), (178, .getfield 7, 3), (181, .sipush 995, 3), (184, .iaload, 1), (185, .ireturn, 1)]
def tb213 : List (Nat × Instr × Nat) := [(0, .iload_n 1, 1), (1, .ifCond .ne 10, 3), (4, .aload_n 0, 1), (5, .getfield 20, 3), (8, .goto 22, 3), (11, .iload_n 1, 1), (12, .iconst 1, 1), (13, .if_icmp .ne 10, 3), (16, .aload_n 0, 1), (17, .getfield 24, 3), (20, .goto 10, 3), (23, .aload_n 0, 1), (24, .bipush (-2), 2), (26, .invokevirtual 86, 3), (29, .i2l, 1), (30, .lreturn, 1)]
def tb214 : List (Nat × Instr × Nat) := [(0, .iload_n 1, 1), (1, .i2l, 1), (2, .lconst 0, 1), (3, .lconst 1, 1), (4, .invokestatic 46, 3), (7, .ifCond .ne 10, 3), (10, .aload_n 0, 1), (11, .bipush (-2), 2), (13, .invokevirtual 86, 3), (16, .ireturn, 1), (17, .aload_n 0, 1), (18, .iconst 0, 1), (19, .sipush 248, 3), (22, .sipush 248, 3), (25, .iload_n 1, 1), (26, .imul, 1), (27, .iadd, 1), (28, .invokevirtual 185, 3), (31, .aload_n 0, 1), (32, .getfield 13, 3), (35, .iload_n 1, 1), (36, .iconst 1, 1), (37, .bastore, 1), (38, .iconst 1, 1), (39, .ireturn, 1)]
def tb215 : List (Nat × Instr × Nat) := [(0, .iload_n 1, 1), (1, .i2l, 1), (2, .lconst 0, 1), (3, .lconst 1, 1), (4, .invokestatic 46, 3), (7, .ifCond .ne 10, 3), (10, .aload_n 0, 1), (11, .bipush (-2), 2), (13, .invokevirtual 86, 3), (16, .ireturn, 1), (17, .aload_n 0, 1), (18, .getfield 13, 3), (21, .iload_n 1, 1), (22, .baload, 1), (23, .ifCond .ne 8, 3), (26, .aload_n 0, 1), (27, .invokevirtual 197, 3), (30, .ireturn, 1), (31, .aload_n 0, 1), (32, .sipush 248, 3), (35, .sipush 248, 3), (38, .iload_n 1, 1), (39, .imul, 1), (40, .iadd, 1), (41, .iconst 0, 1), (42, .invokevirtual 185, 3), (45, .iconst 1, 1), (46, .ireturn, 1)]
def tb216 : List (Nat × Instr × Nat) := [(0, .iload_n 1, 1), (1, .i2l, 1), (2, .lconst 0, 1), (3, .ldc2_w 140, 3), (6, .invokestatic 46, 3), (9, .ifCond .eq 12, 3), (12, .aload_n 0, 1), (13, .getfield 27, 3), (16, .iload_n 1, 1), (17, .iaload, 1), (18, .goto 8, 3), (21, .aload_n 0, 1), (22, .iconst (-1), 1), (23, .invokevirtual 86, 3), (26, .ireturn, 1)]
def tb217 : List (Nat × Instr × Nat) := [(0, .iconst 0, 1), (1, .istore_n 1, 1), (2, .iconst 0, 1), (3, .istore_n 2, 1), (4, .iload_n 2, 1), (5, .aload_n 0, 1), (6, .getfield 7, 3), (9, .iconst 1, 1), (10, .iaload, 1), (11, .if_icmp .ge 31, 3), (14, .iload_n 1, 1), (15, .aload_n 0, 1), (16, .getfield 7, 3), (19, .bipush 28, 2), (21, .iload_n 2, 1), (22, .iadd, 1), (23, .iaload, 1), (24, .bipush 11, 2), (26, .if_icmp .ne 7, 3), (29, .iconst 1, 1), (30, .goto 4, 3), (33, .iconst 0, 1), (34, .iadd, 1), (35, .istore_n 1, 1), (36, .iinc 2 1, 3), (39, .goto (-35), 3), (42, .iload_n 1, 1), (43, .ireturn, 1)]
def tb218 : List (Nat × Instr × Nat) := [(0, .iload_n 1, 1), (1, .tableswitch 116 0 8 #[51, 58, 65, 70, 77, 84, 92, 100, 108], 51), (52, .aload_n 0, 1), (53, .getfield 7, 3), (56, .iconst 1, 1), (57, .iaload, 1), (58, .ireturn, 1), (59, .aload_n 0, 1), (60, .getfield 7, 3), (63, .iconst 0, 1), (64, .iaload, 1), (65, .ireturn, 1), (66, .aload_n 0, 1), (67, .invokevirtual 270, 3), (70, .ireturn, 1), (71, .aload_n 0, 1), (72, .getfield 7, 3), (75, .iconst 2, 1), (76, .iaload, 1), (77, .ireturn, 1), (78, .aload_n 0, 1), (79, .getfield 7, 3), (82, .iconst 3, 1), (83, .iaload, 1), (84, .ireturn, 1), (85, .aload_n 0, 1), (86, .getfield 7, 3), (89, .bipush 40, 2), (91, .iaload, 1), (92, .ireturn, 1), (93, .aload_n 0, 1), (94, .getfield 7, 3), (97, .bipush 61, 2), (99, .iaload, 1), (100, .ireturn, 1), (101, .aload_n 0, 1), (102, .getfield 7, 3), (105, .bipush 80, 2), (107, .iaload, 1), (108, .ireturn, 1), (109, .aload_n 0, 1), (110, .getfield 7, 3), (113, .bipush 111, 2), (115, .iaload, 1), (116, .ireturn, 1), (117, .aload_n 0, 1), (118, .getfield 42, 3), (121, .ireturn, 1)]
def tb219 : List (Nat × Instr × Nat) := [(0, .iload_n 1, 1), (1, .i2l, 1), (2, .lconst 0, 1), (3, .ldc2_w 52, 3), (6, .invokestatic 46, 3), (9, .ifCond .eq 11, 3), (12, .aload_n 0, 1), (13, .iload_n 1, 1), (14, .invokevirtual 273, 3), (17, .goto 9, 3), (20, .aload_n 0, 1), (21, .bipush (-2), 2), (23, .invokevirtual 86, 3), (26, .ireturn, 1)]
def tb220 : List (Nat × Instr × Nat) := [(0, .aload_n 0, 1), (1, .ldc2_w 276, 3), (4, .aload_n 0, 1), (5, .getfield 278, 3), (8, .lmul, 1), (9, .lload_n 1, 1), (10, .ladd, 1), (11, .putfield 278, 3), (14, .return_, 1)]
def tb221 : List (Nat × Instr × Nat) := [(0, .iconst 0, 1), (1, .istore_n 3, 1), (2, .iload_n 3, 1), (3, .iload_n 2, 1), (4, .if_icmp .ge 22, 3), (7, .aload_n 0, 1), (8, .aload_n 0, 1), (9, .getfield 7, 3), (12, .iload_n 1, 1), (13, .iload_n 3, 1), (14, .iadd, 1), (15, .iaload, 1), (16, .i2l, 1), (17, .invokevirtual 281, 3), (20, .iinc 3 1, 3), (23, .goto (-21), 3), (26, .return_, 1)]
def tb222 : List (Nat × Instr × Nat) := [(0, .aload_n 0, 1), (1, .ldc2_w 285, 3), (4, .putfield 278, 3), (7, .iconst 0, 1), (8, .istore_n 1, 1), (9, .iload_n 1, 1), (10, .bipush 10, 2), (12, .if_icmp .ge 19, 3), (15, .aload_n 0, 1), (16, .aload_n 0, 1), (17, .iload_n 1, 1), (18, .invokevirtual 273, 3), (21, .i2l, 1), (22, .invokevirtual 281, 3), (25, .iinc 1 1, 3), (28, .goto (-19), 3), (31, .iconst 0, 1), (32, .istore_n 1, 1), (33, .iload_n 1, 1), (34, .aload_n 0, 1), (35, .getfield 7, 3), (38, .iconst 0, 1), (39, .iaload, 1), (40, .if_icmp .ge 36, 3), (43, .aload_n 0, 1), (44, .aload_n 0, 1), (45, .getfield 7, 3), (48, .iconst 4, 1), (49, .iload_n 1, 1), (50, .iadd, 1), (51, .iaload, 1), (52, .i2l, 1), (53, .invokevirtual 281, 3), (56, .aload_n 0, 1), (57, .aload_n 0, 1), (58, .getfield 7, 3), (61, .bipush 7, 2), (63, .iload_n 1, 1), (64, .iadd, 1), (65, .iaload, 1), (66, .i2l, 1), (67, .invokevirtual 281, 3), (70, .iinc 1 1, 3), (73, .goto (-40), 3), (76, .iconst 0, 1), (77, .istore_n 1, 1), (78, .iload_n 1, 1), (79, .aload_n 0, 1), (80, .getfield 7, 3), (83, .iconst 1, 1), (84, .iaload, 1), (85, .if_icmp .ge 33, 3), (88, .iconst 0, 1), (89, .istore_n 2, 1), (90, .iload_n 2, 1), (91, .iconst 5, 1), (92, .if_icmp .ge 20, 3), (95, .aload_n 0, 1), (96, .aload_n 0, 1), (97, .iload_n 1, 1), (98, .iload_n 2, 1), (99, .invokevirtual 205, 3), (102, .i2l, 1), (103, .invokevirtual 281, 3), (106, .iinc 2 1, 3), (109, .goto (-19), 3), (112, .iinc 1 1, 3), (115, .goto (-37), 3), (118, .aload_n 0, 1), (119, .bipush 41, 2), (121, .iconst 4, 1), (122, .aload_n 0, 1), (123, .getfield 7, 3), (126, .bipush 40, 2), (128, .iaload, 1), (129, .imul, 1), (130, .invokevirtual 287, 3), (133, .aload_n 0, 1), (134, .bipush 62, 2), (136, .iconst 3, 1), (137, .aload_n 0, 1), (138, .getfield 7, 3), (141, .bipush 61, 2), (143, .iaload, 1), (144, .imul, 1), (145, .invokevirtual 287, 3), (148, .aload_n 0, 1), (149, .bipush 81, 2), (151, .iconst 5, 1), (152, .aload_n 0, 1), (153, .getfield 7, 3), (156, .bipush 80, 2), (158, .iaload, 1), (159, .imul, 1), (160, .invokevirtual 287, 3), (163, .aload_n 0, 1), (164, .aload_n 0, 1), (165, .getfield 20, 3), (168, .invokevirtual 281, 3), (171, .aload_n 0, 1), (172, .aload_n 0, 1), (173, .getfield 24, 3), (176, .invokevirtual 281, 3), (179, .aload_n 0, 1), (180, .getfield 278, 3), (183, .lreturn, 1)]
def tb223 : List (Nat × Instr × Nat) := [(0, .iload_n 0, 1), (1, .iload_n 0, 1), (2, .iconst 1, 1), (3, .iushr, 1), (4, .ldc_w 265, 3), (7, .iand, 1), (8, .isub, 1), (9, .istore_n 0, 1), (10, .iload_n 0, 1), (11, .ldc_w 266, 3), (14, .iand, 1), (15, .iload_n 0, 1), (16, .iconst 2, 1), (17, .iushr, 1), (18, .ldc_w 266, 3), (21, .iand, 1), (22, .iadd, 1), (23, .istore_n 0, 1), (24, .iload_n 0, 1), (25, .iload_n 0, 1), (26, .iconst 4, 1), (27, .iushr, 1), (28, .iadd, 1), (29, .ldc_w 267, 3), (32, .iand, 1), (33, .istore_n 0, 1), (34, .iload_n 0, 1), (35, .iload_n 0, 1), (36, .bipush 8, 2), (38, .iushr, 1), (39, .iadd, 1), (40, .istore_n 0, 1), (41, .iload_n 0, 1), (42, .iload_n 0, 1), (43, .bipush 16, 2), (45, .iushr, 1), (46, .iadd, 1), (47, .istore_n 0, 1), (48, .iload_n 0, 1), (49, .bipush 63, 2), (51, .iand, 1), (52, .ireturn, 1)]
def tb224 : List (Nat × Instr × Nat) := [(0, .iconst 0, 1), (1, .istore_n 2, 1), (2, .aload_n 0, 1), (3, .arraylength, 1), (4, .istore_n 3, 1), (5, .iload_n 2, 1), (6, .iload_n 3, 1), (7, .if_icmp .ge 13, 3), (10, .aload_n 0, 1), (11, .iload_n 2, 1), (12, .iload_n 1, 1), (13, .iastore, 1), (14, .iinc 2 1, 3), (17, .goto (-12), 3), (20, .return_, 1)]
def tb225 : List (Nat × Instr × Nat) := [(0, .iload_n 0, 1), (1, .iload_n 1, 1), (2, .if_icmp .lt 7, 3), (5, .iload_n 0, 1), (6, .goto 4, 3), (9, .iload_n 1, 1), (10, .ireturn, 1)]
def tb226 : List (Nat × Instr × Nat) := [(0, .iload_n 0, 1), (1, .iload_n 1, 1), (2, .if_icmp .gt 7, 3), (5, .iload_n 0, 1), (6, .goto 4, 3), (9, .iload_n 1, 1), (10, .ireturn, 1)]
def tabs : List (List (Nat × Instr × Nat)) := [tb0, tb1, tb2, tb3, tb4, tb5, tb6, tb7, tb8, tb9, tb10, tb11, tb12, tb13, tb14, tb15, tb16, tb17, tb18, tb19, tb20, tb21, tb22, tb23, tb24, tb25, tb26, tb27, tb28, tb29, tb30, tb31, tb32, tb33, tb34, tb35, tb36, tb37, tb38, tb39, tb40, tb41, tb42, tb43, tb44, tb45, tb46, tb47, tb48, tb49, tb50, tb51, tb52, tb53, tb54, tb55, tb56, tb57, tb58, tb59, tb60, tb61, tb62, tb63, tb64, tb65, tb66, tb67, tb68, tb69, tb70, tb71, tb72, tb73, tb74, tb75, tb76, tb77, tb78, tb79, tb80, tb81, tb82, tb83, tb84, tb85, tb86, tb87, tb88, tb89, tb90, tb91, tb92, tb93, tb94, tb95, tb96, tb97, tb98, tb99, tb100, tb101, tb102, tb103, tb104, tb105, tb106, tb107, tb108, tb109, tb110, tb111, tb112, tb113, tb114, tb115, tb116, tb117, tb118, tb119, tb120, tb121, tb122, tb123, tb124, tb125, tb126, tb127, tb128, tb129, tb130, tb131, tb132, tb133, tb134, tb135, tb136, tb137, tb138, tb139, tb140, tb141, tb142, tb143, tb144, tb145, tb146, tb147, tb148, tb149, tb150, tb151, tb152, tb153, tb154, tb155, tb156, tb157, tb158, tb159, tb160, tb161, tb162, tb163, tb164, tb165, tb166, tb167, tb168, tb169, tb170, tb171, tb172, tb173, tb174, tb175, tb176, tb177, tb178, tb179, tb180, tb181, tb182, tb183, tb184, tb185, tb186, tb187, tb188, tb189, tb190, tb191, tb192, tb193, tb194, tb195, tb196, tb197, tb198, tb199, tb200, tb201, tb202, tb203, tb204, tb205, tb206, tb207, tb208, tb209, tb210, tb211, tb212, tb213, tb214, tb215, tb216, tb217, tb218, tb219, tb220, tb221, tb222, tb223, tb224, tb225, tb226]
def mNs : List MethodName := [yX0_fewestFrom, yX0_restBehind, yX0_find, yX0_shortest, yX0_strideAt, yX1_empty, yX1_takeOver, yX1_hasFlight, yX1_hasGoer, yX1_addFlight, yX1_addGoer, yX1_keepMoment, yX1_dropMoment, yX1_ownerKind, yX1_ownerStep, yX1_setOwnerStep, yX1_legsOf, yX1_flightOf, yX1_stepOf, yX1_setStep, yX1_loadOf, yX1_setLoad, yX1_falls, yX1_hour, yX1_hourOfDay, yX1_pass, yX1_isOver, yX1_over, yX1_barsAt, yX1_barsFor, yX1_reach, yX1_reachAt, yX1_ofGoer, yX1_stride, yX2_isFull, yX2_empty, yX2_add, yX2_set, yX2_cell, yX2_takeOver, yX2_mixInto, yX3_append, yX3_readOpening, yX3_movesOn, yX3_readItem, yX3_readFlight, yX3_readGoer, yX3_readLoad, yX3_readStride, yX3_readHours, yX3_stops, yX3_isNumber, yX3_isWord, yX3_next, yX3_takeWord, yX3_takeNumber, yX3_isLetter, yX3_isFigure, yX4_tenement, yX4_flight, yX4_goer, yX4_type, yX4_clear, yX4_read, yX4_strides, yX4_begins, yX4_loads, yX4_sells, yX4_hours, yX4_undo, yX4_of, yX4_about, yX4_up, yX4_stuck, yX4_soon, yX4_site, yX4_allUp, yX4_meets, yX4_seen, yX4_whose, yX4_tell, yX4_fittingSteps, yX4_note, yX4_mark, yX4_forget, yX4_is, yX4_look, yX4_ownerKinds, yX4_ownerFits, yX4_mostOwnersAlike, yX4_oneMoreAlike, yX4_kinds, yX4_ask, yX4_goerKinds, yX4_goerFits, yX4_mostGoersAlike, yX4_gap, yX4_rests, yX4_gain, yX4_dark, yX4_strideInDark, yX4_comeDown, yX4_sum, yX4_setFraction, yX4_commonDivisor, yX4_years, yX4_strideByChance, yX4_part, yX4_image, yX4_from, yX4_status, yX4_count, yX4_howMany, yX4_digest, yX4_bad, yX4_no, yX4_full, yX4_isKind, yX4_isOwnable, yX4_isLoad, yX4_isHour, yX4_at, yX4_put, yX4_copyInto, yX4_barCount, yX4_barBits, yX4_ownersBarring, yX4_lowBits, yX4_isBarred, yX4_strideOf, yX5_in, yX5_has, yX5_bad, yX5_no, yX5_full, yX5_copy, yX5_empties, yX5_isGoer, yX5_isFlight, yX5_isHour, yX5_clerk, yX5_lady, yX5_barsOf, yX5_porter, yX5_stridesOf, yX5_barsFrom, yX5_bars, yX5_stridesIn, yX5_tenement, yX5_addsFlight, yX5_flight, yX5_addsGoer, yX5_goer, yX5_type, yX5_clear, yX5_byteAt, yX5_blanks, yX5_takesWord, yX5_isWord, yX5_isLetter, yX5_wordOf, yX5_takesNumber, yX5_takesEnd, yX5_readsFlight, yX5_readsGoer, yX5_readsLoad, yX5_readsStride, yX5_readsHours, yX5_readsItem, yX5_read, yX5_goes, yX5_passes, yX5_minds, yX5_strides, yX5_begins, yX5_loads, yX5_sells, yX5_hours, yX5_undo, yX5_of, yX5_ofGoer, yX5_about, yX5_laysLeft, yX5_firstFrom, yX5_stepUp, yX5_laysNow, yX5_up, yX5_stuck, yX5_soon, yX5_site, yX5_laysWay, yX5_meets, yX5_seen, yX5_canBe, yX5_whoseOf, yX5_whose, yX5_tell, yX5_note, yX5_mark, yX5_forget, yX5_isSo, yX5_isOf, yX5_is, yX5_look, yX5_canStride, yX5_kindsOf, yX5_kinds, yX5_ask, yX5_gets, yX5_gap, yX5_tells, yX5_dark, yX5_years, yX5_part, yX5_image, yX5_from, yX5_status, yX5_over, yX5_countOf, yX5_count, yX5_mix, yX5_mixes, yX5_digest, yJ6_bitCount_0f7a4, yJ7_fill_53178, yJ9_max_7cf53, yJ9_min_7cf53]
def mCs : List ByteArray := [cX0_fewestFrom, cX0_restBehind, cX0_find, cX0_shortest, cX0_strideAt, cX1_empty, cX1_takeOver, cX1_hasFlight, cX1_hasGoer, cX1_addFlight, cX1_addGoer, cX1_keepMoment, cX1_dropMoment, cX1_ownerKind, cX1_ownerStep, cX1_setOwnerStep, cX1_legsOf, cX1_flightOf, cX1_stepOf, cX1_setStep, cX1_loadOf, cX1_setLoad, cX1_falls, cX1_hour, cX1_hourOfDay, cX1_pass, cX1_isOver, cX1_over, cX1_barsAt, cX1_barsFor, cX1_reach, cX1_reachAt, cX1_ofGoer, cX1_stride, cX2_isFull, cX2_empty, cX2_add, cX2_set, cX2_cell, cX2_takeOver, cX2_mixInto, cX3_append, cX3_readOpening, cX3_movesOn, cX3_readItem, cX3_readFlight, cX3_readGoer, cX3_readLoad, cX3_readStride, cX3_readHours, cX3_stops, cX3_isNumber, cX3_isWord, cX3_next, cX3_takeWord, cX3_takeNumber, cX3_isLetter, cX3_isFigure, cX4_tenement, cX4_flight, cX4_goer, cX4_type, cX4_clear, cX4_read, cX4_strides, cX4_begins, cX4_loads, cX4_sells, cX4_hours, cX4_undo, cX4_of, cX4_about, cX4_up, cX4_stuck, cX4_soon, cX4_site, cX4_allUp, cX4_meets, cX4_seen, cX4_whose, cX4_tell, cX4_fittingSteps, cX4_note, cX4_mark, cX4_forget, cX4_is, cX4_look, cX4_ownerKinds, cX4_ownerFits, cX4_mostOwnersAlike, cX4_oneMoreAlike, cX4_kinds, cX4_ask, cX4_goerKinds, cX4_goerFits, cX4_mostGoersAlike, cX4_gap, cX4_rests, cX4_gain, cX4_dark, cX4_strideInDark, cX4_comeDown, cX4_sum, cX4_setFraction, cX4_commonDivisor, cX4_years, cX4_strideByChance, cX4_part, cX4_image, cX4_from, cX4_status, cX4_count, cX4_howMany, cX4_digest, cX4_bad, cX4_no, cX4_full, cX4_isKind, cX4_isOwnable, cX4_isLoad, cX4_isHour, cX4_at, cX4_put, cX4_copyInto, cX4_barCount, cX4_barBits, cX4_ownersBarring, cX4_lowBits, cX4_isBarred, cX4_strideOf, cX5_in, cX5_has, cX5_bad, cX5_no, cX5_full, cX5_copy, cX5_empties, cX5_isGoer, cX5_isFlight, cX5_isHour, cX5_clerk, cX5_lady, cX5_barsOf, cX5_porter, cX5_stridesOf, cX5_barsFrom, cX5_bars, cX5_stridesIn, cX5_tenement, cX5_addsFlight, cX5_flight, cX5_addsGoer, cX5_goer, cX5_type, cX5_clear, cX5_byteAt, cX5_blanks, cX5_takesWord, cX5_isWord, cX5_isLetter, cX5_wordOf, cX5_takesNumber, cX5_takesEnd, cX5_readsFlight, cX5_readsGoer, cX5_readsLoad, cX5_readsStride, cX5_readsHours, cX5_readsItem, cX5_read, cX5_goes, cX5_passes, cX5_minds, cX5_strides, cX5_begins, cX5_loads, cX5_sells, cX5_hours, cX5_undo, cX5_of, cX5_ofGoer, cX5_about, cX5_laysLeft, cX5_firstFrom, cX5_stepUp, cX5_laysNow, cX5_up, cX5_stuck, cX5_soon, cX5_site, cX5_laysWay, cX5_meets, cX5_seen, cX5_canBe, cX5_whoseOf, cX5_whose, cX5_tell, cX5_note, cX5_mark, cX5_forget, cX5_isSo, cX5_isOf, cX5_is, cX5_look, cX5_canStride, cX5_kindsOf, cX5_kinds, cX5_ask, cX5_gets, cX5_gap, cX5_tells, cX5_dark, cX5_years, cX5_part, cX5_image, cX5_from, cX5_status, cX5_over, cX5_countOf, cX5_count, cX5_mix, cX5_mixes, cX5_digest, cJ6_bitCount_0f7a4, cJ7_fill_53178, cJ9_max_7cf53, cJ9_min_7cf53]
def mLs : List Nat := [8, 3, 7, 6, 2, 1, 2, 2, 2, 4, 5, 1, 1, 2, 2, 3, 2, 2, 2, 3, 2, 3, 1, 1, 1, 2, 2, 3, 3, 2, 2, 3, 3, 4, 1, 2, 6, 3, 3, 2, 7, 2, 1, 1, 2, 3, 4, 3, 3, 2, 1, 3, 3, 1, 1, 1, 2, 2, 2, 3, 4, 2, 2, 3, 3, 3, 4, 4, 2, 1, 3, 3, 3, 4, 7, 7, 7, 7, 5, 2, 9, 6, 4, 6, 2, 2, 7, 4, 5, 5, 2, 2, 8, 4, 6, 7, 7, 4, 4, 7, 6, 4, 3, 7, 11, 6, 5, 2, 2, 2, 2, 2, 2, 5, 1, 1, 1, 1, 1, 1, 1, 2, 3, 2, 5, 2, 2, 1, 2, 7, 6, 2, 2, 1, 1, 4, 3, 2, 2, 1, 1, 1, 2, 2, 4, 5, 3, 3, 2, 4, 3, 6, 4, 2, 2, 2, 1, 1, 10, 4, 1, 3, 1, 2, 3, 2, 2, 1, 4, 3, 6, 3, 3, 3, 3, 4, 4, 2, 3, 3, 3, 3, 6, 4, 2, 2, 7, 3, 8, 8, 6, 5, 6, 6, 4, 2, 11, 5, 7, 4, 6, 4, 2, 10, 6, 4, 2, 11, 3, 8, 11, 16, 7, 2, 2, 2, 2, 3, 2, 2, 3, 4, 3, 1, 4, 2, 2]
def mRs : List (Option FieldType) := [(some .int), (some .int), none, (some .int), (some .int), none, none, (some .boolean), (some .boolean), (some .int), (some .int), none, none, (some .int), (some .int), none, (some .int), (some .int), (some .int), none, (some .int), none, (some .int), (some .int), (some .int), none, (some .boolean), (some .int), (some .int), (some .int), (some .int), (some .int), (some .int), (some .int), (some .boolean), (some .int), (some .int), none, (some .int), none, (some .long), (some .int), (some .boolean), (some .boolean), (some .boolean), (some .boolean), (some .boolean), (some .boolean), (some .boolean), (some .boolean), (some .boolean), (some .boolean), (some .boolean), none, none, none, (some .boolean), (some .boolean), (some .int), (some .int), (some .int), (some .int), (some .int), (some .int), (some .int), (some .int), (some .int), (some .int), (some .int), (some .int), (some .int), (some .int), (some .int), (some .int), (some .int), (some .int), (some .int), (some .int), (some .int), (some .int), (some .int), (some .int), (some .int), (some .int), (some .int), (some .int), (some .int), (some .int), (some .boolean), (some .int), (some .int), (some .int), (some .int), (some .int), (some .boolean), (some .int), (some .int), (some .boolean), (some .int), (some .int), none, none, (some .int), none, (some .long), (some .int), none, (some .long), (some .int), (some .int), (some .int), (some .int), (some .int), (some .long), (some .int), (some .int), (some .int), (some .boolean), (some .boolean), (some .boolean), (some .boolean), (some .int), none, none, (some .int), (some .int), (some .int), (some .int), (some .boolean), (some .int), (some .boolean), (some .boolean), (some .int), (some .int), (some .int), none, none, (some .boolean), (some .boolean), (some .boolean), (some .int), (some .int), (some .int), (some .int), (some .int), (some .int), (some .int), (some .int), (some .int), none, (some .int), none, (some .int), (some .int), (some .int), (some .int), none, none, (some .boolean), (some .boolean), (some .int), (some .boolean), (some .boolean), (some .boolean), (some .boolean), (some .boolean), (some .boolean), (some .boolean), (some .boolean), (some .int), none, none, none, (some .int), (some .int), (some .int), (some .int), (some .int), (some .int), (some .int), (some .int), (some .int), none, (some .int), (some .int), none, (some .int), (some .int), (some .int), (some .int), (some .boolean), (some .int), (some .int), (some .boolean), (some .int), (some .int), (some .int), (some .int), (some .int), (some .int), (some .boolean), (some .int), (some .int), (some .int), (some .boolean), (some .int), (some .int), (some .int), (some .int), (some .int), (some .int), (some .int), (some .int), (some .long), (some .int), (some .int), (some .int), (some .int), (some .int), (some .int), none, none, (some .long), (some .int), none, (some .int), (some .int)]
def mKs : List Nat := [0, 0, 0, 0, 0, 1, 1, 1, 1, 1, 1, 1, 1, 1, 1, 1, 1, 1, 1, 1, 1, 1, 1, 1, 1, 1, 1, 1, 1, 1, 1, 1, 1, 1, 2, 2, 2, 2, 2, 2, 2, 3, 3, 3, 3, 3, 3, 3, 3, 3, 3, 3, 3, 3, 3, 3, 3, 3, 4, 4, 4, 4, 4, 4, 4, 4, 4, 4, 4, 4, 4, 4, 4, 4, 4, 4, 4, 4, 4, 4, 4, 4, 4, 4, 4, 4, 4, 4, 4, 4, 4, 4, 4, 4, 4, 4, 4, 4, 4, 4, 4, 4, 4, 4, 4, 4, 4, 4, 4, 4, 4, 4, 4, 4, 4, 4, 4, 4, 4, 4, 4, 4, 4, 4, 4, 4, 4, 4, 4, 4, 5, 5, 5, 5, 5, 5, 5, 5, 5, 5, 5, 5, 5, 5, 5, 5, 5, 5, 5, 5, 5, 5, 5, 5, 5, 5, 5, 5, 5, 5, 5, 5, 5, 5, 5, 5, 5, 5, 5, 5, 5, 5, 5, 5, 5, 5, 5, 5, 5, 5, 5, 5, 5, 5, 5, 5, 5, 5, 5, 5, 5, 5, 5, 5, 5, 5, 5, 5, 5, 5, 5, 5, 5, 5, 5, 5, 5, 5, 5, 5, 5, 5, 5, 5, 5, 5, 5, 5, 5, 5, 5, 5, 5, 6, 7, 8, 8]
def mDs : List Nat := [2, 1, 3, 2, 1, 1, 3, 0, 0, 2, 2, 1, 1, 1, 1, 1, 1, 1, 1, 1, 1, 1, 1, 1, 1, 2, 2, 3, 2, 3, 3, 2, 4, 4, 0, 0, 2, 1, 1, 2, 2, 1, 6, 4, 6, 5, 5, 5, 5, 5, 4, 4, 5, 3, 2, 2, 1, 1, 2, 3, 3, 2, 0, 7, 5, 2, 2, 2, 3, 2, 5, 3, 4, 4, 3, 5, 4, 4, 3, 3, 3, 2, 3, 3, 1, 4, 4, 3, 2, 2, 1, 4, 4, 3, 2, 2, 4, 3, 2, 4, 2, 1, 0, 1, 0, 6, 5, 1, 4, 4, 1, 5, 4, 5, 0, 0, 0, 0, 0, 0, 0, 0, 0, 1, 1, 1, 1, 0, 0, 1, 0, 0, 0, 0, 0, 0, 0, 1, 1, 1, 0, 1, 2, 0, 1, 3, 4, 2, 1, 0, 1, 0, 2, 1, 0, 0, 1, 2, 1, 0, 2, 2, 2, 3, 3, 3, 6, 3, 7, 8, 5, 0, 0, 6, 2, 2, 2, 1, 1, 4, 3, 5, 1, 1, 0, 5, 6, 6, 4, 4, 6, 7, 2, 4, 5, 6, 6, 2, 2, 1, 3, 4, 5, 5, 2, 3, 4, 4, 0, 2, 0, 6, 6, 1, 1, 1, 1, 0, 1, 2, 0, 1, 4, 0, 0, 0, 0]
/-- the slots of long locals -/
def mGs : List (List Nat) := [[], [], [], [], [], [], [], [], [], [], [], [], [], [], [], [], [], [], [], [], [], [], [], [], [], [], [], [], [], [], [], [], [], [], [], [], [], [], [], [], [1, 3], [], [], [], [], [], [], [], [], [], [], [], [], [], [], [], [], [], [], [], [], [], [], [], [], [], [], [], [], [], [], [], [], [], [], [], [], [], [], [], [], [], [], [], [], [], [], [], [], [], [], [], [], [], [], [], [], [], [], [], [], [], [], [1, 3, 5], [0, 2, 4, 6, 9], [3], [2], [], [], [], [], [], [], [1], [], [], [], [], [], [], [], [], [], [], [], [], [], [], [], [], [0, 2, 4], [], [], [], [], [], [], [], [], [], [], [], [], [], [], [], [], [], [], [], [], [], [], [], [], [], [], [], [], [], [], [], [], [], [], [], [], [], [], [], [], [], [], [], [], [], [], [], [], [], [], [], [], [], [], [], [], [], [], [], [], [], [], [], [], [], [], [], [], [], [], [], [], [], [], [], [], [], [], [], [1, 3, 5, 7, 9], [7, 9, 12], [3], [], [], [], [], [], [], [], [1], [], [], [], [], [], []]
/-- static? -/
def mSs : List Bool := [false, false, false, false, false, false, false, false, false, false, false, false, false, false, false, false, false, false, false, false, false, false, false, false, false, false, false, false, false, false, false, false, false, false, false, false, false, false, false, false, false, false, false, false, false, false, false, false, false, false, false, false, false, false, false, false, false, false, false, false, false, false, false, false, false, false, false, false, false, false, false, false, false, false, false, false, false, false, false, false, false, false, false, false, false, false, false, false, false, false, false, false, false, false, false, false, false, false, false, false, false, false, true, false, true, false, false, false, false, false, false, false, false, false, false, false, false, true, true, true, true, true, true, true, true, true, true, true, true, true, true, true, false, false, false, false, false, false, false, true, true, true, true, true, true, true, false, false, false, false, false, false, false, false, false, false, false, false, false, false, false, false, false, false, false, false, false, false, false, false, false, false, false, false, false, false, false, false, false, false, false, false, false, false, true, false, false, false, false, false, false, false, false, false, false, false, false, false, false, false, false, false, false, false, false, false, false, false, true, false, false, false, false, false, false, false, false, false, false, false, false, false, false, true, true, true, true]
/-- places of words: code, initialized, static or instanceMethod, selects -/
def mWs : List (Nat × Nat × Nat × Nat) := [(659, 83, 657, 658), (664, 83, 663, 16), (655, 83, 653, 654), (670, 83, 669, 17), (674, 83, 672, 673), (277, 81, 275, 276), (549, 81, 547, 548), (321, 81, 319, 320), (569, 81, 567, 568), (306, 81, 304, 305), (325, 81, 323, 324), (579, 81, 577, 578), (622, 81, 620, 621), (644, 81, 642, 643), (607, 81, 605, 606), (313, 81, 311, 312), (634, 81, 632, 633), (512, 81, 510, 511), (477, 81, 475, 476), (329, 81, 327, 328), (598, 81, 596, 597), (333, 81, 331, 332), (532, 81, 530, 531), (545, 81, 543, 544), (486, 81, 484, 485), (541, 81, 539, 540), (473, 81, 471, 472), (888, 81, 886, 887), (516, 81, 514, 515), (508, 81, 506, 507), (482, 81, 480, 481), (490, 81, 488, 489), (630, 81, 628, 629), (503, 81, 501, 502), (710, 82, 708, 709), (284, 82, 282, 283), (714, 82, 712, 713), (719, 82, 718, 19), (732, 82, 730, 731), (559, 82, 557, 558), (899, 82, 897, 898), (341, 84, 339, 340), (354, 84, 352, 353), (438, 84, 436, 437), (442, 84, 440, 441), (447, 84, 446, 9), (457, 84, 456, 11), (463, 84, 462, 12), (469, 84, 468, 13), (537, 84, 536, 14), (434, 84, 433, 8), (451, 84, 450, 10), (382, 84, 381, 7), (358, 84, 357, 2), (369, 84, 368, 4), (377, 84, 376, 6), (365, 84, 364, 3), (373, 84, 372, 5), (273, 80, 271, 272), (288, 80, 286, 287), (317, 80, 315, 316), (337, 80, 335, 336), (346, 80, 344, 345), (350, 80, 348, 349), (565, 80, 563, 564), (585, 80, 583, 584), (591, 80, 589, 590), (603, 80, 601, 602), (612, 80, 610, 611), (618, 80, 616, 617), (626, 80, 624, 625), (640, 80, 638, 639), (650, 80, 648, 649), (678, 80, 676, 677), (683, 80, 681, 682), (689, 80, 687, 688), (693, 80, 692, 18), (699, 80, 697, 698), (703, 80, 701, 702), (724, 80, 722, 723), (740, 80, 738, 739), (728, 80, 727, 20), (750, 80, 748, 749), (754, 80, 752, 753), (758, 80, 756, 757), (763, 80, 761, 762), (775, 80, 773, 774), (767, 80, 766, 21), (771, 80, 770, 22), (779, 80, 778, 23), (784, 80, 783, 24), (790, 80, 788, 789), (803, 80, 801, 802), (794, 80, 793, 25), (798, 80, 797, 26), (808, 80, 807, 27), (812, 80, 810, 811), (816, 80, 815, 28), (820, 80, 819, 29), (824, 80, 822, 823), (835, 80, 834, 31), (840, 80, 839, 32), (844, 80, 843, 0), (828, 80, 827, 30), (831, 80, 830, 0), (848, 80, 846, 847), (859, 80, 858, 33), (864, 80, 862, 863), (868, 80, 866, 867), (872, 80, 870, 871), (876, 80, 874, 875), (880, 80, 878, 879), (884, 80, 883, 34), (893, 80, 891, 892), (298, 80, 297, 0), (575, 80, 574, 15), (302, 80, 301, 1), (291, 80, 290, 0), (294, 80, 293, 0), (594, 80, 593, 0), (706, 80, 705, 0), (361, 80, 360, 0), (309, 80, 308, 0), (552, 80, 551, 0), (519, 80, 518, 0), (522, 80, 521, 0), (736, 80, 735, 0), (525, 80, 524, 0), (528, 80, 527, 0), (493, 80, 492, 0), (970, 85, 969, 0), (1097, 85, 1096, 0), (975, 85, 974, 36), (1125, 85, 1124, 61), (979, 85, 978, 37), (1113, 85, 1112, 59), (962, 85, 961, 35), (1121, 85, 1120, 60), (992, 85, 991, 39), (1209, 85, 1208, 0), (1089, 85, 1088, 0), (1092, 85, 1091, 0), (1086, 85, 1085, 0), (1072, 85, 1071, 0), (1069, 85, 1068, 0), (1083, 85, 1082, 0), (1080, 85, 1079, 55), (1066, 85, 1065, 53), (958, 85, 956, 957), (983, 85, 982, 38), (966, 85, 964, 965), (996, 85, 995, 40), (987, 85, 985, 986), (1000, 85, 998, 999), (1005, 85, 1003, 1004), (1017, 85, 1016, 42), (1013, 85, 1012, 41), (1025, 85, 1024, 44), (1035, 85, 1034, 46), (1039, 85, 1038, 47), (1031, 85, 1030, 45), (1047, 85, 1046, 49), (1109, 85, 1108, 58), (1043, 85, 1042, 48), (1054, 85, 1053, 50), (1058, 85, 1057, 51), (1062, 85, 1061, 52), (1101, 85, 1100, 56), (1021, 85, 1020, 43), (1009, 85, 1007, 1008), (1076, 85, 1075, 54), (1105, 85, 1104, 57), (1129, 85, 1128, 62), (1117, 85, 1115, 1116), (1133, 85, 1131, 1132), (1137, 85, 1135, 1136), (1141, 85, 1139, 1140), (1145, 85, 1143, 1144), (1150, 85, 1148, 1149), (1154, 85, 1152, 1153), (1158, 85, 1157, 63), (1162, 85, 1160, 1161), (1174, 85, 1173, 65), (1179, 85, 1178, 66), (1182, 85, 1181, 0), (1170, 85, 1169, 64), (1166, 85, 1164, 1165), (1186, 85, 1184, 1185), (1190, 85, 1188, 1189), (1194, 85, 1192, 1193), (1202, 85, 1201, 67), (1198, 85, 1196, 1197), (1206, 85, 1204, 1205), (1222, 85, 1221, 69), (1218, 85, 1217, 68), (1214, 85, 1212, 1213), (1226, 85, 1224, 1225), (1230, 85, 1228, 1229), (1234, 85, 1232, 1233), (1238, 85, 1236, 1237), (1250, 85, 1249, 71), (1246, 85, 1245, 70), (1242, 85, 1240, 1241), (1254, 85, 1252, 1253), (1266, 85, 1265, 73), (1262, 85, 1261, 72), (1258, 85, 1256, 1257), (1270, 85, 1268, 1269), (1277, 85, 1276, 0), (1274, 85, 1272, 1273), (1286, 85, 1285, 74), (1281, 85, 1279, 1280), (1290, 85, 1288, 1289), (1301, 85, 1299, 1300), (1305, 85, 1303, 1304), (1309, 85, 1307, 1308), (1313, 85, 1311, 1312), (1325, 85, 1324, 76), (1321, 85, 1320, 75), (1317, 85, 1315, 1316), (1334, 85, 1333, 77), (1339, 85, 1338, 78), (1329, 85, 1327, 1328), (743, 93, 742, 0), (280, 86, 279, 0), (496, 91, 495, 0), (499, 91, 498, 0)]
def tab (y : Nat) : List (Nat × Instr × Nat) := nth tabs y ([])
def mN (y : Nat) : MethodName := nth mNs y (⟨"", "", ""⟩)
def mC (y : Nat) : ByteArray := nth mCs y (⟨#[]⟩)
def mL (y : Nat) : Nat := nth mLs y (0)
def mR (y : Nat) : Option FieldType := nth mRs y (none)
def mK (y : Nat) : Nat := nth mKs y (99)
def mD (y : Nat) : Nat := nth mDs y (0)
def mG (y : Nat) : List Nat := nth mGs y ([])
def mS (y : Nat) : Bool := nth mSs y (false)
def mW (y : Nat) : Nat × Nat × Nat × Nat := nth mWs y ((0, 0, 0, 0))
def ownN : List String := ["StairSteps$Climb", "StairSteps$House", "StairSteps$Ledger", "StairSteps$Reader", "StairSteps", "StairStepsModel", "java/lang/Integer", "java/util/Arrays", "java/lang/Math"]
abbrev cls : List vw_C := [(RX0, TX0, 3), (RX1, TX1, 12), (RX2, TX2, 4), (RX3, TX3, 6), (RX4, TX4, 17), (RX5, TX5, 15)]
def tyO (ci k : Nat) : FieldType := match ci with
  | 0 => tyX0 k
  | 1 => tyX1 k
  | 2 => tyX2 k
  | 3 => tyX3 k
  | 4 => tyX4 k
  | _ => tyX5 k
/-- field links: own class ↦ (pool index, class, field, place of the word) -/
def fldT : List (List (Nat × Nat × Nat × Nat)) := [[(9, 0, 0, 180), (15, 0, 1, 181), (18, 0, 2, 182)], [(45, 1, 0, 129), (49, 1, 1, 133), (52, 1, 2, 135), (11, 1, 3, 137), (15, 1, 4, 138), (18, 1, 5, 139), (21, 1, 6, 140), (24, 1, 7, 141), (27, 1, 8, 142), (35, 1, 9, 143), (39, 1, 10, 145), (42, 1, 11, 147)], [(7, 2, 0, 114), (13, 2, 1, 115), (16, 2, 2, 116), (20, 2, 3, 117)], [(68, 1, 0, 131), (84, 1, 1, 134), (9, 3, 0, 197), (15, 3, 1, 198), (109, 3, 2, 201), (23, 3, 3, 202), (39, 3, 4, 203), (77, 3, 5, 204)], [(245, 2, 3, 118), (77, 1, 0, 130), (59, 1, 1, 132), (166, 1, 2, 136), (216, 1, 9, 144), (251, 1, 10, 146), (254, 1, 11, 148), (191, 0, 2, 183), (94, 3, 1, 199), (112, 3, 2, 200), (10, 4, 0, 218), (16, 4, 1, 219), (19, 4, 2, 220), (357, 4, 3, 221), (361, 4, 4, 222), (22, 4, 5, 223), (28, 4, 6, 224), (32, 4, 7, 225), (38, 4, 8, 226), (42, 4, 9, 227), (46, 4, 10, 228), (49, 4, 11, 229), (52, 4, 12, 230), (56, 4, 13, 231), (364, 4, 14, 232), (367, 4, 15, 233), (370, 4, 16, 234)], [(7, 5, 0, 908), (13, 5, 1, 909), (17, 5, 2, 910), (42, 5, 3, 911), (20, 5, 4, 912), (24, 5, 5, 913), (27, 5, 6, 914), (109, 5, 7, 915), (115, 5, 8, 916), (133, 5, 9, 917), (30, 5, 10, 918), (33, 5, 11, 919), (36, 5, 12, 920), (39, 5, 13, 921), (278, 5, 14, 922)], [], [], []]
/-- method links: own class ↦ (pool index, method, number of parameters, nest mate?, place of the word) -/
def mthT : List (List (Nat × Nat × Nat × Bool × Nat)) := [[(38, 0, 3, false, 656), (22, 122, 3, true, 660), (26, 1, 2, false, 661), (34, 128, 2, true, 665), (30, 121, 2, true, 666), (42, 3, 4, false, 667)], [(55, 224, 2, false, 278), (61, 35, 0, false, 281), (73, 122, 3, true, 307), (77, 15, 2, false, 310), (80, 19, 2, false, 326), (83, 21, 2, false, 330), (105, 18, 1, false, 474), (92, 121, 2, true, 478), (122, 24, 0, false, 483), (128, 31, 2, false, 487), (131, 129, 4, true, 491), (99, 226, 2, false, 504), (144, 29, 1, false, 505), (119, 17, 1, false, 509), (125, 28, 2, false, 513), (113, 124, 2, true, 517), (116, 125, 2, true, 520), (147, 128, 2, true, 526), (151, 22, 0, false, 529), (96, 23, 0, false, 542), (65, 123, 2, true, 550), (69, 39, 1, false, 556), (86, 1002, 5, false, 580), (135, 16, 1, false, 631), (138, 20, 1, false, 635), (141, 30, 1, false, 636), (109, 26, 1, false, 889)], [(41, 123, 2, true, 560), (23, 34, 0, false, 715), (27, 37, 2, false, 716), (31, 122, 3, true, 720), (37, 121, 2, true, 733), (47, 38, 2, false, 901)], [(19, 122, 3, true, 342), (26, 53, 0, false, 355), (117, 121, 2, true, 359), (125, 56, 1, false, 362), (128, 54, 0, false, 366), (131, 57, 1, false, 370), (134, 55, 0, false, 374), (31, 52, 1, false, 379), (112, 1003, 0, false, 383), (121, 1004, 1, false, 393), (35, 50, 0, false, 431), (44, 45, 1, false, 444), (73, 51, 2, false, 448), (80, 9, 2, false, 452), (50, 46, 1, false, 454), (87, 10, 3, false, 458), (55, 47, 1, false, 460), (91, 21, 2, false, 464), (60, 48, 1, false, 466), (95, 26, 1, false, 470), (99, 30, 1, false, 479), (103, 33, 2, false, 500), (65, 49, 1, false, 534), (105, 25, 1, false, 538)], [(63, 5, 0, false, 274), (66, 117, 1, false, 289), (70, 118, 1, false, 292), (73, 114, 0, false, 295), (80, 116, 0, false, 299), (83, 9, 2, false, 303), (87, 7, 1, false, 318), (90, 10, 3, false, 322), (97, 41, 1, false, 338), (101, 42, 0, false, 351), (105, 43, 0, false, 435), (108, 44, 1, false, 439), (240, 225, 2, false, 494), (324, 226, 2, false, 497), (393, 127, 1, false, 523), (115, 6, 1, false, 546), (387, 1002, 5, false, 553), (119, 8, 1, false, 566), (122, 26, 1, false, 570), (125, 30, 1, false, 571), (128, 115, 0, false, 572), (131, 11, 0, false, 576), (134, 33, 2, false, 581), (137, 18, 1, false, 586), (140, 19, 2, false, 587), (144, 119, 1, false, 592), (147, 20, 1, false, 595), (150, 21, 2, false, 599), (153, 14, 1, false, 604), (156, 15, 2, false, 608), (159, 25, 1, false, 613), (163, 23, 0, false, 614), (169, 12, 0, false, 619), (172, 32, 2, false, 627), (175, 13, 1, false, 641), (178, 24, 0, false, 645), (181, 28, 2, false, 646), (184, 29, 1, false, 651), (187, 2, 3, false, 652), (192, 4, 1, false, 671), (195, 0, 3, false, 679), (198, 31, 2, false, 684), (201, 17, 1, false, 685), (204, 76, 2, false, 690), (207, 124, 2, false, 694), (210, 125, 2, false, 695), (213, 120, 1, false, 704), (220, 34, 0, false, 707), (225, 36, 5, false, 711), (229, 81, 1, false, 725), (248, 38, 2, false, 729), (232, 126, 2, false, 734), (235, 223, 1, false, 741), (257, 35, 0, false, 759), (259, 87, 1, false, 764), (265, 88, 2, false, 768), (262, 89, 2, false, 776), (269, 224, 2, false, 780), (275, 90, 1, false, 781), (278, 121, 2, false, 785), (282, 122, 3, false, 786), (286, 93, 1, false, 791), (296, 94, 2, false, 795), (299, 129, 4, false, 799), (289, 16, 1, false, 804), (292, 95, 4, false, 805), (302, 97, 3, false, 813), (306, 98, 3, false, 817), (309, 103, 2, false, 825), (333, 104, 2, false, 829), (313, 100, 3, false, 832), (320, 123, 2, false, 836), (327, 101, 3, false, 837), (330, 128, 2, false, 841), (316, 102, 1, false, 842), (350, 106, 2, false, 856), (354, 22, 0, false, 860), (373, 112, 1, false, 881), (376, 27, 0, false, 885), (383, 40, 1, false, 896)], [(78, 136, 1, false, 959), (46, 130, 3, false, 968), (86, 132, 1, false, 972), (89, 134, 0, false, 976), (93, 149, 3, false, 980), (99, 138, 1, false, 989), (103, 151, 4, false, 993), (118, 156, 0, false, 1010), (112, 155, 1, false, 1014), (181, 168, 1, false, 1018), (156, 157, 0, false, 1022), (159, 160, 0, false, 1028), (129, 158, 8, false, 1032), (125, 159, 3, false, 1036), (162, 163, 0, false, 1040), (142, 161, 2, false, 1044), (166, 164, 0, false, 1051), (169, 165, 0, false, 1055), (172, 166, 0, false, 1059), (146, 147, 2, false, 1063), (74, 144, 4, false, 1067), (63, 143, 2, false, 1070), (149, 170, 3, false, 1073), (188, 146, 2, false, 1077), (70, 145, 3, false, 1081), (67, 142, 2, false, 1084), (56, 140, 1, false, 1087), (60, 141, 1, false, 1090), (191, 131, 2, false, 1095), (175, 167, 0, false, 1098), (152, 171, 2, false, 1102), (178, 162, 0, false, 1106), (185, 135, 2, false, 1110), (194, 137, 1, false, 1118), (197, 133, 0, false, 1122), (200, 172, 0, false, 1126), (205, 180, 2, false, 1155), (212, 185, 1, false, 1167), (209, 182, 2, false, 1171), (215, 183, 2, false, 1176), (218, 184, 2, false, 1180), (221, 190, 2, false, 1199), (225, 139, 1, false, 1207), (231, 194, 1, false, 1215), (228, 193, 2, false, 1219), (237, 201, 1, false, 1243), (234, 200, 2, false, 1247), (243, 205, 1, false, 1259), (240, 204, 2, false, 1263), (246, 208, 3, false, 1275), (252, 210, 2, false, 1283), (273, 218, 1, false, 1318), (270, 217, 0, false, 1322), (281, 220, 1, false, 1331), (287, 221, 2, false, 1336)], [], [], []]
/-- int constants; long constants; texts: own class ↦ (pool index, value or number, place of the word) -/
def cstT : List (List (Nat × Int × Nat)) := [[], [], [], [], [(337, 999999, 849)], [(208, 1000000, 1175)], [(265, 1431655765, 744), (266, 858993459, 745), (267, 252645135, 746)], [], []]
def lngT : List (List (Nat × Int × Nat)) := [[], [], [(45, 31, 900)], [], [(338, 1103515245, 850), (340, 12345, 851), (342, 2147483648, 852), (344, 65536, 853), (346, 6, 854), (348, 1048576, 855), (379, 1777, 894), (381, 31, 895)], [(82, 5, 967), (84, 10, 971), (97, 4, 988), (107, 127, 1001), (121, 97, 1026), (123, 122, 1027), (136, 48, 1048), (138, 57, 1049), (140, 2, 1050), (52, 9, 1093), (54, 16, 1094), (203, 99, 1146), (50, 23, 1210), (250, 6, 1282), (256, 999999, 1291), (258, 60, 1292), (260, 1103515245, 1293), (262, 12345, 1294), (264, 2147483648, 1295), (266, 65536, 1296), (268, 1048576, 1297), (285, 1777, 1330), (276, 31, 1335)], [], [], []]
def strT : List (List (Nat × Nat × Nat)) := [[], [], [], [(29, 0, 378), (42, 1, 443), (48, 2, 453), (53, 3, 459), (58, 4, 465), (63, 5, 533)], [], [], [], [], []]
def strX : List String := ["tenement", "flight", "goer", "load", "stride", "hours"]
def strB : List (List Int) := [[116, 101, 110, 101, 109, 101, 110, 116], [102, 108, 105, 103, 104, 116], [103, 111, 101, 114], [108, 111, 97, 100], [115, 116, 114, 105, 100, 101], [104, 111, 117, 114, 115]]
/-- the cells of the world: an array (its length; of booleans?), or an object (its class, its fields: 0 an int, 1 a long, 2 a boolean, k + 3 a reference to cell k) -/
abbrev Shp : Type := (Nat × Bool) ⊕ (Nat × List Nat)
def SH : List Shp := [.inr (4, [4, 17, 30, 2, 2, 43, 56, 59, 62, 64, 65, 66, 1, 1, 0, 0, 0]), .inr (1, [0, 0, 0, 5, 6, 7, 8, 9, 10, 11, 13, 15]), .inl (3, false), .inl (6, false), .inl (6, false), .inl (6, false), .inl (17, false), .inl (136, false), .inr (2, [0, 0, 12, 0]), .inl (20, false), .inr (2, [0, 0, 14, 0]), .inl (18, false), .inr (2, [0, 0, 16, 0]), .inl (30, false), .inr (1, [0, 0, 0, 18, 19, 20, 21, 22, 23, 24, 26, 28]), .inl (3, false), .inl (6, false), .inl (6, false), .inl (6, false), .inl (17, false), .inl (136, false), .inr (2, [0, 0, 25, 0]), .inl (20, false), .inr (2, [0, 0, 27, 0]), .inl (18, false), .inr (2, [0, 0, 29, 0]), .inl (30, false), .inr (1, [0, 0, 0, 31, 32, 33, 34, 35, 36, 37, 39, 41]), .inl (3, false), .inl (6, false), .inl (6, false), .inl (6, false), .inl (17, false), .inl (136, false), .inr (2, [0, 0, 38, 0]), .inl (20, false), .inr (2, [0, 0, 40, 0]), .inl (18, false), .inr (2, [0, 0, 42, 0]), .inl (30, false), .inr (1, [0, 0, 0, 44, 45, 46, 47, 48, 49, 50, 52, 54]), .inl (3, false), .inl (6, false), .inl (6, false), .inl (6, false), .inl (17, false), .inl (136, false), .inr (2, [0, 0, 51, 0]), .inl (20, false), .inr (2, [0, 0, 53, 0]), .inl (18, false), .inr (2, [0, 0, 55, 0]), .inl (30, false), .inr (0, [57, 58, 0]), .inl (12, false), .inl (11, false), .inr (0, [60, 61, 0]), .inl (12, false), .inl (11, false), .inr (3, [63, 0, 0, 0, 0, 0]), .inl (150, false), .inl (12, false), .inl (12, false), .inl (10, false), .inr (5, [68, 69, 70, 0, 1, 1, 71, 0, 0, 0, 72, 73, 74, 75, 1]), .inl (1032, false), .inl (2, true), .inl (150, false), .inl (3, false), .inl (12, false), .inl (13, false), .inl (13, false), .inl (6, false)]
end
section
/-! THE PURE MACHINE: a value is an int, a long or a reference to a numbered cell; a memory holds the numbers of the cells -/
abbrev PV : Type := Int ⊕ (Int ⊕ Nat)
abbrev Lc : Type := List (Option PV)
abbrev Mm : Type := Nat → Int → Int
/-- pc, locals, stack, memory -/
abbrev Cf : Type := Nat × Lc × List PV × Mm
/-- the next configuration; or a call: method, arguments, pc behind it, stack behind it; or the end with its answer -/
abbrev StT : Type := Cf ⊕ ((Nat × List PV × Nat × List PV) ⊕ Option PV)
def gl : Lc → Nat → Option PV
  | [], _ => none
  | a :: _, 0 => a
  | _ :: l, n + 1 => gl l n
def sl : Lc → Nat → Option PV → Lc
  | [], _, _ => []
  | _ :: l, 0, v => v :: l
  | a :: l, n + 1, v => a :: sl l n v
def up (M : Mm) (r : Nat) (i v : Int) : Mm := fun a b => if a = r ∧ b = i then v else M a b
def cp (M : Mm) (rs : Nat) (sp : Int) (rd : Nat) (dp n : Int) : Mm := fun a b => if a = rd ∧ dp ≤ b ∧ b < dp + n then M rs (sp + (b - dp)) else M a b
def i1 (f : Int32 → Int32) (a : Int) : Int := (f (Int32.ofInt a)).toInt
def i2 (f : Int32 → Int32 → Int32) (a b : Int) : Int := (f (Int32.ofInt a) (Int32.ofInt b)).toInt
def l2 (f : Int64 → Int64 → Int64) (a b : Int) : Int := (f (Int64.ofInt a) (Int64.ofInt b)).toInt
def fadd (x y : Int32) : Int32 := x + y
def fsub (x y : Int32) : Int32 := x - y
def fmul (x y : Int32) : Int32 := x * y
def fneg (x : Int32) : Int32 := -x
def fdiv (x y : Int32) : Int32 := x / y
def frem (x y : Int32) : Int32 := x - x / y * y
def fand (x y : Int32) : Int32 := x &&& y
def fior (x y : Int32) : Int32 := x ||| y
def fxor (x y : Int32) : Int32 := x ^^^ y
def fshl (x y : Int32) : Int32 := x <<< (y &&& 31)
def fshr (x y : Int32) : Int32 := x >>> (y &&& 31)
def fushr (x y : Int32) : Int32 := (x.toUInt32 >>> (y.toUInt32 &&& Int32.toUInt32 31)).toInt32
def gadd (x y : Int64) : Int64 := x + y
def gmul (x y : Int64) : Int64 := x * y
def gdiv (x y : Int64) : Int64 := x / y
def grem (x y : Int64) : Int64 := x - x / y * y
def nx (pc : Nat) (L : Lc) (st : List PV) (M : Mm) : Option StT := some (.inl (pc, L, st, M))
def pI (pc : Nat) (L : Lc) (M : Mm) (f : Int32 → Int32 → Int32) : List PV → Option StT
  | .inl b :: .inl a :: st => nx pc L (.inl (i2 f a b) :: st) M
  | _ => none
/-- division, remainder: not by 0 -/
def pD (pc : Nat) (L : Lc) (M : Mm) (f : Int32 → Int32 → Int32) : List PV → Option StT
  | .inl b :: .inl a :: st => if b = 0 then none else nx pc L (.inl (i2 f a b) :: st) M
  | _ => none
def qI (pc : Nat) (L : Lc) (M : Mm) (f : Int64 → Int64 → Int64) : List PV → Option StT
  | .inr (.inl b) :: .inr (.inl a) :: st => nx pc L (.inr (.inl (l2 f a b)) :: st) M
  | _ => none
def qD (pc : Nat) (L : Lc) (M : Mm) (f : Int64 → Int64 → Int64) : List PV → Option StT
  | .inr (.inl b) :: .inr (.inl a) :: st => if b = 0 then none else nx pc L (.inr (.inl (l2 f a b)) :: st) M
  | _ => none
def br (c : Jvm.ClassFile.Cond) (a b : Int) (t f : Nat) : Nat := match c with
  | .eq => if a = b then t else f
  | .ne => if a = b then f else t
  | .lt => if a < b then t else f
  | .ge => if a < b then f else t
  | .gt => if b < a then t else f
  | .le => if b < a then f else t
/-- lcmp -/
def lc (a b : Int) : Int := if b < a then 1 else if a = b then 0 else -1
def ld (pc : Nat) (L : Lc) (st : List PV) (M : Mm) (k : Nat) (i : Nat) : Option StT := match k, gl L i with
  | 0, some (.inl z) => nx pc L (.inl z :: st) M
  | 1, some (.inr (.inl z)) => nx pc L (.inr (.inl z) :: st) M
  | 2, some (.inr (.inr r)) => nx pc L (.inr (.inr r) :: st) M
  | _, _ => none
def sto (pc : Nat) (L : Lc) (st : List PV) (M : Mm) (k : Nat) (i : Nat) : Option StT := match k, st with
  | 0, .inl z :: st => nx pc (sl L i (some (.inl z))) st M
  | 1, .inr (.inl z) :: st => nx pc (sl (sl L (i + 1) none) i (some (.inr (.inl z)))) st M
  | 2, .inr (.inr r) :: st => nx pc (sl L i (some (.inr (.inr r)))) st M
  | _, _ => none
def gf (M : Mm) (r f : Nat) : Nat → PV
  | 0 => .inl (M r f)
  | 1 => .inr (.inl (M r f))
  | 2 => .inl (M r f)
  | k + 3 => .inr (.inr k)
def shp (r : Nat) : Shp := nth SH r (.inl (0, false))
def fkind (r ci f : Nat) : Nat := match shp r with
  | .inr (c, ks) => bif Nat.beq c ci then nth ks f 99999 else 99999
  | _ => 99999
def look4 {α : Type} : List (Nat × α) → Nat → Option α
  | [], _ => none
  | (k, v) :: t, i => bif Nat.beq k i then some v else look4 t i
def fetch (y pc : Nat) : Option (Instr × Nat) := look4 (tab y) pc
def gfield (pc : Nat) (L : Lc) (st : List PV) (M : Mm) (q : Option (Nat × Nat × Nat)) : Option StT := match q, st with
  | some (ci, f, _), .inr (.inr r) :: st => (match fkind r ci f with
    | 99999 => none
    | k => nx (pc + 3) L (gf M r f k :: st) M)
  | _, _ => none
def pfield (pc : Nat) (L : Lc) (st : List PV) (M : Mm) (q : Option (Nat × Nat × Nat)) : Option StT := match q, st with
  | some (ci, f, _), .inl z :: .inr (.inr r) :: st => (match fkind r ci f with
    | 0 => nx (pc + 3) L st (up M r f z)
    | 2 => if z = 0 ∨ z = 1 then nx (pc + 3) L st (up M r f z) else none
    | _ => none)
  | some (ci, f, _), .inr (.inl z) :: .inr (.inr r) :: st => (match fkind r ci f with
    | 1 => nx (pc + 3) L st (up M r f z)
    | _ => none)
  | _, _ => none
def ald (pc : Nat) (L : Lc) (st : List PV) (M : Mm) (bo : Bool) : Option StT := match st with
  | .inl i :: .inr (.inr r) :: st => (match shp r with
    | .inl (n, b) => bif (b == bo) then (if 0 ≤ i ∧ i < n then nx (pc + 1) L (.inl (M r i) :: st) M else none) else none
    | _ => none)
  | _ => none
def ast (pc : Nat) (L : Lc) (st : List PV) (M : Mm) (bo : Bool) : Option StT := match st with
  | .inl v :: .inl i :: .inr (.inr r) :: st => (match shp r with
    | .inl (n, b) => bif (b == bo) then (if (0 ≤ i ∧ i < n) ∧ (bo = true → v = 0 ∨ v = 1) then nx (pc + 1) L st (up M r i v) else none) else none
    | _ => none)
  | _ => none
def alen (pc : Nat) (L : Lc) (st : List PV) (M : Mm) : Option StT := match st with
  | .inr (.inr r) :: st => (match shp r with
    | .inl (n, _) => bif Nat.blt r 73 then nx (pc + 1) L (.inl (n : Int) :: st) M else none
    | _ => none)
  | _ => none
/-- n values off the stack, the deepest first -/
def spl : Nat → List PV → List PV → Option (List PV × List PV)
  | 0, acc, st => some (acc, st)
  | n + 1, acc, v :: st => spl n (v :: acc) st
  | _ + 1, _, [] => none
/-- words of a list of values -/
def cs : List PV → Nat
  | [] => 0
  | .inr (.inl _) :: st => cs st + 2
  | _ :: st => cs st + 1
def ent : Nat → List PV → Lc
  | n, [] => List.replicate n none
  | n, .inr (.inl z) :: as => some (.inr (.inl z)) :: none :: ent (n - 2) as
  | n, .inr (.inr r) :: as => some (.inr (.inr r)) :: ent (n - 1) as
  | n, .inl z :: as => some (.inl z) :: ent (n - 1) as
/-- the longs among the arguments stand where the method has long slots -/
def lok (g : List Nat) : Nat → List PV → Bool
  | _, [] => true
  | i, .inr (.inl _) :: as => g.contains i && lok g (i + 2) as
  | i, .inr (.inr _) :: as => lok g (i + 1) as
  | i, .inl _ :: as => lok g (i + 1) as
def acopy (pc : Nat) (L : Lc) (st : List PV) (M : Mm) : Option StT := match st with
  | .inl n :: .inl dp :: .inr (.inr rd) :: .inl sp :: .inr (.inr rs) :: st => (match shp rs, shp rd with
    | .inl (n0, false), .inl (n1, false) => if ((0 ≤ sp ∧ 0 ≤ dp ∧ 0 ≤ n) ∧ sp + n ≤ n0 ∧ dp + n ≤ n1) ∧ (rs < 73 ∧ rd < 73) ∧ cs st ≤ 8 then nx (pc + 3) L st (cp M rs sp rd dp n) else none
    | _, _ => none)
  | _ => none
def calS (pc t np : Nat) (st : List PV) : Option StT := match spl np [] st with
  | some (as, rest) => bif (Nat.ble (cs rest) 8 && (Nat.ble (cs as) (mL t) && (mS t && lok (mG t) 0 as))) then some (.inr (.inl (t, as, pc + 3, rest))) else none
  | none => none
def calV (pc t np : Nat) (st : List PV) : Option StT := match spl (np + 1) [] st with
  | some (.inr (.inr r) :: as, rest) => (match shp r with
    | .inr (ci, _) => bif (Nat.ble (cs rest) 8 && (Nat.ble (cs as + 1) (mL t) && (!(mS t) && (Nat.beq ci (mK t) && lok (mG t) 1 as)))) then some (.inr (.inl (t, .inr (.inr r) :: as, pc + 3, rest))) else none
    | _ => none)
  | _ => none
def stlen (pc : Nat) (L : Lc) (st : List PV) (M : Mm) : Option StT := match st with
  | .inr (.inr q) :: st => if (500 ≤ q ∧ q < 506) ∧ cs st ≤ 8 then nx (pc + 3) L (.inl ((nth strB (q - 500) []).length : Int) :: st) M else none
  | _ => none
def stchr (pc : Nat) (L : Lc) (st : List PV) (M : Mm) : Option StT := match st with
  | .inl j :: .inr (.inr q) :: st => if ((500 ≤ q ∧ q < 506) ∧ 0 ≤ j ∧ j < (nth strB (q - 500) []).length) ∧ cs st ≤ 8 then nx (pc + 3) L (.inl (nth (nth strB (q - 500) []) j.toNat 0) :: st) M else none
  | _ => none
def stepI (y pc : Nat) (i : Instr) (len : Nat) (L : Lc) (st : List PV) (M : Mm) : Option StT := match i with
  | .iconst v => nx (pc + len) L (.inl v :: st) M
  | .bipush v => nx (pc + len) L (.inl v :: st) M
  | .sipush v => nx (pc + len) L (.inl v :: st) M
  | .lconst b => nx (pc + len) L (.inr (.inl (b.val : Int)) :: st) M
  | .ldc k => (match look4 (nth cstT (mK y) []) k with
    | some (v, _) => nx (pc + len) L (.inl v :: st) M
    | none => (match look4 (nth strT (mK y) []) k with
      | some (j, _) => nx (pc + len) L (.inr (.inr (500 + j)) :: st) M
      | none => none))
  | .ldc_w k => (match look4 (nth cstT (mK y) []) k with
    | some (v, _) => nx (pc + len) L (.inl v :: st) M
    | none => none)
  | .ldc2_w k => (match look4 (nth lngT (mK y) []) k with
    | some (v, _) => nx (pc + len) L (.inr (.inl v) :: st) M
    | none => none)
  | .iload k => ld (pc + len) L st M 0 k
  | .iload_n k => ld (pc + len) L st M 0 k.val
  | .lload k => ld (pc + len) L st M 1 k
  | .lload_n k => ld (pc + len) L st M 1 k.val
  | .aload k => ld (pc + len) L st M 2 k
  | .aload_n k => ld (pc + len) L st M 2 k.val
  | .istore k => sto (pc + len) L st M 0 k
  | .istore_n k => sto (pc + len) L st M 0 k.val
  | .lstore k => sto (pc + len) L st M 1 k
  | .lstore_n k => sto (pc + len) L st M 1 k.val
  | .astore k => sto (pc + len) L st M 2 k
  | .astore_n k => sto (pc + len) L st M 2 k.val
  | .iinc k n => (match gl L k with
    | some (.inl z) => nx (pc + len) (sl L k (some (.inl (i2 fadd z n)))) st M
    | _ => none)
  | .iadd => pI (pc + len) L M fadd st
  | .isub => pI (pc + len) L M fsub st
  | .imul => pI (pc + len) L M fmul st
  | .iand => pI (pc + len) L M fand st
  | .ior => pI (pc + len) L M fior st
  | .ixor => pI (pc + len) L M fxor st
  | .ishl => pI (pc + len) L M fshl st
  | .ishr => pI (pc + len) L M fshr st
  | .iushr => pI (pc + len) L M fushr st
  | .idiv => pD (pc + len) L M fdiv st
  | .irem => pD (pc + len) L M frem st
  | .ineg => (match st with
    | .inl a :: st => nx (pc + len) L (.inl (i1 fneg a) :: st) M
    | _ => none)
  | .ladd => qI (pc + len) L M gadd st
  | .lmul => qI (pc + len) L M gmul st
  | .ldiv => qD (pc + len) L M gdiv st
  | .lrem => qD (pc + len) L M grem st
  | .i2l => (match st with
    | .inl a :: st => nx (pc + len) L (.inr (.inl a) :: st) M
    | _ => none)
  | .l2i => (match st with
    | .inr (.inl a) :: st => nx (pc + len) L (.inl (Int64.ofInt a).toInt32.toInt :: st) M
    | _ => none)
  | .lcmp => (match st with
    | .inr (.inl b) :: .inr (.inl a) :: st => nx (pc + len) L (.inl (lc a b) :: st) M
    | _ => none)
  | .dup => (match st with
    | .inl a :: st => nx (pc + len) L (.inl a :: .inl a :: st) M
    | .inr (.inr a) :: st => nx (pc + len) L (.inr (.inr a) :: .inr (.inr a) :: st) M
    | _ => none)
  | .dup2 => (match st with
    | .inl a :: .inr (.inr b) :: st => nx (pc + len) L (.inl a :: .inr (.inr b) :: .inl a :: .inr (.inr b) :: st) M
    | _ => none)
  | .pop => (match st with
    | .inl _ :: st => nx (pc + len) L st M
    | .inr (.inr _) :: st => nx (pc + len) L st M
    | _ => none)
  | .goto off => nx ((pc : Int) + off).toNat L st M
  | .ifCond c off => (match st with
    | .inl a :: st => nx (br c a 0 ((pc : Int) + off).toNat (pc + 3)) L st M
    | _ => none)
  | .if_icmp c off => (match st with
    | .inl b :: .inl a :: st => nx (br c a b ((pc : Int) + off).toNat (pc + 3)) L st M
    | _ => none)
  | .tableswitch d lo hi offs => (match st with
    | .inl a :: st => nx ((pc : Int) + (if a < lo ∨ hi < a then d else nth offs.toList (a - lo).toNat d)).toNat L st M
    | _ => none)
  | .getfield k => gfield pc L st M (look4 (nth fldT (mK y) []) k)
  | .putfield k => pfield pc L st M (look4 (nth fldT (mK y) []) k)
  | .iaload => ald pc L st M false
  | .baload => ald pc L st M true
  | .iastore => ast pc L st M false
  | .bastore => ast pc L st M true
  | .arraylength => alen pc L st M
  | .invokestatic k => (match look4 (nth mthT (mK y) []) k with
    | some (t, np, _, _) => bif Nat.beq t 1002 then acopy pc L st M else calS pc t np st
    | none => none)
  | .invokevirtual k => (match look4 (nth mthT (mK y) []) k with
    | some (t, np, _, _) => bif Nat.beq t 1003 then stlen pc L st M else bif Nat.beq t 1004 then stchr pc L st M else calV pc t np st
    | none => none)
  | .ireturn => (match st with
    | [.inl z] => (match mR y with
      | some .int => some (.inr (.inr (some (.inl z))))
      | some .boolean => if z = 0 ∨ z = 1 then some (.inr (.inr (some (.inl z)))) else none
      | _ => none)
    | _ => none)
  | .lreturn => (match st with
    | [.inr (.inl z)] => (match mR y with
      | some .long => some (.inr (.inr (some (.inr (.inl z)))))
      | _ => none)
    | _ => none)
  | .return_ => (match st with
    | [] => (match mR y with
      | none => some (.inr (.inr none))
      | _ => none)
    | _ => none)
  | _ => none
def step (y pc : Nat) (L : Lc) (st : List PV) (M : Mm) : Option StT := match fetch y pc with
  | some (i, len) => stepI y pc i len L st M
  | none => none
def exec : Nat → Nat → Nat → Lc → List PV → Mm → Option (Option PV × Mm)
  | 0, _, _, _, _, _ => none
  | n + 1, y, pc, L, st, M => match step y pc L st M with
    | none => none
    | some (.inl (pc', L', st', M')) => exec n y pc' L' st' M'
    | some (.inr (.inl (t, as, pc', rest))) => (match exec n t 0 (ent (mL t) as) [] M with
      | none => none
      | some (r, M') => exec n y pc' L (r.toList ++ rest) M')
    | some (.inr (.inr r)) => some (r, M)
theorem exec_mono : ∀ (n : Nat) (y pc : Nat) (L : Lc) (st : List PV) (M : Mm) (x : Option PV × Mm), exec n y pc L st M = some x → exec (n + 1) y pc L st M = some x
  | 0, _, _, _, _, _, _, h => by simp [exec] at h
  | n + 1, y, pc, L, st, M, x, h => by
    rw [exec] at h ⊢
    cases hs : step y pc L st M with
    | none => rw [hs] at h; cases h
    | some s =>
      rw [hs] at h
      rcases s with ⟨pc', L', st', M'⟩ | ⟨⟨t, as, pc', rest⟩ | r⟩
      · exact exec_mono n _ _ _ _ _ _ h
      · cases hc : exec n t 0 (ent (mL t) as) [] M with
        | none => simp only [hc] at h; cases h
        | some q =>
          simp only [hc] at h
          simp only [exec_mono n _ _ _ _ _ _ hc]
          exact exec_mono n _ _ _ _ _ _ h
      · exact h
theorem exec_le {n m : Nat} (hnm : n ≤ m) {y pc : Nat} {L : Lc} {st : List PV} {M : Mm} {x : Option PV × Mm} (h : exec n y pc L st M = some x) : exec m y pc L st M = some x := by
  induction hnm with
  | refl => exact h
  | step _ ih => exact exec_mono _ _ _ _ _ _ _ ih
/-- what a configuration comes to -/
noncomputable def den (y pc : Nat) (L : Lc) (st : List PV) (M : Mm) : Option (Option PV × Mm) :=
  @dite _ (∃ (n : Nat) (x : Option PV × Mm), exec n y pc L st M = some x) (Classical.propDecidable _) (fun h => some (Classical.choose (Classical.choose_spec h))) (fun _ => none)
theorem den_iff {y pc : Nat} {L : Lc} {st : List PV} {M : Mm} {x : Option PV × Mm} : den y pc L st M = some x ↔ ∃ n, exec n y pc L st M = some x := by
  unfold den
  constructor
  · intro h
    by_cases hq : ∃ (n : Nat) (x : Option PV × Mm), exec n y pc L st M = some x
    · rw [dif_pos hq] at h
      refine ⟨Classical.choose hq, ?_⟩
      rw [← Option.some.inj h]
      exact Classical.choose_spec (Classical.choose_spec hq)
    · rw [dif_neg hq] at h
      cases h
  · rintro ⟨n, hn⟩
    have hq : ∃ (n : Nat) (x : Option PV × Mm), exec n y pc L st M = some x := ⟨n, x, hn⟩
    rw [dif_pos hq]
    have h2 := Classical.choose_spec (Classical.choose_spec hq)
    have h3 := exec_le (Nat.le_max_left n (Classical.choose hq)) hn
    have h4 := exec_le (Nat.le_max_right n (Classical.choose hq)) h2
    exact h4.symm.trans h3
theorem den_ext {y pc y' pc' : Nat} {L L' : Lc} {st st' : List PV} {M M' : Mm} (h : ∀ x, den y pc L st M = some x ↔ den y' pc' L' st' M' = some x) : den y pc L st M = den y' pc' L' st' M' := by
  cases h1 : den y pc L st M with
  | some x => exact ((h x).mp h1).symm
  | none =>
    cases h2 : den y' pc' L' st' M' with
    | none => rfl
    | some x => exact absurd ((h x).mpr h2) (by rw [h1]; exact fun q => by cases q)
theorem den_go {y pc pc' : Nat} {L L' : Lc} {st st' : List PV} {M M' : Mm} (h : step y pc L st M = some (.inl (pc', L', st', M'))) : den y pc L st M = den y pc' L' st' M' := by
  refine den_ext fun x => ?_
  rw [den_iff, den_iff]
  constructor
  · rintro ⟨n, hn⟩
    cases n with
    | zero => simp [exec] at hn
    | succ n => rw [exec, h] at hn; exact ⟨n, hn⟩
  · rintro ⟨n, hn⟩
    exact ⟨n + 1, by rw [exec, h]; exact hn⟩
theorem den_ret {y pc : Nat} {L : Lc} {st : List PV} {M : Mm} {r : Option PV} (h : step y pc L st M = some (.inr (.inr r))) : den y pc L st M = some (r, M) := by
  rw [den_iff]
  exact ⟨1, by rw [exec, h]⟩
/-- a method's answer -/
noncomputable def cal (t : Nat) (as : List PV) (M : Mm) : Option (Option PV × Mm) := den t 0 (ent (mL t) as) [] M
theorem den_call {y pc pc' t : Nat} {as : List PV} {L : Lc} {st rest : List PV} {M M' : Mm} {r : Option PV} (h : step y pc L st M = some (.inr (.inl (t, as, pc', rest)))) (hc : cal t as M = some (r, M')) : den y pc L st M = den y pc' L (r.toList ++ rest) M' := by
  obtain ⟨k, hk⟩ := den_iff.mp hc
  refine den_ext fun x => ?_
  rw [den_iff, den_iff]
  constructor
  · rintro ⟨n, hn⟩
    cases n with
    | zero => simp [exec] at hn
    | succ n =>
      rw [exec, h] at hn
      dsimp only at hn
      cases hq : exec n t 0 (ent (mL t) as) [] M with
      | none => rw [hq] at hn; cases hn
      | some q =>
        rw [hq] at hn
        have e := (exec_le (Nat.le_max_left n k) hq).symm.trans (exec_le (Nat.le_max_right n k) hk)
        cases e
        exact ⟨n, hn⟩
  · rintro ⟨n, hn⟩
    refine ⟨max n k + 1, ?_⟩
    rw [exec, h]
    dsimp only
    rw [exec_le (Nat.le_max_right n k) hk]
    exact exec_le (Nat.le_max_left n k) hn
end
section
/-! THE WORLD OF A MEMORY -/
def toV (ad : Nat → Nat) : PV → Value
  | .inl z => .int (Int32.ofInt z)
  | .inr (.inl z) => .long (Int64.ofInt z)
  | .inr (.inr k) => .ref (ad k)
def ok32 (z : Int) : Prop := -2147483648 ≤ z ∧ z < 2147483648
def ok64 (z : Int) : Prop := -9223372036854775808 ≤ z ∧ z < 9223372036854775808
def okV : PV → Prop
  | .inl z => ok32 z
  | .inr (.inl z) => ok64 z
  | .inr (.inr _) => True
theorem of32 {z : Int} (h : ok32 z) : (Int32.ofInt z).toInt = z := Int32.toInt_ofInt_of_le h.1 h.2
theorem of64 {z : Int} (h : ok64 z) : (Int64.ofInt z).toInt = z := Int64.toInt_ofInt_of_le h.1 h.2
theorem ok32_to (x : Int32) : ok32 x.toInt := ⟨x.le_toInt, x.toInt_lt⟩
theorem ok64_to (x : Int64) : ok64 x.toInt := ⟨x.le_toInt, x.toInt_lt⟩
theorem as32 (x : Int32) : Int32.ofInt x.toInt = x := Int32.ofInt_toInt x
theorem as64 (x : Int64) : Int64.ofInt x.toInt = x := Int64.ofInt_toInt x
/-- the number (r, i) is a long -/
def lgc (r i : Nat) : Bool := match shp r with
  | .inr (_, ks) => Nat.beq (nth ks i 0) 1
  | _ => false
def okM (M : Mm) : Prop := ∀ (r i : Nat), if lgc r i then ok64 (M r i) else ok32 (M r i)
def cellE (cI cZ : ClassId) (ad : Nat → Nat) (M : Mm) (r : Nat) : Shp → va_E
  | .inl (n, b) => .inl (if b then cZ else cI, n, .inl (fun j => Int32.ofInt (M r j)))
  | .inr (ci, ks) => .inr (ci, ks.mapIdx (fun f k => toV ad (gf M r f k)))
def wd (cI cZ : ClassId) (ad : Nat → Nat) (M : Mm) : va_W := SH.mapIdx (fun r s => (ad r, cellE cI cZ ad M r s))
theorem SH_len : SH.length = 73 := by decide +kernel
theorem shp_get {r : Nat} (h : r < 73) : SH[r]? = some (shp r) := nth_get SH r (by rw [SH_len]; exact h)
theorem shp_out {r : Nat} (h : 73 ≤ r) : shp r = .inl (0, false) := nth_out SH r (by rw [SH_len]; exact h)
theorem wd_get {cI cZ : ClassId} {ad : Nat → Nat} {M : Mm} {r : Nat} (h : r < 73) : (wd cI cZ ad M)[r]? = some (ad r, cellE cI cZ ad M r (shp r)) := by
  rw [wd, List.getElem?_mapIdx, shp_get h]; rfl
theorem wd_lt {cI cZ : ClassId} {ad : Nat → Nat} {M : Mm} {k : Nat} {q : Nat × va_E} (h : (wd cI cZ ad M)[k]? = some q) : k < 73 ∧ q.1 = ad k := by
  have hk : k < 73 := by
    have := (List.getElem?_eq_some_iff.mp h).1
    simpa [wd, SH_len] using this
  rw [wd_get hk] at h
  exact ⟨hk, by rw [← Option.some.inj h]⟩
theorem cellE_congr {cI cZ : ClassId} {ad : Nat → Nat} {M M' : Mm} {r : Nat} (h : ∀ i, M' r i = M r i) (s : Shp) : cellE cI cZ ad M' r s = cellE cI cZ ad M r s := by
  rcases s with ⟨n, b⟩ | ⟨ci, ks⟩
  · simp only [cellE, h]
  · simp only [cellE]
    congr 2
    refine congrFun (congrArg _ ?_) _
    funext f k
    rcases k with _ | _ | _ | k <;> simp [gf, h]
theorem wd_set {cI cZ : ClassId} {ad : Nat → Nat} {M M' : Mm} {r : Nat} (hr : r < 73) (h : ∀ (a : Nat) (i : Int), a ≠ r → M' a i = M a i) : (wd cI cZ ad M).set r (ad r, cellE cI cZ ad M' r (shp r)) = wd cI cZ ad M' := by
  apply List.ext_getElem?
  intro k
  by_cases hk : k = r
  · subst hk
    rw [List.getElem?_set_self (by simp [wd, SH_len]; exact hr), wd_get hr]
  · rw [List.getElem?_set_ne (Ne.symm hk)]
    by_cases hk2 : k < 73
    · rw [wd_get hk2, wd_get hk2, cellE_congr (fun i => h k i hk)]
    · rw [List.getElem?_eq_none (by simp [wd, SH_len]; omega), List.getElem?_eq_none (by simp [wd, SH_len]; omega)]
theorem up_other {M : Mm} {r : Nat} {f z : Int} {a : Nat} (h : a ≠ r) (i : Int) : up M r f z a i = M a i := by
  simp [up, h]
theorem up_same {M : Mm} {r : Nat} {f z : Int} (i : Int) : up M r f z r i = if i = f then z else M r i := by
  simp [up]
theorem cellE_upA {cI cZ : ClassId} {ad : Nat → Nat} {M : Mm} {r n : Nat} {b : Bool} {i z : Int} (hi : 0 ≤ i) (hs : shp r = .inl (n, b)) :
    cellE cI cZ ad (up M r i z) r (shp r) = .inl (if b then cZ else cI, n, .inl (upd (fun j => Int32.ofInt (M r j)) i.toNat (Int32.ofInt z))) := by
  rw [hs]
  simp only [cellE]
  congr 4
  funext j
  rw [up_same]
  simp only [upd]
  by_cases hj : j = i.toNat
  · rw [if_pos hj, if_pos (by omega)]
  · rw [if_neg hj, if_neg (by omega)]
theorem cellE_upO {cI cZ : ClassId} {ad : Nat → Nat} {M : Mm} {r f ci k : Nat} {ks : List Nat} {z : Int} {v : PV} (hs : shp r = .inr (ci, ks)) (hk : ks[f]? = some k) (hv : gf (up M r f z) r f k = v) :
    cellE cI cZ ad (up M r f z) r (shp r) = .inr (ci, (ks.mapIdx (fun f k => toV ad (gf M r f k))).set f (toV ad v)) := by
  rw [hs]
  simp only [cellE]
  congr 2
  apply List.ext_getElem?
  intro j
  by_cases hj : j = f
  · subst hj
    rw [List.getElem?_set_self (by have := (List.getElem?_eq_some_iff.mp hk).1; simpa using this), List.getElem?_mapIdx, hk]
    simp [hv]
  · rw [List.getElem?_set_ne (Ne.symm hj), List.getElem?_mapIdx, List.getElem?_mapIdx]
    cases ks[j]? with
    | none => rfl
    | some q =>
      simp only [Option.map_some, Option.some.injEq]
      have hj2 : ¬ ((j : Int) = (f : Int)) := by omega
      rcases q with _ | _ | _ | q <;> simp [gf, up, hj2]
/-- the cells' own addresses -/
def Ar (ad : Nat → Nat) (q : Nat) : Prop := ∃ r, r < 73 ∧ q = ad r
def strL : List Nat := strB.map List.length
def strY : List (List Int32) := strB.map (fun l => l.map Int32.ofInt)
def strP : List Nat := (nth strT 3 []).map (fun q => q.1)
/-- calls of a nest mate's private methods: own class, pool index, method -/
def nestL : List (Nat × Nat × Nat) := [(1, 73, 122), (3, 19, 122), (3, 117, 121), (1, 92, 121), (1, 131, 129), (1, 113, 124), (1, 116, 125), (1, 147, 128), (1, 65, 123), (2, 41, 123), (0, 22, 122), (0, 34, 128), (0, 30, 121), (2, 31, 122), (2, 37, 121)]
end
section
/-! EVERY INSTRUCTION OVER THE WORLD OF A MEMORY (written by wip/whole/gen5.py) -/
def gt : List Jvm.Cond := lw_tbl.filter goodWord
theorem gt_good : ∀ w ∈ gt, goodWord w = true := fun w h => (List.mem_filter.mp h).2
theorem gt_of {w : Jvm.Cond} {i : Nat} (h : lw_tbl[i]? = some w) (hg : goodWord w = true) : w ∈ gt := List.mem_filter.mpr ⟨List.mem_of_getElem? h, hg⟩
def RL (ad : Nat → Nat) (ls : Array Slot) (n : Nat) (g : List Nat) (L : Lc) : Prop := ls.size = n ∧ lv_wf ls ∧ ∀ (i : Nat) (v : PV), gl L i = some v → ls[i]? = some (.val (toV ad v)) ∧ okV v ∧ ((∃ z, v = .inr (.inl z)) → i ∈ g)
def okS (st : List PV) : Prop := ∀ v ∈ st, okV v
theorem okS_cons {v : PV} {st : List PV} (h : okV v) (h2 : okS st) : okS (v :: st) := fun w hw => (List.mem_cons.mp hw).elim (fun e => e ▸ h) (h2 w)
theorem okS_tail {v : PV} {st : List PV} (h : okS (v :: st)) : okS st := fun w hw => h w (List.mem_cons_of_mem _ hw)
theorem okS_head {v : PV} {st : List PV} (h : okS (v :: st)) : okV v := h v List.mem_cons_self
theorem gl_out : ∀ (L : Lc) (i : Nat), L.length ≤ i → gl L i = none
  | [], _, _ => rfl
  | _ :: _, 0, h => by simp at h
  | _ :: l, n + 1, h => gl_out l n (by simpa using h)
theorem gl_sl : ∀ (L : Lc) (i : Nat) (v : Option PV) (j : Nat), gl (sl L i v) j = if j = i ∧ i < L.length then v else gl L j
  | [], i, v, j => by simp [sl, gl]
  | a :: l, 0, v, 0 => by simp [sl, gl]
  | a :: l, 0, v, j + 1 => by simp [sl, gl]
  | a :: l, i + 1, v, 0 => by simp [sl, gl]
  | a :: l, i + 1, v, j + 1 => by
    simp only [sl, gl]
    rw [gl_sl l i v j]
    simp
theorem sl_len : ∀ (L : Lc) (i : Nat) (v : Option PV), (sl L i v).length = L.length
  | [], _, _ => rfl
  | _ :: _, 0, _ => rfl
  | _ :: l, i + 1, v => by simp [sl, sl_len l i v]
def asl (ad : Nat → Nat) (L : Lc) : List (Nat × Value) := (List.range L.length).filterMap (fun i => (gl L i).map (fun v => (i, toV ad v)))
theorem asl_mem {ad : Nat → Nat} {L : Lc} {q : Nat × Value} : q ∈ asl ad L ↔ ∃ v, gl L q.1 = some v ∧ q.2 = toV ad v := by
  unfold asl
  rw [List.mem_filterMap]
  constructor
  · rintro ⟨i, -, h⟩
    cases hg : gl L i with
    | none => rw [hg] at h; cases h
    | some v =>
      rw [hg] at h
      have := Option.some.inj h
      subst this
      exact ⟨v, hg, rfl⟩
  · rintro ⟨v, hv, e⟩
    refine ⟨q.1, List.mem_range.mpr ?_, ?_⟩
    · rcases Nat.lt_or_ge q.1 L.length with h | h
      · exact h
      · rw [gl_out L q.1 h] at hv; cases hv
    · rw [hv, Option.map_some, ← e]
theorem RL.has {ad : Nat → Nat} {ls : Array Slot} {n : Nat} {g : List Nat} {L : Lc} (h : RL ad ls n g L) : lv_has ls n (asl ad L) := by
  refine ⟨h.1, h.2.1, fun q hq => ?_⟩
  obtain ⟨v, hv, e⟩ := asl_mem.mp hq
  rw [e]
  exact (h.2.2 q.1 v hv).1
theorem toV_cat {ad : Nat → Nat} {v : PV} (h : (toV ad v).category = 2) : ∃ z, v = .inr (.inl z) := by
  rcases v with z | z | r
  · simp [toV, Value.category] at h
  · exact ⟨z, rfl⟩
  · simp [toV, Value.category] at h
/-- storing a value of one slot -/
theorem RL.store1 {ad : Nat → Nat} {ls ls' : Array Slot} {n : Nat} {g : List Nat} {L : Lc} {i : Nat} {v : PV} (h : RL ad ls n g L) (hv : okV v) (hc : ¬ ∃ z, v = .inr (.inl z)) (hg : ∀ j, j + 1 = i → j ∉ g)
    (h' : lv_has ls' n ((i, toV ad v) :: (asl ad L).filter (fun q => !(q.1 == i) && !(q.1 + 1 == i && q.2.category == 2)))) : RL ad ls' n g (sl L i (some v)) := by
  refine ⟨h'.1, h'.2.1, fun j w hw => ?_⟩
  rw [gl_sl] at hw
  by_cases hj : j = i
  · subst hj
    by_cases hl : j < L.length
    · rw [if_pos ⟨rfl, hl⟩] at hw
      cases hw
      exact ⟨h'.2.2 _ List.mem_cons_self, hv, fun q => absurd q hc⟩
    · rw [if_neg (fun q => hl q.2), gl_out L j (by omega)] at hw
      cases hw
  · rw [if_neg (fun q => hj q.1)] at hw
    obtain ⟨h1, h2, h3⟩ := h.2.2 j w hw
    refine ⟨h'.2.2 (j, toV ad w) (List.mem_cons_of_mem _ (List.mem_filter.mpr ⟨asl_mem.mpr ⟨w, hw, rfl⟩, ?_⟩)), h2, h3⟩
    simp only [Bool.and_eq_true, Bool.not_eq_true', beq_eq_false_iff_ne, ne_eq, Bool.and_eq_false_iff]
    refine ⟨hj, ?_⟩
    by_cases hj1 : j + 1 = i
    · right
      intro hq
      exact hg j hj1 (h3 (toV_cat hq))
    · exact Or.inl hj1
/-- storing a long -/
theorem RL.store2 {ad : Nat → Nat} {ls ls' : Array Slot} {n : Nat} {g : List Nat} {L : Lc} {i : Nat} {z : Int} (h : RL ad ls n g L) (hv : ok64 z) (hi : i ∈ g) (hg : ∀ j, j + 1 = i → j ∉ g)
    (h' : lv_has ls' n ((i, toV ad (.inr (.inl z))) :: (asl ad L).filter (fun q => !(q.1 == i) && (!(q.1 == i + 1) && !(q.1 + 1 == i && q.2.category == 2))))) : RL ad ls' n g (sl (sl L (i + 1) none) i (some (.inr (.inl z)))) := by
  refine ⟨h'.1, h'.2.1, fun j w hw => ?_⟩
  rw [gl_sl] at hw
  by_cases hj : j = i
  · subst hj
    by_cases hl : j < (sl L (j + 1) none).length
    · rw [if_pos ⟨rfl, hl⟩] at hw
      cases hw
      exact ⟨h'.2.2 _ List.mem_cons_self, hv, fun _ => hi⟩
    · rw [if_neg (fun q => hl q.2), gl_out _ j (by omega)] at hw
      cases hw
  · rw [if_neg (fun q => hj q.1), gl_sl] at hw
    by_cases hj2 : j = i + 1
    · subst hj2
      by_cases hl : i + 1 < L.length
      · rw [if_pos ⟨rfl, hl⟩] at hw
        cases hw
      · rw [if_neg (fun q => hl q.2), gl_out L _ (by omega)] at hw
        cases hw
    · rw [if_neg (fun q => hj2 q.1)] at hw
      obtain ⟨h1, h2, h3⟩ := h.2.2 j w hw
      refine ⟨h'.2.2 (j, toV ad w) (List.mem_cons_of_mem _ (List.mem_filter.mpr ⟨asl_mem.mpr ⟨w, hw, rfl⟩, ?_⟩)), h2, h3⟩
      simp only [Bool.and_eq_true, Bool.not_eq_true', beq_eq_false_iff_ne, ne_eq, Bool.and_eq_false_iff]
      refine ⟨hj, hj2, ?_⟩
      by_cases hj1 : j + 1 = i
      · right
        intro hq
        exact hg j hj1 (h3 (toV_cat hq))
      · exact Or.inl hj1
theorem lt32 {a b : Int} (ha : ok32 a) (hb : ok32 b) : Int32.ofInt a < Int32.ofInt b ↔ a < b := by
  rw [Int32.lt_iff_toInt_lt, of32 ha, of32 hb]
theorem le32 {a b : Int} (ha : ok32 a) (hb : ok32 b) : Int32.ofInt a ≤ Int32.ofInt b ↔ a ≤ b := by
  rw [Int32.le_iff_toInt_le, of32 ha, of32 hb]
theorem eq32 {a b : Int} (ha : ok32 a) (hb : ok32 b) : Int32.ofInt a = Int32.ofInt b ↔ a = b := by
  rw [← Int32.toInt_inj, of32 ha, of32 hb]
theorem eq64 {a b : Int} (ha : ok64 a) (hb : ok64 b) : Int64.ofInt a = Int64.ofInt b ↔ a = b := by
  rw [← Int64.toInt_inj, of64 ha, of64 hb]
theorem lt64 {a b : Int} (ha : ok64 a) (hb : ok64 b) : Int64.ofInt a < Int64.ofInt b ↔ a < b := by
  rw [Int64.lt_iff_toInt_lt, of64 ha, of64 hb]
theorem ok32_0 : ok32 0 := ⟨by decide, by decide⟩
section OPS
variable {p : Program} {l : Launch} {e : Env} {R : Room} {s : State} {m : MethodId} {args : Array Value} {below : List Frame} {meth : Method} {c : Code} {Q : State → Prop} {D : va_G} {cI cZ : ClassId} {ad : Nat → Nat} {y pc : Nat} {L : Lc} {st : List PV} {M : Mm}
/-- from this configuration the machine comes to Q -/
def G (p : Program) (l : Launch) (e : Env) (R : Room) (s : State) (m : MethodId) (args : Array Value) (below : List Frame) (meth : Method) (c : Code) (Q : State → Prop) (D : va_G) (cI cZ : ClassId) (ad : Nat → Nat) (y pc : Nat) (L : Lc) (st : List PV) (M : Mm) : Prop :=
  ∀ (H : Heap) (locs : List Loc) (ls : Array Slot), va_P D cls (wd cI cZ ad M) H → va_S (Ar ad) s.heap H locs → RL ad ls (mL y) (mG y) L → okS st → okM M → W p l e R s m args below meth c H locs 0 0 Q (F0 m pc ls (st.map (toV ad)))
theorem g_iadd (hx : p.tables.exec = Jvm.exec) (hb : c.code = mC y) {a b : Int} (hd : decode (mC y) pc = .ok (.iadd, 1)) (k : G p l e R s m args below meth c Q D cI cZ ad y (pc + 1) L (.inl (i2 fadd a b) :: st) M) : G p l e R s m args below meth c Q D cI cZ ad y pc L (.inl b :: .inl a :: st) M := by
  intro H locs ls hP hS hL hst hM
  refine lv_iadd hx hb hd ?_
  have h := k H locs ls hP hS hL (okS_cons (ok32_to _) (okS_tail (okS_tail hst))) hM
  simpa only [List.map_cons, toV, i2, fadd, as32] using h
theorem g_isub (hx : p.tables.exec = Jvm.exec) (hb : c.code = mC y) {a b : Int} (hd : decode (mC y) pc = .ok (.isub, 1)) (k : G p l e R s m args below meth c Q D cI cZ ad y (pc + 1) L (.inl (i2 fsub a b) :: st) M) : G p l e R s m args below meth c Q D cI cZ ad y pc L (.inl b :: .inl a :: st) M := by
  intro H locs ls hP hS hL hst hM
  refine lv_isub hx hb hd ?_
  have h := k H locs ls hP hS hL (okS_cons (ok32_to _) (okS_tail (okS_tail hst))) hM
  simpa only [List.map_cons, toV, i2, fsub, as32] using h
theorem g_imul (hx : p.tables.exec = Jvm.exec) (hb : c.code = mC y) {a b : Int} (hd : decode (mC y) pc = .ok (.imul, 1)) (k : G p l e R s m args below meth c Q D cI cZ ad y (pc + 1) L (.inl (i2 fmul a b) :: st) M) : G p l e R s m args below meth c Q D cI cZ ad y pc L (.inl b :: .inl a :: st) M := by
  intro H locs ls hP hS hL hst hM
  refine lv_imul hx hb hd ?_
  have h := k H locs ls hP hS hL (okS_cons (ok32_to _) (okS_tail (okS_tail hst))) hM
  simpa only [List.map_cons, toV, i2, fmul, as32] using h
theorem g_iand (hx : p.tables.exec = Jvm.exec) (hb : c.code = mC y) {a b : Int} (hd : decode (mC y) pc = .ok (.iand, 1)) (k : G p l e R s m args below meth c Q D cI cZ ad y (pc + 1) L (.inl (i2 fand a b) :: st) M) : G p l e R s m args below meth c Q D cI cZ ad y pc L (.inl b :: .inl a :: st) M := by
  intro H locs ls hP hS hL hst hM
  refine lv_iand hx hb hd ?_
  have h := k H locs ls hP hS hL (okS_cons (ok32_to _) (okS_tail (okS_tail hst))) hM
  simpa only [List.map_cons, toV, i2, fand, as32] using h
theorem g_ior (hx : p.tables.exec = Jvm.exec) (hb : c.code = mC y) {a b : Int} (hd : decode (mC y) pc = .ok (.ior, 1)) (k : G p l e R s m args below meth c Q D cI cZ ad y (pc + 1) L (.inl (i2 fior a b) :: st) M) : G p l e R s m args below meth c Q D cI cZ ad y pc L (.inl b :: .inl a :: st) M := by
  intro H locs ls hP hS hL hst hM
  refine lv_ior hx hb hd ?_
  have h := k H locs ls hP hS hL (okS_cons (ok32_to _) (okS_tail (okS_tail hst))) hM
  simpa only [List.map_cons, toV, i2, fior, as32] using h
theorem g_ixor (hx : p.tables.exec = Jvm.exec) (hb : c.code = mC y) {a b : Int} (hd : decode (mC y) pc = .ok (.ixor, 1)) (k : G p l e R s m args below meth c Q D cI cZ ad y (pc + 1) L (.inl (i2 fxor a b) :: st) M) : G p l e R s m args below meth c Q D cI cZ ad y pc L (.inl b :: .inl a :: st) M := by
  intro H locs ls hP hS hL hst hM
  refine lv_ixor hx hb hd ?_
  have h := k H locs ls hP hS hL (okS_cons (ok32_to _) (okS_tail (okS_tail hst))) hM
  simpa only [List.map_cons, toV, i2, fxor, as32] using h
theorem g_ishl (hx : p.tables.exec = Jvm.exec) (hb : c.code = mC y) {a b : Int} (hd : decode (mC y) pc = .ok (.ishl, 1)) (k : G p l e R s m args below meth c Q D cI cZ ad y (pc + 1) L (.inl (i2 fshl a b) :: st) M) : G p l e R s m args below meth c Q D cI cZ ad y pc L (.inl b :: .inl a :: st) M := by
  intro H locs ls hP hS hL hst hM
  refine lv_ishl hx hb hd ?_
  have h := k H locs ls hP hS hL (okS_cons (ok32_to _) (okS_tail (okS_tail hst))) hM
  simpa only [List.map_cons, toV, i2, fshl, as32] using h
theorem g_ishr (hx : p.tables.exec = Jvm.exec) (hb : c.code = mC y) {a b : Int} (hd : decode (mC y) pc = .ok (.ishr, 1)) (k : G p l e R s m args below meth c Q D cI cZ ad y (pc + 1) L (.inl (i2 fshr a b) :: st) M) : G p l e R s m args below meth c Q D cI cZ ad y pc L (.inl b :: .inl a :: st) M := by
  intro H locs ls hP hS hL hst hM
  refine lv_ishr hx hb hd ?_
  have h := k H locs ls hP hS hL (okS_cons (ok32_to _) (okS_tail (okS_tail hst))) hM
  simpa only [List.map_cons, toV, i2, fshr, as32] using h
theorem g_iushr (hx : p.tables.exec = Jvm.exec) (hb : c.code = mC y) {a b : Int} (hd : decode (mC y) pc = .ok (.iushr, 1)) (k : G p l e R s m args below meth c Q D cI cZ ad y (pc + 1) L (.inl (i2 fushr a b) :: st) M) : G p l e R s m args below meth c Q D cI cZ ad y pc L (.inl b :: .inl a :: st) M := by
  intro H locs ls hP hS hL hst hM
  refine lv_iushr hx hb hd rfl ?_
  have h := k H locs ls hP hS hL (okS_cons (ok32_to _) (okS_tail (okS_tail hst))) hM
  simpa only [List.map_cons, toV, i2, fushr, as32] using h
theorem g_idiv (hx : p.tables.exec = Jvm.exec) (hb : c.code = mC y) {a b : Int} (hd : decode (mC y) pc = .ok (.idiv, 1)) (hne : ¬ b = 0) (k : G p l e R s m args below meth c Q D cI cZ ad y (pc + 1) L (.inl (i2 fdiv a b) :: st) M) : G p l e R s m args below meth c Q D cI cZ ad y pc L (.inl b :: .inl a :: st) M := by
  intro H locs ls hP hS hL hst hM
  refine lv_idiv hx hb hd (fun q => hne ((eq32 (okS_head hst) ok32_0).mp (q.trans (by decide)))) ?_
  have h := k H locs ls hP hS hL (okS_cons (ok32_to _) (okS_tail (okS_tail hst))) hM
  simpa only [List.map_cons, toV, i2, fdiv, as32] using h
theorem g_irem (hx : p.tables.exec = Jvm.exec) (hb : c.code = mC y) {a b : Int} (hd : decode (mC y) pc = .ok (.irem, 1)) (hne : ¬ b = 0) (k : G p l e R s m args below meth c Q D cI cZ ad y (pc + 1) L (.inl (i2 frem a b) :: st) M) : G p l e R s m args below meth c Q D cI cZ ad y pc L (.inl b :: .inl a :: st) M := by
  intro H locs ls hP hS hL hst hM
  refine lv_irem hx hb hd (fun q => hne ((eq32 (okS_head hst) ok32_0).mp (q.trans (by decide)))) ?_
  have h := k H locs ls hP hS hL (okS_cons (ok32_to _) (okS_tail (okS_tail hst))) hM
  simpa only [List.map_cons, toV, i2, frem, as32] using h
theorem g_ladd (hx : p.tables.exec = Jvm.exec) (hb : c.code = mC y) {a b : Int} (hd : decode (mC y) pc = .ok (.ladd, 1)) (k : G p l e R s m args below meth c Q D cI cZ ad y (pc + 1) L (.inr (.inl (l2 gadd a b)) :: st) M) : G p l e R s m args below meth c Q D cI cZ ad y pc L (.inr (.inl b) :: .inr (.inl a) :: st) M := by
  intro H locs ls hP hS hL hst hM
  refine lv_ladd hx hb hd ?_
  have h := k H locs ls hP hS hL (okS_cons (ok64_to _) (okS_tail (okS_tail hst))) hM
  simpa only [List.map_cons, toV, l2, gadd, as64] using h
theorem g_lmul (hx : p.tables.exec = Jvm.exec) (hb : c.code = mC y) {a b : Int} (hd : decode (mC y) pc = .ok (.lmul, 1)) (k : G p l e R s m args below meth c Q D cI cZ ad y (pc + 1) L (.inr (.inl (l2 gmul a b)) :: st) M) : G p l e R s m args below meth c Q D cI cZ ad y pc L (.inr (.inl b) :: .inr (.inl a) :: st) M := by
  intro H locs ls hP hS hL hst hM
  refine lv_lmul hx hb hd ?_
  have h := k H locs ls hP hS hL (okS_cons (ok64_to _) (okS_tail (okS_tail hst))) hM
  simpa only [List.map_cons, toV, l2, gmul, as64] using h
theorem g_ldiv (hx : p.tables.exec = Jvm.exec) (hb : c.code = mC y) {a b : Int} (hd : decode (mC y) pc = .ok (.ldiv, 1)) (hne : ¬ b = 0) (k : G p l e R s m args below meth c Q D cI cZ ad y (pc + 1) L (.inr (.inl (l2 gdiv a b)) :: st) M) : G p l e R s m args below meth c Q D cI cZ ad y pc L (.inr (.inl b) :: .inr (.inl a) :: st) M := by
  intro H locs ls hP hS hL hst hM
  refine lv_ldiv hx hb hd (fun q => hne ((eq64 (b := 0) (okS_head hst) ⟨by decide, by decide⟩).mp (q.trans (by decide)))) ?_
  have h := k H locs ls hP hS hL (okS_cons (ok64_to _) (okS_tail (okS_tail hst))) hM
  simpa only [List.map_cons, toV, l2, gdiv, as64] using h
theorem g_lrem (hx : p.tables.exec = Jvm.exec) (hb : c.code = mC y) {a b : Int} (hd : decode (mC y) pc = .ok (.lrem, 1)) (hne : ¬ b = 0) (k : G p l e R s m args below meth c Q D cI cZ ad y (pc + 1) L (.inr (.inl (l2 grem a b)) :: st) M) : G p l e R s m args below meth c Q D cI cZ ad y pc L (.inr (.inl b) :: .inr (.inl a) :: st) M := by
  intro H locs ls hP hS hL hst hM
  refine lv_lrem hx hb hd (fun q => hne ((eq64 (b := 0) (okS_head hst) ⟨by decide, by decide⟩).mp (q.trans (by decide)))) ?_
  have h := k H locs ls hP hS hL (okS_cons (ok64_to _) (okS_tail (okS_tail hst))) hM
  simpa only [List.map_cons, toV, l2, grem, as64] using h
theorem g_ineg (hx : p.tables.exec = Jvm.exec) (hb : c.code = mC y) {a : Int} (hd : decode (mC y) pc = .ok (.ineg, 1)) (k : G p l e R s m args below meth c Q D cI cZ ad y (pc + 1) L (.inl (i1 fneg a) :: st) M) : G p l e R s m args below meth c Q D cI cZ ad y pc L (.inl a :: st) M := by
  intro H locs ls hP hS hL hst hM
  refine lv_ineg hx hb hd ?_
  have h := k H locs ls hP hS hL (okS_cons (ok32_to _) (okS_tail hst)) hM
  simpa only [List.map_cons, toV, i1, fneg, as32] using h
theorem g_i2l (hx : p.tables.exec = Jvm.exec) (hb : c.code = mC y) {a : Int} (hd : decode (mC y) pc = .ok (.i2l, 1)) (k : G p l e R s m args below meth c Q D cI cZ ad y (pc + 1) L (.inr (.inl a) :: st) M) : G p l e R s m args below meth c Q D cI cZ ad y pc L (.inl a :: st) M := by
  intro H locs ls hP hS hL hst hM
  have ha : ok32 a := okS_head hst
  have ha2 : ok64 a := ⟨by have := ha.1; omega, by have := ha.2; omega⟩
  refine lv_i2l (v := Int64.ofInt a) hx hb hd ?_ ?_
  · rw [← Int64.toInt_inj, of64 ha2, Int32.toInt_toInt64, of32 ha]
  · exact k H locs ls hP hS hL (okS_cons ha2 (okS_tail hst)) hM
theorem g_l2i (hx : p.tables.exec = Jvm.exec) (hb : c.code = mC y) {a : Int} (hd : decode (mC y) pc = .ok (.l2i, 1)) (k : G p l e R s m args below meth c Q D cI cZ ad y (pc + 1) L (.inl (Int64.ofInt a).toInt32.toInt :: st) M) : G p l e R s m args below meth c Q D cI cZ ad y pc L (.inr (.inl a) :: st) M := by
  intro H locs ls hP hS hL hst hM
  refine lv_l2i (v := (Int64.ofInt a).toInt32) hx hb hd rfl ?_
  have h := k H locs ls hP hS hL (okS_cons (ok32_to _) (okS_tail hst)) hM
  simpa only [List.map_cons, toV, as32] using h
theorem g_lcmp (hx : p.tables.exec = Jvm.exec) (hb : c.code = mC y) {a b : Int} (hd : decode (mC y) pc = .ok (.lcmp, 1)) (k : G p l e R s m args below meth c Q D cI cZ ad y (pc + 1) L (.inl (lc a b) :: st) M) : G p l e R s m args below meth c Q D cI cZ ad y pc L (.inr (.inl b) :: .inr (.inl a) :: st) M := by
  intro H locs ls hP hS hL hst hM
  have hb2 : ok64 b := okS_head hst
  have ha2 : ok64 a := okS_head (okS_tail hst)
  refine W.lcmp hx hb hd ?_
  have e : lg_cmp (Int64.ofInt a) (Int64.ofInt b) = Int32.ofInt (lc a b) := by
    unfold lg_cmp lc
    by_cases h1 : b < a
    · rw [if_pos ((lt64 hb2 ha2).mpr h1), if_pos h1]; decide
    · rw [if_neg (fun q => h1 ((lt64 hb2 ha2).mp q)), if_neg h1]
      by_cases h2 : a = b
      · rw [if_pos ((eq64 ha2 hb2).mpr h2), if_pos h2]; decide
      · rw [if_neg (fun q => h2 ((eq64 ha2 hb2).mp q)), if_neg h2]; decide
  rw [e]
  refine k H locs ls hP hS hL (okS_cons ?_ (okS_tail (okS_tail hst))) hM
  show ok32 (lc a b)
  unfold lc ok32
  split
  · omega
  · split <;> omega
theorem g_iconst (hx : p.tables.exec = Jvm.exec) (hb : c.code = mC y) {v : Int} (hd : decode (mC y) pc = .ok (.iconst v, 1)) (hw : Int32.ofInt v = Int32.ofInt v) (hv : ok32 v) (k : G p l e R s m args below meth c Q D cI cZ ad y (pc + 1) L (.inl v :: st) M) : G p l e R s m args below meth c Q D cI cZ ad y pc L st M := by
  intro H locs ls hP hS hL hst hM
  exact lv_iconst (v := Int32.ofInt v) hx hb hd hw (k H locs ls hP hS hL (okS_cons hv hst) hM)
theorem g_bipush (hx : p.tables.exec = Jvm.exec) (hb : c.code = mC y) {v : Int} (hd : decode (mC y) pc = .ok (.bipush v, 2)) (hw : (Int8.ofInt v).toInt32 = Int32.ofInt v) (hv : ok32 v) (k : G p l e R s m args below meth c Q D cI cZ ad y (pc + 2) L (.inl v :: st) M) : G p l e R s m args below meth c Q D cI cZ ad y pc L st M := by
  intro H locs ls hP hS hL hst hM
  exact lv_bipush (v := Int32.ofInt v) hx hb hd hw (k H locs ls hP hS hL (okS_cons hv hst) hM)
theorem g_sipush (hx : p.tables.exec = Jvm.exec) (hb : c.code = mC y) {v : Int} (hd : decode (mC y) pc = .ok (.sipush v, 3)) (hw : (Int16.ofInt v).toInt32 = Int32.ofInt v) (hv : ok32 v) (k : G p l e R s m args below meth c Q D cI cZ ad y (pc + 3) L (.inl v :: st) M) : G p l e R s m args below meth c Q D cI cZ ad y pc L st M := by
  intro H locs ls hP hS hL hst hM
  exact lv_sipush (v := Int32.ofInt v) hx hb hd hw (k H locs ls hP hS hL (okS_cons hv hst) hM)
theorem g_lconst (hx : p.tables.exec = Jvm.exec) (hb : c.code = mC y) {v : Fin 2} (hd : decode (mC y) pc = .ok (.lconst v, 1)) (k : G p l e R s m args below meth c Q D cI cZ ad y (pc + 1) L (.inr (.inl (v.val : Int)) :: st) M) : G p l e R s m args below meth c Q D cI cZ ad y pc L st M := by
  intro H locs ls hP hS hL hst hM
  have hv : ok64 (v.val : Int) := ⟨by omega, by have := v.isLt; omega⟩
  refine lv_lconst (v := Int64.ofInt (v.val : Int)) hx hb hd ?_ (k H locs ls hP hS hL (okS_cons hv hst) hM)
  exact (Int64.ofInt_eq_ofNat).symm
theorem g_ldc (hx : p.tables.exec = Jvm.exec) (hb : c.code = mC y) {v : Int} {i : Nat} {own : String} (hown : s.vm.findClass own = some m.cls) (hw : (Jvm.Cond.constant own i (Int32.ofInt v)).before args s = true) (hd : decode (mC y) pc = .ok (.ldc i, 2)) (hv : ok32 v) (k : G p l e R s m args below meth c Q D cI cZ ad y (pc + 2) L (.inl v :: st) M) : G p l e R s m args below meth c Q D cI cZ ad y pc L st M := by
  intro H locs ls hP hS hL hst hM
  exact lv_ldc hx hb hown hw hd (k H locs ls hP hS hL (okS_cons hv hst) hM)
theorem g_ldcw (hx : p.tables.exec = Jvm.exec) (hb : c.code = mC y) {v : Int} {i : Nat} {own : String} (hown : s.vm.findClass own = some m.cls) (hw : (Jvm.Cond.constant own i (Int32.ofInt v)).before args s = true) (hd : decode (mC y) pc = .ok (.ldc_w i, 3)) (hv : ok32 v) (k : G p l e R s m args below meth c Q D cI cZ ad y (pc + 3) L (.inl v :: st) M) : G p l e R s m args below meth c Q D cI cZ ad y pc L st M := by
  intro H locs ls hP hS hL hst hM
  exact lv_ldcw hx hb hown hw hd (k H locs ls hP hS hL (okS_cons hv hst) hM)
theorem g_ldc2 (hx : p.tables.exec = Jvm.exec) (hb : c.code = mC y) {v : Int} {i : Nat} {own : String} (hown : s.vm.findClass own = some m.cls) (hw : (Jvm.Cond.constantLong own i (Int64.ofInt v)).before args s = true) (hd : decode (mC y) pc = .ok (.ldc2_w i, 3)) (hv : ok64 v) (k : G p l e R s m args below meth c Q D cI cZ ad y (pc + 3) L (.inr (.inl v) :: st) M) : G p l e R s m args below meth c Q D cI cZ ad y pc L st M := by
  intro H locs ls hP hS hL hst hM
  exact lv_ldc2 hx hb hown hw hd (k H locs ls hP hS hL (okS_cons hv hst) hM)
theorem g_ldcS (hx : p.tables.exec = Jvm.exec) (hb : c.code = mC y) {i j : Nat} {own tx : String} (hown : s.vm.findClass own = some m.cls) (hw : vk_R own i tx (ad (500 + j)) s) (hd : decode (mC y) pc = .ok (.ldc i, 2)) (k : G p l e R s m args below meth c Q D cI cZ ad y (pc + 2) L (.inr (.inr (500 + j)) :: st) M) : G p l e R s m args below meth c Q D cI cZ ad y pc L st M := by
  intro H locs ls hP hS hL hst hM
  exact va_ldcS hx hb hown hw hd (k H locs ls hP hS hL (okS_cons trivial hst) hM)
theorem g_iload (hx : p.tables.exec = Jvm.exec) (hb : c.code = mC y) {i : Nat} {z : Int} (hd : decode (mC y) pc = .ok (.iload i, 2)) (hg : gl L i = some (.inl z)) (k : G p l e R s m args below meth c Q D cI cZ ad y (pc + 2) L (.inl z :: st) M) : G p l e R s m args below meth c Q D cI cZ ad y pc L st M := by
  intro H locs ls hP hS hL hst hM
  obtain ⟨h1, h2, -⟩ := hL.2.2 _ _ hg
  exact lv_iload hx hb hd h1 (k H locs ls hP hS hL (okS_cons h2 hst) hM)
theorem g_iload_n (hx : p.tables.exec = Jvm.exec) (hb : c.code = mC y) {i : Fin 4} {z : Int} (hd : decode (mC y) pc = .ok (.iload_n i, 1)) (hg : gl L i.val = some (.inl z)) (k : G p l e R s m args below meth c Q D cI cZ ad y (pc + 1) L (.inl z :: st) M) : G p l e R s m args below meth c Q D cI cZ ad y pc L st M := by
  intro H locs ls hP hS hL hst hM
  obtain ⟨h1, h2, -⟩ := hL.2.2 _ _ hg
  exact lv_iload_n hx hb hd rfl h1 (k H locs ls hP hS hL (okS_cons h2 hst) hM)
theorem g_lload (hx : p.tables.exec = Jvm.exec) (hb : c.code = mC y) {i : Nat} {z : Int} (hd : decode (mC y) pc = .ok (.lload i, 2)) (hg : gl L i = some (.inr (.inl z))) (k : G p l e R s m args below meth c Q D cI cZ ad y (pc + 2) L (.inr (.inl z) :: st) M) : G p l e R s m args below meth c Q D cI cZ ad y pc L st M := by
  intro H locs ls hP hS hL hst hM
  obtain ⟨h1, h2, -⟩ := hL.2.2 _ _ hg
  exact lv_lload hx hb hd h1 (k H locs ls hP hS hL (okS_cons h2 hst) hM)
theorem g_lload_n (hx : p.tables.exec = Jvm.exec) (hb : c.code = mC y) {i : Fin 4} {z : Int} (hd : decode (mC y) pc = .ok (.lload_n i, 1)) (hg : gl L i.val = some (.inr (.inl z))) (k : G p l e R s m args below meth c Q D cI cZ ad y (pc + 1) L (.inr (.inl z) :: st) M) : G p l e R s m args below meth c Q D cI cZ ad y pc L st M := by
  intro H locs ls hP hS hL hst hM
  obtain ⟨h1, h2, -⟩ := hL.2.2 _ _ hg
  exact lv_lload_n hx hb hd rfl h1 (k H locs ls hP hS hL (okS_cons h2 hst) hM)
theorem g_aload (hx : p.tables.exec = Jvm.exec) (hb : c.code = mC y) {i : Nat} {z : Nat} (hd : decode (mC y) pc = .ok (.aload i, 2)) (hg : gl L i = some (.inr (.inr z))) (k : G p l e R s m args below meth c Q D cI cZ ad y (pc + 2) L (.inr (.inr z) :: st) M) : G p l e R s m args below meth c Q D cI cZ ad y pc L st M := by
  intro H locs ls hP hS hL hst hM
  obtain ⟨h1, h2, -⟩ := hL.2.2 _ _ hg
  exact lv_aload hx hb hd h1 (k H locs ls hP hS hL (okS_cons h2 hst) hM)
theorem g_aload_n (hx : p.tables.exec = Jvm.exec) (hb : c.code = mC y) {i : Fin 4} {z : Nat} (hd : decode (mC y) pc = .ok (.aload_n i, 1)) (hg : gl L i.val = some (.inr (.inr z))) (k : G p l e R s m args below meth c Q D cI cZ ad y (pc + 1) L (.inr (.inr z) :: st) M) : G p l e R s m args below meth c Q D cI cZ ad y pc L st M := by
  intro H locs ls hP hS hL hst hM
  obtain ⟨h1, h2, -⟩ := hL.2.2 _ _ hg
  exact lv_aload_n hx hb hd rfl h1 (k H locs ls hP hS hL (okS_cons h2 hst) hM)
theorem g_istore (hx : p.tables.exec = Jvm.exec) (hb : c.code = mC y) {i : Nat} {z : Int} (hd : decode (mC y) pc = .ok (.istore i, 2)) (hi : i < mL y) (hg : ∀ j, j + 1 = i → j ∉ mG y) (k : G p l e R s m args below meth c Q D cI cZ ad y (pc + 2) (sl L i (some (.inl z))) st M) : G p l e R s m args below meth c Q D cI cZ ad y pc L (.inl z :: st) M := by
  intro H locs ls hP hS hL hst hM
  exact lv_istore hx hb hd hL.has hi rfl (fun ls' h' => k H locs ls' hP hS (hL.store1 (okS_head hst) (by rintro ⟨q, e⟩; cases e) hg h') (okS_tail hst) hM)
theorem g_istore_n (hx : p.tables.exec = Jvm.exec) (hb : c.code = mC y) {i : Fin 4} {z : Int} (hd : decode (mC y) pc = .ok (.istore_n i, 1)) (hi : i.val < mL y) (hg : ∀ j, j + 1 = i.val → j ∉ mG y) (k : G p l e R s m args below meth c Q D cI cZ ad y (pc + 1) (sl L i.val (some (.inl z))) st M) : G p l e R s m args below meth c Q D cI cZ ad y pc L (.inl z :: st) M := by
  intro H locs ls hP hS hL hst hM
  exact lv_istore_n hx hb hd rfl hL.has hi rfl (fun ls' h' => k H locs ls' hP hS (hL.store1 (okS_head hst) (by rintro ⟨q, e⟩; cases e) hg h') (okS_tail hst) hM)
theorem g_astore (hx : p.tables.exec = Jvm.exec) (hb : c.code = mC y) {i : Nat} {z : Nat} (hd : decode (mC y) pc = .ok (.astore i, 2)) (hi : i < mL y) (hg : ∀ j, j + 1 = i → j ∉ mG y) (k : G p l e R s m args below meth c Q D cI cZ ad y (pc + 2) (sl L i (some (.inr (.inr z)))) st M) : G p l e R s m args below meth c Q D cI cZ ad y pc L (.inr (.inr z) :: st) M := by
  intro H locs ls hP hS hL hst hM
  exact lv_astore hx hb hd hL.has hi rfl (fun ls' h' => k H locs ls' hP hS (hL.store1 (okS_head hst) (by rintro ⟨q, e⟩; cases e) hg h') (okS_tail hst) hM)
theorem g_astore_n (hx : p.tables.exec = Jvm.exec) (hb : c.code = mC y) {i : Fin 4} {z : Nat} (hd : decode (mC y) pc = .ok (.astore_n i, 1)) (hi : i.val < mL y) (hg : ∀ j, j + 1 = i.val → j ∉ mG y) (k : G p l e R s m args below meth c Q D cI cZ ad y (pc + 1) (sl L i.val (some (.inr (.inr z)))) st M) : G p l e R s m args below meth c Q D cI cZ ad y pc L (.inr (.inr z) :: st) M := by
  intro H locs ls hP hS hL hst hM
  exact lv_astore_n hx hb hd rfl hL.has hi rfl (fun ls' h' => k H locs ls' hP hS (hL.store1 (okS_head hst) (by rintro ⟨q, e⟩; cases e) hg h') (okS_tail hst) hM)
theorem g_lstore (hx : p.tables.exec = Jvm.exec) (hb : c.code = mC y) {i : Nat} {z : Int} (hd : decode (mC y) pc = .ok (.lstore i, 2)) (hi : i + 1 < mL y) (hm : i ∈ mG y) (hg : ∀ j, j + 1 = i → j ∉ mG y) (k : G p l e R s m args below meth c Q D cI cZ ad y (pc + 2) (sl (sl L (i + 1) none) i (some (.inr (.inl z)))) st M) : G p l e R s m args below meth c Q D cI cZ ad y pc L (.inr (.inl z) :: st) M := by
  intro H locs ls hP hS hL hst hM
  exact lv_lstore hx hb hd hL.has hi rfl (fun ls' h' => k H locs ls' hP hS (hL.store2 (okS_head hst) hm hg h') (okS_tail hst) hM)
theorem g_lstore_n (hx : p.tables.exec = Jvm.exec) (hb : c.code = mC y) {i : Fin 4} {z : Int} (hd : decode (mC y) pc = .ok (.lstore_n i, 1)) (hi : i.val + 1 < mL y) (hm : i.val ∈ mG y) (hg : ∀ j, j + 1 = i.val → j ∉ mG y) (k : G p l e R s m args below meth c Q D cI cZ ad y (pc + 1) (sl (sl L (i.val + 1) none) i.val (some (.inr (.inl z)))) st M) : G p l e R s m args below meth c Q D cI cZ ad y pc L (.inr (.inl z) :: st) M := by
  intro H locs ls hP hS hL hst hM
  exact lv_lstore_n hx hb hd rfl hL.has hi rfl (fun ls' h' => k H locs ls' hP hS (hL.store2 (okS_head hst) hm hg h') (okS_tail hst) hM)
theorem g_iinc (hx : p.tables.exec = Jvm.exec) (hb : c.code = mC y) {i : Nat} {n z : Int} (hd : decode (mC y) pc = .ok (.iinc i n, 3)) (hz : gl L i = some (.inl z)) (hi : i < mL y) (hg : ∀ j, j + 1 = i → j ∉ mG y) (k : G p l e R s m args below meth c Q D cI cZ ad y (pc + 3) (sl L i (some (.inl (i2 fadd z n)))) st M) : G p l e R s m args below meth c Q D cI cZ ad y pc L st M := by
  intro H locs ls hP hS hL hst hM
  obtain ⟨q, hq⟩ := List.getElem?_of_mem (asl_mem.mpr ⟨_, hz, rfl⟩ : (i, toV ad (.inl z)) ∈ asl ad L)
  have e : toV ad (.inl (i2 fadd z n)) = .int (Int32.ofInt z + Int32.ofInt n) := by simp only [toV, i2, fadd, as32]
  exact lv_iinc hx hb hd hL.has hq rfl hi rfl (fun ls' h' => k H locs ls' hP hS (hL.store1 (v := .inl (i2 fadd z n)) (ok32_to _) (by rintro ⟨q, e⟩; cases e) hg (by rw [e]; exact h')) hst hM)
theorem g_dupI (hx : p.tables.exec = Jvm.exec) (hb : c.code = mC y) {a : Int} (hd : decode (mC y) pc = .ok (.dup, 1)) (k : G p l e R s m args below meth c Q D cI cZ ad y (pc + 1) L (.inl a :: .inl a :: st) M) : G p l e R s m args below meth c Q D cI cZ ad y pc L (.inl a :: st) M := by
  intro H locs ls hP hS hL hst hM
  exact lv_dup hx hb hd rfl (k H locs ls hP hS hL (okS_cons (okS_head hst) hst) hM)
theorem g_dupR (hx : p.tables.exec = Jvm.exec) (hb : c.code = mC y) {a : Nat} (hd : decode (mC y) pc = .ok (.dup, 1)) (k : G p l e R s m args below meth c Q D cI cZ ad y (pc + 1) L (.inr (.inr a) :: .inr (.inr a) :: st) M) : G p l e R s m args below meth c Q D cI cZ ad y pc L (.inr (.inr a) :: st) M := by
  intro H locs ls hP hS hL hst hM
  exact lv_dup hx hb hd rfl (k H locs ls hP hS hL (okS_cons (okS_head hst) hst) hM)
theorem g_dup2 (hx : p.tables.exec = Jvm.exec) (hb : c.code = mC y) {a : Int} {b : Nat} (hd : decode (mC y) pc = .ok (.dup2, 1)) (k : G p l e R s m args below meth c Q D cI cZ ad y (pc + 1) L (.inl a :: .inr (.inr b) :: .inl a :: .inr (.inr b) :: st) M) : G p l e R s m args below meth c Q D cI cZ ad y pc L (.inl a :: .inr (.inr b) :: st) M := by
  intro H locs ls hP hS hL hst hM
  exact lv_dup2_11 hx hb hd rfl rfl (k H locs ls hP hS hL (okS_cons (okS_head hst) (okS_cons trivial hst)) hM)
theorem g_popI (hx : p.tables.exec = Jvm.exec) (hb : c.code = mC y) {a : Int} (hd : decode (mC y) pc = .ok (.pop, 1)) (k : G p l e R s m args below meth c Q D cI cZ ad y (pc + 1) L st M) : G p l e R s m args below meth c Q D cI cZ ad y pc L (.inl a :: st) M := by
  intro H locs ls hP hS hL hst hM
  exact lv_pop hx hb hd rfl (k H locs ls hP hS hL (okS_tail hst) hM)
theorem g_popR (hx : p.tables.exec = Jvm.exec) (hb : c.code = mC y) {a : Nat} (hd : decode (mC y) pc = .ok (.pop, 1)) (k : G p l e R s m args below meth c Q D cI cZ ad y (pc + 1) L st M) : G p l e R s m args below meth c Q D cI cZ ad y pc L (.inr (.inr a) :: st) M := by
  intro H locs ls hP hS hL hst hM
  exact lv_pop hx hb hd rfl (k H locs ls hP hS hL (okS_tail hst) hM)
theorem g_goto (hx : p.tables.exec = Jvm.exec) (hb : c.code = mC y) {off : Int} (hd : decode (mC y) pc = .ok (.goto off, 3)) (ht : 0 ≤ (pc : Int) + off) (k : G p l e R s m args below meth c Q D cI cZ ad y ((pc : Int) + off).toNat L st M) : G p l e R s m args below meth c Q D cI cZ ad y pc L st M := by
  intro H locs ls hP hS hL hst hM
  exact lv_goto hx hb hd (by omega) (k H locs ls hP hS hL hst hM)
theorem g_icmp (hx : p.tables.exec = Jvm.exec) (hb : c.code = mC y) {cn : Jvm.ClassFile.Cond} {off a b : Int} (hd : decode (mC y) pc = .ok (.if_icmp cn off, 3)) (ht : 0 ≤ (pc : Int) + off) (k : G p l e R s m args below meth c Q D cI cZ ad y (br cn a b ((pc : Int) + off).toNat (pc + 3)) L st M) : G p l e R s m args below meth c Q D cI cZ ad y pc L (.inl b :: .inl a :: st) M := by
  intro H locs ls hP hS hL hst hM
  have hb2 : ok32 b := okS_head hst
  have ha : ok32 a := okS_head (okS_tail hst)
  cases cn
  · refine lv_icmp_eq (tgt := ((pc : Int) + off).toNat) hx hb hd (by omega) (fun h => ?_) (fun h => ?_)
    · have h9 := k H locs ls hP hS hL (okS_tail (okS_tail hst)) hM
      rw [show br .eq a b ((pc : Int) + off).toNat (pc + 3) = ((pc : Int) + off).toNat from by have h8 := (eq32 ha hb2).mp h; simp only [br]; first | (rw [if_pos (by omega)]) | (rw [if_neg (by omega)])] at h9
      exact h9
    · have h9 := k H locs ls hP hS hL (okS_tail (okS_tail hst)) hM
      rw [show br .eq a b ((pc : Int) + off).toNat (pc + 3) = pc + 3 from by have h8 := (not_congr (eq32 ha hb2)).mp h; simp only [br]; first | (rw [if_pos (by omega)]) | (rw [if_neg (by omega)])] at h9
      exact h9
  · refine lv_icmp_ne (tgt := ((pc : Int) + off).toNat) hx hb hd (by omega) (fun h => ?_) (fun h => ?_)
    · have h9 := k H locs ls hP hS hL (okS_tail (okS_tail hst)) hM
      rw [show br .ne a b ((pc : Int) + off).toNat (pc + 3) = ((pc : Int) + off).toNat from by have h8 := (not_congr (eq32 ha hb2)).mp h; simp only [br]; first | (rw [if_pos (by omega)]) | (rw [if_neg (by omega)])] at h9
      exact h9
    · have h9 := k H locs ls hP hS hL (okS_tail (okS_tail hst)) hM
      rw [show br .ne a b ((pc : Int) + off).toNat (pc + 3) = pc + 3 from by have h8 := (eq32 ha hb2).mp h; simp only [br]; first | (rw [if_pos (by omega)]) | (rw [if_neg (by omega)])] at h9
      exact h9
  · refine lv_icmp_lt (tgt := ((pc : Int) + off).toNat) hx hb hd (by omega) (fun h => ?_) (fun h => ?_)
    · have h9 := k H locs ls hP hS hL (okS_tail (okS_tail hst)) hM
      rw [show br .lt a b ((pc : Int) + off).toNat (pc + 3) = ((pc : Int) + off).toNat from by have h8 := (lt32 ha hb2).mp h; simp only [br]; first | (rw [if_pos (by omega)]) | (rw [if_neg (by omega)])] at h9
      exact h9
    · have h9 := k H locs ls hP hS hL (okS_tail (okS_tail hst)) hM
      rw [show br .lt a b ((pc : Int) + off).toNat (pc + 3) = pc + 3 from by have h8 := (not_congr (lt32 ha hb2)).mp h; simp only [br]; first | (rw [if_pos (by omega)]) | (rw [if_neg (by omega)])] at h9
      exact h9
  · refine lv_icmp_ge (tgt := ((pc : Int) + off).toNat) hx hb hd (by omega) (fun h => ?_) (fun h => ?_)
    · have h9 := k H locs ls hP hS hL (okS_tail (okS_tail hst)) hM
      rw [show br .ge a b ((pc : Int) + off).toNat (pc + 3) = ((pc : Int) + off).toNat from by have h8 := (le32 hb2 ha).mp h; simp only [br]; first | (rw [if_pos (by omega)]) | (rw [if_neg (by omega)])] at h9
      exact h9
    · have h9 := k H locs ls hP hS hL (okS_tail (okS_tail hst)) hM
      rw [show br .ge a b ((pc : Int) + off).toNat (pc + 3) = pc + 3 from by have h8 := (not_congr (le32 hb2 ha)).mp h; simp only [br]; first | (rw [if_pos (by omega)]) | (rw [if_neg (by omega)])] at h9
      exact h9
  · refine lv_icmp_gt (tgt := ((pc : Int) + off).toNat) hx hb hd (by omega) (fun h => ?_) (fun h => ?_)
    · have h9 := k H locs ls hP hS hL (okS_tail (okS_tail hst)) hM
      rw [show br .gt a b ((pc : Int) + off).toNat (pc + 3) = ((pc : Int) + off).toNat from by have h8 := (lt32 hb2 ha).mp h; simp only [br]; first | (rw [if_pos (by omega)]) | (rw [if_neg (by omega)])] at h9
      exact h9
    · have h9 := k H locs ls hP hS hL (okS_tail (okS_tail hst)) hM
      rw [show br .gt a b ((pc : Int) + off).toNat (pc + 3) = pc + 3 from by have h8 := (not_congr (lt32 hb2 ha)).mp h; simp only [br]; first | (rw [if_pos (by omega)]) | (rw [if_neg (by omega)])] at h9
      exact h9
  · refine lv_icmp_le (tgt := ((pc : Int) + off).toNat) hx hb hd (by omega) (fun h => ?_) (fun h => ?_)
    · have h9 := k H locs ls hP hS hL (okS_tail (okS_tail hst)) hM
      rw [show br .le a b ((pc : Int) + off).toNat (pc + 3) = ((pc : Int) + off).toNat from by have h8 := (le32 ha hb2).mp h; simp only [br]; first | (rw [if_pos (by omega)]) | (rw [if_neg (by omega)])] at h9
      exact h9
    · have h9 := k H locs ls hP hS hL (okS_tail (okS_tail hst)) hM
      rw [show br .le a b ((pc : Int) + off).toNat (pc + 3) = pc + 3 from by have h8 := (not_congr (le32 ha hb2)).mp h; simp only [br]; first | (rw [if_pos (by omega)]) | (rw [if_neg (by omega)])] at h9
      exact h9
theorem g_if (hx : p.tables.exec = Jvm.exec) (hb : c.code = mC y) {cn : Jvm.ClassFile.Cond} {off a : Int} (hd : decode (mC y) pc = .ok (.ifCond cn off, 3)) (ht : 0 ≤ (pc : Int) + off) (k : G p l e R s m args below meth c Q D cI cZ ad y (br cn a 0 ((pc : Int) + off).toNat (pc + 3)) L st M) : G p l e R s m args below meth c Q D cI cZ ad y pc L (.inl a :: st) M := by
  intro H locs ls hP hS hL hst hM
  have ha : ok32 a := okS_head hst
  cases cn
  · refine lv_if_eq (tgt := ((pc : Int) + off).toNat) hx hb hd (by omega) (fun h => ?_) (fun h => ?_)
    · have h9 := k H locs ls hP hS hL (okS_tail hst) hM
      rw [show br .eq a 0 ((pc : Int) + off).toNat (pc + 3) = ((pc : Int) + off).toNat from by have h8 := (eq32 ha ok32_0).mp h; simp only [br]; first | (rw [if_pos (by omega)]) | (rw [if_neg (by omega)])] at h9
      exact h9
    · have h9 := k H locs ls hP hS hL (okS_tail hst) hM
      rw [show br .eq a 0 ((pc : Int) + off).toNat (pc + 3) = pc + 3 from by have h8 := (not_congr (eq32 ha ok32_0)).mp h; simp only [br]; first | (rw [if_pos (by omega)]) | (rw [if_neg (by omega)])] at h9
      exact h9
  · refine lv_if_ne (tgt := ((pc : Int) + off).toNat) hx hb hd (by omega) (fun h => ?_) (fun h => ?_)
    · have h9 := k H locs ls hP hS hL (okS_tail hst) hM
      rw [show br .ne a 0 ((pc : Int) + off).toNat (pc + 3) = ((pc : Int) + off).toNat from by have h8 := (not_congr (eq32 ha ok32_0)).mp h; simp only [br]; first | (rw [if_pos (by omega)]) | (rw [if_neg (by omega)])] at h9
      exact h9
    · have h9 := k H locs ls hP hS hL (okS_tail hst) hM
      rw [show br .ne a 0 ((pc : Int) + off).toNat (pc + 3) = pc + 3 from by have h8 := (eq32 ha ok32_0).mp h; simp only [br]; first | (rw [if_pos (by omega)]) | (rw [if_neg (by omega)])] at h9
      exact h9
  · refine lv_if_lt (tgt := ((pc : Int) + off).toNat) hx hb hd (by omega) (fun h => ?_) (fun h => ?_)
    · have h9 := k H locs ls hP hS hL (okS_tail hst) hM
      rw [show br .lt a 0 ((pc : Int) + off).toNat (pc + 3) = ((pc : Int) + off).toNat from by have h8 := (lt32 ha ok32_0).mp h; simp only [br]; first | (rw [if_pos (by omega)]) | (rw [if_neg (by omega)])] at h9
      exact h9
    · have h9 := k H locs ls hP hS hL (okS_tail hst) hM
      rw [show br .lt a 0 ((pc : Int) + off).toNat (pc + 3) = pc + 3 from by have h8 := (not_congr (lt32 ha ok32_0)).mp h; simp only [br]; first | (rw [if_pos (by omega)]) | (rw [if_neg (by omega)])] at h9
      exact h9
  · refine lv_if_ge (tgt := ((pc : Int) + off).toNat) hx hb hd (by omega) (fun h => ?_) (fun h => ?_)
    · have h9 := k H locs ls hP hS hL (okS_tail hst) hM
      rw [show br .ge a 0 ((pc : Int) + off).toNat (pc + 3) = ((pc : Int) + off).toNat from by have h8 := (le32 ok32_0 ha).mp h; simp only [br]; first | (rw [if_pos (by omega)]) | (rw [if_neg (by omega)])] at h9
      exact h9
    · have h9 := k H locs ls hP hS hL (okS_tail hst) hM
      rw [show br .ge a 0 ((pc : Int) + off).toNat (pc + 3) = pc + 3 from by have h8 := (not_congr (le32 ok32_0 ha)).mp h; simp only [br]; first | (rw [if_pos (by omega)]) | (rw [if_neg (by omega)])] at h9
      exact h9
  · refine lv_if_gt (tgt := ((pc : Int) + off).toNat) hx hb hd (by omega) (fun h => ?_) (fun h => ?_)
    · have h9 := k H locs ls hP hS hL (okS_tail hst) hM
      rw [show br .gt a 0 ((pc : Int) + off).toNat (pc + 3) = ((pc : Int) + off).toNat from by have h8 := (lt32 ok32_0 ha).mp h; simp only [br]; first | (rw [if_pos (by omega)]) | (rw [if_neg (by omega)])] at h9
      exact h9
    · have h9 := k H locs ls hP hS hL (okS_tail hst) hM
      rw [show br .gt a 0 ((pc : Int) + off).toNat (pc + 3) = pc + 3 from by have h8 := (not_congr (lt32 ok32_0 ha)).mp h; simp only [br]; first | (rw [if_pos (by omega)]) | (rw [if_neg (by omega)])] at h9
      exact h9
  · refine lv_if_le (tgt := ((pc : Int) + off).toNat) hx hb hd (by omega) (fun h => ?_) (fun h => ?_)
    · have h9 := k H locs ls hP hS hL (okS_tail hst) hM
      rw [show br .le a 0 ((pc : Int) + off).toNat (pc + 3) = ((pc : Int) + off).toNat from by have h8 := (le32 ha ok32_0).mp h; simp only [br]; first | (rw [if_pos (by omega)]) | (rw [if_neg (by omega)])] at h9
      exact h9
    · have h9 := k H locs ls hP hS hL (okS_tail hst) hM
      rw [show br .le a 0 ((pc : Int) + off).toNat (pc + 3) = pc + 3 from by have h8 := (not_congr (le32 ha ok32_0)).mp h; simp only [br]; first | (rw [if_pos (by omega)]) | (rw [if_neg (by omega)])] at h9
      exact h9
end OPS
end
section
/-! fields, arrays, switches, ends -/
def kTy : Nat → Option FieldType
  | 0 => some .int
  | 1 => some .long
  | 2 => some .boolean
  | _ => none
def clN (ci : Nat) : String := (nth cls ci ("", TX0, 0)).1
def clT (ci : Nat) : u_T := (nth cls ci ("", TX0, 0)).2.1
def clS (ci : Nat) : Nat := (nth cls ci ("", TX0, 0)).2.2
theorem cls_get {ci : Nat} (h : ci < 6) : cls[ci]? = some (clN ci, clT ci, clS ci) := nth_get cls ci h
/-- the shapes fit the classes -/
def shOk (r : Nat) : Bool := match shp r with
  | .inl _ => true
  | .inr (ci, ks) => Nat.blt ci 6 && (Nat.beq ks.length (clS ci) && (List.range (clS ci)).all (fun f => match kTy (nth ks f 99999) with
    | some t => decide (parseFieldDescriptor ((clT ci) f).2.2.1 = some t)
    | none => true))
theorem sh_ok : (List.range 73).all shOk = true := by decide +kernel
theorem shp_lt {r ci : Nat} {ks : List Nat} (h : shp r = .inr (ci, ks)) : r < 73 := by
  rcases Nat.lt_or_ge r 73 with q | q
  · exact q
  · rw [shp_out q] at h; cases h
theorem sh_obj {r ci : Nat} {ks : List Nat} (h : shp r = .inr (ci, ks)) : ci < 6 ∧ ks.length = clS ci ∧ ∀ f, f < clS ci → ∀ t, kTy (nth ks f 99999) = some t → parseFieldDescriptor ((clT ci) f).2.2.1 = some t := by
  have h0 := List.all_eq_true.mp sh_ok r (List.mem_range.mpr (shp_lt h))
  unfold shOk at h0
  rw [h] at h0
  simp only [Bool.and_eq_true] at h0
  obtain ⟨h1, h2, h3⟩ := h0
  refine ⟨Nat.le_of_ble_eq_true h1, Nat.eq_of_beq_eq_true h2, fun f hf t ht => ?_⟩
  have h4 := List.all_eq_true.mp h3 f (List.mem_range.mpr hf)
  rw [ht] at h4
  exact of_decide_eq_true h4
theorem nth_some {α : Type} {d : α} {l : List α} {n : Nat} {a : α} (h : l[n]? = some a) : nth l n d = a := by
  have h1 := nth_get (d := d) l n (List.getElem?_eq_some_iff.mp h).1
  rw [h] at h1
  exact (Option.some.inj h1).symm
theorem fkind_spec {r ci f k : Nat} (h : fkind r ci f = k) (hk : k ≠ 99999) : ∃ ks, shp r = .inr (ci, ks) ∧ ks[f]? = some k := by
  unfold fkind at h
  cases hs : shp r with
  | inl q => rw [hs] at h; exact absurd h.symm hk
  | inr q =>
    obtain ⟨c0, ks⟩ := q
    rw [hs] at h
    dsimp only at h
    cases hc : Nat.beq c0 ci with
    | false => rw [hc] at h; exact absurd h.symm hk
    | true =>
      rw [hc] at h
      have hc2 := Nat.eq_of_beq_eq_true hc
      subst hc2
      refine ⟨ks, rfl, ?_⟩
      rcases Nat.lt_or_ge f ks.length with q | q
      · rw [nth_get (d := 99999) ks f q]; exact congrArg some h
      · exact absurd ((nth_out (d := 99999) ks f q).symm.trans h).symm hk
theorem okM_int {M : Mm} (h : okM M) {r i : Nat} (hl : lgc r i = false) : ok32 (M r i) := by
  have := h r i; rw [hl] at this; simpa using this
theorem okM_long {M : Mm} (h : okM M) {r i : Nat} (hl : lgc r i = true) : ok64 (M r i) := by
  have := h r i; rw [hl] at this; simpa using this
theorem lgc_obj {r f ci k : Nat} {ks : List Nat} (hs : shp r = .inr (ci, ks)) (hk : ks[f]? = some k) : lgc r f = Nat.beq k 1 := by
  unfold lgc; rw [hs]; dsimp only; rw [nth_some hk]
theorem lgc_arr {r i n : Nat} {b : Bool} (hs : shp r = .inl (n, b)) : lgc r i = false := by
  unfold lgc; rw [hs]
theorem okM_up {M : Mm} (h : okM M) {r : Nat} {f z : Int} (hz : if lgc r f.toNat then ok64 z else ok32 z) : okM (up M r f z) := by
  intro a i
  by_cases hc : a = r ∧ (i : Int) = f
  · obtain ⟨rfl, rfl⟩ := hc
    rw [show up M a i z a i = z from if_pos ⟨rfl, rfl⟩]; simpa using hz
  · rw [show up M r f z a i = M a i from if_neg hc]; exact h a i
theorem okV_gf {M : Mm} (h : okM M) {r f ci k : Nat} {ks : List Nat} (hs : shp r = .inr (ci, ks)) (hk : ks[f]? = some k) : okV (gf M r f k) := by
  have e := lgc_obj hs hk
  rcases k with _ | _ | _ | k
  · exact okM_int h e
  · exact okM_long h e
  · exact okM_int h e
  · trivial
def inj (ad : Nat → Nat) : Prop := ∀ i j, i < 73 → j < 73 → ad i = ad j → i = j
theorem wd_D {cI cZ : ClassId} {ad : Nat → Nat} (h : inj ad) (M : Mm) : va_D (Ar ad) (wd cI cZ ad M) := by
  refine ⟨fun i j p q hi hj e => ?_, fun k q hk => ?_⟩
  · obtain ⟨h1, h2⟩ := wd_lt hi
    obtain ⟨h3, h4⟩ := wd_lt hj
    exact h i j h1 h3 (by rw [← h2, ← h4, e])
  · obtain ⟨h1, h2⟩ := wd_lt hk
    exact ⟨k, h1, h2⟩
abbrev tyw (cI cZ : ClassId) : List (ClassId × FieldType) := [(cI, .int), (cZ, .boolean)]
section HEAP
variable {p : Program} {l : Launch} {e : Env} {R : Room} {s : State} {m : MethodId} {args : Array Value} {below : List Frame} {meth : Method} {c : Code} {Q : State → Prop} {D : va_G} {cI cZ : ClassId} {ad : Nat → Nat} {y pc : Nat} {L : Lc} {st : List PV} {M : Mm}
theorem g_getfield (hx : p.tables.exec = Jvm.exec) (hb : c.code = mC y) (hK : va_K D cls (tyw cI cZ) s) (hts : ∀ w ∈ gt, w.before args s = true) {own : String} (hown : s.vm.findClass own = some m.cls) {i ci f r k : Nat} (hin : ∀ w ∈ u_ws (clN ci) (clT ci) (clS ci), w ∈ gt)
    (hd : decode (mC y) pc = .ok (.getfield i, 3)) (hw : (Jvm.Cond.fieldLink own i ((clT ci) f).1 ((clT ci) f).2.1 ((clT ci) f).2.2.1).before args s = true) (hk : fkind r ci f = k) (hk9 : k ≠ 99999)
    (kk : G p l e R s m args below meth c Q D cI cZ ad y (pc + 3) L (gf M r f k :: st) M) : G p l e R s m args below meth c Q D cI cZ ad y pc L (.inr (.inr r) :: st) M := by
  intro H locs ls hP hS hL hst hM
  obtain ⟨ks, hs, hkf⟩ := fkind_spec hk hk9
  obtain ⟨h6, hl, -⟩ := sh_obj hs
  have hr := shp_lt hs
  have hg := wd_get (cI := cI) (cZ := cZ) (ad := ad) (M := M) hr
  rw [hs] at hg
  have hf : f < clS ci := by rw [← hl]; exact (List.getElem?_eq_some_iff.mp hkf).1
  refine va_get (C := clN ci) (T := clT ci) (N := clS ci) (own := own) (v := toV ad (gf M r f k)) hx hb hts hin hown hK hP r hg (cls_get h6) f hf hw (fun _ h => h) ?_ hd ?_
  · rw [List.getElem?_mapIdx, hkf]; rfl
  · exact kk H locs ls hP hS hL (okS_cons (okV_gf hM hs hkf) (okS_tail hst)) hM
theorem g_putfield (hx : p.tables.exec = Jvm.exec) (hb : c.code = mC y) (hK : va_K D cls (tyw cI cZ) s) (hj : inj ad) (hts : ∀ w ∈ gt, w.before args s = true) {own : String} (hown : s.vm.findClass own = some m.cls) {i ci f r k : Nat} {z : Int} {v : PV} {ty : FieldType} (hin : ∀ w ∈ u_ws (clN ci) (clT ci) (clS ci), w ∈ gt)
    (hty : ∀ k, k < clS ci → parseFieldDescriptor ((clT ci) k).2.2.1 = some (tyO ci k)) (hnm : ∀ a, a < clS ci → ∀ b, b < clS ci → a ≠ b → ((clT ci) a).2.1 ≠ ((clT ci) b).2.1)
    (hd : decode (mC y) pc = .ok (.putfield i, 3)) (hw : (Jvm.Cond.fieldLink own i ((clT ci) f).1 ((clT ci) f).2.1 ((clT ci) f).2.2.1).before args s = true) (hk : fkind r ci f = k) (hk9 : k ≠ 99999) (hfin : ((clT ci) f).2.2.2 = false) (hkt : kTy k = some ty)
    (hv : gf (up M r f z) r f k = v) (hn : narrow ty (toV ad v) = toV ad v) (hfit : fits ty (toV ad v) = true) (hz : okV v → if lgc r f then ok64 z else ok32 z)
    (kk : G p l e R s m args below meth c Q D cI cZ ad y (pc + 3) L st (up M r f z)) : G p l e R s m args below meth c Q D cI cZ ad y pc L (v :: .inr (.inr r) :: st) M := by
  intro H locs ls hP hS hL hst hM
  obtain ⟨ks, hs, hkf⟩ := fkind_spec hk hk9
  obtain ⟨h6, hl, ht⟩ := sh_obj hs
  have hr := shp_lt hs
  have hg := wd_get (cI := cI) (cZ := cZ) (ad := ad) (M := M) hr
  rw [hs] at hg
  have hf : f < clS ci := by rw [← hl]; exact (List.getElem?_eq_some_iff.mp hkf).1
  have hpf := ht f hf ty (by rw [nth_some hkf]; exact hkt)
  refine va_put (C := clN ci) (T := clT ci) (N := clS ci) (own := own) (v := toV ad v) hx hb hts hin (tyO ci) hty hnm hown hK hP (wd_D hj M) hS r hg (cls_get h6) f hf hw (fun _ h => h) hfin hpf hn hfit (by simpa [hl] using hf) hd (fun H1 locs1 hP1 _ hS1 => ?_)
  rw [← cellE_upO (cI := cI) (cZ := cZ) hs hkf hv, wd_set hr (fun a i ha => up_other ha i)] at hP1
  exact kk H1 locs1 ls hP1 hS1 hL (okS_tail (okS_tail hst)) (okM_up hM (by simpa using hz (okS_head hst)))
theorem clampN (i : Int) (h : ok32 i) : (Int32.ofInt i).toNatClampNeg = i.toNat := by
  show (Int32.ofInt i).toInt.toNat = i.toNat
  rw [of32 h]
theorem in32 {i : Int} {n : Nat} (h : ok32 i) (h1 : 0 ≤ i) (h2 : i < n) : vp_in (Int32.ofInt i) n := vp_in_iff.mpr (by rw [of32 h]; exact ⟨h1, h2⟩)
theorem g_iaload (hx : p.tables.exec = Jvm.exec) (hb : c.code = mC y) (hK : va_K D cls (tyw cI cZ) s) {r n : Nat} {i : Int} (hs : shp r = .inl (n, false)) (h1 : 0 ≤ i) (h2 : i < n) (hd : decode (mC y) pc = .ok (.iaload, 1))
    (kk : G p l e R s m args below meth c Q D cI cZ ad y (pc + 1) L (.inl (M r i) :: st) M) : G p l e R s m args below meth c Q D cI cZ ad y pc L (.inl i :: .inr (.inr r) :: st) M := by
  intro H locs ls hP hS hL hst hM
  have hi : ok32 i := okS_head hst
  have hr : r < 73 := by
    rcases Nat.lt_or_ge r 73 with q | q
    · exact q
    · rw [shp_out q] at hs; cases hs; omega
  have hg := wd_get (cI := cI) (cZ := cZ) (ad := ad) (M := M) hr
  rw [hs] at hg
  refine va_iald (cA := cI) (f := fun j => Int32.ofInt (M r j)) (n := n) hx hb hK hP r 0 hg rfl (in32 hi h1 h2) hd ?_
  rw [clampN i hi]
  have e : ((i.toNat : Nat) : Int) = i := Int.toNat_of_nonneg h1
  have h9 := kk H locs ls hP hS hL (okS_cons (show ok32 (M r i) by rw [← e]; exact okM_int hM (lgc_arr hs)) (okS_tail (okS_tail hst))) hM
  rw [e]
  exact h9
theorem g_baload (hx : p.tables.exec = Jvm.exec) (hb : c.code = mC y) (hK : va_K D cls (tyw cI cZ) s) {r n : Nat} {i : Int} (hs : shp r = .inl (n, true)) (h1 : 0 ≤ i) (h2 : i < n) (hd : decode (mC y) pc = .ok (.baload, 1))
    (kk : G p l e R s m args below meth c Q D cI cZ ad y (pc + 1) L (.inl (M r i) :: st) M) : G p l e R s m args below meth c Q D cI cZ ad y pc L (.inl i :: .inr (.inr r) :: st) M := by
  intro H locs ls hP hS hL hst hM
  have hi : ok32 i := okS_head hst
  have hr : r < 73 := by
    rcases Nat.lt_or_ge r 73 with q | q
    · exact q
    · rw [shp_out q] at hs; cases hs
  have hg := wd_get (cI := cI) (cZ := cZ) (ad := ad) (M := M) hr
  rw [hs] at hg
  refine va_zald (cA := cZ) (f := fun j => Int32.ofInt (M r j)) (n := n) hx hb hK hP r 1 hg rfl (in32 hi h1 h2) hd ?_
  rw [clampN i hi]
  have e : ((i.toNat : Nat) : Int) = i := Int.toNat_of_nonneg h1
  have h9 := kk H locs ls hP hS hL (okS_cons (show ok32 (M r i) by rw [← e]; exact okM_int hM (lgc_arr hs)) (okS_tail (okS_tail hst))) hM
  rw [e]
  exact h9
theorem g_iastore (hx : p.tables.exec = Jvm.exec) (hb : c.code = mC y) (hK : va_K D cls (tyw cI cZ) s) (hj : inj ad) {r n : Nat} {i v : Int} (hs : shp r = .inl (n, false)) (h1 : 0 ≤ i) (h2 : i < n) (hd : decode (mC y) pc = .ok (.iastore, 1))
    (kk : G p l e R s m args below meth c Q D cI cZ ad y (pc + 1) L st (up M r i v)) : G p l e R s m args below meth c Q D cI cZ ad y pc L (.inl v :: .inl i :: .inr (.inr r) :: st) M := by
  intro H locs ls hP hS hL hst hM
  have hv : ok32 v := okS_head hst
  have hi : ok32 i := okS_head (okS_tail hst)
  have hr : r < 73 := by
    rcases Nat.lt_or_ge r 73 with q | q
    · exact q
    · rw [shp_out q] at hs; cases hs; omega
  have hg := wd_get (cI := cI) (cZ := cZ) (ad := ad) (M := M) hr
  rw [hs] at hg
  refine va_iast (cA := cI) (f := fun j => Int32.ofInt (M r j)) (n := n) hx hb hK hP (wd_D hj M) hS r 0 hg rfl (in32 hi h1 h2) hd (fun H1 locs1 hP1 _ hS1 => ?_)
  rw [clampN i hi, show (Sum.inl (cI, n, Sum.inl (upd (fun j => Int32.ofInt (M r j)) i.toNat (Int32.ofInt v))) : va_E) = cellE cI cZ ad (up M r i v) r (shp r) from (cellE_upA (cI := cI) (cZ := cZ) (ad := ad) h1 hs).symm, wd_set hr (fun a i ha => up_other ha i)] at hP1
  exact kk H1 locs1 ls hP1 hS1 hL (okS_tail (okS_tail (okS_tail hst))) (okM_up hM (by rw [lgc_arr hs]; exact hv))
theorem g_bastore (hx : p.tables.exec = Jvm.exec) (hb : c.code = mC y) (hK : va_K D cls (tyw cI cZ) s) (hj : inj ad) {r n : Nat} {i v : Int} (hs : shp r = .inl (n, true)) (h1 : 0 ≤ i) (h2 : i < n) (hv01 : v = 0 ∨ v = 1) (hd : decode (mC y) pc = .ok (.bastore, 1))
    (kk : G p l e R s m args below meth c Q D cI cZ ad y (pc + 1) L st (up M r i v)) : G p l e R s m args below meth c Q D cI cZ ad y pc L (.inl v :: .inl i :: .inr (.inr r) :: st) M := by
  intro H locs ls hP hS hL hst hM
  have hv : ok32 v := okS_head hst
  have hi : ok32 i := okS_head (okS_tail hst)
  have hr : r < 73 := by
    rcases Nat.lt_or_ge r 73 with q | q
    · exact q
    · rw [shp_out q] at hs; cases hs
  have hg := wd_get (cI := cI) (cZ := cZ) (ad := ad) (M := M) hr
  rw [hs] at hg
  have hnar : vp_nar .boolean (Int32.ofInt v) = Int32.ofInt v := by
    rcases hv01 with rfl | rfl
    · decide +kernel
    · decide +kernel
  refine va_zast (cA := cZ) (f := fun j => Int32.ofInt (M r j)) (n := n) hx hb hK hP (wd_D hj M) hS r 1 hg rfl (in32 hi h1 h2) hd (fun H1 locs1 hP1 _ hS1 => ?_)
  rw [hnar, clampN i hi, show (Sum.inl (cZ, n, Sum.inl (upd (fun j => Int32.ofInt (M r j)) i.toNat (Int32.ofInt v))) : va_E) = cellE cI cZ ad (up M r i v) r (shp r) from (cellE_upA (cI := cI) (cZ := cZ) (ad := ad) h1 hs).symm, wd_set hr (fun a i ha => up_other ha i)] at hP1
  exact kk H1 locs1 ls hP1 hS1 hL (okS_tail (okS_tail (okS_tail hst))) (okM_up hM (by rw [lgc_arr hs]; exact hv))
theorem SH_small : (List.range 73).all (fun r => match shp r with | .inl (n, _) => Nat.blt n 2000 | _ => true) = true := by decide +kernel
theorem shp_small {r n : Nat} {b : Bool} (h : shp r = .inl (n, b)) : n < 2000 := by
  rcases Nat.lt_or_ge r 73 with q | q
  · have := List.all_eq_true.mp SH_small r (List.mem_range.mpr q)
    rw [h] at this
    exact Nat.le_of_ble_eq_true this
  · rw [shp_out q] at h; cases h; omega
theorem g_alen (hx : p.tables.exec = Jvm.exec) (hb : c.code = mC y) (hK : va_K D cls (tyw cI cZ) s) {r n : Nat} {b : Bool} (hs : shp r = .inl (n, b)) (hr : r < 73) (hd : decode (mC y) pc = .ok (.arraylength, 1))
    (kk : G p l e R s m args below meth c Q D cI cZ ad y (pc + 1) L (.inl (n : Int) :: st) M) : G p l e R s m args below meth c Q D cI cZ ad y pc L (.inr (.inr r) :: st) M := by
  intro H locs ls hP hS hL hst hM
  have hg := wd_get (cI := cI) (cZ := cZ) (ad := ad) (M := M) hr
  rw [hs] at hg
  have hn := shp_small hs
  have k2 := kk H locs ls hP hS hL (okS_cons (show ok32 (n : Int) from ⟨by omega, by omega⟩) (okS_tail hst)) hM
  cases b with
  | false => exact va_alen (cA := cI) hx hb hK hP r 0 hg rfl (Int32.ofInt_eq_ofNat).symm hd k2
  | true => exact va_alen (cA := cZ) hx hb hK hP r 1 hg rfl (Int32.ofInt_eq_ofNat).symm hd k2
theorem g_table (hx : p.tables.exec = Jvm.exec) (hb : c.code = mC y) {d lo hi a : Int} {offs : Array Int} {len : Nat} (hd : decode (mC y) pc = .ok (.tableswitch d lo hi offs, len)) (hs : hi - lo < offs.size) (h0 : 0 ≤ (pc : Int) + d) (h1 : ∀ o ∈ offs.toList, 0 ≤ (pc : Int) + o)
    (kk : G p l e R s m args below meth c Q D cI cZ ad y ((pc : Int) + (if a < lo ∨ hi < a then d else nth offs.toList (a - lo).toNat d)).toNat L st M) : G p l e R s m args below meth c Q D cI cZ ad y pc L (.inl a :: st) M := by
  intro H locs ls hP hS hL hst hM
  have ha : ok32 a := okS_head hst
  have k2 := kk H locs ls hP hS hL (okS_tail hst) hM
  by_cases hc : a < lo ∨ hi < a
  · rw [if_pos hc] at k2
    exact lv_tableOut hx hb hd (by rw [of32 ha]; exact hc) (by omega) k2
  · rw [if_neg hc] at k2
    have hl : (a - lo).toNat < offs.toList.length := by
      rw [Array.length_toList]; omega
    have hg := nth_get (d := d) offs.toList (a - lo).toNat hl
    have hp := h1 _ (List.mem_of_getElem? hg)
    refine lv_tableIn (off := nth offs.toList (a - lo).toNat d) hx hb hd (by rw [of32 ha]; omega) (by rw [of32 ha]; omega) ?_ (tgt := ((pc : Int) + nth offs.toList (a - lo).toNat d).toNat) (by omega) k2
    rw [of32 ha, ← Array.getElem?_toList]
    exact hg
end HEAP
end
section
/-! the tables are as the Statement has them (written by wip/whole/gen7.py) -/
def dok (v : Int) : Bool := decide (-2147483648 ≤ v) && decide (v < 2147483648)
theorem dok_ok {v : Int} (h : dok v = true) : ok32 v := by
  simp only [dok, Bool.and_eq_true, decide_eq_true_eq] at h; exact h
def dokL (v : Int) : Bool := decide (-9223372036854775808 ≤ v) && decide (v < 9223372036854775808)
theorem dokL_ok {v : Int} (h : dokL v = true) : ok64 v := by
  simp only [dokL, Bool.and_eq_true, decide_eq_true_eq] at h; exact h
def brOk (pc : Nat) (off : Int) : Bool := decide (0 ≤ (pc : Int) + off)
def stOk (y i : Nat) : Bool := Nat.blt i (mL y) && (match i with
  | 0 => true
  | j + 1 => !(mG y).contains j)
theorem stOk_ok {y i : Nat} (h : stOk y i = true) : i < mL y ∧ ∀ j, j + 1 = i → j ∉ mG y := by
  simp only [stOk, Bool.and_eq_true] at h
  refine ⟨Nat.le_of_ble_eq_true h.1, fun j hj => ?_⟩
  subst hj
  have h2 := h.2
  simpa using h2
def insOK (y pc : Nat) (i : Instr) (len : Nat) : Bool := match i with
  | .iconst v => Nat.beq len 1 && dok v
  | .bipush v => Nat.beq len 2 && (decide ((Int8.ofInt v).toInt32 = Int32.ofInt v) && dok v)
  | .sipush v => Nat.beq len 3 && (decide ((Int16.ofInt v).toInt32 = Int32.ofInt v) && dok v)
  | .lconst _ => Nat.beq len 1
  | .ldc _ => Nat.beq len 2
  | .ldc_w _ => Nat.beq len 3
  | .ldc2_w _ => Nat.beq len 3
  | .iload _ => Nat.beq len 2
  | .lload _ => Nat.beq len 2
  | .aload _ => Nat.beq len 2
  | .iload_n _ => Nat.beq len 1
  | .lload_n _ => Nat.beq len 1
  | .aload_n _ => Nat.beq len 1
  | .istore k => Nat.beq len 2 && stOk y k
  | .astore k => Nat.beq len 2 && stOk y k
  | .istore_n k => Nat.beq len 1 && stOk y k.val
  | .astore_n k => Nat.beq len 1 && stOk y k.val
  | .lstore k => Nat.beq len 2 && (stOk y k && (Nat.blt (k + 1) (mL y) && (mG y).contains k))
  | .lstore_n k => Nat.beq len 1 && (stOk y k.val && (Nat.blt (k.val + 1) (mL y) && (mG y).contains k.val))
  | .iinc k _ => Nat.beq len 3 && stOk y k
  | .iadd => Nat.beq len 1
  | .isub => Nat.beq len 1
  | .imul => Nat.beq len 1
  | .iand => Nat.beq len 1
  | .ior => Nat.beq len 1
  | .ixor => Nat.beq len 1
  | .ishl => Nat.beq len 1
  | .ishr => Nat.beq len 1
  | .iushr => Nat.beq len 1
  | .idiv => Nat.beq len 1
  | .irem => Nat.beq len 1
  | .ineg => Nat.beq len 1
  | .ladd => Nat.beq len 1
  | .lmul => Nat.beq len 1
  | .ldiv => Nat.beq len 1
  | .lrem => Nat.beq len 1
  | .i2l => Nat.beq len 1
  | .l2i => Nat.beq len 1
  | .lcmp => Nat.beq len 1
  | .dup => Nat.beq len 1
  | .dup2 => Nat.beq len 1
  | .pop => Nat.beq len 1
  | .iaload => Nat.beq len 1
  | .baload => Nat.beq len 1
  | .iastore => Nat.beq len 1
  | .bastore => Nat.beq len 1
  | .arraylength => Nat.beq len 1
  | .ireturn => Nat.beq len 1
  | .lreturn => Nat.beq len 1
  | .return_ => Nat.beq len 1
  | .goto off => Nat.beq len 3 && brOk pc off
  | .ifCond _ off => Nat.beq len 3 && brOk pc off
  | .if_icmp _ off => Nat.beq len 3 && brOk pc off
  | .tableswitch d lo hi offs => decide (hi - lo < offs.size) && (brOk pc d && offs.toList.all (brOk pc))
  | .getfield _ => Nat.beq len 3
  | .putfield k => Nat.beq len 3 && (match look4 (nth fldT (mK y) []) k with
    | some (ci, f, _) => !((clT ci) f).2.2.2
    | none => true)
  | .invokestatic k => Nat.beq len 3 && (match look4 (nth mthT (mK y) []) k with
    | some (t, _, _, _) => if t = 1002 then Nat.blt 0 (mD y) else Nat.blt t 227 && Nat.blt (mD t) (mD y)
    | none => true)
  | .invokevirtual k => Nat.beq len 3 && (match look4 (nth mthT (mK y) []) k with
    | some (t, _, _, _) => if t = 1003 then Nat.blt 2 (mD y) else if t = 1004 then Nat.blt 4 (mD y) else Nat.blt t 227 && Nat.blt (mD t) (mD y)
    | none => true)
  | _ => false
def chk (y : Nat) : Bool := (tab y).all (fun q => decide (decode (mC y) q.1 = .ok (q.2.1, q.2.2)) && insOK y q.1 q.2.1 q.2.2)
set_option maxRecDepth 20000 in
theorem ck0 : chk 0 = true := by decide +kernel
set_option maxRecDepth 20000 in
theorem ck1 : chk 1 = true := by decide +kernel
set_option maxRecDepth 20000 in
theorem ck2 : chk 2 = true := by decide +kernel
set_option maxRecDepth 20000 in
theorem ck3 : chk 3 = true := by decide +kernel
set_option maxRecDepth 20000 in
theorem ck4 : chk 4 = true := by decide +kernel
set_option maxRecDepth 20000 in
theorem ck5 : chk 5 = true := by decide +kernel
set_option maxRecDepth 20000 in
theorem ck6 : chk 6 = true := by decide +kernel
set_option maxRecDepth 20000 in
theorem ck7 : chk 7 = true := by decide +kernel
set_option maxRecDepth 20000 in
theorem ck8 : chk 8 = true := by decide +kernel
set_option maxRecDepth 20000 in
theorem ck9 : chk 9 = true := by decide +kernel
set_option maxRecDepth 20000 in
theorem ck10 : chk 10 = true := by decide +kernel
set_option maxRecDepth 20000 in
theorem ck11 : chk 11 = true := by decide +kernel
set_option maxRecDepth 20000 in
theorem ck12 : chk 12 = true := by decide +kernel
set_option maxRecDepth 20000 in
theorem ck13 : chk 13 = true := by decide +kernel
set_option maxRecDepth 20000 in
theorem ck14 : chk 14 = true := by decide +kernel
set_option maxRecDepth 20000 in
theorem ck15 : chk 15 = true := by decide +kernel
set_option maxRecDepth 20000 in
theorem ck16 : chk 16 = true := by decide +kernel
set_option maxRecDepth 20000 in
theorem ck17 : chk 17 = true := by decide +kernel
set_option maxRecDepth 20000 in
theorem ck18 : chk 18 = true := by decide +kernel
set_option maxRecDepth 20000 in
theorem ck19 : chk 19 = true := by decide +kernel
set_option maxRecDepth 20000 in
theorem ck20 : chk 20 = true := by decide +kernel
set_option maxRecDepth 20000 in
theorem ck21 : chk 21 = true := by decide +kernel
set_option maxRecDepth 20000 in
theorem ck22 : chk 22 = true := by decide +kernel
set_option maxRecDepth 20000 in
theorem ck23 : chk 23 = true := by decide +kernel
set_option maxRecDepth 20000 in
theorem ck24 : chk 24 = true := by decide +kernel
set_option maxRecDepth 20000 in
theorem ck25 : chk 25 = true := by decide +kernel
set_option maxRecDepth 20000 in
theorem ck26 : chk 26 = true := by decide +kernel
set_option maxRecDepth 20000 in
theorem ck27 : chk 27 = true := by decide +kernel
set_option maxRecDepth 20000 in
theorem ck28 : chk 28 = true := by decide +kernel
set_option maxRecDepth 20000 in
theorem ck29 : chk 29 = true := by decide +kernel
set_option maxRecDepth 20000 in
theorem ck30 : chk 30 = true := by decide +kernel
set_option maxRecDepth 20000 in
theorem ck31 : chk 31 = true := by decide +kernel
set_option maxRecDepth 20000 in
theorem ck32 : chk 32 = true := by decide +kernel
set_option maxRecDepth 20000 in
theorem ck33 : chk 33 = true := by decide +kernel
set_option maxRecDepth 20000 in
theorem ck34 : chk 34 = true := by decide +kernel
set_option maxRecDepth 20000 in
theorem ck35 : chk 35 = true := by decide +kernel
set_option maxRecDepth 20000 in
theorem ck36 : chk 36 = true := by decide +kernel
set_option maxRecDepth 20000 in
theorem ck37 : chk 37 = true := by decide +kernel
set_option maxRecDepth 20000 in
theorem ck38 : chk 38 = true := by decide +kernel
set_option maxRecDepth 20000 in
theorem ck39 : chk 39 = true := by decide +kernel
set_option maxRecDepth 20000 in
theorem ck40 : chk 40 = true := by decide +kernel
set_option maxRecDepth 20000 in
theorem ck41 : chk 41 = true := by decide +kernel
set_option maxRecDepth 20000 in
theorem ck42 : chk 42 = true := by decide +kernel
set_option maxRecDepth 20000 in
theorem ck43 : chk 43 = true := by decide +kernel
set_option maxRecDepth 20000 in
theorem ck44 : chk 44 = true := by decide +kernel
set_option maxRecDepth 20000 in
theorem ck45 : chk 45 = true := by decide +kernel
set_option maxRecDepth 20000 in
theorem ck46 : chk 46 = true := by decide +kernel
set_option maxRecDepth 20000 in
theorem ck47 : chk 47 = true := by decide +kernel
set_option maxRecDepth 20000 in
theorem ck48 : chk 48 = true := by decide +kernel
set_option maxRecDepth 20000 in
theorem ck49 : chk 49 = true := by decide +kernel
set_option maxRecDepth 20000 in
theorem ck50 : chk 50 = true := by decide +kernel
set_option maxRecDepth 20000 in
theorem ck51 : chk 51 = true := by decide +kernel
set_option maxRecDepth 20000 in
theorem ck52 : chk 52 = true := by decide +kernel
set_option maxRecDepth 20000 in
theorem ck53 : chk 53 = true := by decide +kernel
set_option maxRecDepth 20000 in
theorem ck54 : chk 54 = true := by decide +kernel
set_option maxRecDepth 20000 in
theorem ck55 : chk 55 = true := by decide +kernel
set_option maxRecDepth 20000 in
theorem ck56 : chk 56 = true := by decide +kernel
set_option maxRecDepth 20000 in
theorem ck57 : chk 57 = true := by decide +kernel
set_option maxRecDepth 20000 in
theorem ck58 : chk 58 = true := by decide +kernel
set_option maxRecDepth 20000 in
theorem ck59 : chk 59 = true := by decide +kernel
set_option maxRecDepth 20000 in
theorem ck60 : chk 60 = true := by decide +kernel
set_option maxRecDepth 20000 in
theorem ck61 : chk 61 = true := by decide +kernel
set_option maxRecDepth 20000 in
theorem ck62 : chk 62 = true := by decide +kernel
set_option maxRecDepth 20000 in
theorem ck63 : chk 63 = true := by decide +kernel
set_option maxRecDepth 20000 in
theorem ck64 : chk 64 = true := by decide +kernel
set_option maxRecDepth 20000 in
theorem ck65 : chk 65 = true := by decide +kernel
set_option maxRecDepth 20000 in
theorem ck66 : chk 66 = true := by decide +kernel
set_option maxRecDepth 20000 in
theorem ck67 : chk 67 = true := by decide +kernel
set_option maxRecDepth 20000 in
theorem ck68 : chk 68 = true := by decide +kernel
set_option maxRecDepth 20000 in
theorem ck69 : chk 69 = true := by decide +kernel
set_option maxRecDepth 20000 in
theorem ck70 : chk 70 = true := by decide +kernel
set_option maxRecDepth 20000 in
theorem ck71 : chk 71 = true := by decide +kernel
set_option maxRecDepth 20000 in
theorem ck72 : chk 72 = true := by decide +kernel
set_option maxRecDepth 20000 in
theorem ck73 : chk 73 = true := by decide +kernel
set_option maxRecDepth 20000 in
theorem ck74 : chk 74 = true := by decide +kernel
set_option maxRecDepth 20000 in
theorem ck75 : chk 75 = true := by decide +kernel
set_option maxRecDepth 20000 in
theorem ck76 : chk 76 = true := by decide +kernel
set_option maxRecDepth 20000 in
theorem ck77 : chk 77 = true := by decide +kernel
set_option maxRecDepth 20000 in
theorem ck78 : chk 78 = true := by decide +kernel
set_option maxRecDepth 20000 in
theorem ck79 : chk 79 = true := by decide +kernel
set_option maxRecDepth 20000 in
theorem ck80 : chk 80 = true := by decide +kernel
set_option maxRecDepth 20000 in
theorem ck81 : chk 81 = true := by decide +kernel
set_option maxRecDepth 20000 in
theorem ck82 : chk 82 = true := by decide +kernel
set_option maxRecDepth 20000 in
theorem ck83 : chk 83 = true := by decide +kernel
set_option maxRecDepth 20000 in
theorem ck84 : chk 84 = true := by decide +kernel
set_option maxRecDepth 20000 in
theorem ck85 : chk 85 = true := by decide +kernel
set_option maxRecDepth 20000 in
theorem ck86 : chk 86 = true := by decide +kernel
set_option maxRecDepth 20000 in
theorem ck87 : chk 87 = true := by decide +kernel
set_option maxRecDepth 20000 in
theorem ck88 : chk 88 = true := by decide +kernel
set_option maxRecDepth 20000 in
theorem ck89 : chk 89 = true := by decide +kernel
set_option maxRecDepth 20000 in
theorem ck90 : chk 90 = true := by decide +kernel
set_option maxRecDepth 20000 in
theorem ck91 : chk 91 = true := by decide +kernel
set_option maxRecDepth 20000 in
theorem ck92 : chk 92 = true := by decide +kernel
set_option maxRecDepth 20000 in
theorem ck93 : chk 93 = true := by decide +kernel
set_option maxRecDepth 20000 in
theorem ck94 : chk 94 = true := by decide +kernel
set_option maxRecDepth 20000 in
theorem ck95 : chk 95 = true := by decide +kernel
set_option maxRecDepth 20000 in
theorem ck96 : chk 96 = true := by decide +kernel
set_option maxRecDepth 20000 in
theorem ck97 : chk 97 = true := by decide +kernel
set_option maxRecDepth 20000 in
theorem ck98 : chk 98 = true := by decide +kernel
set_option maxRecDepth 20000 in
theorem ck99 : chk 99 = true := by decide +kernel
set_option maxRecDepth 20000 in
theorem ck100 : chk 100 = true := by decide +kernel
set_option maxRecDepth 20000 in
theorem ck101 : chk 101 = true := by decide +kernel
set_option maxRecDepth 20000 in
theorem ck102 : chk 102 = true := by decide +kernel
set_option maxRecDepth 20000 in
theorem ck103 : chk 103 = true := by decide +kernel
set_option maxRecDepth 20000 in
theorem ck104 : chk 104 = true := by decide +kernel
set_option maxRecDepth 20000 in
theorem ck105 : chk 105 = true := by decide +kernel
set_option maxRecDepth 20000 in
theorem ck106 : chk 106 = true := by decide +kernel
set_option maxRecDepth 20000 in
theorem ck107 : chk 107 = true := by decide +kernel
set_option maxRecDepth 20000 in
theorem ck108 : chk 108 = true := by decide +kernel
set_option maxRecDepth 20000 in
theorem ck109 : chk 109 = true := by decide +kernel
set_option maxRecDepth 20000 in
theorem ck110 : chk 110 = true := by decide +kernel
set_option maxRecDepth 20000 in
theorem ck111 : chk 111 = true := by decide +kernel
set_option maxRecDepth 20000 in
theorem ck112 : chk 112 = true := by decide +kernel
set_option maxRecDepth 20000 in
theorem ck113 : chk 113 = true := by decide +kernel
set_option maxRecDepth 20000 in
theorem ck114 : chk 114 = true := by decide +kernel
set_option maxRecDepth 20000 in
theorem ck115 : chk 115 = true := by decide +kernel
set_option maxRecDepth 20000 in
theorem ck116 : chk 116 = true := by decide +kernel
set_option maxRecDepth 20000 in
theorem ck117 : chk 117 = true := by decide +kernel
set_option maxRecDepth 20000 in
theorem ck118 : chk 118 = true := by decide +kernel
set_option maxRecDepth 20000 in
theorem ck119 : chk 119 = true := by decide +kernel
set_option maxRecDepth 20000 in
theorem ck120 : chk 120 = true := by decide +kernel
set_option maxRecDepth 20000 in
theorem ck121 : chk 121 = true := by decide +kernel
set_option maxRecDepth 20000 in
theorem ck122 : chk 122 = true := by decide +kernel
set_option maxRecDepth 20000 in
theorem ck123 : chk 123 = true := by decide +kernel
set_option maxRecDepth 20000 in
theorem ck124 : chk 124 = true := by decide +kernel
set_option maxRecDepth 20000 in
theorem ck125 : chk 125 = true := by decide +kernel
set_option maxRecDepth 20000 in
theorem ck126 : chk 126 = true := by decide +kernel
set_option maxRecDepth 20000 in
theorem ck127 : chk 127 = true := by decide +kernel
set_option maxRecDepth 20000 in
theorem ck128 : chk 128 = true := by decide +kernel
set_option maxRecDepth 20000 in
theorem ck129 : chk 129 = true := by decide +kernel
set_option maxRecDepth 20000 in
theorem ck130 : chk 130 = true := by decide +kernel
set_option maxRecDepth 20000 in
theorem ck131 : chk 131 = true := by decide +kernel
set_option maxRecDepth 20000 in
theorem ck132 : chk 132 = true := by decide +kernel
set_option maxRecDepth 20000 in
theorem ck133 : chk 133 = true := by decide +kernel
set_option maxRecDepth 20000 in
theorem ck134 : chk 134 = true := by decide +kernel
set_option maxRecDepth 20000 in
theorem ck135 : chk 135 = true := by decide +kernel
set_option maxRecDepth 20000 in
theorem ck136 : chk 136 = true := by decide +kernel
set_option maxRecDepth 20000 in
theorem ck137 : chk 137 = true := by decide +kernel
set_option maxRecDepth 20000 in
theorem ck138 : chk 138 = true := by decide +kernel
set_option maxRecDepth 20000 in
theorem ck139 : chk 139 = true := by decide +kernel
set_option maxRecDepth 20000 in
theorem ck140 : chk 140 = true := by decide +kernel
set_option maxRecDepth 20000 in
theorem ck141 : chk 141 = true := by decide +kernel
set_option maxRecDepth 20000 in
theorem ck142 : chk 142 = true := by decide +kernel
set_option maxRecDepth 20000 in
theorem ck143 : chk 143 = true := by decide +kernel
set_option maxRecDepth 20000 in
theorem ck144 : chk 144 = true := by decide +kernel
set_option maxRecDepth 20000 in
theorem ck145 : chk 145 = true := by decide +kernel
set_option maxRecDepth 20000 in
theorem ck146 : chk 146 = true := by decide +kernel
set_option maxRecDepth 20000 in
theorem ck147 : chk 147 = true := by decide +kernel
set_option maxRecDepth 20000 in
theorem ck148 : chk 148 = true := by decide +kernel
set_option maxRecDepth 20000 in
theorem ck149 : chk 149 = true := by decide +kernel
set_option maxRecDepth 20000 in
theorem ck150 : chk 150 = true := by decide +kernel
set_option maxRecDepth 20000 in
theorem ck151 : chk 151 = true := by decide +kernel
set_option maxRecDepth 20000 in
theorem ck152 : chk 152 = true := by decide +kernel
set_option maxRecDepth 20000 in
theorem ck153 : chk 153 = true := by decide +kernel
set_option maxRecDepth 20000 in
theorem ck154 : chk 154 = true := by decide +kernel
set_option maxRecDepth 20000 in
theorem ck155 : chk 155 = true := by decide +kernel
set_option maxRecDepth 20000 in
theorem ck156 : chk 156 = true := by decide +kernel
set_option maxRecDepth 20000 in
theorem ck157 : chk 157 = true := by decide +kernel
set_option maxRecDepth 20000 in
theorem ck158 : chk 158 = true := by decide +kernel
set_option maxRecDepth 20000 in
theorem ck159 : chk 159 = true := by decide +kernel
set_option maxRecDepth 20000 in
theorem ck160 : chk 160 = true := by decide +kernel
set_option maxRecDepth 20000 in
theorem ck161 : chk 161 = true := by decide +kernel
set_option maxRecDepth 20000 in
theorem ck162 : chk 162 = true := by decide +kernel
set_option maxRecDepth 20000 in
theorem ck163 : chk 163 = true := by decide +kernel
set_option maxRecDepth 20000 in
theorem ck164 : chk 164 = true := by decide +kernel
set_option maxRecDepth 20000 in
theorem ck165 : chk 165 = true := by decide +kernel
set_option maxRecDepth 20000 in
theorem ck166 : chk 166 = true := by decide +kernel
set_option maxRecDepth 20000 in
theorem ck167 : chk 167 = true := by decide +kernel
set_option maxRecDepth 20000 in
theorem ck168 : chk 168 = true := by decide +kernel
set_option maxRecDepth 20000 in
theorem ck169 : chk 169 = true := by decide +kernel
set_option maxRecDepth 20000 in
theorem ck170 : chk 170 = true := by decide +kernel
set_option maxRecDepth 20000 in
theorem ck171 : chk 171 = true := by decide +kernel
set_option maxRecDepth 20000 in
theorem ck172 : chk 172 = true := by decide +kernel
set_option maxRecDepth 20000 in
theorem ck173 : chk 173 = true := by decide +kernel
set_option maxRecDepth 20000 in
theorem ck174 : chk 174 = true := by decide +kernel
set_option maxRecDepth 20000 in
theorem ck175 : chk 175 = true := by decide +kernel
set_option maxRecDepth 20000 in
theorem ck176 : chk 176 = true := by decide +kernel
set_option maxRecDepth 20000 in
theorem ck177 : chk 177 = true := by decide +kernel
set_option maxRecDepth 20000 in
theorem ck178 : chk 178 = true := by decide +kernel
set_option maxRecDepth 20000 in
theorem ck179 : chk 179 = true := by decide +kernel
set_option maxRecDepth 20000 in
theorem ck180 : chk 180 = true := by decide +kernel
set_option maxRecDepth 20000 in
theorem ck181 : chk 181 = true := by decide +kernel
set_option maxRecDepth 20000 in
theorem ck182 : chk 182 = true := by decide +kernel
set_option maxRecDepth 20000 in
theorem ck183 : chk 183 = true := by decide +kernel
set_option maxRecDepth 20000 in
theorem ck184 : chk 184 = true := by decide +kernel
set_option maxRecDepth 20000 in
theorem ck185 : chk 185 = true := by decide +kernel
set_option maxRecDepth 20000 in
theorem ck186 : chk 186 = true := by decide +kernel
set_option maxRecDepth 20000 in
theorem ck187 : chk 187 = true := by decide +kernel
set_option maxRecDepth 20000 in
theorem ck188 : chk 188 = true := by decide +kernel
set_option maxRecDepth 20000 in
theorem ck189 : chk 189 = true := by decide +kernel
set_option maxRecDepth 20000 in
theorem ck190 : chk 190 = true := by decide +kernel
set_option maxRecDepth 20000 in
theorem ck191 : chk 191 = true := by decide +kernel
set_option maxRecDepth 20000 in
theorem ck192 : chk 192 = true := by decide +kernel
set_option maxRecDepth 20000 in
theorem ck193 : chk 193 = true := by decide +kernel
set_option maxRecDepth 20000 in
theorem ck194 : chk 194 = true := by decide +kernel
set_option maxRecDepth 20000 in
theorem ck195 : chk 195 = true := by decide +kernel
set_option maxRecDepth 20000 in
theorem ck196 : chk 196 = true := by decide +kernel
set_option maxRecDepth 20000 in
theorem ck197 : chk 197 = true := by decide +kernel
set_option maxRecDepth 20000 in
theorem ck198 : chk 198 = true := by decide +kernel
set_option maxRecDepth 20000 in
theorem ck199 : chk 199 = true := by decide +kernel
set_option maxRecDepth 20000 in
theorem ck200 : chk 200 = true := by decide +kernel
set_option maxRecDepth 20000 in
theorem ck201 : chk 201 = true := by decide +kernel
set_option maxRecDepth 20000 in
theorem ck202 : chk 202 = true := by decide +kernel
set_option maxRecDepth 20000 in
theorem ck203 : chk 203 = true := by decide +kernel
set_option maxRecDepth 20000 in
theorem ck204 : chk 204 = true := by decide +kernel
set_option maxRecDepth 20000 in
theorem ck205 : chk 205 = true := by decide +kernel
set_option maxRecDepth 20000 in
theorem ck206 : chk 206 = true := by decide +kernel
set_option maxRecDepth 20000 in
theorem ck207 : chk 207 = true := by decide +kernel
set_option maxRecDepth 20000 in
theorem ck208 : chk 208 = true := by decide +kernel
set_option maxRecDepth 20000 in
theorem ck209 : chk 209 = true := by decide +kernel
set_option maxRecDepth 20000 in
theorem ck210 : chk 210 = true := by decide +kernel
set_option maxRecDepth 20000 in
theorem ck211 : chk 211 = true := by decide +kernel
set_option maxRecDepth 20000 in
theorem ck212 : chk 212 = true := by decide +kernel
set_option maxRecDepth 20000 in
theorem ck213 : chk 213 = true := by decide +kernel
set_option maxRecDepth 20000 in
theorem ck214 : chk 214 = true := by decide +kernel
set_option maxRecDepth 20000 in
theorem ck215 : chk 215 = true := by decide +kernel
set_option maxRecDepth 20000 in
theorem ck216 : chk 216 = true := by decide +kernel
set_option maxRecDepth 20000 in
theorem ck217 : chk 217 = true := by decide +kernel
set_option maxRecDepth 20000 in
theorem ck218 : chk 218 = true := by decide +kernel
set_option maxRecDepth 20000 in
theorem ck219 : chk 219 = true := by decide +kernel
set_option maxRecDepth 20000 in
theorem ck220 : chk 220 = true := by decide +kernel
set_option maxRecDepth 20000 in
theorem ck221 : chk 221 = true := by decide +kernel
set_option maxRecDepth 20000 in
theorem ck222 : chk 222 = true := by decide +kernel
set_option maxRecDepth 20000 in
theorem ck223 : chk 223 = true := by decide +kernel
set_option maxRecDepth 20000 in
theorem ck224 : chk 224 = true := by decide +kernel
set_option maxRecDepth 20000 in
theorem ck225 : chk 225 = true := by decide +kernel
set_option maxRecDepth 20000 in
theorem ck226 : chk 226 = true := by decide +kernel
theorem ck_nil (P : Nat → Prop) (n : Nat) : ∀ y, n ≤ y → y < n → P y := fun y h1 h2 => absurd h1 (by omega)
theorem ck_all : ∀ y, y < 227 → chk y = true := by
  intro y hy
  match y, hy with
  | 0, _ => exact ck0
  | 1, _ => exact ck1
  | 2, _ => exact ck2
  | 3, _ => exact ck3
  | 4, _ => exact ck4
  | 5, _ => exact ck5
  | 6, _ => exact ck6
  | 7, _ => exact ck7
  | 8, _ => exact ck8
  | 9, _ => exact ck9
  | 10, _ => exact ck10
  | 11, _ => exact ck11
  | 12, _ => exact ck12
  | 13, _ => exact ck13
  | 14, _ => exact ck14
  | 15, _ => exact ck15
  | 16, _ => exact ck16
  | 17, _ => exact ck17
  | 18, _ => exact ck18
  | 19, _ => exact ck19
  | 20, _ => exact ck20
  | 21, _ => exact ck21
  | 22, _ => exact ck22
  | 23, _ => exact ck23
  | 24, _ => exact ck24
  | 25, _ => exact ck25
  | 26, _ => exact ck26
  | 27, _ => exact ck27
  | 28, _ => exact ck28
  | 29, _ => exact ck29
  | 30, _ => exact ck30
  | 31, _ => exact ck31
  | 32, _ => exact ck32
  | 33, _ => exact ck33
  | 34, _ => exact ck34
  | 35, _ => exact ck35
  | 36, _ => exact ck36
  | 37, _ => exact ck37
  | 38, _ => exact ck38
  | 39, _ => exact ck39
  | 40, _ => exact ck40
  | 41, _ => exact ck41
  | 42, _ => exact ck42
  | 43, _ => exact ck43
  | 44, _ => exact ck44
  | 45, _ => exact ck45
  | 46, _ => exact ck46
  | 47, _ => exact ck47
  | 48, _ => exact ck48
  | 49, _ => exact ck49
  | 50, _ => exact ck50
  | 51, _ => exact ck51
  | 52, _ => exact ck52
  | 53, _ => exact ck53
  | 54, _ => exact ck54
  | 55, _ => exact ck55
  | 56, _ => exact ck56
  | 57, _ => exact ck57
  | 58, _ => exact ck58
  | 59, _ => exact ck59
  | 60, _ => exact ck60
  | 61, _ => exact ck61
  | 62, _ => exact ck62
  | 63, _ => exact ck63
  | 64, _ => exact ck64
  | 65, _ => exact ck65
  | 66, _ => exact ck66
  | 67, _ => exact ck67
  | 68, _ => exact ck68
  | 69, _ => exact ck69
  | 70, _ => exact ck70
  | 71, _ => exact ck71
  | 72, _ => exact ck72
  | 73, _ => exact ck73
  | 74, _ => exact ck74
  | 75, _ => exact ck75
  | 76, _ => exact ck76
  | 77, _ => exact ck77
  | 78, _ => exact ck78
  | 79, _ => exact ck79
  | 80, _ => exact ck80
  | 81, _ => exact ck81
  | 82, _ => exact ck82
  | 83, _ => exact ck83
  | 84, _ => exact ck84
  | 85, _ => exact ck85
  | 86, _ => exact ck86
  | 87, _ => exact ck87
  | 88, _ => exact ck88
  | 89, _ => exact ck89
  | 90, _ => exact ck90
  | 91, _ => exact ck91
  | 92, _ => exact ck92
  | 93, _ => exact ck93
  | 94, _ => exact ck94
  | 95, _ => exact ck95
  | 96, _ => exact ck96
  | 97, _ => exact ck97
  | 98, _ => exact ck98
  | 99, _ => exact ck99
  | 100, _ => exact ck100
  | 101, _ => exact ck101
  | 102, _ => exact ck102
  | 103, _ => exact ck103
  | 104, _ => exact ck104
  | 105, _ => exact ck105
  | 106, _ => exact ck106
  | 107, _ => exact ck107
  | 108, _ => exact ck108
  | 109, _ => exact ck109
  | 110, _ => exact ck110
  | 111, _ => exact ck111
  | 112, _ => exact ck112
  | 113, _ => exact ck113
  | 114, _ => exact ck114
  | 115, _ => exact ck115
  | 116, _ => exact ck116
  | 117, _ => exact ck117
  | 118, _ => exact ck118
  | 119, _ => exact ck119
  | 120, _ => exact ck120
  | 121, _ => exact ck121
  | 122, _ => exact ck122
  | 123, _ => exact ck123
  | 124, _ => exact ck124
  | 125, _ => exact ck125
  | 126, _ => exact ck126
  | 127, _ => exact ck127
  | 128, _ => exact ck128
  | 129, _ => exact ck129
  | 130, _ => exact ck130
  | 131, _ => exact ck131
  | 132, _ => exact ck132
  | 133, _ => exact ck133
  | 134, _ => exact ck134
  | 135, _ => exact ck135
  | 136, _ => exact ck136
  | 137, _ => exact ck137
  | 138, _ => exact ck138
  | 139, _ => exact ck139
  | 140, _ => exact ck140
  | 141, _ => exact ck141
  | 142, _ => exact ck142
  | 143, _ => exact ck143
  | 144, _ => exact ck144
  | 145, _ => exact ck145
  | 146, _ => exact ck146
  | 147, _ => exact ck147
  | 148, _ => exact ck148
  | 149, _ => exact ck149
  | 150, _ => exact ck150
  | 151, _ => exact ck151
  | 152, _ => exact ck152
  | 153, _ => exact ck153
  | 154, _ => exact ck154
  | 155, _ => exact ck155
  | 156, _ => exact ck156
  | 157, _ => exact ck157
  | 158, _ => exact ck158
  | 159, _ => exact ck159
  | 160, _ => exact ck160
  | 161, _ => exact ck161
  | 162, _ => exact ck162
  | 163, _ => exact ck163
  | 164, _ => exact ck164
  | 165, _ => exact ck165
  | 166, _ => exact ck166
  | 167, _ => exact ck167
  | 168, _ => exact ck168
  | 169, _ => exact ck169
  | 170, _ => exact ck170
  | 171, _ => exact ck171
  | 172, _ => exact ck172
  | 173, _ => exact ck173
  | 174, _ => exact ck174
  | 175, _ => exact ck175
  | 176, _ => exact ck176
  | 177, _ => exact ck177
  | 178, _ => exact ck178
  | 179, _ => exact ck179
  | 180, _ => exact ck180
  | 181, _ => exact ck181
  | 182, _ => exact ck182
  | 183, _ => exact ck183
  | 184, _ => exact ck184
  | 185, _ => exact ck185
  | 186, _ => exact ck186
  | 187, _ => exact ck187
  | 188, _ => exact ck188
  | 189, _ => exact ck189
  | 190, _ => exact ck190
  | 191, _ => exact ck191
  | 192, _ => exact ck192
  | 193, _ => exact ck193
  | 194, _ => exact ck194
  | 195, _ => exact ck195
  | 196, _ => exact ck196
  | 197, _ => exact ck197
  | 198, _ => exact ck198
  | 199, _ => exact ck199
  | 200, _ => exact ck200
  | 201, _ => exact ck201
  | 202, _ => exact ck202
  | 203, _ => exact ck203
  | 204, _ => exact ck204
  | 205, _ => exact ck205
  | 206, _ => exact ck206
  | 207, _ => exact ck207
  | 208, _ => exact ck208
  | 209, _ => exact ck209
  | 210, _ => exact ck210
  | 211, _ => exact ck211
  | 212, _ => exact ck212
  | 213, _ => exact ck213
  | 214, _ => exact ck214
  | 215, _ => exact ck215
  | 216, _ => exact ck216
  | 217, _ => exact ck217
  | 218, _ => exact ck218
  | 219, _ => exact ck219
  | 220, _ => exact ck220
  | 221, _ => exact ck221
  | 222, _ => exact ck222
  | 223, _ => exact ck223
  | 224, _ => exact ck224
  | 225, _ => exact ck225
  | 226, _ => exact ck226
  | y + 227, h => exact absurd h (by omega)
end
section
theorem mc0 : lw_tbl[659]? = some (.code (mN 0) (mC 0) (mL 0) (mR 0)) := by decide +kernel
theorem mc1 : lw_tbl[664]? = some (.code (mN 1) (mC 1) (mL 1) (mR 1)) := by decide +kernel
theorem mc2 : lw_tbl[655]? = some (.code (mN 2) (mC 2) (mL 2) (mR 2)) := by decide +kernel
theorem mc3 : lw_tbl[670]? = some (.code (mN 3) (mC 3) (mL 3) (mR 3)) := by decide +kernel
theorem mc4 : lw_tbl[674]? = some (.code (mN 4) (mC 4) (mL 4) (mR 4)) := by decide +kernel
theorem mc5 : lw_tbl[277]? = some (.code (mN 5) (mC 5) (mL 5) (mR 5)) := by decide +kernel
theorem mc6 : lw_tbl[549]? = some (.code (mN 6) (mC 6) (mL 6) (mR 6)) := by decide +kernel
theorem mc7 : lw_tbl[321]? = some (.code (mN 7) (mC 7) (mL 7) (mR 7)) := by decide +kernel
theorem mc8 : lw_tbl[569]? = some (.code (mN 8) (mC 8) (mL 8) (mR 8)) := by decide +kernel
theorem mc9 : lw_tbl[306]? = some (.code (mN 9) (mC 9) (mL 9) (mR 9)) := by decide +kernel
theorem mc10 : lw_tbl[325]? = some (.code (mN 10) (mC 10) (mL 10) (mR 10)) := by decide +kernel
theorem mc11 : lw_tbl[579]? = some (.code (mN 11) (mC 11) (mL 11) (mR 11)) := by decide +kernel
theorem mc12 : lw_tbl[622]? = some (.code (mN 12) (mC 12) (mL 12) (mR 12)) := by decide +kernel
theorem mc13 : lw_tbl[644]? = some (.code (mN 13) (mC 13) (mL 13) (mR 13)) := by decide +kernel
theorem mc14 : lw_tbl[607]? = some (.code (mN 14) (mC 14) (mL 14) (mR 14)) := by decide +kernel
theorem mc15 : lw_tbl[313]? = some (.code (mN 15) (mC 15) (mL 15) (mR 15)) := by decide +kernel
theorem mc16 : lw_tbl[634]? = some (.code (mN 16) (mC 16) (mL 16) (mR 16)) := by decide +kernel
theorem mc17 : lw_tbl[512]? = some (.code (mN 17) (mC 17) (mL 17) (mR 17)) := by decide +kernel
theorem mc18 : lw_tbl[477]? = some (.code (mN 18) (mC 18) (mL 18) (mR 18)) := by decide +kernel
theorem mc19 : lw_tbl[329]? = some (.code (mN 19) (mC 19) (mL 19) (mR 19)) := by decide +kernel
theorem mc20 : lw_tbl[598]? = some (.code (mN 20) (mC 20) (mL 20) (mR 20)) := by decide +kernel
theorem mc21 : lw_tbl[333]? = some (.code (mN 21) (mC 21) (mL 21) (mR 21)) := by decide +kernel
theorem mc22 : lw_tbl[532]? = some (.code (mN 22) (mC 22) (mL 22) (mR 22)) := by decide +kernel
theorem mc23 : lw_tbl[545]? = some (.code (mN 23) (mC 23) (mL 23) (mR 23)) := by decide +kernel
theorem mc24 : lw_tbl[486]? = some (.code (mN 24) (mC 24) (mL 24) (mR 24)) := by decide +kernel
theorem mc25 : lw_tbl[541]? = some (.code (mN 25) (mC 25) (mL 25) (mR 25)) := by decide +kernel
theorem mc26 : lw_tbl[473]? = some (.code (mN 26) (mC 26) (mL 26) (mR 26)) := by decide +kernel
theorem mc27 : lw_tbl[888]? = some (.code (mN 27) (mC 27) (mL 27) (mR 27)) := by decide +kernel
theorem mc28 : lw_tbl[516]? = some (.code (mN 28) (mC 28) (mL 28) (mR 28)) := by decide +kernel
theorem mc29 : lw_tbl[508]? = some (.code (mN 29) (mC 29) (mL 29) (mR 29)) := by decide +kernel
theorem mc30 : lw_tbl[482]? = some (.code (mN 30) (mC 30) (mL 30) (mR 30)) := by decide +kernel
theorem mc31 : lw_tbl[490]? = some (.code (mN 31) (mC 31) (mL 31) (mR 31)) := by decide +kernel
theorem mc32 : lw_tbl[630]? = some (.code (mN 32) (mC 32) (mL 32) (mR 32)) := by decide +kernel
theorem mc33 : lw_tbl[503]? = some (.code (mN 33) (mC 33) (mL 33) (mR 33)) := by decide +kernel
theorem mc34 : lw_tbl[710]? = some (.code (mN 34) (mC 34) (mL 34) (mR 34)) := by decide +kernel
theorem mc35 : lw_tbl[284]? = some (.code (mN 35) (mC 35) (mL 35) (mR 35)) := by decide +kernel
theorem mc36 : lw_tbl[714]? = some (.code (mN 36) (mC 36) (mL 36) (mR 36)) := by decide +kernel
theorem mc37 : lw_tbl[719]? = some (.code (mN 37) (mC 37) (mL 37) (mR 37)) := by decide +kernel
theorem mc38 : lw_tbl[732]? = some (.code (mN 38) (mC 38) (mL 38) (mR 38)) := by decide +kernel
theorem mc39 : lw_tbl[559]? = some (.code (mN 39) (mC 39) (mL 39) (mR 39)) := by decide +kernel
theorem mc40 : lw_tbl[899]? = some (.code (mN 40) (mC 40) (mL 40) (mR 40)) := by decide +kernel
theorem mc41 : lw_tbl[341]? = some (.code (mN 41) (mC 41) (mL 41) (mR 41)) := by decide +kernel
theorem mc42 : lw_tbl[354]? = some (.code (mN 42) (mC 42) (mL 42) (mR 42)) := by decide +kernel
theorem mc43 : lw_tbl[438]? = some (.code (mN 43) (mC 43) (mL 43) (mR 43)) := by decide +kernel
theorem mc44 : lw_tbl[442]? = some (.code (mN 44) (mC 44) (mL 44) (mR 44)) := by decide +kernel
theorem mc45 : lw_tbl[447]? = some (.code (mN 45) (mC 45) (mL 45) (mR 45)) := by decide +kernel
theorem mc46 : lw_tbl[457]? = some (.code (mN 46) (mC 46) (mL 46) (mR 46)) := by decide +kernel
theorem mc47 : lw_tbl[463]? = some (.code (mN 47) (mC 47) (mL 47) (mR 47)) := by decide +kernel
theorem mc48 : lw_tbl[469]? = some (.code (mN 48) (mC 48) (mL 48) (mR 48)) := by decide +kernel
theorem mc49 : lw_tbl[537]? = some (.code (mN 49) (mC 49) (mL 49) (mR 49)) := by decide +kernel
theorem mc50 : lw_tbl[434]? = some (.code (mN 50) (mC 50) (mL 50) (mR 50)) := by decide +kernel
theorem mc51 : lw_tbl[451]? = some (.code (mN 51) (mC 51) (mL 51) (mR 51)) := by decide +kernel
theorem mc52 : lw_tbl[382]? = some (.code (mN 52) (mC 52) (mL 52) (mR 52)) := by decide +kernel
theorem mc53 : lw_tbl[358]? = some (.code (mN 53) (mC 53) (mL 53) (mR 53)) := by decide +kernel
theorem mc54 : lw_tbl[369]? = some (.code (mN 54) (mC 54) (mL 54) (mR 54)) := by decide +kernel
theorem mc55 : lw_tbl[377]? = some (.code (mN 55) (mC 55) (mL 55) (mR 55)) := by decide +kernel
theorem mc56 : lw_tbl[365]? = some (.code (mN 56) (mC 56) (mL 56) (mR 56)) := by decide +kernel
theorem mc57 : lw_tbl[373]? = some (.code (mN 57) (mC 57) (mL 57) (mR 57)) := by decide +kernel
theorem mc58 : lw_tbl[273]? = some (.code (mN 58) (mC 58) (mL 58) (mR 58)) := by decide +kernel
theorem mc59 : lw_tbl[288]? = some (.code (mN 59) (mC 59) (mL 59) (mR 59)) := by decide +kernel
theorem mc60 : lw_tbl[317]? = some (.code (mN 60) (mC 60) (mL 60) (mR 60)) := by decide +kernel
theorem mc61 : lw_tbl[337]? = some (.code (mN 61) (mC 61) (mL 61) (mR 61)) := by decide +kernel
theorem mc62 : lw_tbl[346]? = some (.code (mN 62) (mC 62) (mL 62) (mR 62)) := by decide +kernel
theorem mc63 : lw_tbl[350]? = some (.code (mN 63) (mC 63) (mL 63) (mR 63)) := by decide +kernel
theorem mc64 : lw_tbl[565]? = some (.code (mN 64) (mC 64) (mL 64) (mR 64)) := by decide +kernel
theorem mc65 : lw_tbl[585]? = some (.code (mN 65) (mC 65) (mL 65) (mR 65)) := by decide +kernel
theorem mc66 : lw_tbl[591]? = some (.code (mN 66) (mC 66) (mL 66) (mR 66)) := by decide +kernel
theorem mc67 : lw_tbl[603]? = some (.code (mN 67) (mC 67) (mL 67) (mR 67)) := by decide +kernel
theorem mc68 : lw_tbl[612]? = some (.code (mN 68) (mC 68) (mL 68) (mR 68)) := by decide +kernel
theorem mc69 : lw_tbl[618]? = some (.code (mN 69) (mC 69) (mL 69) (mR 69)) := by decide +kernel
theorem mc70 : lw_tbl[626]? = some (.code (mN 70) (mC 70) (mL 70) (mR 70)) := by decide +kernel
theorem mc71 : lw_tbl[640]? = some (.code (mN 71) (mC 71) (mL 71) (mR 71)) := by decide +kernel
theorem mc72 : lw_tbl[650]? = some (.code (mN 72) (mC 72) (mL 72) (mR 72)) := by decide +kernel
theorem mc73 : lw_tbl[678]? = some (.code (mN 73) (mC 73) (mL 73) (mR 73)) := by decide +kernel
theorem mc74 : lw_tbl[683]? = some (.code (mN 74) (mC 74) (mL 74) (mR 74)) := by decide +kernel
theorem mc75 : lw_tbl[689]? = some (.code (mN 75) (mC 75) (mL 75) (mR 75)) := by decide +kernel
theorem mc76 : lw_tbl[693]? = some (.code (mN 76) (mC 76) (mL 76) (mR 76)) := by decide +kernel
theorem mc77 : lw_tbl[699]? = some (.code (mN 77) (mC 77) (mL 77) (mR 77)) := by decide +kernel
theorem mc78 : lw_tbl[703]? = some (.code (mN 78) (mC 78) (mL 78) (mR 78)) := by decide +kernel
theorem mc79 : lw_tbl[724]? = some (.code (mN 79) (mC 79) (mL 79) (mR 79)) := by decide +kernel
theorem mc80 : lw_tbl[740]? = some (.code (mN 80) (mC 80) (mL 80) (mR 80)) := by decide +kernel
theorem mc81 : lw_tbl[728]? = some (.code (mN 81) (mC 81) (mL 81) (mR 81)) := by decide +kernel
theorem mc82 : lw_tbl[750]? = some (.code (mN 82) (mC 82) (mL 82) (mR 82)) := by decide +kernel
theorem mc83 : lw_tbl[754]? = some (.code (mN 83) (mC 83) (mL 83) (mR 83)) := by decide +kernel
theorem mc84 : lw_tbl[758]? = some (.code (mN 84) (mC 84) (mL 84) (mR 84)) := by decide +kernel
theorem mc85 : lw_tbl[763]? = some (.code (mN 85) (mC 85) (mL 85) (mR 85)) := by decide +kernel
theorem mc86 : lw_tbl[775]? = some (.code (mN 86) (mC 86) (mL 86) (mR 86)) := by decide +kernel
theorem mc87 : lw_tbl[767]? = some (.code (mN 87) (mC 87) (mL 87) (mR 87)) := by decide +kernel
theorem mc88 : lw_tbl[771]? = some (.code (mN 88) (mC 88) (mL 88) (mR 88)) := by decide +kernel
theorem mc89 : lw_tbl[779]? = some (.code (mN 89) (mC 89) (mL 89) (mR 89)) := by decide +kernel
theorem mc90 : lw_tbl[784]? = some (.code (mN 90) (mC 90) (mL 90) (mR 90)) := by decide +kernel
theorem mc91 : lw_tbl[790]? = some (.code (mN 91) (mC 91) (mL 91) (mR 91)) := by decide +kernel
theorem mc92 : lw_tbl[803]? = some (.code (mN 92) (mC 92) (mL 92) (mR 92)) := by decide +kernel
theorem mc93 : lw_tbl[794]? = some (.code (mN 93) (mC 93) (mL 93) (mR 93)) := by decide +kernel
theorem mc94 : lw_tbl[798]? = some (.code (mN 94) (mC 94) (mL 94) (mR 94)) := by decide +kernel
theorem mc95 : lw_tbl[808]? = some (.code (mN 95) (mC 95) (mL 95) (mR 95)) := by decide +kernel
theorem mc96 : lw_tbl[812]? = some (.code (mN 96) (mC 96) (mL 96) (mR 96)) := by decide +kernel
theorem mc97 : lw_tbl[816]? = some (.code (mN 97) (mC 97) (mL 97) (mR 97)) := by decide +kernel
theorem mc98 : lw_tbl[820]? = some (.code (mN 98) (mC 98) (mL 98) (mR 98)) := by decide +kernel
theorem mc99 : lw_tbl[824]? = some (.code (mN 99) (mC 99) (mL 99) (mR 99)) := by decide +kernel
theorem mc100 : lw_tbl[835]? = some (.code (mN 100) (mC 100) (mL 100) (mR 100)) := by decide +kernel
theorem mc101 : lw_tbl[840]? = some (.code (mN 101) (mC 101) (mL 101) (mR 101)) := by decide +kernel
theorem mc102 : lw_tbl[844]? = some (.code (mN 102) (mC 102) (mL 102) (mR 102)) := by decide +kernel
theorem mc103 : lw_tbl[828]? = some (.code (mN 103) (mC 103) (mL 103) (mR 103)) := by decide +kernel
theorem mc104 : lw_tbl[831]? = some (.code (mN 104) (mC 104) (mL 104) (mR 104)) := by decide +kernel
theorem mc105 : lw_tbl[848]? = some (.code (mN 105) (mC 105) (mL 105) (mR 105)) := by decide +kernel
theorem mc106 : lw_tbl[859]? = some (.code (mN 106) (mC 106) (mL 106) (mR 106)) := by decide +kernel
theorem mc107 : lw_tbl[864]? = some (.code (mN 107) (mC 107) (mL 107) (mR 107)) := by decide +kernel
theorem mc108 : lw_tbl[868]? = some (.code (mN 108) (mC 108) (mL 108) (mR 108)) := by decide +kernel
theorem mc109 : lw_tbl[872]? = some (.code (mN 109) (mC 109) (mL 109) (mR 109)) := by decide +kernel
theorem mc110 : lw_tbl[876]? = some (.code (mN 110) (mC 110) (mL 110) (mR 110)) := by decide +kernel
theorem mc111 : lw_tbl[880]? = some (.code (mN 111) (mC 111) (mL 111) (mR 111)) := by decide +kernel
theorem mc112 : lw_tbl[884]? = some (.code (mN 112) (mC 112) (mL 112) (mR 112)) := by decide +kernel
theorem mc113 : lw_tbl[893]? = some (.code (mN 113) (mC 113) (mL 113) (mR 113)) := by decide +kernel
theorem mc114 : lw_tbl[298]? = some (.code (mN 114) (mC 114) (mL 114) (mR 114)) := by decide +kernel
theorem mc115 : lw_tbl[575]? = some (.code (mN 115) (mC 115) (mL 115) (mR 115)) := by decide +kernel
theorem mc116 : lw_tbl[302]? = some (.code (mN 116) (mC 116) (mL 116) (mR 116)) := by decide +kernel
theorem mc117 : lw_tbl[291]? = some (.code (mN 117) (mC 117) (mL 117) (mR 117)) := by decide +kernel
theorem mc118 : lw_tbl[294]? = some (.code (mN 118) (mC 118) (mL 118) (mR 118)) := by decide +kernel
theorem mc119 : lw_tbl[594]? = some (.code (mN 119) (mC 119) (mL 119) (mR 119)) := by decide +kernel
theorem mc120 : lw_tbl[706]? = some (.code (mN 120) (mC 120) (mL 120) (mR 120)) := by decide +kernel
theorem mc121 : lw_tbl[361]? = some (.code (mN 121) (mC 121) (mL 121) (mR 121)) := by decide +kernel
theorem mc122 : lw_tbl[309]? = some (.code (mN 122) (mC 122) (mL 122) (mR 122)) := by decide +kernel
theorem mc123 : lw_tbl[552]? = some (.code (mN 123) (mC 123) (mL 123) (mR 123)) := by decide +kernel
theorem mc124 : lw_tbl[519]? = some (.code (mN 124) (mC 124) (mL 124) (mR 124)) := by decide +kernel
theorem mc125 : lw_tbl[522]? = some (.code (mN 125) (mC 125) (mL 125) (mR 125)) := by decide +kernel
theorem mc126 : lw_tbl[736]? = some (.code (mN 126) (mC 126) (mL 126) (mR 126)) := by decide +kernel
theorem mc127 : lw_tbl[525]? = some (.code (mN 127) (mC 127) (mL 127) (mR 127)) := by decide +kernel
theorem mc128 : lw_tbl[528]? = some (.code (mN 128) (mC 128) (mL 128) (mR 128)) := by decide +kernel
theorem mc129 : lw_tbl[493]? = some (.code (mN 129) (mC 129) (mL 129) (mR 129)) := by decide +kernel
theorem mc130 : lw_tbl[970]? = some (.code (mN 130) (mC 130) (mL 130) (mR 130)) := by decide +kernel
theorem mc131 : lw_tbl[1097]? = some (.code (mN 131) (mC 131) (mL 131) (mR 131)) := by decide +kernel
theorem mc132 : lw_tbl[975]? = some (.code (mN 132) (mC 132) (mL 132) (mR 132)) := by decide +kernel
theorem mc133 : lw_tbl[1125]? = some (.code (mN 133) (mC 133) (mL 133) (mR 133)) := by decide +kernel
theorem mc134 : lw_tbl[979]? = some (.code (mN 134) (mC 134) (mL 134) (mR 134)) := by decide +kernel
theorem mc135 : lw_tbl[1113]? = some (.code (mN 135) (mC 135) (mL 135) (mR 135)) := by decide +kernel
theorem mc136 : lw_tbl[962]? = some (.code (mN 136) (mC 136) (mL 136) (mR 136)) := by decide +kernel
theorem mc137 : lw_tbl[1121]? = some (.code (mN 137) (mC 137) (mL 137) (mR 137)) := by decide +kernel
theorem mc138 : lw_tbl[992]? = some (.code (mN 138) (mC 138) (mL 138) (mR 138)) := by decide +kernel
theorem mc139 : lw_tbl[1209]? = some (.code (mN 139) (mC 139) (mL 139) (mR 139)) := by decide +kernel
theorem mc140 : lw_tbl[1089]? = some (.code (mN 140) (mC 140) (mL 140) (mR 140)) := by decide +kernel
theorem mc141 : lw_tbl[1092]? = some (.code (mN 141) (mC 141) (mL 141) (mR 141)) := by decide +kernel
theorem mc142 : lw_tbl[1086]? = some (.code (mN 142) (mC 142) (mL 142) (mR 142)) := by decide +kernel
theorem mc143 : lw_tbl[1072]? = some (.code (mN 143) (mC 143) (mL 143) (mR 143)) := by decide +kernel
theorem mc144 : lw_tbl[1069]? = some (.code (mN 144) (mC 144) (mL 144) (mR 144)) := by decide +kernel
theorem mc145 : lw_tbl[1083]? = some (.code (mN 145) (mC 145) (mL 145) (mR 145)) := by decide +kernel
theorem mc146 : lw_tbl[1080]? = some (.code (mN 146) (mC 146) (mL 146) (mR 146)) := by decide +kernel
theorem mc147 : lw_tbl[1066]? = some (.code (mN 147) (mC 147) (mL 147) (mR 147)) := by decide +kernel
theorem mc148 : lw_tbl[958]? = some (.code (mN 148) (mC 148) (mL 148) (mR 148)) := by decide +kernel
theorem mc149 : lw_tbl[983]? = some (.code (mN 149) (mC 149) (mL 149) (mR 149)) := by decide +kernel
theorem mc150 : lw_tbl[966]? = some (.code (mN 150) (mC 150) (mL 150) (mR 150)) := by decide +kernel
theorem mc151 : lw_tbl[996]? = some (.code (mN 151) (mC 151) (mL 151) (mR 151)) := by decide +kernel
theorem mc152 : lw_tbl[987]? = some (.code (mN 152) (mC 152) (mL 152) (mR 152)) := by decide +kernel
theorem mc153 : lw_tbl[1000]? = some (.code (mN 153) (mC 153) (mL 153) (mR 153)) := by decide +kernel
theorem mc154 : lw_tbl[1005]? = some (.code (mN 154) (mC 154) (mL 154) (mR 154)) := by decide +kernel
theorem mc155 : lw_tbl[1017]? = some (.code (mN 155) (mC 155) (mL 155) (mR 155)) := by decide +kernel
theorem mc156 : lw_tbl[1013]? = some (.code (mN 156) (mC 156) (mL 156) (mR 156)) := by decide +kernel
theorem mc157 : lw_tbl[1025]? = some (.code (mN 157) (mC 157) (mL 157) (mR 157)) := by decide +kernel
theorem mc158 : lw_tbl[1035]? = some (.code (mN 158) (mC 158) (mL 158) (mR 158)) := by decide +kernel
theorem mc159 : lw_tbl[1039]? = some (.code (mN 159) (mC 159) (mL 159) (mR 159)) := by decide +kernel
theorem mc160 : lw_tbl[1031]? = some (.code (mN 160) (mC 160) (mL 160) (mR 160)) := by decide +kernel
theorem mc161 : lw_tbl[1047]? = some (.code (mN 161) (mC 161) (mL 161) (mR 161)) := by decide +kernel
theorem mc162 : lw_tbl[1109]? = some (.code (mN 162) (mC 162) (mL 162) (mR 162)) := by decide +kernel
theorem mc163 : lw_tbl[1043]? = some (.code (mN 163) (mC 163) (mL 163) (mR 163)) := by decide +kernel
theorem mc164 : lw_tbl[1054]? = some (.code (mN 164) (mC 164) (mL 164) (mR 164)) := by decide +kernel
theorem mc165 : lw_tbl[1058]? = some (.code (mN 165) (mC 165) (mL 165) (mR 165)) := by decide +kernel
theorem mc166 : lw_tbl[1062]? = some (.code (mN 166) (mC 166) (mL 166) (mR 166)) := by decide +kernel
theorem mc167 : lw_tbl[1101]? = some (.code (mN 167) (mC 167) (mL 167) (mR 167)) := by decide +kernel
theorem mc168 : lw_tbl[1021]? = some (.code (mN 168) (mC 168) (mL 168) (mR 168)) := by decide +kernel
theorem mc169 : lw_tbl[1009]? = some (.code (mN 169) (mC 169) (mL 169) (mR 169)) := by decide +kernel
theorem mc170 : lw_tbl[1076]? = some (.code (mN 170) (mC 170) (mL 170) (mR 170)) := by decide +kernel
theorem mc171 : lw_tbl[1105]? = some (.code (mN 171) (mC 171) (mL 171) (mR 171)) := by decide +kernel
theorem mc172 : lw_tbl[1129]? = some (.code (mN 172) (mC 172) (mL 172) (mR 172)) := by decide +kernel
theorem mc173 : lw_tbl[1117]? = some (.code (mN 173) (mC 173) (mL 173) (mR 173)) := by decide +kernel
theorem mc174 : lw_tbl[1133]? = some (.code (mN 174) (mC 174) (mL 174) (mR 174)) := by decide +kernel
theorem mc175 : lw_tbl[1137]? = some (.code (mN 175) (mC 175) (mL 175) (mR 175)) := by decide +kernel
theorem mc176 : lw_tbl[1141]? = some (.code (mN 176) (mC 176) (mL 176) (mR 176)) := by decide +kernel
theorem mc177 : lw_tbl[1145]? = some (.code (mN 177) (mC 177) (mL 177) (mR 177)) := by decide +kernel
theorem mc178 : lw_tbl[1150]? = some (.code (mN 178) (mC 178) (mL 178) (mR 178)) := by decide +kernel
theorem mc179 : lw_tbl[1154]? = some (.code (mN 179) (mC 179) (mL 179) (mR 179)) := by decide +kernel
theorem mc180 : lw_tbl[1158]? = some (.code (mN 180) (mC 180) (mL 180) (mR 180)) := by decide +kernel
theorem mc181 : lw_tbl[1162]? = some (.code (mN 181) (mC 181) (mL 181) (mR 181)) := by decide +kernel
theorem mc182 : lw_tbl[1174]? = some (.code (mN 182) (mC 182) (mL 182) (mR 182)) := by decide +kernel
theorem mc183 : lw_tbl[1179]? = some (.code (mN 183) (mC 183) (mL 183) (mR 183)) := by decide +kernel
theorem mc184 : lw_tbl[1182]? = some (.code (mN 184) (mC 184) (mL 184) (mR 184)) := by decide +kernel
theorem mc185 : lw_tbl[1170]? = some (.code (mN 185) (mC 185) (mL 185) (mR 185)) := by decide +kernel
theorem mc186 : lw_tbl[1166]? = some (.code (mN 186) (mC 186) (mL 186) (mR 186)) := by decide +kernel
theorem mc187 : lw_tbl[1186]? = some (.code (mN 187) (mC 187) (mL 187) (mR 187)) := by decide +kernel
theorem mc188 : lw_tbl[1190]? = some (.code (mN 188) (mC 188) (mL 188) (mR 188)) := by decide +kernel
theorem mc189 : lw_tbl[1194]? = some (.code (mN 189) (mC 189) (mL 189) (mR 189)) := by decide +kernel
theorem mc190 : lw_tbl[1202]? = some (.code (mN 190) (mC 190) (mL 190) (mR 190)) := by decide +kernel
theorem mc191 : lw_tbl[1198]? = some (.code (mN 191) (mC 191) (mL 191) (mR 191)) := by decide +kernel
theorem mc192 : lw_tbl[1206]? = some (.code (mN 192) (mC 192) (mL 192) (mR 192)) := by decide +kernel
theorem mc193 : lw_tbl[1222]? = some (.code (mN 193) (mC 193) (mL 193) (mR 193)) := by decide +kernel
theorem mc194 : lw_tbl[1218]? = some (.code (mN 194) (mC 194) (mL 194) (mR 194)) := by decide +kernel
theorem mc195 : lw_tbl[1214]? = some (.code (mN 195) (mC 195) (mL 195) (mR 195)) := by decide +kernel
theorem mc196 : lw_tbl[1226]? = some (.code (mN 196) (mC 196) (mL 196) (mR 196)) := by decide +kernel
theorem mc197 : lw_tbl[1230]? = some (.code (mN 197) (mC 197) (mL 197) (mR 197)) := by decide +kernel
theorem mc198 : lw_tbl[1234]? = some (.code (mN 198) (mC 198) (mL 198) (mR 198)) := by decide +kernel
theorem mc199 : lw_tbl[1238]? = some (.code (mN 199) (mC 199) (mL 199) (mR 199)) := by decide +kernel
theorem mc200 : lw_tbl[1250]? = some (.code (mN 200) (mC 200) (mL 200) (mR 200)) := by decide +kernel
theorem mc201 : lw_tbl[1246]? = some (.code (mN 201) (mC 201) (mL 201) (mR 201)) := by decide +kernel
theorem mc202 : lw_tbl[1242]? = some (.code (mN 202) (mC 202) (mL 202) (mR 202)) := by decide +kernel
theorem mc203 : lw_tbl[1254]? = some (.code (mN 203) (mC 203) (mL 203) (mR 203)) := by decide +kernel
theorem mc204 : lw_tbl[1266]? = some (.code (mN 204) (mC 204) (mL 204) (mR 204)) := by decide +kernel
theorem mc205 : lw_tbl[1262]? = some (.code (mN 205) (mC 205) (mL 205) (mR 205)) := by decide +kernel
theorem mc206 : lw_tbl[1258]? = some (.code (mN 206) (mC 206) (mL 206) (mR 206)) := by decide +kernel
theorem mc207 : lw_tbl[1270]? = some (.code (mN 207) (mC 207) (mL 207) (mR 207)) := by decide +kernel
theorem mc208 : lw_tbl[1277]? = some (.code (mN 208) (mC 208) (mL 208) (mR 208)) := by decide +kernel
theorem mc209 : lw_tbl[1274]? = some (.code (mN 209) (mC 209) (mL 209) (mR 209)) := by decide +kernel
theorem mc210 : lw_tbl[1286]? = some (.code (mN 210) (mC 210) (mL 210) (mR 210)) := by decide +kernel
theorem mc211 : lw_tbl[1281]? = some (.code (mN 211) (mC 211) (mL 211) (mR 211)) := by decide +kernel
theorem mc212 : lw_tbl[1290]? = some (.code (mN 212) (mC 212) (mL 212) (mR 212)) := by decide +kernel
theorem mc213 : lw_tbl[1301]? = some (.code (mN 213) (mC 213) (mL 213) (mR 213)) := by decide +kernel
theorem mc214 : lw_tbl[1305]? = some (.code (mN 214) (mC 214) (mL 214) (mR 214)) := by decide +kernel
theorem mc215 : lw_tbl[1309]? = some (.code (mN 215) (mC 215) (mL 215) (mR 215)) := by decide +kernel
theorem mc216 : lw_tbl[1313]? = some (.code (mN 216) (mC 216) (mL 216) (mR 216)) := by decide +kernel
theorem mc217 : lw_tbl[1325]? = some (.code (mN 217) (mC 217) (mL 217) (mR 217)) := by decide +kernel
theorem mc218 : lw_tbl[1321]? = some (.code (mN 218) (mC 218) (mL 218) (mR 218)) := by decide +kernel
theorem mc219 : lw_tbl[1317]? = some (.code (mN 219) (mC 219) (mL 219) (mR 219)) := by decide +kernel
theorem mc220 : lw_tbl[1334]? = some (.code (mN 220) (mC 220) (mL 220) (mR 220)) := by decide +kernel
theorem mc221 : lw_tbl[1339]? = some (.code (mN 221) (mC 221) (mL 221) (mR 221)) := by decide +kernel
theorem mc222 : lw_tbl[1329]? = some (.code (mN 222) (mC 222) (mL 222) (mR 222)) := by decide +kernel
theorem mc223 : lw_tbl[743]? = some (.code (mN 223) (mC 223) (mL 223) (mR 223)) := by decide +kernel
theorem mc224 : lw_tbl[280]? = some (.code (mN 224) (mC 224) (mL 224) (mR 224)) := by decide +kernel
theorem mc225 : lw_tbl[496]? = some (.code (mN 225) (mC 225) (mL 225) (mR 225)) := by decide +kernel
theorem mc226 : lw_tbl[499]? = some (.code (mN 226) (mC 226) (mL 226) (mR 226)) := by decide +kernel
theorem mc_all : ∀ y, y < 227 → ∃ i : Nat, lw_tbl[i]? = some (Jvm.Cond.code (mN y) (mC y) (mL y) (mR y)) := by
  intro y hy
  match y, hy with
  | 0, _ => exact ⟨659, mc0⟩
  | 1, _ => exact ⟨664, mc1⟩
  | 2, _ => exact ⟨655, mc2⟩
  | 3, _ => exact ⟨670, mc3⟩
  | 4, _ => exact ⟨674, mc4⟩
  | 5, _ => exact ⟨277, mc5⟩
  | 6, _ => exact ⟨549, mc6⟩
  | 7, _ => exact ⟨321, mc7⟩
  | 8, _ => exact ⟨569, mc8⟩
  | 9, _ => exact ⟨306, mc9⟩
  | 10, _ => exact ⟨325, mc10⟩
  | 11, _ => exact ⟨579, mc11⟩
  | 12, _ => exact ⟨622, mc12⟩
  | 13, _ => exact ⟨644, mc13⟩
  | 14, _ => exact ⟨607, mc14⟩
  | 15, _ => exact ⟨313, mc15⟩
  | 16, _ => exact ⟨634, mc16⟩
  | 17, _ => exact ⟨512, mc17⟩
  | 18, _ => exact ⟨477, mc18⟩
  | 19, _ => exact ⟨329, mc19⟩
  | 20, _ => exact ⟨598, mc20⟩
  | 21, _ => exact ⟨333, mc21⟩
  | 22, _ => exact ⟨532, mc22⟩
  | 23, _ => exact ⟨545, mc23⟩
  | 24, _ => exact ⟨486, mc24⟩
  | 25, _ => exact ⟨541, mc25⟩
  | 26, _ => exact ⟨473, mc26⟩
  | 27, _ => exact ⟨888, mc27⟩
  | 28, _ => exact ⟨516, mc28⟩
  | 29, _ => exact ⟨508, mc29⟩
  | 30, _ => exact ⟨482, mc30⟩
  | 31, _ => exact ⟨490, mc31⟩
  | 32, _ => exact ⟨630, mc32⟩
  | 33, _ => exact ⟨503, mc33⟩
  | 34, _ => exact ⟨710, mc34⟩
  | 35, _ => exact ⟨284, mc35⟩
  | 36, _ => exact ⟨714, mc36⟩
  | 37, _ => exact ⟨719, mc37⟩
  | 38, _ => exact ⟨732, mc38⟩
  | 39, _ => exact ⟨559, mc39⟩
  | 40, _ => exact ⟨899, mc40⟩
  | 41, _ => exact ⟨341, mc41⟩
  | 42, _ => exact ⟨354, mc42⟩
  | 43, _ => exact ⟨438, mc43⟩
  | 44, _ => exact ⟨442, mc44⟩
  | 45, _ => exact ⟨447, mc45⟩
  | 46, _ => exact ⟨457, mc46⟩
  | 47, _ => exact ⟨463, mc47⟩
  | 48, _ => exact ⟨469, mc48⟩
  | 49, _ => exact ⟨537, mc49⟩
  | 50, _ => exact ⟨434, mc50⟩
  | 51, _ => exact ⟨451, mc51⟩
  | 52, _ => exact ⟨382, mc52⟩
  | 53, _ => exact ⟨358, mc53⟩
  | 54, _ => exact ⟨369, mc54⟩
  | 55, _ => exact ⟨377, mc55⟩
  | 56, _ => exact ⟨365, mc56⟩
  | 57, _ => exact ⟨373, mc57⟩
  | 58, _ => exact ⟨273, mc58⟩
  | 59, _ => exact ⟨288, mc59⟩
  | 60, _ => exact ⟨317, mc60⟩
  | 61, _ => exact ⟨337, mc61⟩
  | 62, _ => exact ⟨346, mc62⟩
  | 63, _ => exact ⟨350, mc63⟩
  | 64, _ => exact ⟨565, mc64⟩
  | 65, _ => exact ⟨585, mc65⟩
  | 66, _ => exact ⟨591, mc66⟩
  | 67, _ => exact ⟨603, mc67⟩
  | 68, _ => exact ⟨612, mc68⟩
  | 69, _ => exact ⟨618, mc69⟩
  | 70, _ => exact ⟨626, mc70⟩
  | 71, _ => exact ⟨640, mc71⟩
  | 72, _ => exact ⟨650, mc72⟩
  | 73, _ => exact ⟨678, mc73⟩
  | 74, _ => exact ⟨683, mc74⟩
  | 75, _ => exact ⟨689, mc75⟩
  | 76, _ => exact ⟨693, mc76⟩
  | 77, _ => exact ⟨699, mc77⟩
  | 78, _ => exact ⟨703, mc78⟩
  | 79, _ => exact ⟨724, mc79⟩
  | 80, _ => exact ⟨740, mc80⟩
  | 81, _ => exact ⟨728, mc81⟩
  | 82, _ => exact ⟨750, mc82⟩
  | 83, _ => exact ⟨754, mc83⟩
  | 84, _ => exact ⟨758, mc84⟩
  | 85, _ => exact ⟨763, mc85⟩
  | 86, _ => exact ⟨775, mc86⟩
  | 87, _ => exact ⟨767, mc87⟩
  | 88, _ => exact ⟨771, mc88⟩
  | 89, _ => exact ⟨779, mc89⟩
  | 90, _ => exact ⟨784, mc90⟩
  | 91, _ => exact ⟨790, mc91⟩
  | 92, _ => exact ⟨803, mc92⟩
  | 93, _ => exact ⟨794, mc93⟩
  | 94, _ => exact ⟨798, mc94⟩
  | 95, _ => exact ⟨808, mc95⟩
  | 96, _ => exact ⟨812, mc96⟩
  | 97, _ => exact ⟨816, mc97⟩
  | 98, _ => exact ⟨820, mc98⟩
  | 99, _ => exact ⟨824, mc99⟩
  | 100, _ => exact ⟨835, mc100⟩
  | 101, _ => exact ⟨840, mc101⟩
  | 102, _ => exact ⟨844, mc102⟩
  | 103, _ => exact ⟨828, mc103⟩
  | 104, _ => exact ⟨831, mc104⟩
  | 105, _ => exact ⟨848, mc105⟩
  | 106, _ => exact ⟨859, mc106⟩
  | 107, _ => exact ⟨864, mc107⟩
  | 108, _ => exact ⟨868, mc108⟩
  | 109, _ => exact ⟨872, mc109⟩
  | 110, _ => exact ⟨876, mc110⟩
  | 111, _ => exact ⟨880, mc111⟩
  | 112, _ => exact ⟨884, mc112⟩
  | 113, _ => exact ⟨893, mc113⟩
  | 114, _ => exact ⟨298, mc114⟩
  | 115, _ => exact ⟨575, mc115⟩
  | 116, _ => exact ⟨302, mc116⟩
  | 117, _ => exact ⟨291, mc117⟩
  | 118, _ => exact ⟨294, mc118⟩
  | 119, _ => exact ⟨594, mc119⟩
  | 120, _ => exact ⟨706, mc120⟩
  | 121, _ => exact ⟨361, mc121⟩
  | 122, _ => exact ⟨309, mc122⟩
  | 123, _ => exact ⟨552, mc123⟩
  | 124, _ => exact ⟨519, mc124⟩
  | 125, _ => exact ⟨522, mc125⟩
  | 126, _ => exact ⟨736, mc126⟩
  | 127, _ => exact ⟨525, mc127⟩
  | 128, _ => exact ⟨528, mc128⟩
  | 129, _ => exact ⟨493, mc129⟩
  | 130, _ => exact ⟨970, mc130⟩
  | 131, _ => exact ⟨1097, mc131⟩
  | 132, _ => exact ⟨975, mc132⟩
  | 133, _ => exact ⟨1125, mc133⟩
  | 134, _ => exact ⟨979, mc134⟩
  | 135, _ => exact ⟨1113, mc135⟩
  | 136, _ => exact ⟨962, mc136⟩
  | 137, _ => exact ⟨1121, mc137⟩
  | 138, _ => exact ⟨992, mc138⟩
  | 139, _ => exact ⟨1209, mc139⟩
  | 140, _ => exact ⟨1089, mc140⟩
  | 141, _ => exact ⟨1092, mc141⟩
  | 142, _ => exact ⟨1086, mc142⟩
  | 143, _ => exact ⟨1072, mc143⟩
  | 144, _ => exact ⟨1069, mc144⟩
  | 145, _ => exact ⟨1083, mc145⟩
  | 146, _ => exact ⟨1080, mc146⟩
  | 147, _ => exact ⟨1066, mc147⟩
  | 148, _ => exact ⟨958, mc148⟩
  | 149, _ => exact ⟨983, mc149⟩
  | 150, _ => exact ⟨966, mc150⟩
  | 151, _ => exact ⟨996, mc151⟩
  | 152, _ => exact ⟨987, mc152⟩
  | 153, _ => exact ⟨1000, mc153⟩
  | 154, _ => exact ⟨1005, mc154⟩
  | 155, _ => exact ⟨1017, mc155⟩
  | 156, _ => exact ⟨1013, mc156⟩
  | 157, _ => exact ⟨1025, mc157⟩
  | 158, _ => exact ⟨1035, mc158⟩
  | 159, _ => exact ⟨1039, mc159⟩
  | 160, _ => exact ⟨1031, mc160⟩
  | 161, _ => exact ⟨1047, mc161⟩
  | 162, _ => exact ⟨1109, mc162⟩
  | 163, _ => exact ⟨1043, mc163⟩
  | 164, _ => exact ⟨1054, mc164⟩
  | 165, _ => exact ⟨1058, mc165⟩
  | 166, _ => exact ⟨1062, mc166⟩
  | 167, _ => exact ⟨1101, mc167⟩
  | 168, _ => exact ⟨1021, mc168⟩
  | 169, _ => exact ⟨1009, mc169⟩
  | 170, _ => exact ⟨1076, mc170⟩
  | 171, _ => exact ⟨1105, mc171⟩
  | 172, _ => exact ⟨1129, mc172⟩
  | 173, _ => exact ⟨1117, mc173⟩
  | 174, _ => exact ⟨1133, mc174⟩
  | 175, _ => exact ⟨1137, mc175⟩
  | 176, _ => exact ⟨1141, mc176⟩
  | 177, _ => exact ⟨1145, mc177⟩
  | 178, _ => exact ⟨1150, mc178⟩
  | 179, _ => exact ⟨1154, mc179⟩
  | 180, _ => exact ⟨1158, mc180⟩
  | 181, _ => exact ⟨1162, mc181⟩
  | 182, _ => exact ⟨1174, mc182⟩
  | 183, _ => exact ⟨1179, mc183⟩
  | 184, _ => exact ⟨1182, mc184⟩
  | 185, _ => exact ⟨1170, mc185⟩
  | 186, _ => exact ⟨1166, mc186⟩
  | 187, _ => exact ⟨1186, mc187⟩
  | 188, _ => exact ⟨1190, mc188⟩
  | 189, _ => exact ⟨1194, mc189⟩
  | 190, _ => exact ⟨1202, mc190⟩
  | 191, _ => exact ⟨1198, mc191⟩
  | 192, _ => exact ⟨1206, mc192⟩
  | 193, _ => exact ⟨1222, mc193⟩
  | 194, _ => exact ⟨1218, mc194⟩
  | 195, _ => exact ⟨1214, mc195⟩
  | 196, _ => exact ⟨1226, mc196⟩
  | 197, _ => exact ⟨1230, mc197⟩
  | 198, _ => exact ⟨1234, mc198⟩
  | 199, _ => exact ⟨1238, mc199⟩
  | 200, _ => exact ⟨1250, mc200⟩
  | 201, _ => exact ⟨1246, mc201⟩
  | 202, _ => exact ⟨1242, mc202⟩
  | 203, _ => exact ⟨1254, mc203⟩
  | 204, _ => exact ⟨1266, mc204⟩
  | 205, _ => exact ⟨1262, mc205⟩
  | 206, _ => exact ⟨1258, mc206⟩
  | 207, _ => exact ⟨1270, mc207⟩
  | 208, _ => exact ⟨1277, mc208⟩
  | 209, _ => exact ⟨1274, mc209⟩
  | 210, _ => exact ⟨1286, mc210⟩
  | 211, _ => exact ⟨1281, mc211⟩
  | 212, _ => exact ⟨1290, mc212⟩
  | 213, _ => exact ⟨1301, mc213⟩
  | 214, _ => exact ⟨1305, mc214⟩
  | 215, _ => exact ⟨1309, mc215⟩
  | 216, _ => exact ⟨1313, mc216⟩
  | 217, _ => exact ⟨1325, mc217⟩
  | 218, _ => exact ⟨1321, mc218⟩
  | 219, _ => exact ⟨1317, mc219⟩
  | 220, _ => exact ⟨1334, mc220⟩
  | 221, _ => exact ⟨1339, mc221⟩
  | 222, _ => exact ⟨1329, mc222⟩
  | 223, _ => exact ⟨743, mc223⟩
  | 224, _ => exact ⟨280, mc224⟩
  | 225, _ => exact ⟨496, mc225⟩
  | 226, _ => exact ⟨499, mc226⟩
  | y + 227, h => exact absurd h (by omega)
end
section
theorem look4_mem {α : Type} : ∀ (t : List (Nat × α)) (i : Nat) (v : α), look4 t i = some v → (i, v) ∈ t
  | [], _, _, h => by cases h
  | (k, w) :: t, i, v, h => by
    unfold look4 at h
    cases hk : Nat.beq k i with
    | true =>
      rw [hk] at h
      have := Nat.eq_of_beq_eq_true hk
      subst this
      cases h
      exact List.mem_cons_self
    | false =>
      rw [hk] at h
      exact List.mem_cons_of_mem _ (look4_mem t i v h)
theorem fetch_ok {y pc : Nat} {i : Instr} {len : Nat} (hy : y < 227) (h : fetch y pc = some (i, len)) : decode (mC y) pc = .ok (i, len) ∧ insOK y pc i len = true := by
  have h2 := List.all_eq_true.mp (ck_all y hy) _ (look4_mem _ _ _ h)
  simp only [Bool.and_eq_true, decide_eq_true_eq] at h2
  exact h2
/-- words of the methods -/
def mOk (y : Nat) : Bool := decide ((mN y).cls = nth ownN (mK y) "") && (plainFor (mN y) && (decide ((mN y).cls ≠ "java/lang/invoke/MethodHandle") && (decide ((mN y).cls ≠ "java/lang/invoke/VarHandle") && (decide (mL y ≤ 20) && (decide (lw_tbl[(mW y).2.1]? = some (.initialized (mN y).cls)) &&
  (if mS y then decide (lw_tbl[(mW y).2.2.1]? = some (.static (mN y))) else decide (lw_tbl[(mW y).2.2.1]? = some (.instanceMethod (mN y))) && (decide (lw_tbl[(mW y).2.2.2]? = some (.selects (mN y).cls (mN y) (mN y))) && decide ((mN y).cls = clN (mK y)))))))))
theorem m_ok : (List.range 227).all mOk = true := by decide +kernel
/-- words of the links -/
def fldOk (o : Nat) (q : Nat × Nat × Nat × Nat) : Bool := Nat.blt q.2.1 6 && decide (lw_tbl[q.2.2.2]? = some (.fieldLink (nth ownN o "") q.1 ((clT q.2.1) q.2.2.1).1 ((clT q.2.1) q.2.2.1).2.1 ((clT q.2.1) q.2.2.1).2.2.1))
theorem fld_ok : (List.range 9).all (fun o => (nth fldT o []).all (fldOk o)) = true := by decide +kernel
def mthOk (o : Nat) (q : Nat × Nat × Nat × Bool × Nat) : Bool :=
  if q.2.1 = 1002 then decide (lw_tbl[q.2.2.2.2]? = some (.methodLink (nth ownN o "") q.1 arraycopyName))
  else if q.2.1 = 1003 then decide (lw_tbl[q.2.2.2.2]? = some (.methodLink (nth ownN o "") q.1 yJ0_length_8abf5)) && !q.2.2.2.1
  else if q.2.1 = 1004 then decide (lw_tbl[q.2.2.2.2]? = some (.methodLink (nth ownN o "") q.1 yJ0_charAt_5068e)) && !q.2.2.2.1
  else (if q.2.2.2.1 then nestL.contains (o, q.1, q.2.1) && mS q.2.1 else decide (lw_tbl[q.2.2.2.2]? = some (.methodLink (nth ownN o "") q.1 (mN q.2.1)))) && decide ((parseMethodDescriptor (mN q.2.1).desc).map (fun d => d.parameters.length) = some q.2.2.1)
theorem mth_ok : (List.range 9).all (fun o => (nth mthT o []).all (mthOk o)) = true := by decide +kernel
theorem cst_ok : (List.range 9).all (fun o => (nth cstT o []).all (fun q => decide (lw_tbl[q.2.2]? = some (.constant (nth ownN o "") q.1 (Int32.ofInt q.2.1))) && dok q.2.1)) = true := by decide +kernel
theorem lng_ok : (List.range 9).all (fun o => (nth lngT o []).all (fun q => decide (lw_tbl[q.2.2]? = some (.constantLong (nth ownN o "") q.1 (Int64.ofInt q.2.1))) && dokL q.2.1)) = true := by decide +kernel
theorem str_ok : (List.range 9).all (fun o => (nth strT o []).all (fun q => decide (nth ownN o "" = "StairSteps$Reader") && (decide (strP.getD q.2.1 0 = q.1) && Nat.blt q.2.1 6))) = true := by decide +kernel
theorem lay0 : u_ws RX0 TX0 3 = ([184, 186, 188] : List Nat).filterMap (fun i => lw_tbl[i]?) := by decide +kernel
theorem layg0 : (u_ws RX0 TX0 3).all goodWord = true := by decide +kernel
theorem lay1 : u_ws RX1 TX1 12 = ([149, 151, 153, 155, 157, 159, 161, 163, 165, 167, 169, 171] : List Nat).filterMap (fun i => lw_tbl[i]?) := by decide +kernel
theorem layg1 : (u_ws RX1 TX1 12).all goodWord = true := by decide +kernel
theorem lay2 : u_ws RX2 TX2 4 = ([119, 121, 123, 125] : List Nat).filterMap (fun i => lw_tbl[i]?) := by decide +kernel
theorem layg2 : (u_ws RX2 TX2 4).all goodWord = true := by decide +kernel
theorem lay3 : u_ws RX3 TX3 6 = ([205, 207, 209, 211, 213, 215] : List Nat).filterMap (fun i => lw_tbl[i]?) := by decide +kernel
theorem layg3 : (u_ws RX3 TX3 6).all goodWord = true := by decide +kernel
theorem lay4 : u_ws RX4 TX4 17 = ([235, 237, 239, 241, 243, 245, 247, 249, 251, 253, 255, 257, 259, 261, 263, 265, 267] : List Nat).filterMap (fun i => lw_tbl[i]?) := by decide +kernel
theorem layg4 : (u_ws RX4 TX4 17).all goodWord = true := by decide +kernel
theorem lay5 : u_ws RX5 TX5 15 = ([923, 925, 927, 929, 931, 933, 935, 937, 939, 941, 943, 945, 947, 949, 951] : List Nat).filterMap (fun i => lw_tbl[i]?) := by decide +kernel
theorem layg5 : (u_ws RX5 TX5 15).all goodWord = true := by decide +kernel
theorem lay_in {ws : List Jvm.Cond} {ps : List Nat} (h : ws = ps.filterMap (fun i => lw_tbl[i]?)) (hg : ws.all goodWord = true) : ∀ w ∈ ws, w ∈ gt := by
  intro w hw
  have h1 := List.all_eq_true.mp hg w hw
  rw [h] at hw
  obtain ⟨i, -, hi⟩ := List.mem_filterMap.mp hw
  exact gt_of hi h1
theorem lay_all : ∀ ci, ci < 6 → ∀ w ∈ u_ws (clN ci) (clT ci) (clS ci), w ∈ gt := by
  intro ci h
  match ci, h with
  | 0, _ => exact lay_in lay0 layg0
  | 1, _ => exact lay_in lay1 layg1
  | 2, _ => exact lay_in lay2 layg2
  | 3, _ => exact lay_in lay3 layg3
  | 4, _ => exact lay_in lay4 layg4
  | 5, _ => exact lay_in lay5 layg5
  | c + 6, h => exact absurd h (by omega)
theorem ty_all : ∀ ci, ci < 6 → ∀ k, k < clS ci → parseFieldDescriptor ((clT ci) k).2.2.1 = some (tyO ci k) := by
  intro ci h
  match ci, h with
  | 0, _ => exact tyX0_ok
  | 1, _ => exact tyX1_ok
  | 2, _ => exact tyX2_ok
  | 3, _ => exact tyX3_ok
  | 4, _ => exact tyX4_ok
  | 5, _ => exact tyX5_ok
  | c + 6, h => exact absurd h (by omega)
theorem nm_all : ∀ ci, ci < 6 → ∀ a, a < clS ci → ∀ b, b < clS ci → a ≠ b → ((clT ci) a).2.1 ≠ ((clT ci) b).2.1 := by
  intro ci h
  match ci, h with
  | 0, _ => exact nmX0
  | 1, _ => exact nmX1
  | 2, _ => exact nmX2
  | 3, _ => exact nmX3
  | 4, _ => exact nmX4
  | 5, _ => exact nmX5
  | c + 6, h => exact absurd h (by omega)
end
section
/-! CALLS, ENDS; the soundness of the pure machine -/
def Sok (ad adV : Nat → Nat) (U : State) (H : Heap) : Prop := vk_S 6 strL strY (fun i => ad (500 + i)) adV (Ar ad) U H ∧ ∀ i, i < 6 → vk_R "StairSteps$Reader" (strP.getD i 0) (strX.getD i "") (ad (500 + i)) U
def Nok (U : State) : Prop := ∀ q ∈ nestL, va_Nw (.methodLinkNest (nth ownN q.1 "") q.2.1 (mN q.2.2) "StairSteps") U
def rm (y : Nat) : Room := { frames := mD y, cells := 0, slots := 0, locals := 40 * mD y }
def wsm (y : Nat) : List Jvm.Cond := Jvm.Cond.code (mN y) (mC y) (mL y) (mR y) :: gt
def Wl (D : va_G) (cI cZ : ClassId) (ad adV : Nat → Nat) (M : Mm) (U : State) (H : Heap) : Prop := va_P D cls (wd cI cZ ad M) H ∧ va_K D cls (tyw cI cZ) U ∧ Sok ad adV U H ∧ Nok U
theorem Wl_at {D : va_G} {cI cZ : ClassId} {ad adV : Nat → Nat} {M : Mm} {s t : State} {H : Heap} {locs : List Loc} (hP : va_P D cls (wd cI cZ ad M) H) (hS : va_S (Ar ad) s.heap H locs) (hK : va_K D cls (tyw cI cZ) s) (hSt : Sok ad adV s s.heap) (hN : Nok s) (ht : t.heap = H) (hW : s.WarmedH t.vm) : Wl D cI cZ ad adV M t t.heap := by
  refine ⟨by rw [ht]; exact hP, va_K.moved hW.alike hK, ⟨?_, fun i hi => (hSt.2 i hi).warm hW⟩, fun q hq => va_Nw.warmM hW (hN q hq)⟩
  rw [ht]
  exact (hSt.1.moved hW.alike).kept hS.2.1
def PcY (D : va_G) (cI cZ : ClassId) (ad adV : Nat → Nat) (as : List PV) (M : Mm) : Array Value → State → Prop := va_Pc (as.map (toV ad)) (fun U => Wl D cI cZ ad adV M U U.heap)
def QcY (D : va_G) (cI cZ : ClassId) (ad adV : Nat → Nat) (r : Option PV) (M' : Mm) : Array Value → State → Outcome → State → Prop := fun _ st oc t => oc = .returned (r.map (toV ad)) ∧ Wl D cI cZ ad adV M' t t.heap ∧ va_F (Ar ad) st t ∧ okM M' ∧ ∀ v, r = some v → okV v
theorem PcY_blind {D : va_G} {cI cZ : ClassId} {ad adV : Nat → Nat} {as : List PV} {M : Mm} : FrameBlind (PcY D cI cZ ad adV as M) := by
  intro a U g mk q
  obtain ⟨q0, qP, qK, ⟨qS, qR⟩, qN⟩ := q
  exact ⟨q0, qP, va_K.moved (u := U) (U := U.calling g mk a) (Vm.Alike.refl U.vm) qK, ⟨vk_S.moved (u := U) (U := U.calling g mk a) (Vm.Alike.refl U.vm) qS, fun i hi => vk_R.same (u := U) rfl (qR i hi)⟩, fun w hw => va_Nw.same (u := U) rfl rfl (qN w hw)⟩
theorem spl_spec : ∀ (n : Nat) (acc st xs rest : List PV), spl n acc st = some (xs, rest) → ∃ ys : List PV, ys.length = n ∧ st = ys ++ rest ∧ xs = ys.reverse ++ acc
  | 0, acc, st, xs, rest, h => by cases h; exact ⟨[], rfl, rfl, rfl⟩
  | n + 1, acc, [], xs, rest, h => by cases h
  | n + 1, acc, v :: st, xs, rest, h => by
    obtain ⟨ys, h1, h2, h3⟩ := spl_spec n (v :: acc) st xs rest h
    exact ⟨v :: ys, by simp [h1], by rw [h2]; rfl, by rw [h3]; simp⟩
theorem spl_0 {n : Nat} {st xs rest : List PV} (h : spl n [] st = some (xs, rest)) : xs.length = n ∧ st = xs.reverse ++ rest := by
  obtain ⟨ys, h1, h2, h3⟩ := spl_spec n [] st xs rest h
  rw [List.append_nil] at h3
  subst h3
  exact ⟨by simpa using h1, by simpa using h2⟩
theorem cs_sum (ad : Nat → Nat) : ∀ st : List PV, ((st.map (toV ad)).map fun v => v.category).sum = cs st
  | [] => rfl
  | .inl z :: st => by
    have h := cs_sum ad st
    show 1 + ((st.map (toV ad)).map fun v => v.category).sum = cs st + 1
    rw [h]; omega
  | .inr (.inl z) :: st => by
    have h := cs_sum ad st
    show 2 + ((st.map (toV ad)).map fun v => v.category).sum = cs st + 2
    rw [h]; omega
  | .inr (.inr z) :: st => by
    have h := cs_sum ad st
    show 1 + ((st.map (toV ad)).map fun v => v.category).sum = cs st + 1
    rw [h]; omega
theorem lg_len (ad : Nat → Nat) : ∀ st : List PV, (lg_sl (st.map (toV ad))).length = cs st
  | [] => rfl
  | .inl z :: st => by
    have := lg_len ad st
    simp only [lg_sl, List.map_cons, List.flatMap_cons, List.length_append, toV, Value.category, cs] at this ⊢
    simp only [this]; simp; omega
  | .inr (.inl z) :: st => by
    have := lg_len ad st
    simp only [lg_sl, List.map_cons, List.flatMap_cons, List.length_append, toV, Value.category, cs] at this ⊢
    simp only [this]; simp; omega
  | .inr (.inr z) :: st => by
    have := lg_len ad st
    simp only [lg_sl, List.map_cons, List.flatMap_cons, List.length_append, toV, Value.category, cs] at this ⊢
    simp only [this]; simp; omega
theorem gl_rep : ∀ (n i : Nat), gl (List.replicate n none) i = none
  | 0, _ => rfl
  | n + 1, 0 => rfl
  | n + 1, i + 1 => gl_rep n i
theorem ent_spec (ad : Nat → Nat) (g : List Nat) : ∀ (as : List PV) (n o i : Nat) (v : PV), okS as → lok g o as = true → gl (ent n as) i = some v → (o + i, toV ad v) ∈ lv_args o (as.map (toV ad)) ∧ okV v ∧ ((∃ z, v = .inr (.inl z)) → o + i ∈ g)
  | [], n, o, i, v, _, _, h => by rw [ent, gl_rep] at h; cases h
  | .inl z :: as, n, o, 0, v, ho, _, h => by
    cases h
    exact ⟨by simp [lv_args], okS_head ho, by rintro ⟨q, e⟩; cases e⟩
  | .inr (.inr z) :: as, n, o, 0, v, ho, _, h => by
    cases h
    exact ⟨by simp [lv_args], okS_head ho, by rintro ⟨q, e⟩; cases e⟩
  | .inr (.inl z) :: as, n, o, 0, v, ho, hl, h => by
    cases h
    simp only [lok, Bool.and_eq_true] at hl
    exact ⟨by simp [lv_args], okS_head ho, fun _ => by simpa using hl.1⟩
  | .inl z :: as, n, o, i + 1, v, ho, hl, h => by
    obtain ⟨h1, h2, h3⟩ := ent_spec ad g as (n - 1) (o + 1) i v (okS_tail ho) hl h
    rw [show o + (i + 1) = o + 1 + i by omega]
    refine ⟨?_, h2, h3⟩
    simp only [List.map_cons, lv_args, toV, Value.category]
    exact List.mem_cons_of_mem _ h1
  | .inr (.inr z) :: as, n, o, i + 1, v, ho, hl, h => by
    obtain ⟨h1, h2, h3⟩ := ent_spec ad g as (n - 1) (o + 1) i v (okS_tail ho) hl h
    rw [show o + (i + 1) = o + 1 + i by omega]
    refine ⟨?_, h2, h3⟩
    simp only [List.map_cons, lv_args, toV, Value.category]
    exact List.mem_cons_of_mem _ h1
  | .inr (.inl z) :: as, n, o, 1, v, ho, hl, h => by cases h
  | .inr (.inl z) :: as, n, o, i + 2, v, ho, hl, h => by
    simp only [lok, Bool.and_eq_true] at hl
    obtain ⟨h1, h2, h3⟩ := ent_spec ad g as (n - 2) (o + 2) i v (okS_tail ho) hl.2 h
    rw [show o + (i + 2) = o + 2 + i by omega]
    refine ⟨?_, h2, h3⟩
    simp only [List.map_cons, lv_args, toV, Value.category]
    exact List.mem_cons_of_mem _ h1
theorem RL_entry {ad : Nat → Nat} {as : List PV} {n : Nat} {g : List Nat} (ho : okS as) (hl : lok g 0 as = true) (hc : cs as ≤ n) : RL ad ((lg_sl (as.map (toV ad)) ++ List.replicate (n - (lg_sl (as.map (toV ad))).length) Slot.unset).toArray) n g (ent n as) := by
  have h := lv_entry (as.map (toV ad)) (n := n) (by rw [lg_len]; exact hc)
  refine ⟨h.1, h.2.1, fun i v hv => ?_⟩
  obtain ⟨h1, h2, h3⟩ := ent_spec ad g as n 0 i v ho hl hv
  rw [Nat.zero_add] at h1 h3
  exact ⟨h.2.2 _ h1, h2, h3⟩
section CALLS
variable {p : Program} {l : Launch} {e : Env} {R : Room} {s : State} {m : MethodId} {args : Array Value} {below : List Frame} {meth : Method} {c : Code} {Q : State → Prop} {D : va_G} {cI cZ : ClassId} {ad adV : Nat → Nat} {y pc : Nat} {L : Lc} {st : List PV} {M : Mm} {H : Heap} {locs : List Loc}
theorem callOn {r : Option PV} {M' : Mm} {a : Array Value} {st0 rest : List Value} {ls : Array Slot} (hr : va_Run p l e R s m args below meth c H locs 0 0 0 0 (F0 m pc ls st0) rest (QcY D cI cZ ad adV r M' a) (Ar ad)) (hS : va_S (Ar ad) s.heap H locs)
    (kk : ∀ (H1 : Heap) (locs1 : List Loc), va_P D cls (wd cI cZ ad M') H1 → va_S (Ar ad) s.heap H1 locs1 → okM M' → (∀ v, r = some v → okV v) → W p l e R s m args below meth c H1 locs1 0 0 Q (F0 m (pc + 3) ls ((r.map (toV ad)).toList ++ rest))) : W p l e R s m args below meth c H locs 0 0 Q (F0 m pc ls st0) := by
  intro T hT X
  obtain ⟨v, st₀, t, T', LL, h0, X', hL, e1, e2, ⟨hv, hW, ⟨hz, hk⟩, hM', hok⟩, st⟩ := hr T hT X
  have hv2 : v = r.map (toV ad) := by injection hv
  subst hv2
  rw [h0] at hz hk
  obtain ⟨t2, a1, b1⟩ := kk T'.heap (locs ++ LL) (by rw [e1]; exact hW.1)
    ⟨Nat.le_trans hS.1 (by rw [e1]; exact hz), fun q h1 h2 => by rw [e1, hk q (Nat.lt_of_lt_of_le h1 hS.1) h2]; exact hS.2.1 q h1 h2, fun q hq => by
      rcases List.mem_append.mp hq with h | h
      · exact hS.2.2 q h
      · exact hL q h⟩ hM' hok T' rfl X'
  exact ⟨t2, st t2 a1, b1⟩
theorem gt_GoodIn {big : List Jvm.Cond} (hg : big = gt) {w : Jvm.Cond} (hw : w ∈ gt) : GoodIn big (w :: gt) := by
  subst hg
  intro x hx
  rcases List.mem_cons.mp hx with rfl | h
  · exact ⟨hw, good_of_word (gt_good _ hw)⟩
  · exact ⟨h, good_of_word (gt_good _ h)⟩
theorem g_callV (hx : p.tables.exec = Jvm.exec) (hb : c.code = mC y) (hml : c.maxLocals = mL y) (hts : ∀ w ∈ gt, w.before args s = true) (hK : va_K D cls (tyw cI cZ) s) (hSt : Sok ad adV s s.heap) (hN : Nok s) {own : String} (hown : s.vm.findClass own = some m.cls)
    {yn : MethodName} {bytes : ByteArray} {maxL np k r0 : Nat} {ret : Option FieldType} {rmc : Room} {as rest : List PV} {r : Option PV} {M' : Mm}
    (hMet : Met l yn (Jvm.Cond.code yn bytes maxL ret :: gt) rmc (PcY D cI cZ ad adV (.inr (.inr r0) :: as) M) (QcY D cI cZ ad adV r M') 0 0 (Ar ad)) (hrc : rmc.cells = 0) (hrs : rmc.slots = 0) (hR : rmc.frames + 1 ≤ R.frames ∧ 8 + (maxL + 11) + rmc.locals ≤ R.locals)
    (wc : Jvm.Cond.code yn bytes maxL ret ∈ gt) (wi : Jvm.Cond.initialized yn.cls ∈ gt) (wl : Jvm.Cond.methodLink own k yn ∈ gt) (wm : Jvm.Cond.instanceMethod yn ∈ gt) (wsl : Jvm.Cond.selects yn.cls yn yn ∈ gt)
    (hd : yn.cls ≠ "java/lang/invoke/MethodHandle" ∧ yn.cls ≠ "java/lang/invoke/VarHandle" ∧ (parseMethodDescriptor yn.desc).map (fun d => d.parameters.length) = some np) (hn : as.length = np) (hcs : cs rest ≤ 8)
    (hrecv : ∀ (H : Heap) (locs : List Loc), va_P D cls (wd cI cZ ad M) H → va_S (Ar ad) s.heap H locs → ∃ cell : Cell, H[ad r0]? = some cell ∧ cell.vm.isStatics = false ∧ s.vm.findClass yn.cls = some cell.cls)
    (hdc : decode (mC y) pc = .ok (.invokevirtual k, 3)) (kk : okM M' → (∀ v, r = some v → okV v) → G p l e R s m args below meth c Q D cI cZ ad y (pc + 3) L (r.toList ++ rest) M') : G p l e R s m args below meth c Q D cI cZ ad y pc L (as.reverse ++ .inr (.inr r0) :: rest) M := by
  intro H locs ls hP hS hL hst hM
  have hcw : CallW R s args own yn.cls k yn bytes maxL ret (Jvm.Cond.code yn bytes maxL ret :: gt) rmc 0 0 np := ⟨callB_of np hts (gt_GoodIn rfl wc) rfl hrc hrs (hts _ wi) (hts _ wl) hd hR, hts _ wm, hts _ wsl⟩
  have hrun := va_runV (g := F0 m pc ls ((as.reverse ++ .inr (.inr r0) :: rest).map (toV ad))) (H := H) (locs := locs) (cells := 0) (slots := 0) (As := as.map (toV ad)) (b := ad r0) (rest := rest.map (toV ad)) (below := below) (e := e) (meth := meth) (nL := mL y) ⟨hx, hb, hml, hown, hts⟩ hMet hcw
    ⟨PcY_blind, hrecv H locs hP hS, fun U hU hW => ⟨rfl, Wl_at hP hS hK hSt hN hU hW⟩⟩ rfl (by rw [List.length_map]; exact hn) hL.1 (by simp [toV]) (lv_room (by rw [cs_sum]; exact hcs)) hdc ⟨Nat.zero_le _, Nat.zero_le _⟩
  refine callOn hrun hS (fun H1 locs1 hP1 hS1 hM1 hok => ?_)
  have h := kk hM1 hok H1 locs1 ls hP1 hS1 hL (fun v hv => ?_) hM1
  · rw [List.map_append] at h
    cases r with
    | none => exact h
    | some w => exact h
  · rcases List.mem_append.mp hv with q | q
    · cases r with
      | none => cases q
      | some w =>
        have : v = w := by simpa using q
        subst this
        exact hok _ rfl
    · exact hst v (List.mem_append_right _ (List.mem_cons_of_mem _ q))
theorem g_callS (hx : p.tables.exec = Jvm.exec) (hb : c.code = mC y) (hml : c.maxLocals = mL y) (hts : ∀ w ∈ gt, w.before args s = true) (hK : va_K D cls (tyw cI cZ) s) (hSt : Sok ad adV s s.heap) (hN : Nok s) {own : String} (hown : s.vm.findClass own = some m.cls)
    {yn : MethodName} {bytes : ByteArray} {maxL np k : Nat} {ret : Option FieldType} {rmc : Room} {as rest : List PV} {r : Option PV} {M' : Mm}
    (hMet : Met l yn (Jvm.Cond.code yn bytes maxL ret :: gt) rmc (PcY D cI cZ ad adV as M) (QcY D cI cZ ad adV r M') 0 0 (Ar ad)) (hrc : rmc.cells = 0) (hrs : rmc.slots = 0) (hR : rmc.frames + 1 ≤ R.frames ∧ 8 + (maxL + 11) + rmc.locals ≤ R.locals)
    (wc : Jvm.Cond.code yn bytes maxL ret ∈ gt) (wi : Jvm.Cond.initialized yn.cls ∈ gt) (wl : Jvm.Cond.methodLink own k yn ∈ gt ∨ va_Nw (.methodLinkNest own k yn "StairSteps") s) (wm : Jvm.Cond.static yn ∈ gt)
    (hd : yn.cls ≠ "java/lang/invoke/MethodHandle" ∧ yn.cls ≠ "java/lang/invoke/VarHandle" ∧ (parseMethodDescriptor yn.desc).map (fun d => d.parameters.length) = some np) (hn : as.length = np) (hcs : cs rest ≤ 8)
    (hdc : decode (mC y) pc = .ok (.invokestatic k, 3)) (kk : okM M' → (∀ v, r = some v → okV v) → G p l e R s m args below meth c Q D cI cZ ad y (pc + 3) L (r.toList ++ rest) M') : G p l e R s m args below meth c Q D cI cZ ad y pc L (as.reverse ++ rest) M := by
  intro H locs ls hP hS hL hst hM
  have hrun : va_Run p l e R s m args below meth c H locs 0 0 0 0 (F0 m pc ls ((as.reverse ++ rest).map (toV ad))) (rest.map (toV ad)) (QcY D cI cZ ad adV r M' (as.map (toV ad)).toArray) (Ar ad) := by
    rcases wl with wl | wl
    · exact va_runS (As := as.map (toV ad)) (rest := rest.map (toV ad)) (nL := mL y) ⟨hx, hb, hml, hown, hts⟩ hMet ⟨callB_of np hts (gt_GoodIn rfl wc) rfl hrc hrs (hts _ wi) (hts _ wl) hd hR, hts _ wm⟩
        ⟨PcY_blind, fun U hU hW => ⟨rfl, Wl_at hP hS hK hSt hN hU hW⟩⟩ rfl (by rw [List.length_map]; exact hn) hL.1 (by simp) (lv_room (by rw [cs_sum]; exact hcs)) hdc ⟨Nat.zero_le _, Nat.zero_le _⟩
    · exact va_runSN (As := as.map (toV ad)) (rest := rest.map (toV ad)) (nL := mL y) (host := "StairSteps") ⟨hx, hb, hml, hown, hts⟩ hMet ⟨va_cnB np hts (gt_GoodIn rfl wc) rfl hrc hrs wl (hts _ wi) hd hR, hts _ wm, trivial⟩
        ⟨PcY_blind, fun U hU hW => ⟨rfl, Wl_at hP hS hK hSt hN hU hW⟩⟩ rfl (by rw [List.length_map]; exact hn) hL.1 (by simp) (lv_room (by rw [cs_sum]; exact hcs)) hdc ⟨Nat.zero_le _, Nat.zero_le _⟩
  refine callOn hrun hS (fun H1 locs1 hP1 hS1 hM1 hok => ?_)
  have h := kk hM1 hok H1 locs1 ls hP1 hS1 hL (fun v hv => ?_) hM1
  · rw [List.map_append] at h
    cases r with
    | none => exact h
    | some w => exact h
  · rcases List.mem_append.mp hv with q | q
    · cases r with
      | none => cases q
      | some w =>
        have : v = w := by simpa using q
        subst this
        exact hok _ rfl
    · exact hst v (List.mem_append_right _ q)
theorem cp_other {M : Mm} {rs rd a : Nat} {sp dp n : Int} (h : a ≠ rd) (i : Int) : cp M rs sp rd dp n a i = M a i := by simp [cp, h]
theorem w_nat : Jvm.Cond.native arraycopyName ∈ gt := gt_of (i := 555) (by decide +kernel) (by decide +kernel)
theorem w_sta : Jvm.Cond.static arraycopyName ∈ gt := gt_of (i := 554) (by decide +kernel) (by decide +kernel)
theorem w_sys : Jvm.Cond.initialized "java/lang/System" ∈ gt := gt_of (i := 92) (by decide +kernel) (by decide +kernel)
theorem g_acopy (hx : p.tables.exec = Jvm.exec) (hb : c.code = mC y) (hml : c.maxLocals = mL y) (hts : ∀ w ∈ gt, w.before args s = true) (hK : va_K D cls (tyw cI cZ) s) (hj : inj ad) {own : String} (hown : s.vm.findClass own = some m.cls) {k rs rd n0 n1 : Nat} {sp dp n : Int} {rest : List PV}
    (hs0 : shp rs = .inl (n0, false)) (hs1 : shp rd = .inl (n1, false)) (hr0 : rs < 73) (hr1 : rd < 73) (h1 : 0 ≤ sp) (h2 : 0 ≤ dp) (h3 : 0 ≤ n) (h4 : sp + n ≤ n0) (h5 : dp + n ≤ n1) (hcs : cs rest ≤ 8) (hR : 1 ≤ R.frames ∧ 40 ≤ R.locals) (wl : Jvm.Cond.methodLink own k arraycopyName ∈ gt)
    (hd : decode (mC y) pc = .ok (.invokestatic k, 3)) (kk : G p l e R s m args below meth c Q D cI cZ ad y (pc + 3) L rest (cp M rs sp rd dp n)) : G p l e R s m args below meth c Q D cI cZ ad y pc L (.inl n :: .inl dp :: .inr (.inr rd) :: .inl sp :: .inr (.inr rs) :: rest) M := by
  intro H locs ls hP hS hL hst hM
  have en : ok32 n := okS_head hst
  have ed : ok32 dp := okS_head (okS_tail hst)
  have es : ok32 sp := okS_head (okS_tail (okS_tail (okS_tail hst)))
  have hg0 := wd_get (cI := cI) (cZ := cZ) (ad := ad) (M := M) hr0
  rw [hs0] at hg0
  have hg1 := wd_get (cI := cI) (cZ := cZ) (ad := ad) (M := M) hr1
  rw [hs1] at hg1
  have nn : ∀ z : Int, ok32 z → 0 ≤ z → ¬ Int32.ofInt z < 0 := fun z hz h0 q => by
    rw [Int32.lt_iff_toInt_lt, of32 hz] at q
    have : (0 : Int32).toInt = 0 := by decide
    omega
  refine va_copyi (own := own) (index := k) (rest := rest.map (toV ad)) (ty := .int) (c0 := cI) (c1 := cI) (n0 := n0) (n1 := n1) (f := fun j => Int32.ofInt (M rs j)) (g := fun j => Int32.ofInt (M rd j)) hx hb (by rw [hml]; exact hL.1.symm) hown (hts _ wl) (hts _ w_nat) (hts _ w_sta) (hts _ w_sys) hK hP (wd_D hj M) hS rs rd 0 0 hg0 hg1 rfl rfl rfl (nn sp es h1) (nn dp ed h2) (nn n en h3) (by rw [clampN _ es, clampN _ en]; omega) (by rw [clampN _ ed, clampN _ en]; omega) (fun i _ => rfl) hR.1 (by rw [cs_sum]; show _ + (7 + 11) ≤ _; omega) hd (fun H1 locs1 hP1 _ hS1 => ?_)
  rw [clampN _ es, clampN _ ed, clampN _ en] at hP1
  have e : (Sum.inl (cI, n1, Sum.inl (va_cpy (fun j => Int32.ofInt (M rs j)) (fun j => Int32.ofInt (M rd j)) sp.toNat dp.toNat n.toNat)) : va_E) = cellE cI cZ ad (cp M rs sp rd dp n) rd (shp rd) := by
    have hf : va_cpy (fun j => Int32.ofInt (M rs j)) (fun j => Int32.ofInt (M rd j)) sp.toNat dp.toNat n.toNat = fun j : Nat => Int32.ofInt (cp M rs sp rd dp n rd (j : Int)) := by
      funext j
      simp only [va_cpy, cp]
      by_cases q : dp.toNat ≤ j ∧ j < dp.toNat + n.toNat
      · rw [if_pos q, if_pos ⟨trivial, by omega, by omega⟩]
        rw [show ((sp.toNat + (j - dp.toNat) : Nat) : Int) = sp + ((j : Int) - dp) by omega]
      · rw [if_neg q, if_neg (fun z => q (by omega))]
    rw [hs1, hf]
    rfl
  rw [e, wd_set hr1 (fun a i ha => cp_other ha i)] at hP1
  refine kk H1 locs1 ls hP1 hS1 hL (okS_tail (okS_tail (okS_tail (okS_tail (okS_tail hst))))) (fun a i => ?_)
  by_cases q : a = rd ∧ dp ≤ (i : Int) ∧ (i : Int) < dp + n
  · have e : sp + ((i : Int) - dp) = (((sp + ((i : Int) - dp)).toNat : Nat) : Int) := by omega
    rw [show cp M rs sp rd dp n a i = M rs (sp + ((i : Int) - dp)) from if_pos q, e]
    rw [q.1, lgc_arr hs1]
    exact okM_int hM (lgc_arr hs0)
  · rw [show cp M rs sp rd dp n a i = M a i from if_neg q]
    exact hM a i
end CALLS
end
section
/-! SOUNDNESS: what the pure machine comes to, the machine comes to (written by wip/whole/gen11.py) -/
theorem pI_inv {pc : Nat} {L : Lc} {M : Mm} {f : Int32 → Int32 → Int32} {st : List PV} {s : StT} (h : pI pc L M f st = some s) : ∃ (a b : Int) (st0 : List PV), st = .inl b :: .inl a :: st0 ∧ s = .inl (pc, L, .inl (i2 f a b) :: st0, M) := by
  unfold pI at h
  split at h
  · exact ⟨_, _, _, rfl, (Option.some.inj h).symm⟩
  · cases h
theorem pD_inv {pc : Nat} {L : Lc} {M : Mm} {f : Int32 → Int32 → Int32} {st : List PV} {s : StT} (h : pD pc L M f st = some s) : ∃ (a b : Int) (st0 : List PV), st = .inl b :: .inl a :: st0 ∧ ¬ b = 0 ∧ s = .inl (pc, L, .inl (i2 f a b) :: st0, M) := by
  unfold pD at h
  split at h
  · split at h
    · cases h
    · rename_i hb
      exact ⟨_, _, _, rfl, hb, (Option.some.inj h).symm⟩
  · cases h
theorem qI_inv {pc : Nat} {L : Lc} {M : Mm} {f : Int64 → Int64 → Int64} {st : List PV} {s : StT} (h : qI pc L M f st = some s) : ∃ (a b : Int) (st0 : List PV), st = .inr (.inl b) :: .inr (.inl a) :: st0 ∧ s = .inl (pc, L, .inr (.inl (l2 f a b)) :: st0, M) := by
  unfold qI at h
  split at h
  · exact ⟨_, _, _, rfl, (Option.some.inj h).symm⟩
  · cases h
theorem qD_inv {pc : Nat} {L : Lc} {M : Mm} {f : Int64 → Int64 → Int64} {st : List PV} {s : StT} (h : qD pc L M f st = some s) : ∃ (a b : Int) (st0 : List PV), st = .inr (.inl b) :: .inr (.inl a) :: st0 ∧ ¬ b = 0 ∧ s = .inl (pc, L, .inr (.inl (l2 f a b)) :: st0, M) := by
  unfold qD at h
  split at h
  · split at h
    · cases h
    · rename_i hb
      exact ⟨_, _, _, rfl, hb, (Option.some.inj h).symm⟩
  · cases h
theorem ld0_inv {pc i : Nat} {L : Lc} {M : Mm} {st : List PV} {s : StT} (h : ld pc L st M 0 i = some s) : ∃ z : Int, gl L i = some (.inl z) ∧ s = .inl (pc, L, .inl z :: st, M) := by
  unfold ld at h
  split at h <;> first | (rename_i e1 e2; cases h; exact ⟨_, by assumption, rfl⟩) | (cases h; exact ⟨_, by assumption, rfl⟩) | (cases h; done) | (exfalso; simp_all; done)
theorem ld1_inv {pc i : Nat} {L : Lc} {M : Mm} {st : List PV} {s : StT} (h : ld pc L st M 1 i = some s) : ∃ z : Int, gl L i = some (.inr (.inl z)) ∧ s = .inl (pc, L, .inr (.inl z) :: st, M) := by
  unfold ld at h
  split at h <;> first | (rename_i e1 e2; cases h; exact ⟨_, by assumption, rfl⟩) | (cases h; exact ⟨_, by assumption, rfl⟩) | (cases h; done) | (exfalso; simp_all; done)
theorem ld2_inv {pc i : Nat} {L : Lc} {M : Mm} {st : List PV} {s : StT} (h : ld pc L st M 2 i = some s) : ∃ z : Nat, gl L i = some (.inr (.inr z)) ∧ s = .inl (pc, L, .inr (.inr z) :: st, M) := by
  unfold ld at h
  split at h <;> first | (rename_i e1 e2; cases h; exact ⟨_, by assumption, rfl⟩) | (cases h; exact ⟨_, by assumption, rfl⟩) | (cases h; done) | (exfalso; simp_all; done)
theorem sto0_inv {pc i : Nat} {L : Lc} {M : Mm} {st : List PV} {s : StT} (h : sto pc L st M 0 i = some s) : ∃ (z : Int) (st0 : List PV), st = .inl z :: st0 ∧ s = .inl (pc, sl L i (some (.inl z)), st0, M) := by
  unfold sto at h
  split at h <;> first | (cases h; exact ⟨_, _, rfl, rfl⟩) | (cases h; done) | (exfalso; simp_all; done)
theorem sto1_inv {pc i : Nat} {L : Lc} {M : Mm} {st : List PV} {s : StT} (h : sto pc L st M 1 i = some s) : ∃ (z : Int) (st0 : List PV), st = .inr (.inl z) :: st0 ∧ s = .inl (pc, sl (sl L (i + 1) none) i (some (.inr (.inl z))), st0, M) := by
  unfold sto at h
  split at h <;> first | (cases h; exact ⟨_, _, rfl, rfl⟩) | (cases h; done) | (exfalso; simp_all; done)
theorem sto2_inv {pc i : Nat} {L : Lc} {M : Mm} {st : List PV} {s : StT} (h : sto pc L st M 2 i = some s) : ∃ (z : Nat) (st0 : List PV), st = .inr (.inr z) :: st0 ∧ s = .inl (pc, sl L i (some (.inr (.inr z))), st0, M) := by
  unfold sto at h
  split at h <;> first | (cases h; exact ⟨_, _, rfl, rfl⟩) | (cases h; done) | (exfalso; simp_all; done)
theorem gfield_inv {pc : Nat} {L : Lc} {M : Mm} {st : List PV} {q : Option (Nat × Nat × Nat)} {s : StT} (h : gfield pc L st M q = some s) : ∃ (ci f w r : Nat) (st0 : List PV), q = some (ci, f, w) ∧ st = .inr (.inr r) :: st0 ∧ fkind r ci f ≠ 99999 ∧ s = .inl (pc + 3, L, gf M r f (fkind r ci f) :: st0, M) := by
  unfold gfield at h
  split at h
  · split at h
    · cases h
    · rename_i hk
      exact ⟨_, _, _, _, _, rfl, rfl, fun z => hk z, (Option.some.inj h).symm⟩
  · cases h
theorem pfield_inv {pc : Nat} {L : Lc} {M : Mm} {st : List PV} {q : Option (Nat × Nat × Nat)} {s : StT} (h : pfield pc L st M q = some s) : ∃ (ci f w r : Nat) (z : Int) (v : PV) (st0 : List PV), q = some (ci, f, w) ∧ st = v :: .inr (.inr r) :: st0 ∧ s = .inl (pc + 3, L, st0, up M r f z) ∧
    ((v = .inl z ∧ fkind r ci f = 0) ∨ (v = .inl z ∧ fkind r ci f = 2 ∧ (z = 0 ∨ z = 1)) ∨ (v = .inr (.inl z) ∧ fkind r ci f = 1)) := by
  unfold pfield at h
  split at h
  · split at h
    · rename_i hk
      exact ⟨_, _, _, _, _, _, _, rfl, rfl, (Option.some.inj h).symm, Or.inl ⟨rfl, hk⟩⟩
    · rename_i hk
      split at h
      · rename_i hz
        exact ⟨_, _, _, _, _, _, _, rfl, rfl, (Option.some.inj h).symm, Or.inr (Or.inl ⟨rfl, hk, hz⟩)⟩
      · cases h
    · cases h
  · split at h
    · rename_i hk
      exact ⟨_, _, _, _, _, _, _, rfl, rfl, (Option.some.inj h).symm, Or.inr (Or.inr ⟨rfl, hk⟩)⟩
    · cases h
  · cases h
theorem ald_inv {pc : Nat} {L : Lc} {M : Mm} {st : List PV} {bo : Bool} {s : StT} (h : ald pc L st M bo = some s) : ∃ (i : Int) (r n : Nat) (st0 : List PV), st = .inl i :: .inr (.inr r) :: st0 ∧ shp r = .inl (n, bo) ∧ (0 ≤ i ∧ i < n) ∧ s = .inl (pc + 1, L, .inl (M r i) :: st0, M) := by
  unfold ald at h
  split at h
  · split at h
    · rename_i hsh
      cases hb : (_ == bo : Bool) with
      | false => rw [hb] at h; cases h
      | true =>
        rw [hb] at h
        dsimp only [cond_true] at h
        split at h
        · rename_i hi
          have e := eq_of_beq hb
          subst e
          exact ⟨_, _, _, _, rfl, hsh, hi, (Option.some.inj h).symm⟩
        · cases h
    · cases h
  · cases h
theorem ast_inv {pc : Nat} {L : Lc} {M : Mm} {st : List PV} {bo : Bool} {s : StT} (h : ast pc L st M bo = some s) : ∃ (v i : Int) (r n : Nat) (st0 : List PV), st = .inl v :: .inl i :: .inr (.inr r) :: st0 ∧ shp r = .inl (n, bo) ∧ ((0 ≤ i ∧ i < n) ∧ (bo = true → v = 0 ∨ v = 1)) ∧ s = .inl (pc + 1, L, st0, up M r i v) := by
  unfold ast at h
  split at h
  · split at h
    · rename_i hsh
      cases hb : (_ == bo : Bool) with
      | false => rw [hb] at h; cases h
      | true =>
        rw [hb] at h
        dsimp only [cond_true] at h
        split at h
        · rename_i hi
          have e := eq_of_beq hb
          subst e
          exact ⟨_, _, _, _, _, rfl, hsh, hi, (Option.some.inj h).symm⟩
        · cases h
    · cases h
  · cases h
theorem alen_inv {pc : Nat} {L : Lc} {M : Mm} {st : List PV} {s : StT} (h : alen pc L st M = some s) : ∃ (r n : Nat) (b : Bool) (st0 : List PV), st = .inr (.inr r) :: st0 ∧ shp r = .inl (n, b) ∧ r < 73 ∧ s = .inl (pc + 1, L, .inl (n : Int) :: st0, M) := by
  unfold alen at h
  split at h
  · split at h
    · rename_i hsh
      cases hb : Nat.blt _ 73 with
      | false => rw [hb] at h; cases h
      | true =>
        rw [hb] at h
        exact ⟨_, _, _, _, rfl, hsh, Nat.le_of_ble_eq_true hb, (Option.some.inj h).symm⟩
    · cases h
  · cases h
theorem acopy_inv {pc : Nat} {L : Lc} {M : Mm} {st : List PV} {s : StT} (h : acopy pc L st M = some s) : ∃ (n dp sp : Int) (rd rs n0 n1 : Nat) (st0 : List PV), st = .inl n :: .inl dp :: .inr (.inr rd) :: .inl sp :: .inr (.inr rs) :: st0 ∧ shp rs = .inl (n0, false) ∧ shp rd = .inl (n1, false) ∧ (((0 ≤ sp ∧ 0 ≤ dp ∧ 0 ≤ n) ∧ sp + n ≤ n0 ∧ dp + n ≤ n1) ∧ (rs < 73 ∧ rd < 73) ∧ cs st0 ≤ 8) ∧ s = .inl (pc + 3, L, st0, cp M rs sp rd dp n) := by
  unfold acopy at h
  split at h
  · split at h
    · split at h
      · rename_i h1 h2 h3
        exact ⟨_, _, _, _, _, _, _, _, rfl, h1, h2, h3, (Option.some.inj h).symm⟩
      · cases h
    · cases h
  · cases h
theorem calS_inv {pc t np : Nat} {st : List PV} {s : StT} (h : calS pc t np st = some s) : ∃ as rest : List PV, spl np [] st = some (as, rest) ∧ (cs rest ≤ 8 ∧ cs as ≤ mL t ∧ mS t = true ∧ lok (mG t) 0 as = true) ∧ s = .inr (.inl (t, as, pc + 3, rest)) := by
  unfold calS at h
  split at h
  · rename_i as rest hsp
    cases hb : (Nat.ble (cs rest) 8 && (Nat.ble (cs as) (mL t) && (mS t && lok (mG t) 0 as))) with
    | false => rw [hb] at h; cases h
    | true =>
      rw [hb] at h
      simp only [Bool.and_eq_true] at hb
      exact ⟨as, rest, hsp, ⟨Nat.le_of_ble_eq_true hb.1, Nat.le_of_ble_eq_true hb.2.1, hb.2.2.1, hb.2.2.2⟩, (Option.some.inj h).symm⟩
  · cases h
theorem calV_inv {pc t np : Nat} {st : List PV} {s : StT} (h : calV pc t np st = some s) : ∃ (r ci : Nat) (ks : List Nat) (as rest : List PV), spl (np + 1) [] st = some (.inr (.inr r) :: as, rest) ∧ shp r = .inr (ci, ks) ∧ (cs rest ≤ 8 ∧ cs as + 1 ≤ mL t ∧ mS t = false ∧ ci = mK t ∧ lok (mG t) 1 as = true) ∧ s = .inr (.inl (t, .inr (.inr r) :: as, pc + 3, rest)) := by
  unfold calV at h
  split at h
  · rename_i r as rest hsp
    split at h
    · rename_i ci ks hsh
      cases hb : (Nat.ble (cs rest) 8 && (Nat.ble (cs as + 1) (mL t) && (!(mS t) && (Nat.beq ci (mK t) && lok (mG t) 1 as)))) with
      | false => rw [hb] at h; cases h
      | true =>
        rw [hb] at h
        simp only [Bool.and_eq_true, Bool.not_eq_true'] at hb
        exact ⟨r, ci, ks, as, rest, hsp, hsh, ⟨Nat.le_of_ble_eq_true hb.1, Nat.le_of_ble_eq_true hb.2.1, hb.2.2.1, Nat.eq_of_beq_eq_true hb.2.2.2.1, hb.2.2.2.2⟩, (Option.some.inj h).symm⟩
    · cases h
  · cases h
theorem stlen_inv {pc : Nat} {L : Lc} {M : Mm} {st : List PV} {s : StT} (h : stlen pc L st M = some s) : ∃ (q : Nat) (st0 : List PV), st = .inr (.inr q) :: st0 ∧ ((500 ≤ q ∧ q < 506) ∧ cs st0 ≤ 8) ∧ s = .inl (pc + 3, L, .inl ((nth strB (q - 500) []).length : Int) :: st0, M) := by
  unfold stlen at h
  split at h
  · split at h
    · rename_i h3
      exact ⟨_, _, rfl, h3, (Option.some.inj h).symm⟩
    · cases h
  · cases h
theorem stchr_inv {pc : Nat} {L : Lc} {M : Mm} {st : List PV} {s : StT} (h : stchr pc L st M = some s) : ∃ (j : Int) (q : Nat) (st0 : List PV), st = .inl j :: .inr (.inr q) :: st0 ∧ (((500 ≤ q ∧ q < 506) ∧ 0 ≤ j ∧ j < (nth strB (q - 500) []).length) ∧ cs st0 ≤ 8) ∧ s = .inl (pc + 3, L, .inl (nth (nth strB (q - 500) []) j.toNat 0) :: st0, M) := by
  unfold stchr at h
  split at h
  · split at h
    · rename_i h3
      exact ⟨_, _, _, rfl, h3, (Option.some.inj h).symm⟩
    · cases h
  · cases h
theorem own_lt {y : Nat} (hy : y < 227) : mK y < 9 := by
  have : (List.range 227).all (fun y => Nat.blt (mK y) 9) = true := by decide +kernel
  exact Nat.le_of_ble_eq_true (List.all_eq_true.mp this y (List.mem_range.mpr hy))
theorem m_spec {y : Nat} (hy : y < 227) : (mN y).cls = nth ownN (mK y) "" ∧ plainFor (mN y) = true ∧ ((mN y).cls ≠ "java/lang/invoke/MethodHandle" ∧ (mN y).cls ≠ "java/lang/invoke/VarHandle") ∧ mL y ≤ 20 ∧ Jvm.Cond.initialized (mN y).cls ∈ gt ∧ (mS y = true → Jvm.Cond.static (mN y) ∈ gt) ∧ (mS y = false → Jvm.Cond.instanceMethod (mN y) ∈ gt ∧ Jvm.Cond.selects (mN y).cls (mN y) (mN y) ∈ gt ∧ (mN y).cls = clN (mK y)) ∧ Jvm.Cond.code (mN y) (mC y) (mL y) (mR y) ∈ gt := by
  have h := List.all_eq_true.mp m_ok y (List.mem_range.mpr hy)
  simp only [mOk, Bool.and_eq_true, decide_eq_true_eq] at h
  obtain ⟨h1, h2, h3, h4, h5, h6, h7⟩ := h
  obtain ⟨i, hi⟩ := mc_all y hy
  refine ⟨h1, h2, ⟨h3, h4⟩, h5, gt_of h6 rfl, fun hs => ?_, fun hs => ?_, gt_of hi rfl⟩
  · rw [if_pos hs] at h7
    exact gt_of (of_decide_eq_true h7) rfl
  · rw [if_neg (by rw [hs]; decide)] at h7
    simp only [Bool.and_eq_true, decide_eq_true_eq] at h7
    exact ⟨gt_of h7.1 rfl, gt_of h7.2.1 rfl, h7.2.2⟩
theorem fld_spec {o k ci f w : Nat} (ho : o < 9) (h : look4 (nth fldT o []) k = some (ci, f, w)) : ci < 6 ∧ Jvm.Cond.fieldLink (nth ownN o "") k ((clT ci) f).1 ((clT ci) f).2.1 ((clT ci) f).2.2.1 ∈ gt := by
  have h1 := List.all_eq_true.mp fld_ok o (List.mem_range.mpr ho)
  have h2 := List.all_eq_true.mp h1 _ (look4_mem _ _ _ h)
  simp only [fldOk, Bool.and_eq_true, decide_eq_true_eq] at h2
  exact ⟨Nat.le_of_ble_eq_true h2.1, gt_of h2.2 rfl⟩
theorem mth_spec {o k t np w : Nat} {ne : Bool} (ho : o < 9) (h : look4 (nth mthT o []) k = some (t, np, ne, w)) : mthOk o (k, t, np, ne, w) = true := by
  have h1 := List.all_eq_true.mp mth_ok o (List.mem_range.mpr ho)
  exact List.all_eq_true.mp h1 _ (look4_mem _ _ _ h)
theorem cst_spec {o k w : Nat} {v : Int} (ho : o < 9) (h : look4 (nth cstT o []) k = some (v, w)) : Jvm.Cond.constant (nth ownN o "") k (Int32.ofInt v) ∈ gt ∧ ok32 v := by
  have h1 := List.all_eq_true.mp cst_ok o (List.mem_range.mpr ho)
  have h2 := List.all_eq_true.mp h1 _ (look4_mem _ _ _ h)
  simp only [Bool.and_eq_true, decide_eq_true_eq] at h2
  exact ⟨gt_of h2.1 rfl, dok_ok h2.2⟩
theorem lng_spec {o k w : Nat} {v : Int} (ho : o < 9) (h : look4 (nth lngT o []) k = some (v, w)) : Jvm.Cond.constantLong (nth ownN o "") k (Int64.ofInt v) ∈ gt ∧ ok64 v := by
  have h1 := List.all_eq_true.mp lng_ok o (List.mem_range.mpr ho)
  have h2 := List.all_eq_true.mp h1 _ (look4_mem _ _ _ h)
  simp only [Bool.and_eq_true, decide_eq_true_eq] at h2
  exact ⟨gt_of h2.1 rfl, dokL_ok h2.2⟩
theorem str_spec {o k j w : Nat} (ho : o < 9) (h : look4 (nth strT o []) k = some (j, w)) : nth ownN o "" = "StairSteps$Reader" ∧ strP.getD j 0 = k ∧ j < 6 := by
  have h1 := List.all_eq_true.mp str_ok o (List.mem_range.mpr ho)
  have h2 := List.all_eq_true.mp h1 _ (look4_mem _ _ _ h)
  simp only [Bool.and_eq_true, decide_eq_true_eq] at h2
  exact ⟨h2.1, h2.2.1, Nat.le_of_ble_eq_true h2.2.2⟩
/-- the room of String's members -/
def rmS (d : Nat) : Room := { frames := d, cells := 0, slots := 0, locals := 40 * d }
def LenOk (l : Launch) (D : va_G) (cI cZ : ClassId) (ad adV : Nat → Nat) : Prop := ∀ (i : Nat) (M : Mm), i < 6 → okM M → Met l yJ0_length_8abf5 (Jvm.Cond.code yJ0_length_8abf5 cJ0_length_8abf5 1 (some .int) :: gt) (rmS 2) (PcY D cI cZ ad adV [.inr (.inr (500 + i))] M) (QcY D cI cZ ad adV (some (.inl ((nth strB i []).length : Int))) M) 0 0 (Ar ad)
def ChrOk (l : Launch) (D : va_G) (cI cZ : ClassId) (ad adV : Nat → Nat) : Prop := ∀ (i : Nat) (j : Int) (M : Mm), i < 6 → okM M → 0 ≤ j → j < (nth strB i []).length → Met l yJ0_charAt_5068e (Jvm.Cond.code yJ0_charAt_5068e cJ0_charAt_5068e 2 (some .char) :: gt) (rmS 4) (PcY D cI cZ ad adV [.inr (.inr (500 + i)), .inl j] M) (QcY D cI cZ ad adV (some (.inl (nth (nth strB i []) j.toNat 0))) M) 0 0 (Ar ad)
theorem w_len : Jvm.Cond.code yJ0_length_8abf5 cJ0_length_8abf5 1 (some .int) ∈ gt := gt_of (i := 386) (by decide +kernel) rfl
theorem w_chr : Jvm.Cond.code yJ0_charAt_5068e cJ0_charAt_5068e 2 (some .char) ∈ gt := gt_of (i := 396) (by decide +kernel) rfl
theorem w_ini : Jvm.Cond.initialized "java/lang/String" ∈ gt := gt_of (i := 87) (by decide +kernel) rfl
theorem w_lenI : Jvm.Cond.instanceMethod yJ0_length_8abf5 ∈ gt := gt_of (i := 384) (by decide +kernel) rfl
theorem w_lenS : Jvm.Cond.selects "java/lang/String" yJ0_length_8abf5 yJ0_length_8abf5 ∈ gt := gt_of (i := 385) (by decide +kernel) rfl
theorem w_chrI : Jvm.Cond.instanceMethod yJ0_charAt_5068e ∈ gt := gt_of (i := 394) (by decide +kernel) rfl
theorem w_chrS : Jvm.Cond.selects "java/lang/String" yJ0_charAt_5068e yJ0_charAt_5068e ∈ gt := gt_of (i := 395) (by decide +kernel) rfl
def SndP (l : Launch) (D : va_G) (cI cZ : ClassId) (ad adV : Nat → Nat) (n : Nat) : Prop := ∀ (y pc : Nat) (L : Lc) (st : List PV) (M : Mm) (r : Option PV) (M' : Mm), y < 227 → exec n y pc L st M = some (r, M') → ∀ (p : Program) (e : Env) (s : State) (m : MethodId) (args : Array Value) (below : List Frame) (meth : Method) (c : Code),
    p.tables.exec = Jvm.exec → c.code = mC y → meth.sig.returnType = mR y → c.maxLocals = mL y → meth.locks = false → s.vm.findClass (mN y).cls = some m.cls → (∀ w ∈ gt, w.before args s = true) → va_K D cls (tyw cI cZ) s → Sok ad adV s s.heap → Nok s →
    G p l e (rm y) s m args below meth c (MQ below (QcY D cI cZ ad adV r M') args s 0 0 (Ar ad)) D cI cZ ad y pc L st M
theorem met_of {l : Launch} {D : va_G} {cI cZ : ClassId} {ad adV : Nat → Nat} {n : Nat} (h : SndP l D cI cZ ad adV n) {t : Nat} {as : List PV} {M : Mm} {r : Option PV} {M' : Mm} (ht : t < 227) (hex : exec n t 0 (ent (mL t) as) [] M = some (r, M')) (ho : okS as) (hl : lok (mG t) 0 as = true) (hc : cs as ≤ mL t) (hM : okM M) :
    Met l (mN t) (wsm t) (rm t) (PcY D cI cZ ad adV as M) (QcY D cI cZ ad adV r M') 0 0 (Ar ad) := by
  refine va_MetF (cc := mC t) (maxL := mL t) (ret := mR t) (m_spec ht).2.1 rfl ?_
  intro p e s m args below meth c s₁ B hml hv
  obtain ⟨rfl, hP, hK, hSt, hN⟩ := hv
  have hts := atoms_spec (ws := wsm t) B.pre
  rw [lg_entry_eq]
  exact h t 0 _ [] M r M' ht hex p e s m _ below meth c B.exec B.bytes B.returns hml B.notSynchronized (findClass_of_methodNamed B.named) (fun w hw => hts w (List.mem_cons_of_mem _ hw)) hK hSt hN s.heap [] _ hP va_S.rf (RL_entry ho hl hc) (fun v hv => by cases hv) hM
set_option maxHeartbeats 4000000 in
theorem snd {l : Launch} {D : va_G} {cI cZ : ClassId} {ad adV : Nat → Nat} (hj : inj ad) (hLen : LenOk l D cI cZ ad adV) (hChr : ChrOk l D cI cZ ad adV) : ∀ n, SndP l D cI cZ ad adV n := by
  intro n
  induction n with
  | zero => intro y pc L st M r M' hy h; simp [exec] at h
  | succ n ih =>
  intro y pc L st M r M' hy h p e s m args below meth c hx hb hr hml hlk hown hts hK hSt hN
  have ih' : ∀ (pc : Nat) (L : Lc) (st : List PV) (M : Mm), exec n y pc L st M = some (r, M') → G p l e (rm y) s m args below meth c (MQ below (QcY D cI cZ ad adV r M') args s 0 0 (Ar ad)) D cI cZ ad y pc L st M := fun pc L st M h => ih y pc L st M r M' hy h p e s m args below meth c hx hb hr hml hlk hown hts hK hSt hN
  obtain ⟨m1, m2, m3, m4, m5, m6, m7, m8⟩ := m_spec hy
  have ho := own_lt hy
  rw [m1] at hown
  rw [exec] at h
  cases hs : step y pc L st M with
  | none => rw [hs] at h; cases h
  | some sr =>
  rw [hs] at h
  unfold step at hs
  cases hf : fetch y pc with
  | none => rw [hf] at hs; cases hs
  | some q =>
  obtain ⟨i, len⟩ := q
  rw [hf] at hs
  dsimp only at hs
  obtain ⟨hd, hok⟩ := fetch_ok hy hf
  cases i
  case iadd =>
    obtain ⟨a, b, st0, rfl, rfl⟩ := pI_inv hs
    cases Nat.eq_of_beq_eq_true hok
    exact g_iadd hx hb hd (ih' _ _ _ _ h)
  case isub =>
    obtain ⟨a, b, st0, rfl, rfl⟩ := pI_inv hs
    cases Nat.eq_of_beq_eq_true hok
    exact g_isub hx hb hd (ih' _ _ _ _ h)
  case imul =>
    obtain ⟨a, b, st0, rfl, rfl⟩ := pI_inv hs
    cases Nat.eq_of_beq_eq_true hok
    exact g_imul hx hb hd (ih' _ _ _ _ h)
  case iand =>
    obtain ⟨a, b, st0, rfl, rfl⟩ := pI_inv hs
    cases Nat.eq_of_beq_eq_true hok
    exact g_iand hx hb hd (ih' _ _ _ _ h)
  case ior =>
    obtain ⟨a, b, st0, rfl, rfl⟩ := pI_inv hs
    cases Nat.eq_of_beq_eq_true hok
    exact g_ior hx hb hd (ih' _ _ _ _ h)
  case ixor =>
    obtain ⟨a, b, st0, rfl, rfl⟩ := pI_inv hs
    cases Nat.eq_of_beq_eq_true hok
    exact g_ixor hx hb hd (ih' _ _ _ _ h)
  case ishl =>
    obtain ⟨a, b, st0, rfl, rfl⟩ := pI_inv hs
    cases Nat.eq_of_beq_eq_true hok
    exact g_ishl hx hb hd (ih' _ _ _ _ h)
  case ishr =>
    obtain ⟨a, b, st0, rfl, rfl⟩ := pI_inv hs
    cases Nat.eq_of_beq_eq_true hok
    exact g_ishr hx hb hd (ih' _ _ _ _ h)
  case iushr =>
    obtain ⟨a, b, st0, rfl, rfl⟩ := pI_inv hs
    cases Nat.eq_of_beq_eq_true hok
    exact g_iushr hx hb hd (ih' _ _ _ _ h)
  case idiv =>
    obtain ⟨a, b, st0, rfl, hne, rfl⟩ := pD_inv hs
    cases Nat.eq_of_beq_eq_true hok
    exact g_idiv hx hb hd hne (ih' _ _ _ _ h)
  case irem =>
    obtain ⟨a, b, st0, rfl, hne, rfl⟩ := pD_inv hs
    cases Nat.eq_of_beq_eq_true hok
    exact g_irem hx hb hd hne (ih' _ _ _ _ h)
  case ladd =>
    obtain ⟨a, b, st0, rfl, rfl⟩ := qI_inv hs
    cases Nat.eq_of_beq_eq_true hok
    exact g_ladd hx hb hd (ih' _ _ _ _ h)
  case lmul =>
    obtain ⟨a, b, st0, rfl, rfl⟩ := qI_inv hs
    cases Nat.eq_of_beq_eq_true hok
    exact g_lmul hx hb hd (ih' _ _ _ _ h)
  case ldiv =>
    obtain ⟨a, b, st0, rfl, hne, rfl⟩ := qD_inv hs
    cases Nat.eq_of_beq_eq_true hok
    exact g_ldiv hx hb hd hne (ih' _ _ _ _ h)
  case lrem =>
    obtain ⟨a, b, st0, rfl, hne, rfl⟩ := qD_inv hs
    cases Nat.eq_of_beq_eq_true hok
    exact g_lrem hx hb hd hne (ih' _ _ _ _ h)
  case ineg =>
    simp only [stepI] at hs
    split at hs
    · cases hs
      cases Nat.eq_of_beq_eq_true hok
      exact g_ineg hx hb hd (ih' _ _ _ _ h)
    · cases hs
  case i2l =>
    simp only [stepI] at hs
    split at hs
    · cases hs
      cases Nat.eq_of_beq_eq_true hok
      exact g_i2l hx hb hd (ih' _ _ _ _ h)
    · cases hs
  case l2i =>
    simp only [stepI] at hs
    split at hs
    · cases hs
      cases Nat.eq_of_beq_eq_true hok
      exact g_l2i hx hb hd (ih' _ _ _ _ h)
    · cases hs
  case lcmp =>
    simp only [stepI] at hs
    split at hs
    · cases hs
      cases Nat.eq_of_beq_eq_true hok
      exact g_lcmp hx hb hd (ih' _ _ _ _ h)
    · cases hs
  case dup =>
    simp only [stepI] at hs
    split at hs
    · cases hs
      cases Nat.eq_of_beq_eq_true hok
      exact g_dupI hx hb hd (ih' _ _ _ _ h)
    · cases hs
      cases Nat.eq_of_beq_eq_true hok
      exact g_dupR hx hb hd (ih' _ _ _ _ h)
    · cases hs
  case dup2 =>
    simp only [stepI] at hs
    split at hs
    · cases hs
      cases Nat.eq_of_beq_eq_true hok
      exact g_dup2 hx hb hd (ih' _ _ _ _ h)
    · cases hs
  case pop =>
    simp only [stepI] at hs
    split at hs
    · cases hs
      cases Nat.eq_of_beq_eq_true hok
      exact g_popI hx hb hd (ih' _ _ _ _ h)
    · cases hs
      cases Nat.eq_of_beq_eq_true hok
      exact g_popR hx hb hd (ih' _ _ _ _ h)
    · cases hs
  case iconst v =>
    cases hs
    simp only [insOK, Bool.and_eq_true] at hok
    cases Nat.eq_of_beq_eq_true hok.1
    exact g_iconst hx hb hd rfl (dok_ok hok.2) (ih' _ _ _ _ h)
  case bipush v =>
    cases hs
    simp only [insOK, Bool.and_eq_true, decide_eq_true_eq] at hok
    cases Nat.eq_of_beq_eq_true hok.1
    exact g_bipush hx hb hd hok.2.1 (dok_ok hok.2.2) (ih' _ _ _ _ h)
  case sipush v =>
    cases hs
    simp only [insOK, Bool.and_eq_true, decide_eq_true_eq] at hok
    cases Nat.eq_of_beq_eq_true hok.1
    exact g_sipush hx hb hd hok.2.1 (dok_ok hok.2.2) (ih' _ _ _ _ h)
  case lconst v =>
    cases hs
    cases Nat.eq_of_beq_eq_true hok
    exact g_lconst hx hb hd (ih' _ _ _ _ h)
  case ldc k =>
    simp only [stepI] at hs
    cases Nat.eq_of_beq_eq_true hok
    split at hs
    · rename_i v w hq
      cases hs
      obtain ⟨q1, q2⟩ := cst_spec ho hq
      exact g_ldc hx hb hown (hts _ q1) hd q2 (ih' _ _ _ _ h)
    · split at hs
      · rename_i j w hq
        cases hs
        obtain ⟨q1, q2, q3⟩ := str_spec ho hq
        have hr2 := hSt.2 j q3
        rw [q2] at hr2
        rw [q1] at hown
        exact g_ldcS hx hb hown hr2 hd (ih' _ _ _ _ h)
      · cases hs
  case ldc_w k =>
    simp only [stepI] at hs
    cases Nat.eq_of_beq_eq_true hok
    split at hs
    · rename_i v w hq
      cases hs
      obtain ⟨q1, q2⟩ := cst_spec ho hq
      exact g_ldcw hx hb hown (hts _ q1) hd q2 (ih' _ _ _ _ h)
    · cases hs
  case ldc2_w k =>
    simp only [stepI] at hs
    cases Nat.eq_of_beq_eq_true hok
    split at hs
    · rename_i v w hq
      cases hs
      obtain ⟨q1, q2⟩ := lng_spec ho hq
      exact g_ldc2 hx hb hown (hts _ q1) hd q2 (ih' _ _ _ _ h)
    · cases hs
  case iload k =>
    obtain ⟨z, hz, rfl⟩ := ld0_inv hs
    cases Nat.eq_of_beq_eq_true hok
    exact g_iload hx hb hd hz (ih' _ _ _ _ h)
  case iload_n k =>
    obtain ⟨z, hz, rfl⟩ := ld0_inv hs
    cases Nat.eq_of_beq_eq_true hok
    exact g_iload_n hx hb hd hz (ih' _ _ _ _ h)
  case lload k =>
    obtain ⟨z, hz, rfl⟩ := ld1_inv hs
    cases Nat.eq_of_beq_eq_true hok
    exact g_lload hx hb hd hz (ih' _ _ _ _ h)
  case lload_n k =>
    obtain ⟨z, hz, rfl⟩ := ld1_inv hs
    cases Nat.eq_of_beq_eq_true hok
    exact g_lload_n hx hb hd hz (ih' _ _ _ _ h)
  case aload k =>
    obtain ⟨z, hz, rfl⟩ := ld2_inv hs
    cases Nat.eq_of_beq_eq_true hok
    exact g_aload hx hb hd hz (ih' _ _ _ _ h)
  case aload_n k =>
    obtain ⟨z, hz, rfl⟩ := ld2_inv hs
    cases Nat.eq_of_beq_eq_true hok
    exact g_aload_n hx hb hd hz (ih' _ _ _ _ h)
  case istore k =>
    obtain ⟨z, st0, rfl, rfl⟩ := sto0_inv hs
    simp only [insOK, Bool.and_eq_true] at hok
    cases Nat.eq_of_beq_eq_true hok.1
    obtain ⟨q1, q2⟩ := stOk_ok hok.2
    exact g_istore hx hb hd q1 q2 (ih' _ _ _ _ h)
  case istore_n k =>
    obtain ⟨z, st0, rfl, rfl⟩ := sto0_inv hs
    simp only [insOK, Bool.and_eq_true] at hok
    cases Nat.eq_of_beq_eq_true hok.1
    obtain ⟨q1, q2⟩ := stOk_ok hok.2
    exact g_istore_n hx hb hd q1 q2 (ih' _ _ _ _ h)
  case astore k =>
    obtain ⟨z, st0, rfl, rfl⟩ := sto2_inv hs
    simp only [insOK, Bool.and_eq_true] at hok
    cases Nat.eq_of_beq_eq_true hok.1
    obtain ⟨q1, q2⟩ := stOk_ok hok.2
    exact g_astore hx hb hd q1 q2 (ih' _ _ _ _ h)
  case astore_n k =>
    obtain ⟨z, st0, rfl, rfl⟩ := sto2_inv hs
    simp only [insOK, Bool.and_eq_true] at hok
    cases Nat.eq_of_beq_eq_true hok.1
    obtain ⟨q1, q2⟩ := stOk_ok hok.2
    exact g_astore_n hx hb hd q1 q2 (ih' _ _ _ _ h)
  case lstore k =>
    obtain ⟨z, st0, rfl, rfl⟩ := sto1_inv hs
    simp only [insOK, Bool.and_eq_true] at hok
    cases Nat.eq_of_beq_eq_true hok.1
    obtain ⟨q1, q2⟩ := stOk_ok hok.2.1
    exact g_lstore hx hb hd (Nat.le_of_ble_eq_true hok.2.2.1) (by simpa using hok.2.2.2) q2 (ih' _ _ _ _ h)
  case lstore_n k =>
    obtain ⟨z, st0, rfl, rfl⟩ := sto1_inv hs
    simp only [insOK, Bool.and_eq_true] at hok
    cases Nat.eq_of_beq_eq_true hok.1
    obtain ⟨q1, q2⟩ := stOk_ok hok.2.1
    exact g_lstore_n hx hb hd (Nat.le_of_ble_eq_true hok.2.2.1) (by simpa using hok.2.2.2) q2 (ih' _ _ _ _ h)
  case iinc k v =>
    simp only [stepI] at hs
    split at hs
    · rename_i z hz
      cases hs
      simp only [insOK, Bool.and_eq_true] at hok
      cases Nat.eq_of_beq_eq_true hok.1
      obtain ⟨q1, q2⟩ := stOk_ok hok.2
      exact g_iinc hx hb hd hz q1 q2 (ih' _ _ _ _ h)
    · cases hs
  case goto off =>
    cases hs
    simp only [insOK, Bool.and_eq_true, brOk, decide_eq_true_eq] at hok
    cases Nat.eq_of_beq_eq_true hok.1
    exact g_goto hx hb hd hok.2 (ih' _ _ _ _ h)
  case ifCond cn off =>
    simp only [stepI] at hs
    split at hs
    · cases hs
      simp only [insOK, Bool.and_eq_true, brOk, decide_eq_true_eq] at hok
      cases Nat.eq_of_beq_eq_true hok.1
      exact g_if hx hb hd hok.2 (ih' _ _ _ _ h)
    · cases hs
  case if_icmp cn off =>
    simp only [stepI] at hs
    split at hs
    · cases hs
      simp only [insOK, Bool.and_eq_true, brOk, decide_eq_true_eq] at hok
      cases Nat.eq_of_beq_eq_true hok.1
      exact g_icmp hx hb hd hok.2 (ih' _ _ _ _ h)
    · cases hs
  case tableswitch d lo hi offs =>
    simp only [stepI] at hs
    split at hs
    · cases hs
      simp only [insOK, Bool.and_eq_true, brOk, decide_eq_true_eq, List.all_eq_true] at hok
      exact g_table hx hb hd hok.1 hok.2.1 hok.2.2 (ih' _ _ _ _ h)
    · cases hs
  case getfield k =>
    obtain ⟨ci, f, w, r0, st0, hq, rfl, hk, rfl⟩ := gfield_inv hs
    cases Nat.eq_of_beq_eq_true hok
    obtain ⟨q1, q2⟩ := fld_spec ho hq
    exact g_getfield hx hb hK hts hown (lay_all ci q1) hd (hts _ q2) rfl hk (ih' _ _ _ _ h)
  case putfield k =>
    obtain ⟨ci, f, w, r0, z, v, st0, hq, rfl, rfl, hv⟩ := pfield_inv hs
    simp only [insOK, Bool.and_eq_true, hq] at hok
    cases Nat.eq_of_beq_eq_true hok.1
    obtain ⟨q1, q2⟩ := fld_spec ho hq
    have hfin : ((clT ci) f).2.2.2 = false := by simpa using hok.2
    rcases hv with ⟨rfl, hk⟩ | ⟨rfl, hk, hz⟩ | ⟨rfl, hk⟩
    · obtain ⟨ks, e1, e2⟩ := fkind_spec hk (by decide)
      refine g_putfield hx hb hK hj hts hown (lay_all ci q1) (ty_all ci q1) (nm_all ci q1) hd (hts _ q2) hk (by decide) hfin rfl (by simp [gf, up]) rfl rfl (fun hv => ?_) (ih' _ _ _ _ h)
      rw [lgc_obj e1 e2]; exact hv
    · obtain ⟨ks, e1, e2⟩ := fkind_spec hk (by decide)
      refine g_putfield hx hb hK hj hts hown (lay_all ci q1) (ty_all ci q1) (nm_all ci q1) hd (hts _ q2) hk (by decide) hfin rfl (by simp [gf, up]) ?_ ?_ (fun hv => ?_) (ih' _ _ _ _ h)
      · rcases hz with rfl | rfl
        · show narrow .boolean (.int (Int32.ofInt 0)) = .int (Int32.ofInt 0); decide +kernel
        · show narrow .boolean (.int (Int32.ofInt 1)) = .int (Int32.ofInt 1); decide +kernel
      · rcases hz with rfl | rfl
        · show fits .boolean (.int (Int32.ofInt 0)) = true; decide +kernel
        · show fits .boolean (.int (Int32.ofInt 1)) = true; decide +kernel
      · rw [lgc_obj e1 e2]; exact hv
    · obtain ⟨ks, e1, e2⟩ := fkind_spec hk (by decide)
      refine g_putfield hx hb hK hj hts hown (lay_all ci q1) (ty_all ci q1) (nm_all ci q1) hd (hts _ q2) hk (by decide) hfin rfl (by simp [gf, up]) rfl rfl (fun hv => ?_) (ih' _ _ _ _ h)
      rw [lgc_obj e1 e2]; exact hv
  case iaload =>
    obtain ⟨j, r0, n0, st0, rfl, hsh, hi, rfl⟩ := ald_inv hs
    cases Nat.eq_of_beq_eq_true hok
    exact g_iaload hx hb hK hsh hi.1 hi.2 hd (ih' _ _ _ _ h)
  case baload =>
    obtain ⟨j, r0, n0, st0, rfl, hsh, hi, rfl⟩ := ald_inv hs
    cases Nat.eq_of_beq_eq_true hok
    exact g_baload hx hb hK hsh hi.1 hi.2 hd (ih' _ _ _ _ h)
  case iastore =>
    obtain ⟨v, j, r0, n0, st0, rfl, hsh, hi, rfl⟩ := ast_inv hs
    cases Nat.eq_of_beq_eq_true hok
    exact g_iastore hx hb hK hj hsh hi.1.1 hi.1.2 hd (ih' _ _ _ _ h)
  case bastore =>
    obtain ⟨v, j, r0, n0, st0, rfl, hsh, hi, rfl⟩ := ast_inv hs
    cases Nat.eq_of_beq_eq_true hok
    exact g_bastore hx hb hK hj hsh hi.1.1 hi.1.2 (hi.2 rfl) hd (ih' _ _ _ _ h)
  case arraylength =>
    obtain ⟨r0, n0, b, st0, rfl, hsh, hr0, rfl⟩ := alen_inv hs
    cases Nat.eq_of_beq_eq_true hok
    exact g_alen hx hb hK hsh hr0 hd (ih' _ _ _ _ h)
  case invokestatic k =>
    simp only [stepI] at hs
    split at hs
    · rename_i t np ne w hq
      have hm := mth_spec ho hq
      simp only [insOK, Bool.and_eq_true, hq] at hok
      cases Nat.eq_of_beq_eq_true hok.1
      cases ht : Nat.beq t 1002 with
      | true =>
        rw [ht] at hs
        have ht2 := Nat.eq_of_beq_eq_true ht
        subst ht2
        obtain ⟨n, dp, sp, rd, rs, n0, n1, st0, rfl, e0, e1, ⟨⟨⟨h1, h2, h3⟩, h4, h5⟩, ⟨h6, h7⟩, h8⟩, rfl⟩ := acopy_inv hs
        have hR : 0 < mD y := by simpa using hok.2
        have hwl : Jvm.Cond.methodLink (nth ownN (mK y) "") k arraycopyName ∈ gt := gt_of (of_decide_eq_true (by simpa [mthOk] using hm)) rfl
        exact g_acopy hx hb hml hts hK hj hown e0 e1 h6 h7 h1 h2 h3 h4 h5 h8 ⟨hR, by show 40 ≤ 40 * mD y; omega⟩ hwl hd (ih' _ _ _ _ h)
      | false =>
        rw [ht] at hs
        have ht2 : ¬ t = 1002 := fun q => by subst q; cases ht
        obtain ⟨as, rest, hsp, ⟨hcs, hca, hst, hlo⟩, rfl⟩ := calS_inv hs
        rw [if_neg ht2, Bool.and_eq_true] at hok
        have htl : t < 227 := Nat.le_of_ble_eq_true hok.2.1
        have hdep : mD t < mD y := Nat.le_of_ble_eq_true hok.2.2
        obtain ⟨t1, t2, t3, t4, t5, t6, t7, t8⟩ := m_spec htl
        have hRm : (rm t).frames + 1 ≤ (rm y).frames ∧ 8 + (mL t + 11) + (rm t).locals ≤ (rm y).locals := by show mD t + 1 ≤ mD y ∧ 8 + (mL t + 11) + 40 * mD t ≤ 40 * mD y; omega
        obtain ⟨hln, rfl⟩ := spl_0 hsp
        simp only [mthOk, if_neg ht2, if_neg (show ¬ t = 1003 by omega), if_neg (show ¬ t = 1004 by omega), Bool.and_eq_true, decide_eq_true_eq] at hm
        dsimp only at h
        cases hex : exec n t 0 (ent (mL t) as) [] M with
        | none => rw [hex] at h; cases h
        | some rr =>
          obtain ⟨r1, M1⟩ := rr
          rw [hex] at h
          dsimp only at h
          intro H locs ls hP hS hL hst0 hM
          have hoa : okS as := fun v hv => hst0 v (List.mem_append_left _ (List.mem_reverse.mpr hv))
          have hmet := met_of ih htl hex hoa hlo hca hM
          refine g_callS (r := r1) (M' := M1) (as := as) (rest := rest) hx hb hml hts hK hSt hN hown hmet rfl rfl hRm t8 t5 ?_ (t6 hst) ⟨t3.1, t3.2, hm.2⟩ hln hcs hd (fun _ _ => ih' _ _ _ _ h) H locs ls hP hS hL hst0 hM
          cases ne with
          | false => exact Or.inl (gt_of (by simpa using hm.1) rfl)
          | true =>
            refine Or.inr ?_
            have hm1 : nestL.contains (mK y, k, t) = true := by
              have := hm.1
              simp only [if_true, Bool.and_eq_true] at this
              exact this.1
            exact hN _ (by simpa using hm1)
    · cases hs
  case invokevirtual k =>
    simp only [stepI] at hs
    split at hs
    · rename_i t np ne w hq
      have hm := mth_spec ho hq
      simp only [insOK, Bool.and_eq_true, hq] at hok
      cases Nat.eq_of_beq_eq_true hok.1
      cases ht : Nat.beq t 1003 with
      | true =>
        rw [ht] at hs
        have ht2 := Nat.eq_of_beq_eq_true ht
        subst ht2
        obtain ⟨q, st0, rfl, ⟨⟨hq1, hq2⟩, hcs⟩, rfl⟩ := stlen_inv hs
        have hR : 2 < mD y := by simpa using hok.2
        have hRm : (rmS 2).frames + 1 ≤ (rm y).frames ∧ 8 + (1 + 11) + (rmS 2).locals ≤ (rm y).locals := by show 2 + 1 ≤ mD y ∧ 8 + (1 + 11) + 40 * 2 ≤ 40 * mD y; omega
        simp [mthOk] at hm
        obtain ⟨j, rfl⟩ : ∃ j, q = 500 + j := ⟨q - 500, by omega⟩
        rw [show 500 + j - 500 = j by omega] at h
        intro H locs ls hP hS hL hst0 hM
        have hmet := hLen j M (by omega) hM
        exact g_callV (np := 0) (as := []) (rest := st0) hx hb hml hts hK hSt hN hown hmet rfl rfl hRm w_len w_ini (gt_of hm.1 rfl) w_lenI w_lenS ⟨by decide +kernel, by decide +kernel, by decide +kernel⟩ rfl hcs (fun H locs _ hS => vk_recv (i := j) (adK := fun i => ad (500 + i)) hSt.1 (by omega) hS) hd (fun _ _ => ih' _ _ _ _ h) H locs ls hP hS hL hst0 hM
      | false =>
      rw [ht] at hs
      have ht2 : ¬ t = 1003 := fun q => by subst q; cases ht
      cases ht3 : Nat.beq t 1004 with
      | true =>
        rw [ht3] at hs
        have ht4 := Nat.eq_of_beq_eq_true ht3
        subst ht4
        obtain ⟨jj, q, st0, rfl, ⟨⟨⟨hq1, hq2⟩, hj0, hj1⟩, hcs⟩, rfl⟩ := stchr_inv hs
        have hR : 4 < mD y := by simpa using hok.2
        have hRm : (rmS 4).frames + 1 ≤ (rm y).frames ∧ 8 + (2 + 11) + (rmS 4).locals ≤ (rm y).locals := by show 4 + 1 ≤ mD y ∧ 8 + (2 + 11) + 40 * 4 ≤ 40 * mD y; omega
        simp [mthOk] at hm
        obtain ⟨j, rfl⟩ : ∃ j, q = 500 + j := ⟨q - 500, by omega⟩
        rw [show 500 + j - 500 = j by omega] at h hj1
        intro H locs ls hP hS hL hst0 hM
        have hmet := hChr j jj M (by omega) hM hj0 hj1
        exact g_callV (np := 1) (as := [.inl jj]) (rest := st0) hx hb hml hts hK hSt hN hown hmet rfl rfl hRm w_chr w_ini (gt_of hm.1 rfl) w_chrI w_chrS ⟨by decide +kernel, by decide +kernel, by decide +kernel⟩ rfl hcs (fun H locs _ hS => vk_recv (i := j) (adK := fun i => ad (500 + i)) hSt.1 (by omega) hS) hd (fun _ _ => ih' _ _ _ _ h) H locs ls hP hS hL hst0 hM
      | false =>
      rw [ht3] at hs
      have ht4 : ¬ t = 1004 := fun q => by subst q; cases ht3
      obtain ⟨r0, ci, ks, as, rest, hsp, hsh, ⟨hcs, hca, hst, hci, hlo⟩, rfl⟩ := calV_inv hs
      rw [if_neg ht2, if_neg ht4, Bool.and_eq_true] at hok
      have htl : t < 227 := Nat.le_of_ble_eq_true hok.2.1
      have hdep : mD t < mD y := Nat.le_of_ble_eq_true hok.2.2
      obtain ⟨t1, t2, t3, t4, t5, t6, t7, t8⟩ := m_spec htl
      have hRm : (rm t).frames + 1 ≤ (rm y).frames ∧ 8 + (mL t + 11) + (rm t).locals ≤ (rm y).locals := by show mD t + 1 ≤ mD y ∧ 8 + (mL t + 11) + 40 * mD t ≤ 40 * mD y; omega
      obtain ⟨hln, rfl⟩ := spl_0 hsp
      have ht0 : ¬ t = 1002 := by omega
      simp only [mthOk, if_neg ht0, if_neg ht2, if_neg ht4, Bool.and_eq_true, decide_eq_true_eq] at hm
      have hne : ne = false := by
        cases ne with
        | false => rfl
        | true =>
          have := hm.1
          simp only [if_true, Bool.and_eq_true] at this
          rw [this.2] at hst
          cases hst
      subst hne
      dsimp only at h
      cases hex : exec n t 0 (ent (mL t) (.inr (.inr r0) :: as)) [] M with
      | none => rw [hex] at h; cases h
      | some rr =>
        obtain ⟨r1, M1⟩ := rr
        rw [hex] at h
        dsimp only at h
        intro H locs ls hP hS hL hst0 hM
        rw [List.reverse_cons, List.append_assoc] at hst0 ⊢
        have hoa : okS (.inr (.inr r0) :: as) := fun v hv => by
          rcases List.mem_cons.mp hv with rfl | hv
          · trivial
          · exact hst0 v (List.mem_append_left _ (List.mem_reverse.mpr hv))
        have hmet := met_of ih htl hex hoa hlo (by simpa [cs] using hca) hM
        obtain ⟨u1, u2, u3⟩ := t7 hst
        exact g_callV (np := np) (r0 := r0) (r := r1) (M' := M1) (as := as) (rest := rest) hx hb hml hts hK hSt hN hown hmet rfl rfl hRm t8 t5 (gt_of (by simpa using hm.1) rfl) u1 u2 ⟨t3.1, t3.2, hm.2⟩ (by simpa using hln) hcs
          (fun H locs hP _ => by
            have hg := wd_get (cI := cI) (cZ := cZ) (ad := ad) (M := M) (shp_lt hsh)
            rw [hsh] at hg
            have hv := va_recv hK hP (cls_get (sh_obj hsh).1) hg
            rw [u3, ← hci]
            exact hv) hd (fun _ _ => ih' _ _ _ _ h) H locs ls hP hS hL hst0 hM
    · cases hs
  case ireturn =>
    simp only [stepI] at hs
    cases Nat.eq_of_beq_eq_true hok
    split at hs
    · split at hs
      · rename_i hret
        cases hs
        cases h
        intro H locs ls hP hS hL hst hM
        exact W.iret hx hb (hr.trans hret) (fun t ht hW => ⟨rfl, Wl_at hP hS hK hSt hN ht hW, hS.F ht, hM, fun v e => by cases e; exact okS_head hst⟩) hS.2.2 hd hlk
      · rename_i hret
        split at hs
        · rename_i hz
          cases hs
          cases h
          intro H locs ls hP hS hL hst hM
          exact W.zret hx hb (hr.trans hret) (by rcases hz with rfl | rfl <;> decide +kernel) (fun t ht hW => ⟨rfl, Wl_at hP hS hK hSt hN ht hW, hS.F ht, hM, fun v e => by cases e; exact okS_head hst⟩) hS.2.2 hd hlk
        · cases hs
      · cases hs
    · cases hs
  case lreturn =>
    simp only [stepI] at hs
    cases Nat.eq_of_beq_eq_true hok
    split at hs
    · split at hs
      · rename_i hret
        cases hs
        cases h
        intro H locs ls hP hS hL hst hM
        exact W.lret hx hb (hr.trans hret) (fun t ht hW => ⟨rfl, Wl_at hP hS hK hSt hN ht hW, hS.F ht, hM, fun v e => by cases e; exact okS_head hst⟩) hS.2.2 hd hlk
      · cases hs
    · cases hs
  case return_ =>
    simp only [stepI] at hs
    cases Nat.eq_of_beq_eq_true hok
    split at hs
    · split at hs
      · rename_i hret
        cases hs
        cases h
        intro H locs ls hP hS hL hst hM
        exact W.vret hx hb (hr.trans hret) (fun t ht hW => ⟨rfl, Wl_at hP hS hK hSt hN ht hW, hS.F ht, hM, fun v e => by cases e⟩) hS.2.2 hd hlk
      · cases hs
    · cases hs
  all_goals (cases hs; done)
end
section
/-! PURE CONTRACTS: from a configuration it ends, with an answer and a memory as P says -/
abbrev vi (z : Int) : PV := Sum.inl z
abbrev vl (z : Int) : PV := Sum.inr (Sum.inl z)
abbrev vr (k : Nat) : PV := Sum.inr (Sum.inr k)
def Hx (y pc : Nat) (L : Lc) (st : List PV) (M : Mm) (P : Option PV → Mm → Prop) : Prop := ∃ (r : Option PV) (M' : Mm), den y pc L st M = some (r, M') ∧ P r M'
def Ct (t : Nat) (as : List PV) (M : Mm) (P : Option PV → Mm → Prop) : Prop := Hx t 0 (ent (mL t) as) [] M P
def stepN : Nat → Nat → Cf → Option Cf
  | 0, _, c => some c
  | n + 1, y, (pc, L, st, M) => match step y pc L st M with
    | some (.inl c) => stepN n y c
    | _ => none
theorem Hx.go {y pc pc' : Nat} {L L' : Lc} {st st' : List PV} {M M' : Mm} {P : Option PV → Mm → Prop} (h : step y pc L st M = some (.inl (pc', L', st', M'))) (k : Hx y pc' L' st' M' P) : Hx y pc L st M P := by
  obtain ⟨r, M1, h1, h2⟩ := k
  exact ⟨r, M1, (den_go h).trans h1, h2⟩
theorem Hx.run (n : Nat) {y pc pc' : Nat} {L L' : Lc} {st st' : List PV} {M M' : Mm} {P : Option PV → Mm → Prop} (h : stepN n y (pc, L, st, M) = some (pc', L', st', M')) (k : Hx y pc' L' st' M' P) : Hx y pc L st M P := by
  induction n generalizing pc L st M with
  | zero => cases h; exact k
  | succ n ih =>
    unfold stepN at h
    split at h
    · rename_i cf hs
      obtain ⟨pc1, L1, st1, M1⟩ := cf
      exact Hx.go hs (ih h)
    · cases h
theorem Hx.ret {y pc : Nat} {L : Lc} {st : List PV} {M : Mm} {P : Option PV → Mm → Prop} {r : Option PV} (h : step y pc L st M = some (.inr (.inr r))) (k : P r M) : Hx y pc L st M P := ⟨r, M, den_ret h, k⟩
theorem Hx.br {y pc t f : Nat} {L L' : Lc} {st st' : List PV} {M M' : Mm} {P : Option PV → Mm → Prop} {c : Prop} [dc : Decidable c] (h : step y pc L st M = some (.inl (if c then t else f, L', st', M'))) (kt : c → Hx y t L' st' M' P) (kf : ¬ c → Hx y f L' st' M' P) : Hx y pc L st M P := by
  refine Hx.go h ?_
  by_cases hc : c
  · rw [if_pos hc]; exact kt hc
  · rw [if_neg hc]; exact kf hc
theorem Hx.call {y pc pc' t : Nat} {as : List PV} {L : Lc} {st rest : List PV} {M : Mm} {P P1 : Option PV → Mm → Prop} (h : step y pc L st M = some (.inr (.inl (t, as, pc', rest)))) (hc : Ct t as M P1) (k : ∀ (r : Option PV) (M' : Mm), P1 r M' → Hx y pc' L (r.toList ++ rest) M' P) : Hx y pc L st M P := by
  obtain ⟨r, M1, h1, h2⟩ := hc
  obtain ⟨r2, M2, h3, h4⟩ := k r M1 h2
  exact ⟨r2, M2, (den_call h h1).trans h3, h4⟩
theorem Hx.imp {y pc : Nat} {L : Lc} {st : List PV} {M : Mm} {P P1 : Option PV → Mm → Prop} (h : Hx y pc L st M P1) (k : ∀ r M', P1 r M' → P r M') : Hx y pc L st M P := by
  obtain ⟨r, M1, h1, h2⟩ := h
  exact ⟨r, M1, h1, k _ _ h2⟩
theorem Ct.imp {t : Nat} {as : List PV} {M : Mm} {P P1 : Option PV → Mm → Prop} (h : Ct t as M P1) (k : ∀ r M', P1 r M' → P r M') : Ct t as M P := Hx.imp h k
theorem Hx.eq {y pc : Nat} {L : Lc} {st st' : List PV} {M M' : Mm} {P : Option PV → Mm → Prop} (e : st = st') (e2 : M = M') (h : Hx y pc L st' M' P) : Hx y pc L st M P := by subst e; subst e2; exact h
theorem add32 {a b : Int} (h : -2147483648 ≤ a + b ∧ a + b < 2147483648) : i2 fadd a b = a + b := by
  unfold i2 fadd
  rw [← Int32.ofInt_add]
  exact of32 h
theorem sub32 {a b : Int} (h : -2147483648 ≤ a - b ∧ a - b < 2147483648) : i2 fsub a b = a - b := by
  unfold i2 fsub
  rw [← Int32.ofInt_sub]
  exact of32 h
theorem mul32 {a b : Int} (h : -2147483648 ≤ a * b ∧ a * b < 2147483648) : i2 fmul a b = a * b := by
  unfold i2 fmul
  rw [← Int32.ofInt_mul]
  exact of32 h
theorem neg32 {a : Int} (h : -2147483648 ≤ -a ∧ -a < 2147483648) : i1 fneg a = -a := by
  unfold i1 fneg
  rw [← Int32.ofInt_neg]
  exact of32 h
theorem add64 {a b : Int} (h : -9223372036854775808 ≤ a + b ∧ a + b < 9223372036854775808) : l2 gadd a b = a + b := by
  unfold l2 gadd
  rw [← Int64.ofInt_add]
  exact of64 h
theorem mul64 {a b : Int} (h : -9223372036854775808 ≤ a * b ∧ a * b < 9223372036854775808) : l2 gmul a b = a * b := by
  unfold l2 gmul
  rw [← Int64.ofInt_mul]
  exact of64 h
theorem div32 {a b : Int} (ha : 0 ≤ a) (ha2 : a < 2147483648) (hb : 0 < b) (hb2 : b < 2147483648) : i2 fdiv a b = a / b := by
  unfold i2 fdiv
  obtain ⟨n, rfl⟩ : ∃ n : Nat, a = n := ⟨a.toNat, by omega⟩
  obtain ⟨d, rfl⟩ : ∃ d : Nat, b = d := ⟨b.toNat, by omega⟩
  have h := pk_div (a := n) (d := d) (by omega) (by omega) (by omega)
  unfold nI at h
  have hq : n / d ≤ n := Nat.div_le_self n d
  have e : (n : Int) / (d : Int) = ((n / d : Nat) : Int) := rfl
  rw [e]
  generalize n / d = q at hq h
  rw [Int32.ofInt_eq_ofNat, Int32.ofInt_eq_ofNat, h, ← Int32.ofInt_eq_ofNat]
  exact of32 ⟨by omega, by omega⟩
theorem rem32 {a b : Int} (ha : 0 ≤ a) (ha2 : a < 2147483648) (hb : 0 < b) (hb2 : b < 2147483648) : i2 frem a b = a % b := by
  unfold i2 frem
  obtain ⟨n, rfl⟩ : ∃ n : Nat, a = n := ⟨a.toNat, by omega⟩
  obtain ⟨d, rfl⟩ : ∃ d : Nat, b = d := ⟨b.toNat, by omega⟩
  have h := pk_rem (a := n) (d := d) (by omega) (by omega) (by omega)
  unfold nI at h
  have hq : n % d ≤ n := Nat.mod_le n d
  have e : (n : Int) % (d : Int) = ((n % d : Nat) : Int) := rfl
  rw [e]
  generalize n % d = q at hq h
  rw [Int32.ofInt_eq_ofNat, Int32.ofInt_eq_ofNat, h, ← Int32.ofInt_eq_ofNat]
  exact of32 ⟨by omega, by omega⟩
theorem div64 {a b : Int} (ha : 0 ≤ a) (ha2 : a < 9223372036854775808) (hb : 0 < b) (hb2 : b < 9223372036854775808) : l2 gdiv a b = a / b := by
  unfold l2 gdiv
  obtain ⟨n, rfl⟩ : ∃ n : Nat, a = n := ⟨a.toNat, by omega⟩
  obtain ⟨d, rfl⟩ : ∃ d : Nat, b = d := ⟨b.toNat, by omega⟩
  have h := pk_lDiv (a := n) (b := d) (by omega) (by omega) (by omega)
  unfold lN at h
  have hq : n / d ≤ n := Nat.div_le_self n d
  have e : (n : Int) / (d : Int) = ((n / d : Nat) : Int) := rfl
  rw [e]
  generalize n / d = q at hq h
  rw [Int64.ofInt_eq_ofNat, Int64.ofInt_eq_ofNat, h, ← Int64.ofInt_eq_ofNat]
  exact of64 ⟨by omega, by omega⟩
theorem rem64 {a b : Int} (ha : 0 ≤ a) (ha2 : a < 9223372036854775808) (hb : 0 < b) (hb2 : b < 9223372036854775808) : l2 grem a b = a % b := by
  unfold l2 grem
  obtain ⟨n, rfl⟩ : ∃ n : Nat, a = n := ⟨a.toNat, by omega⟩
  obtain ⟨d, rfl⟩ : ∃ d : Nat, b = d := ⟨b.toNat, by omega⟩
  have h := pk_lRem (a := n) (b := d) (by omega) (by omega) (by omega)
  unfold lN at h
  have hq : n % d ≤ n := Nat.mod_le n d
  have e : (n : Int) % (d : Int) = ((n % d : Nat) : Int) := rfl
  rw [e]
  generalize n % d = q at hq h
  rw [Int64.ofInt_eq_ofNat, Int64.ofInt_eq_ofNat, h, ← Int64.ofInt_eq_ofNat]
  exact of64 ⟨by omega, by omega⟩
section RUN
variable {y pc : Nat} {L : Lc} {st : List PV} {M : Mm} {P : Option PV → Mm → Prop}
theorem Hx.add {a b : Int} (hf : fetch y pc = some (.iadd, 1)) (h : -2147483648 ≤ a + b ∧ a + b < 2147483648) (k : Hx y (pc + 1) L (vi (a + b) :: st) M P) : Hx y pc L (vi b :: vi a :: st) M P := by
  refine Hx.go (pc' := pc + 1) (L' := L) (st' := vi (i2 fadd a b) :: st) (M' := M) (by unfold step; rw [hf]; rfl) ?_
  rw [add32 h]; exact k
theorem Hx.sub {a b : Int} (hf : fetch y pc = some (.isub, 1)) (h : -2147483648 ≤ a - b ∧ a - b < 2147483648) (k : Hx y (pc + 1) L (vi (a - b) :: st) M P) : Hx y pc L (vi b :: vi a :: st) M P := by
  refine Hx.go (pc' := pc + 1) (L' := L) (st' := vi (i2 fsub a b) :: st) (M' := M) (by unfold step; rw [hf]; rfl) ?_
  rw [sub32 h]; exact k
theorem Hx.mul {a b : Int} (hf : fetch y pc = some (.imul, 1)) (h : -2147483648 ≤ a * b ∧ a * b < 2147483648) (k : Hx y (pc + 1) L (vi (a * b) :: st) M P) : Hx y pc L (vi b :: vi a :: st) M P := by
  refine Hx.go (pc' := pc + 1) (L' := L) (st' := vi (i2 fmul a b) :: st) (M' := M) (by unfold step; rw [hf]; rfl) ?_
  rw [mul32 h]; exact k
theorem Hx.neg {a : Int} (hf : fetch y pc = some (.ineg, 1)) (h : -2147483648 ≤ -a ∧ -a < 2147483648) (k : Hx y (pc + 1) L (vi (-a) :: st) M P) : Hx y pc L (vi a :: st) M P := by
  refine Hx.go (pc' := pc + 1) (L' := L) (st' := vi (i1 fneg a) :: st) (M' := M) (by unfold step; rw [hf]; rfl) ?_
  rw [neg32 h]; exact k
theorem Hx.div {a b : Int} (hf : fetch y pc = some (.idiv, 1)) (h : (0 ≤ a ∧ a < 2147483648) ∧ 0 < b ∧ b < 2147483648) (k : Hx y (pc + 1) L (vi (a / b) :: st) M P) : Hx y pc L (vi b :: vi a :: st) M P := by
  refine Hx.go (pc' := pc + 1) (L' := L) (st' := vi (i2 fdiv a b) :: st) (M' := M) (by unfold step; rw [hf]; show (if b = 0 then none else _) = _; rw [if_neg (by omega)]; rfl) ?_
  rw [div32 h.1.1 h.1.2 h.2.1 h.2.2]; exact k
theorem Hx.rem {a b : Int} (hf : fetch y pc = some (.irem, 1)) (h : (0 ≤ a ∧ a < 2147483648) ∧ 0 < b ∧ b < 2147483648) (k : Hx y (pc + 1) L (vi (a % b) :: st) M P) : Hx y pc L (vi b :: vi a :: st) M P := by
  refine Hx.go (pc' := pc + 1) (L' := L) (st' := vi (i2 frem a b) :: st) (M' := M) (by unfold step; rw [hf]; show (if b = 0 then none else _) = _; rw [if_neg (by omega)]; rfl) ?_
  rw [rem32 h.1.1 h.1.2 h.2.1 h.2.2]; exact k
theorem Hx.ladd {a b : Int} (hf : fetch y pc = some (.ladd, 1)) (h : -9223372036854775808 ≤ a + b ∧ a + b < 9223372036854775808) (k : Hx y (pc + 1) L (vl (a + b) :: st) M P) : Hx y pc L (vl b :: vl a :: st) M P := by
  refine Hx.go (pc' := pc + 1) (L' := L) (st' := vl (l2 gadd a b) :: st) (M' := M) (by unfold step; rw [hf]; rfl) ?_
  rw [add64 h]; exact k
theorem Hx.lmul {a b : Int} (hf : fetch y pc = some (.lmul, 1)) (h : -9223372036854775808 ≤ a * b ∧ a * b < 9223372036854775808) (k : Hx y (pc + 1) L (vl (a * b) :: st) M P) : Hx y pc L (vl b :: vl a :: st) M P := by
  refine Hx.go (pc' := pc + 1) (L' := L) (st' := vl (l2 gmul a b) :: st) (M' := M) (by unfold step; rw [hf]; rfl) ?_
  rw [mul64 h]; exact k
theorem Hx.ldiv {a b : Int} (hf : fetch y pc = some (.ldiv, 1)) (h : (0 ≤ a ∧ a < 9223372036854775808) ∧ 0 < b ∧ b < 9223372036854775808) (k : Hx y (pc + 1) L (vl (a / b) :: st) M P) : Hx y pc L (vl b :: vl a :: st) M P := by
  refine Hx.go (pc' := pc + 1) (L' := L) (st' := vl (l2 gdiv a b) :: st) (M' := M) (by unfold step; rw [hf]; show (if b = 0 then none else _) = _; rw [if_neg (by omega)]; rfl) ?_
  rw [div64 h.1.1 h.1.2 h.2.1 h.2.2]; exact k
theorem Hx.lrem {a b : Int} (hf : fetch y pc = some (.lrem, 1)) (h : (0 ≤ a ∧ a < 9223372036854775808) ∧ 0 < b ∧ b < 9223372036854775808) (k : Hx y (pc + 1) L (vl (a % b) :: st) M P) : Hx y pc L (vl b :: vl a :: st) M P := by
  refine Hx.go (pc' := pc + 1) (L' := L) (st' := vl (l2 grem a b) :: st) (M' := M) (by unfold step; rw [hf]; show (if b = 0 then none else _) = _; rw [if_neg (by omega)]; rfl) ?_
  rw [rem64 h.1.1 h.1.2 h.2.1 h.2.2]; exact k
theorem Hx.inc {z n : Int} {k0 : Nat} (hf : fetch y pc = some (.iinc k0 n, 3)) (hz : gl L k0 = some (vi z)) (h : -2147483648 ≤ z + n ∧ z + n < 2147483648) (k : Hx y (pc + 3) (sl L k0 (some (vi (z + n)))) st M P) : Hx y pc L st M P := by
  refine Hx.go (pc' := pc + 3) (L' := sl L k0 (some (vi (i2 fadd z n)))) (st' := st) (M' := M) (by unfold step; rw [hf]; simp only [stepI]; rw [hz]; rfl) ?_
  rw [add32 h]; exact k
theorem Hx.aldI {i : Int} {r n : Nat} (hf : fetch y pc = some (.iaload, 1)) (hs : shp r = .inl (n, false)) (h : 0 ≤ i ∧ i < (n : Int)) (k : Hx y (pc + 1) L (vi (M r i) :: st) M P) : Hx y pc L (vi i :: vr r :: st) M P := by
  refine Hx.go (pc' := pc + 1) (L' := L) (st' := vi (M r i) :: st) (M' := M) ?_ k
  unfold step
  rw [hf]
  simp only [stepI, ald]
  rw [hs]
  simp only [beq_self_eq_true, cond_true]
  rw [if_pos h]; rfl
theorem Hx.astI {v i : Int} {r n : Nat} (hf : fetch y pc = some (.iastore, 1)) (hs : shp r = .inl (n, false)) (h : 0 ≤ i ∧ i < (n : Int)) (k : Hx y (pc + 1) L st (up M r i v) P) : Hx y pc L (vi v :: vi i :: vr r :: st) M P := by
  refine Hx.go (pc' := pc + 1) (L' := L) (st' := st) (M' := up M r i v) ?_ k
  unfold step
  rw [hf]
  simp only [stepI, ast]
  rw [hs]
  simp only [beq_self_eq_true, cond_true]
  rw [if_pos ⟨h, fun q => by cases q⟩]; rfl
theorem lc_lt {a b : Int} : lc a b < 0 ↔ a < b := by
  unfold lc; split
  · omega
  · split <;> omega
theorem lc_gt {a b : Int} : 0 < lc a b ↔ b < a := by
  unfold lc; split
  · omega
  · split <;> omega
theorem lc_eq {a b : Int} : lc a b = 0 ↔ a = b := by
  unfold lc; split
  · omega
  · split <;> omega
theorem Hx.tab {a d lo hi : Int} {offs : Array Int} {len tgt : Nat} (v : Int) (hf : fetch y pc = some (.tableswitch d lo hi offs, len)) (hv : a = v) (ht : ((pc : Int) + (if v < lo ∨ hi < v then d else nth offs.toList (v - lo).toNat d)).toNat = tgt) (k : Hx y tgt L st M P) : Hx y pc L (vi a :: st) M P := by
  subst hv
  refine Hx.go (pc' := tgt) (L' := L) (st' := st) (M' := M) ?_ k
  unfold step
  rw [hf]
  simp only [stepI]
  rw [ht]; rfl
theorem Hx.tabD {a d lo hi : Int} {offs : Array Int} {len tgt : Nat} (hf : fetch y pc = some (.tableswitch d lo hi offs, len)) (hv : a < lo ∨ hi < a) (ht : ((pc : Int) + d).toNat = tgt) (k : Hx y tgt L st M P) : Hx y pc L (vi a :: st) M P := by
  refine Hx.go (pc' := tgt) (L' := L) (st' := st) (M' := M) ?_ k
  unfold step
  rw [hf]
  simp only [stepI]
  rw [if_pos hv, ht]; rfl
end RUN
theorem up_ne {M : Mm} {r : Nat} {i v : Int} {a : Nat} (h : a ≠ r) : up M r i v a = M a := by
  funext j; simp [up, h]
theorem up_at {M : Mm} {r : Nat} {i v : Int} : up M r i v r i = v := by simp [up]
theorem up_off {M : Mm} {r : Nat} {i v j : Int} (h : j ≠ i) : up M r i v r j = M r j := by simp [up, h]
theorem cp_ne {M : Mm} {rs rd a : Nat} {sp dp n : Int} (h : a ≠ rd) : cp M rs sp rd dp n a = M a := by
  funext j; simp [cp, h]
end
section
/-! the class: its small members (written by wip/whole/gen13.py) -/
theorem Hx.add0 {y pc : Nat} {L : Lc} {st : List PV} {M : Mm} {P : Option PV → Mm → Prop} {b : Int} (hf : fetch y pc = some (.iadd, 1)) (h : -2147483648 ≤ b ∧ b < 2147483648) (k : Hx y (pc + 1) L (vi b :: st) M P) : Hx y pc L (vi b :: vi 0 :: st) M P := by
  refine Hx.add hf (by omega) ?_
  rw [Int.zero_add]; exact k
theorem Hx.alenI {y pc r n : Nat} {L : Lc} {st : List PV} {M : Mm} {P : Option PV → Mm → Prop} {b : Bool} (hf : fetch y pc = some (.arraylength, 1)) (hs : shp r = .inl (n, b)) (hr : r < 73) (k : Hx y (pc + 1) L (vi (n : Int) :: st) M P) : Hx y pc L (vr r :: st) M P := by
  refine Hx.go (pc' := pc + 1) (L' := L) (st' := vi (n : Int) :: st) (M' := M) ?_ k
  unfold step
  rw [hf]
  simp only [stepI, alen]
  rw [hs]
  have h : Nat.blt r 73 = true := Nat.ble_eq_true_of_le hr
  simp only [h, cond_true]; rfl
set_option maxRecDepth 100000 in
theorem c_isKind (k : Int) (M : Mm) : Ct 117 [vi k] M (fun q0 M' => ((0 ≤ k ∧ k < 6) ∧ q0 = some (vi 1) ∧ M = M') ∨ (¬ (0 ≤ k ∧ k < 6) ∧ q0 = some (vi 0) ∧ M = M')) := by
  refine Hx.run 1 (pc' := 1) (L' := [some (vi k)]) (st' := [vi k]) (M' := M) rfl ?_
  refine Hx.br (c := k < 0) (t := 14) (f := 4) rfl (fun h1 => ?_) (fun h1 => ?_)
  · skip
    refine Hx.run 1 (pc' := 15) (L' := [some (vi k)]) (st' := [vi 0]) (M' := M) rfl ?_
    refine Hx.ret rfl ?_
    first | exact Or.inl ⟨by omega, rfl, rfl⟩ | exact Or.inr ⟨by omega, rfl, rfl⟩
  · skip
    refine Hx.run 2 (pc' := 7) (L' := [some (vi k)]) (st' := [vi 6, vi k]) (M' := M) rfl ?_
    refine Hx.br (c := k < 6) (t := 10) (f := 14) rfl (fun h2 => ?_) (fun h2 => ?_)
    · skip
      refine Hx.run 2 (pc' := 15) (L' := [some (vi k)]) (st' := [vi 1]) (M' := M) rfl ?_
      refine Hx.ret rfl ?_
      first | exact Or.inl ⟨by omega, rfl, rfl⟩ | exact Or.inr ⟨by omega, rfl, rfl⟩
    · skip
      refine Hx.run 1 (pc' := 15) (L' := [some (vi k)]) (st' := [vi 0]) (M' := M) rfl ?_
      refine Hx.ret rfl ?_
      first | exact Or.inl ⟨by omega, rfl, rfl⟩ | exact Or.inr ⟨by omega, rfl, rfl⟩
set_option maxRecDepth 100000 in
theorem c_isOwnable (k : Int) (M : Mm) : Ct 118 [vi k] M (fun q0 M' => ((1 ≤ k ∧ k ≤ 10) ∧ q0 = some (vi 1) ∧ M = M') ∨ (¬ (1 ≤ k ∧ k ≤ 10) ∧ q0 = some (vi 0) ∧ M = M')) := by
  refine Hx.run 2 (pc' := 2) (L' := [some (vi k)]) (st' := [vi 1, vi k]) (M' := M) rfl ?_
  refine Hx.br (c := k < 1) (t := 15) (f := 5) rfl (fun h1 => ?_) (fun h1 => ?_)
  · skip
    refine Hx.run 1 (pc' := 16) (L' := [some (vi k)]) (st' := [vi 0]) (M' := M) rfl ?_
    refine Hx.ret rfl ?_
    first | exact Or.inl ⟨by omega, rfl, rfl⟩ | exact Or.inr ⟨by omega, rfl, rfl⟩
  · skip
    refine Hx.run 2 (pc' := 8) (L' := [some (vi k)]) (st' := [vi 10, vi k]) (M' := M) rfl ?_
    refine Hx.br (c := 10 < k) (t := 15) (f := 11) rfl (fun h2 => ?_) (fun h2 => ?_)
    · skip
      refine Hx.run 1 (pc' := 16) (L' := [some (vi k)]) (st' := [vi 0]) (M' := M) rfl ?_
      refine Hx.ret rfl ?_
      first | exact Or.inl ⟨by omega, rfl, rfl⟩ | exact Or.inr ⟨by omega, rfl, rfl⟩
    · skip
      refine Hx.run 2 (pc' := 16) (L' := [some (vi k)]) (st' := [vi 1]) (M' := M) rfl ?_
      refine Hx.ret rfl ?_
      first | exact Or.inl ⟨by omega, rfl, rfl⟩ | exact Or.inr ⟨by omega, rfl, rfl⟩
set_option maxRecDepth 100000 in
theorem c_isLoad (k : Int) (M : Mm) : Ct 119 [vi k] M (fun q0 M' => ((0 ≤ k ∧ k ≤ 9) ∧ q0 = some (vi 1) ∧ M = M') ∨ (¬ (0 ≤ k ∧ k ≤ 9) ∧ q0 = some (vi 0) ∧ M = M')) := by
  refine Hx.run 1 (pc' := 1) (L' := [some (vi k)]) (st' := [vi k]) (M' := M) rfl ?_
  refine Hx.br (c := k < 0) (t := 14) (f := 4) rfl (fun h1 => ?_) (fun h1 => ?_)
  · skip
    refine Hx.run 1 (pc' := 15) (L' := [some (vi k)]) (st' := [vi 0]) (M' := M) rfl ?_
    refine Hx.ret rfl ?_
    first | exact Or.inl ⟨by omega, rfl, rfl⟩ | exact Or.inr ⟨by omega, rfl, rfl⟩
  · skip
    refine Hx.run 2 (pc' := 7) (L' := [some (vi k)]) (st' := [vi 9, vi k]) (M' := M) rfl ?_
    refine Hx.br (c := 9 < k) (t := 14) (f := 10) rfl (fun h2 => ?_) (fun h2 => ?_)
    · skip
      refine Hx.run 1 (pc' := 15) (L' := [some (vi k)]) (st' := [vi 0]) (M' := M) rfl ?_
      refine Hx.ret rfl ?_
      first | exact Or.inl ⟨by omega, rfl, rfl⟩ | exact Or.inr ⟨by omega, rfl, rfl⟩
    · skip
      refine Hx.run 2 (pc' := 15) (L' := [some (vi k)]) (st' := [vi 1]) (M' := M) rfl ?_
      refine Hx.ret rfl ?_
      first | exact Or.inl ⟨by omega, rfl, rfl⟩ | exact Or.inr ⟨by omega, rfl, rfl⟩
set_option maxRecDepth 100000 in
theorem c_isHour (k : Int) (M : Mm) : Ct 120 [vi k] M (fun q0 M' => ((0 ≤ k ∧ k < 24) ∧ q0 = some (vi 1) ∧ M = M') ∨ (¬ (0 ≤ k ∧ k < 24) ∧ q0 = some (vi 0) ∧ M = M')) := by
  refine Hx.run 1 (pc' := 1) (L' := [some (vi k)]) (st' := [vi k]) (M' := M) rfl ?_
  refine Hx.br (c := k < 0) (t := 14) (f := 4) rfl (fun h1 => ?_) (fun h1 => ?_)
  · skip
    refine Hx.run 1 (pc' := 15) (L' := [some (vi k)]) (st' := [vi 0]) (M' := M) rfl ?_
    refine Hx.ret rfl ?_
    first | exact Or.inl ⟨by omega, rfl, rfl⟩ | exact Or.inr ⟨by omega, rfl, rfl⟩
  · skip
    refine Hx.run 2 (pc' := 7) (L' := [some (vi k)]) (st' := [vi 24, vi k]) (M' := M) rfl ?_
    refine Hx.br (c := k < 24) (t := 10) (f := 14) rfl (fun h2 => ?_) (fun h2 => ?_)
    · skip
      refine Hx.run 2 (pc' := 15) (L' := [some (vi k)]) (st' := [vi 1]) (M' := M) rfl ?_
      refine Hx.ret rfl ?_
      first | exact Or.inl ⟨by omega, rfl, rfl⟩ | exact Or.inr ⟨by omega, rfl, rfl⟩
    · skip
      refine Hx.run 1 (pc' := 15) (L' := [some (vi k)]) (st' := [vi 0]) (M' := M) rfl ?_
      refine Hx.ret rfl ?_
      first | exact Or.inl ⟨by omega, rfl, rfl⟩ | exact Or.inr ⟨by omega, rfl, rfl⟩
set_option maxRecDepth 100000 in
theorem c_at {r n : Nat} (hs : shp r = .inl (n, false)) (hr : r < 73) {i : Int} (h : 0 ≤ i ∧ i < (n : Int)) (M : Mm) : Ct 121 [vr r, vi i] M (fun q0 M' => q0 = some (vi (M r i)) ∧ M = M') := by
  refine Hx.run 1 (pc' := 1) (L' := [some (vr r), some (vi i)]) (st' := [vi i]) (M' := M) rfl ?_
  refine Hx.br (c := i < 0) (t := 16) (f := 4) rfl (fun h1 => ?_) (fun h1 => ?_)
  · skip
    refine Hx.run 1 (pc' := 17) (L' := [some (vr r), some (vi i)]) (st' := [vi 0]) (M' := M) rfl ?_
    refine Hx.ret rfl ?_
    first | exact ⟨rfl, rfl⟩ | (exfalso; omega)
  · skip
    refine Hx.run 2 (pc' := 6) (L' := [some (vr r), some (vi i)]) (st' := [vr r, vi i]) (M' := M) rfl ?_
    refine Hx.alenI (n := n) rfl hs hr ?_
    refine Hx.br (c := i < (n : Int)) (t := 10) (f := 16) rfl (fun h2 => ?_) (fun h2 => ?_)
    · skip
      refine Hx.run 2 (pc' := 12) (L' := [some (vr r), some (vi i)]) (st' := [vi i, vr r]) (M' := M) rfl ?_
      refine Hx.aldI (n := n) rfl hs (by omega) ?_
      refine Hx.run 1 (pc' := 17) (L' := [some (vr r), some (vi i)]) (st' := [vi (M r i)]) (M' := M) rfl ?_
      refine Hx.ret rfl ?_
      first | exact ⟨rfl, rfl⟩ | (exfalso; omega)
    · skip
      refine Hx.run 1 (pc' := 17) (L' := [some (vr r), some (vi i)]) (st' := [vi 0]) (M' := M) rfl ?_
      refine Hx.ret rfl ?_
      first | exact ⟨rfl, rfl⟩ | (exfalso; omega)
set_option maxRecDepth 100000 in
theorem c_put {r n : Nat} (hs : shp r = .inl (n, false)) (hr : r < 73) {i : Int} (h : 0 ≤ i ∧ i < (n : Int)) (v : Int) (M : Mm) : Ct 122 [vr r, vi i, vi v] M (fun q0 M' => q0 = none ∧ up M r i v = M') := by
  refine Hx.run 1 (pc' := 1) (L' := [some (vr r), some (vi i), some (vi v)]) (st' := [vi i]) (M' := M) rfl ?_
  refine Hx.br (c := i < 0) (t := 14) (f := 4) rfl (fun h1 => ?_) (fun h1 => ?_)
  · skip
    refine Hx.ret rfl ?_
    first | exact ⟨rfl, rfl⟩ | (exfalso; omega)
  · skip
    refine Hx.run 2 (pc' := 6) (L' := [some (vr r), some (vi i), some (vi v)]) (st' := [vr r, vi i]) (M' := M) rfl ?_
    refine Hx.alenI (n := n) rfl hs hr ?_
    refine Hx.br (c := i < (n : Int)) (t := 10) (f := 14) rfl (fun h2 => ?_) (fun h2 => ?_)
    · skip
      refine Hx.run 3 (pc' := 13) (L' := [some (vr r), some (vi i), some (vi v)]) (st' := [vi v, vi i, vr r]) (M' := M) rfl ?_
      refine Hx.astI (n := n) rfl hs (by omega) ?_
      refine Hx.ret rfl ?_
      first | exact ⟨rfl, rfl⟩ | (exfalso; omega)
    · skip
      refine Hx.ret rfl ?_
      first | exact ⟨rfl, rfl⟩ | (exfalso; omega)
set_option maxRecDepth 100000 in
theorem c_bad (M : Mm) (h : 0 ≤ M 0 14 ∧ M 0 14 ≤ 1000) : Ct 114 [vr 0] M (fun q0 M' => q0 = some (vi (-2)) ∧ up M 0 14 (M 0 14 + 1) = M') := by
  refine Hx.run 4 (pc' := 6) (L' := [some (vr 0)]) (st' := [vi 1, vi (M 0 14), vr 0]) (M' := M) rfl ?_
  refine Hx.add rfl (by omega) ?_
  refine Hx.run 2 (pc' := 12) (L' := [some (vr 0)]) (st' := [vi (-2)]) (M' := (up M 0 14 ((M 0 14) + 1))) rfl ?_
  refine Hx.ret rfl ?_
  exact ⟨rfl, rfl⟩
set_option maxRecDepth 100000 in
theorem c_no (M : Mm) (h : 0 ≤ M 0 15 ∧ M 0 15 ≤ 1000) : Ct 115 [vr 0] M (fun q0 M' => q0 = some (vi (-3)) ∧ up M 0 15 (M 0 15 + 1) = M') := by
  refine Hx.run 4 (pc' := 6) (L' := [some (vr 0)]) (st' := [vi 1, vi (M 0 15), vr 0]) (M' := M) rfl ?_
  refine Hx.add rfl (by omega) ?_
  refine Hx.run 2 (pc' := 12) (L' := [some (vr 0)]) (st' := [vi (-3)]) (M' := (up M 0 15 ((M 0 15) + 1))) rfl ?_
  refine Hx.ret rfl ?_
  exact ⟨rfl, rfl⟩
set_option maxRecDepth 100000 in
theorem c_full (M : Mm) (h : 0 ≤ M 0 16 ∧ M 0 16 ≤ 1000) : Ct 116 [vr 0] M (fun q0 M' => q0 = some (vi (-4)) ∧ up M 0 16 (M 0 16 + 1) = M') := by
  refine Hx.run 4 (pc' := 6) (L' := [some (vr 0)]) (st' := [vi 1, vi (M 0 16), vr 0]) (M' := M) rfl ?_
  refine Hx.add rfl (by omega) ?_
  refine Hx.run 2 (pc' := 12) (L' := [some (vr 0)]) (st' := [vi (-4)]) (M' := (up M 0 16 ((M 0 16) + 1))) rfl ?_
  refine Hx.ret rfl ?_
  exact ⟨rfl, rfl⟩
set_option maxRecDepth 100000 in
theorem c_ownerKind_1 (x : Int) (hx : 0 ≤ x ∧ x < 3) (M : Mm) : Ct 13 [vr 1, vi x] M (fun q0 M' => q0 = some (vi (M 2 x)) ∧ M = M') := by
  refine Hx.run 3 (pc' := 5) (L' := [some (vr 1), some (vi x)]) (st' := [vi x, vr 2]) (M' := M) rfl ?_
  refine Hx.call (t := 121) (as := [vr 2, vi x]) (pc' := 8) (rest := []) rfl (c_at (r := 2) (n := 3) rfl (by decide) (i := x) (by omega) M) ?_
  rintro _ _ ⟨rfl, rfl⟩
  refine Hx.run 0 (pc' := 8) (L' := [some (vr 1), some (vi x)]) (st' := [vi (M 2 x)]) (M' := M) rfl ?_
  refine Hx.ret rfl ?_
  exact ⟨rfl, rfl⟩
set_option maxRecDepth 100000 in
theorem c_ownerStep_1 (x : Int) (hx : 0 ≤ x ∧ x < 3) (M : Mm) : Ct 14 [vr 1, vi x] M (fun q0 M' => q0 = some (vi (M 6 (12 + x))) ∧ M = M') := by
  refine Hx.run 4 (pc' := 7) (L' := [some (vr 1), some (vi x)]) (st' := [vi x, vi 12, vr 6]) (M' := M) rfl ?_
  refine Hx.add rfl (by omega) ?_
  refine Hx.call (t := 121) (as := [vr 6, vi (12 + x)]) (pc' := 11) (rest := []) rfl (c_at (r := 6) (n := 17) rfl (by decide) (i := (12 + x)) (by omega) M) ?_
  rintro _ _ ⟨rfl, rfl⟩
  refine Hx.run 0 (pc' := 11) (L' := [some (vr 1), some (vi x)]) (st' := [vi (M 6 (12 + x))]) (M' := M) rfl ?_
  refine Hx.ret rfl ?_
  exact ⟨rfl, rfl⟩
set_option maxRecDepth 100000 in
theorem c_legsOf_1 (x : Int) (hx : 0 ≤ x ∧ x < 6) (M : Mm) : Ct 16 [vr 1, vi x] M (fun q0 M' => q0 = some (vi (M 4 x)) ∧ M = M') := by
  refine Hx.run 3 (pc' := 5) (L' := [some (vr 1), some (vi x)]) (st' := [vi x, vr 4]) (M' := M) rfl ?_
  refine Hx.call (t := 121) (as := [vr 4, vi x]) (pc' := 8) (rest := []) rfl (c_at (r := 4) (n := 6) rfl (by decide) (i := x) (by omega) M) ?_
  rintro _ _ ⟨rfl, rfl⟩
  refine Hx.run 0 (pc' := 8) (L' := [some (vr 1), some (vi x)]) (st' := [vi (M 4 x)]) (M' := M) rfl ?_
  refine Hx.ret rfl ?_
  exact ⟨rfl, rfl⟩
set_option maxRecDepth 100000 in
theorem c_flightOf_1 (x : Int) (hx : 0 ≤ x ∧ x < 6) (M : Mm) : Ct 17 [vr 1, vi x] M (fun q0 M' => q0 = some (vi (M 5 x)) ∧ M = M') := by
  refine Hx.run 3 (pc' := 5) (L' := [some (vr 1), some (vi x)]) (st' := [vi x, vr 5]) (M' := M) rfl ?_
  refine Hx.call (t := 121) (as := [vr 5, vi x]) (pc' := 8) (rest := []) rfl (c_at (r := 5) (n := 6) rfl (by decide) (i := x) (by omega) M) ?_
  rintro _ _ ⟨rfl, rfl⟩
  refine Hx.run 0 (pc' := 8) (L' := [some (vr 1), some (vi x)]) (st' := [vi (M 5 x)]) (M' := M) rfl ?_
  refine Hx.ret rfl ?_
  exact ⟨rfl, rfl⟩
set_option maxRecDepth 100000 in
theorem c_stepOf_1 (x : Int) (hx : 0 ≤ x ∧ x < 6) (M : Mm) : Ct 18 [vr 1, vi x] M (fun q0 M' => q0 = some (vi (M 6 x)) ∧ M = M') := by
  refine Hx.run 4 (pc' := 6) (L' := [some (vr 1), some (vi x)]) (st' := [vi x, vi 0, vr 6]) (M' := M) rfl ?_
  refine Hx.add0 rfl (by omega) ?_
  refine Hx.call (t := 121) (as := [vr 6, vi x]) (pc' := 10) (rest := []) rfl (c_at (r := 6) (n := 17) rfl (by decide) (i := x) (by omega) M) ?_
  rintro _ _ ⟨rfl, rfl⟩
  refine Hx.run 0 (pc' := 10) (L' := [some (vr 1), some (vi x)]) (st' := [vi (M 6 x)]) (M' := M) rfl ?_
  refine Hx.ret rfl ?_
  exact ⟨rfl, rfl⟩
set_option maxRecDepth 100000 in
theorem c_loadOf_1 (x : Int) (hx : 0 ≤ x ∧ x < 6) (M : Mm) : Ct 20 [vr 1, vi x] M (fun q0 M' => q0 = some (vi (M 6 (6 + x))) ∧ M = M') := by
  refine Hx.run 4 (pc' := 7) (L' := [some (vr 1), some (vi x)]) (st' := [vi x, vi 6, vr 6]) (M' := M) rfl ?_
  refine Hx.add rfl (by omega) ?_
  refine Hx.call (t := 121) (as := [vr 6, vi (6 + x)]) (pc' := 11) (rest := []) rfl (c_at (r := 6) (n := 17) rfl (by decide) (i := (6 + x)) (by omega) M) ?_
  rintro _ _ ⟨rfl, rfl⟩
  refine Hx.run 0 (pc' := 11) (L' := [some (vr 1), some (vi x)]) (st' := [vi (M 6 (6 + x))]) (M' := M) rfl ?_
  refine Hx.ret rfl ?_
  exact ⟨rfl, rfl⟩
set_option maxRecDepth 100000 in
theorem c_falls_1 (M : Mm) : Ct 22 [vr 1] M (fun q0 M' => q0 = some (vi (M 6 15)) ∧ M = M') := by
  refine Hx.run 3 (pc' := 6) (L' := [some (vr 1)]) (st' := [vi 15, vr 6]) (M' := M) rfl ?_
  refine Hx.call (t := 121) (as := [vr 6, vi 15]) (pc' := 9) (rest := []) rfl (c_at (r := 6) (n := 17) rfl (by decide) (i := 15) (by omega) M) ?_
  rintro _ _ ⟨rfl, rfl⟩
  refine Hx.run 0 (pc' := 9) (L' := [some (vr 1)]) (st' := [vi (M 6 15)]) (M' := M) rfl ?_
  refine Hx.ret rfl ?_
  exact ⟨rfl, rfl⟩
set_option maxRecDepth 100000 in
theorem c_hour_1 (M : Mm) : Ct 23 [vr 1] M (fun q0 M' => q0 = some (vi (M 6 16)) ∧ M = M') := by
  refine Hx.run 3 (pc' := 6) (L' := [some (vr 1)]) (st' := [vi 16, vr 6]) (M' := M) rfl ?_
  refine Hx.call (t := 121) (as := [vr 6, vi 16]) (pc' := 9) (rest := []) rfl (c_at (r := 6) (n := 17) rfl (by decide) (i := 16) (by omega) M) ?_
  rintro _ _ ⟨rfl, rfl⟩
  refine Hx.run 0 (pc' := 9) (L' := [some (vr 1)]) (st' := [vi (M 6 16)]) (M' := M) rfl ?_
  refine Hx.ret rfl ?_
  exact ⟨rfl, rfl⟩
set_option maxRecDepth 100000 in
theorem c_ownerKind_40 (x : Int) (hx : 0 ≤ x ∧ x < 3) (M : Mm) : Ct 13 [vr 40, vi x] M (fun q0 M' => q0 = some (vi (M 41 x)) ∧ M = M') := by
  refine Hx.run 3 (pc' := 5) (L' := [some (vr 40), some (vi x)]) (st' := [vi x, vr 41]) (M' := M) rfl ?_
  refine Hx.call (t := 121) (as := [vr 41, vi x]) (pc' := 8) (rest := []) rfl (c_at (r := 41) (n := 3) rfl (by decide) (i := x) (by omega) M) ?_
  rintro _ _ ⟨rfl, rfl⟩
  refine Hx.run 0 (pc' := 8) (L' := [some (vr 40), some (vi x)]) (st' := [vi (M 41 x)]) (M' := M) rfl ?_
  refine Hx.ret rfl ?_
  exact ⟨rfl, rfl⟩
set_option maxRecDepth 100000 in
theorem c_ownerStep_40 (x : Int) (hx : 0 ≤ x ∧ x < 3) (M : Mm) : Ct 14 [vr 40, vi x] M (fun q0 M' => q0 = some (vi (M 45 (12 + x))) ∧ M = M') := by
  refine Hx.run 4 (pc' := 7) (L' := [some (vr 40), some (vi x)]) (st' := [vi x, vi 12, vr 45]) (M' := M) rfl ?_
  refine Hx.add rfl (by omega) ?_
  refine Hx.call (t := 121) (as := [vr 45, vi (12 + x)]) (pc' := 11) (rest := []) rfl (c_at (r := 45) (n := 17) rfl (by decide) (i := (12 + x)) (by omega) M) ?_
  rintro _ _ ⟨rfl, rfl⟩
  refine Hx.run 0 (pc' := 11) (L' := [some (vr 40), some (vi x)]) (st' := [vi (M 45 (12 + x))]) (M' := M) rfl ?_
  refine Hx.ret rfl ?_
  exact ⟨rfl, rfl⟩
set_option maxRecDepth 100000 in
theorem c_legsOf_40 (x : Int) (hx : 0 ≤ x ∧ x < 6) (M : Mm) : Ct 16 [vr 40, vi x] M (fun q0 M' => q0 = some (vi (M 43 x)) ∧ M = M') := by
  refine Hx.run 3 (pc' := 5) (L' := [some (vr 40), some (vi x)]) (st' := [vi x, vr 43]) (M' := M) rfl ?_
  refine Hx.call (t := 121) (as := [vr 43, vi x]) (pc' := 8) (rest := []) rfl (c_at (r := 43) (n := 6) rfl (by decide) (i := x) (by omega) M) ?_
  rintro _ _ ⟨rfl, rfl⟩
  refine Hx.run 0 (pc' := 8) (L' := [some (vr 40), some (vi x)]) (st' := [vi (M 43 x)]) (M' := M) rfl ?_
  refine Hx.ret rfl ?_
  exact ⟨rfl, rfl⟩
set_option maxRecDepth 100000 in
theorem c_flightOf_40 (x : Int) (hx : 0 ≤ x ∧ x < 6) (M : Mm) : Ct 17 [vr 40, vi x] M (fun q0 M' => q0 = some (vi (M 44 x)) ∧ M = M') := by
  refine Hx.run 3 (pc' := 5) (L' := [some (vr 40), some (vi x)]) (st' := [vi x, vr 44]) (M' := M) rfl ?_
  refine Hx.call (t := 121) (as := [vr 44, vi x]) (pc' := 8) (rest := []) rfl (c_at (r := 44) (n := 6) rfl (by decide) (i := x) (by omega) M) ?_
  rintro _ _ ⟨rfl, rfl⟩
  refine Hx.run 0 (pc' := 8) (L' := [some (vr 40), some (vi x)]) (st' := [vi (M 44 x)]) (M' := M) rfl ?_
  refine Hx.ret rfl ?_
  exact ⟨rfl, rfl⟩
set_option maxRecDepth 100000 in
theorem c_stepOf_40 (x : Int) (hx : 0 ≤ x ∧ x < 6) (M : Mm) : Ct 18 [vr 40, vi x] M (fun q0 M' => q0 = some (vi (M 45 x)) ∧ M = M') := by
  refine Hx.run 4 (pc' := 6) (L' := [some (vr 40), some (vi x)]) (st' := [vi x, vi 0, vr 45]) (M' := M) rfl ?_
  refine Hx.add0 rfl (by omega) ?_
  refine Hx.call (t := 121) (as := [vr 45, vi x]) (pc' := 10) (rest := []) rfl (c_at (r := 45) (n := 17) rfl (by decide) (i := x) (by omega) M) ?_
  rintro _ _ ⟨rfl, rfl⟩
  refine Hx.run 0 (pc' := 10) (L' := [some (vr 40), some (vi x)]) (st' := [vi (M 45 x)]) (M' := M) rfl ?_
  refine Hx.ret rfl ?_
  exact ⟨rfl, rfl⟩
set_option maxRecDepth 100000 in
theorem c_loadOf_40 (x : Int) (hx : 0 ≤ x ∧ x < 6) (M : Mm) : Ct 20 [vr 40, vi x] M (fun q0 M' => q0 = some (vi (M 45 (6 + x))) ∧ M = M') := by
  refine Hx.run 4 (pc' := 7) (L' := [some (vr 40), some (vi x)]) (st' := [vi x, vi 6, vr 45]) (M' := M) rfl ?_
  refine Hx.add rfl (by omega) ?_
  refine Hx.call (t := 121) (as := [vr 45, vi (6 + x)]) (pc' := 11) (rest := []) rfl (c_at (r := 45) (n := 17) rfl (by decide) (i := (6 + x)) (by omega) M) ?_
  rintro _ _ ⟨rfl, rfl⟩
  refine Hx.run 0 (pc' := 11) (L' := [some (vr 40), some (vi x)]) (st' := [vi (M 45 (6 + x))]) (M' := M) rfl ?_
  refine Hx.ret rfl ?_
  exact ⟨rfl, rfl⟩
set_option maxRecDepth 100000 in
theorem c_falls_40 (M : Mm) : Ct 22 [vr 40] M (fun q0 M' => q0 = some (vi (M 45 15)) ∧ M = M') := by
  refine Hx.run 3 (pc' := 6) (L' := [some (vr 40)]) (st' := [vi 15, vr 45]) (M' := M) rfl ?_
  refine Hx.call (t := 121) (as := [vr 45, vi 15]) (pc' := 9) (rest := []) rfl (c_at (r := 45) (n := 17) rfl (by decide) (i := 15) (by omega) M) ?_
  rintro _ _ ⟨rfl, rfl⟩
  refine Hx.run 0 (pc' := 9) (L' := [some (vr 40)]) (st' := [vi (M 45 15)]) (M' := M) rfl ?_
  refine Hx.ret rfl ?_
  exact ⟨rfl, rfl⟩
set_option maxRecDepth 100000 in
theorem c_hour_40 (M : Mm) : Ct 23 [vr 40] M (fun q0 M' => q0 = some (vi (M 45 16)) ∧ M = M') := by
  refine Hx.run 3 (pc' := 6) (L' := [some (vr 40)]) (st' := [vi 16, vr 45]) (M' := M) rfl ?_
  refine Hx.call (t := 121) (as := [vr 45, vi 16]) (pc' := 9) (rest := []) rfl (c_at (r := 45) (n := 17) rfl (by decide) (i := 16) (by omega) M) ?_
  rintro _ _ ⟨rfl, rfl⟩
  refine Hx.run 0 (pc' := 9) (L' := [some (vr 40)]) (st' := [vi (M 45 16)]) (M' := M) rfl ?_
  refine Hx.ret rfl ?_
  exact ⟨rfl, rfl⟩
end
section
/-! kinds, bits; more members of a house (written by wip/whole/gen14.py) -/
def bcF (kind t : Int) : Int := if kind = 1 then (if 18 ≤ t then 2 else 1) else if kind = 2 then (if 18 ≤ t then 2 else 1) + (if t % 6 = 0 then 1 else 0) else if kind = 3 then (if 9 ≤ t ∧ t ≤ 16 then 3 else 1) else if kind = 4 then (if 9 ≤ t ∧ t ≤ 16 then 2 else 1) else if kind = 5 then (if t < 5 then 0 else 1) else 1
def sfF (kind l x t : Int) : Int := if kind = 1 then (l + 1) / 2 else if kind = 2 then (if 1 < l - x / 3 then l - x / 3 else 1) else if kind = 3 then (if 1 < l - x / 3 then (if 2 < l - x / 3 then 2 else l - x / 3) else 1) else if kind = 4 then (if 18 ≤ t then l + 1 else l) else if kind = 5 then (if t < 8 then 1 else (l + 1) / 2) else l
theorem some_vi {a b : Int} (h : a = b) : (some (vi a) : Option PV) = some (vi b) := by rw [h]
set_option maxRecDepth 100000 in
theorem c_max (a b : Int) (M : Mm) : Ct 225 [vi a, vi b] M (fun q0 M' => q0 = some (vi (max a b)) ∧ M = M') := by
  refine Hx.run 2 (pc' := 2) (L' := [some (vi a), some (vi b)]) (st' := [vi b, vi a]) (M' := M) rfl ?_
  refine Hx.br (c := a < b) (t := 9) (f := 5) rfl (fun h1 => ?_) (fun h1 => ?_)
  · skip
    refine Hx.run 1 (pc' := 10) (L' := [some (vi a), some (vi b)]) (st' := [vi b]) (M' := M) rfl ?_
    refine Hx.ret rfl ?_
    exact ⟨some_vi (by omega), rfl⟩
  · skip
    refine Hx.run 2 (pc' := 10) (L' := [some (vi a), some (vi b)]) (st' := [vi a]) (M' := M) rfl ?_
    refine Hx.ret rfl ?_
    exact ⟨some_vi (by omega), rfl⟩
set_option maxRecDepth 100000 in
theorem c_min (a b : Int) (M : Mm) : Ct 226 [vi a, vi b] M (fun q0 M' => q0 = some (vi (min a b)) ∧ M = M') := by
  refine Hx.run 2 (pc' := 2) (L' := [some (vi a), some (vi b)]) (st' := [vi b, vi a]) (M' := M) rfl ?_
  refine Hx.br (c := b < a) (t := 9) (f := 5) rfl (fun h1 => ?_) (fun h1 => ?_)
  · skip
    refine Hx.run 1 (pc' := 10) (L' := [some (vi a), some (vi b)]) (st' := [vi b]) (M' := M) rfl ?_
    refine Hx.ret rfl ?_
    exact ⟨some_vi (by omega), rfl⟩
  · skip
    refine Hx.run 2 (pc' := 10) (L' := [some (vi a), some (vi b)]) (st' := [vi a]) (M' := M) rfl ?_
    refine Hx.ret rfl ?_
    exact ⟨some_vi (by omega), rfl⟩
set_option maxRecDepth 100000 in
set_option maxHeartbeats 4000000 in
theorem c_barCount (k t : Int) (M : Mm) (hk : 0 ≤ k ∧ k ≤ 5) (ht : 0 ≤ t ∧ t < 24) : Ct 124 [vi k, vi t] M (fun q0 M' => q0 = some (vi (bcF k t)) ∧ M = M') := by
  refine Hx.run 5 (pc' := 6) (L' := [some (vi k), some (vi t), some (vi 1), none, none]) (st' := [vi 18, vi t, vi 1]) (M' := M) rfl ?_
  refine Hx.br (c := t < 18) (t := 13) (f := 9) rfl (fun h1 => ?_) (fun h1 => ?_)
  · skip
    refine Hx.run 1 (pc' := 14) (L' := [some (vi k), some (vi t), some (vi 1), none, none]) (st' := [vi 0, vi 1]) (M' := M) rfl ?_
    refine Hx.add rfl (by omega) ?_
    refine Hx.run 0 (pc' := 15) (L' := [some (vi k), some (vi t), some (vi 1), none, none]) (st' := [vi 1]) (M' := M) rfl ?_
    refine Hx.run 4 (pc' := 20) (L' := [some (vi k), some (vi t), some (vi 1), some (vi 1), none]) (st' := [vi 9, vi t, vi 1]) (M' := M) rfl ?_
    refine Hx.br (c := t < 9) (t := 33) (f := 23) rfl (fun h2 => ?_) (fun h2 => ?_)
    · skip
      refine Hx.run 1 (pc' := 34) (L' := [some (vi k), some (vi t), some (vi 1), some (vi 1), none]) (st' := [vi 0, vi 1]) (M' := M) rfl ?_
      refine Hx.add rfl (by omega) ?_
      refine Hx.run 0 (pc' := 35) (L' := [some (vi k), some (vi t), some (vi 1), some (vi 1), none]) (st' := [vi 1]) (M' := M) rfl ?_
      refine Hx.run 2 (pc' := 38) (L' := [some (vi k), some (vi t), some (vi 1), some (vi 1), some (vi 1)]) (st' := [vi k]) (M' := M) rfl ?_
      rcases (show k = 1 ∨ k = 2 ∨ k = 3 ∨ k = 4 ∨ k = 5 ∨ (k < 1 ∨ 5 < k) by omega) with h3 | h3 | h3 | h3 | h3 | h3
      · refine Hx.tab (tgt := 72) 1 rfl h3 rfl ?_
        refine Hx.run 1 (pc' := 73) (L' := [some (vi k), some (vi t), some (vi 1), some (vi 1), some (vi 1)]) (st' := [vi 1]) (M' := M) rfl ?_
        refine Hx.ret rfl ?_
        exact ⟨some_vi (by unfold bcF; repeat (first | rw [if_pos (by omega)] | rw [if_neg (by omega)]); first | done | rfl | omega), rfl⟩
      · refine Hx.tab (tgt := 74) 2 rfl h3 rfl ?_
        refine Hx.run 3 (pc' := 78) (L' := [some (vi k), some (vi t), some (vi 1), some (vi 1), some (vi 1)]) (st' := [vi 6, vi t, vi 1]) (M' := M) rfl ?_
        refine Hx.rem rfl (by omega) ?_
        refine Hx.br (c := (t % 6) = 0) (t := 82) (f := 86) rfl (fun h4 => ?_) (fun h4 => ?_)
        · skip
          refine Hx.run 2 (pc' := 87) (L' := [some (vi k), some (vi t), some (vi 1), some (vi 1), some (vi 1)]) (st' := [vi 1, vi 1]) (M' := M) rfl ?_
          refine Hx.add rfl (by omega) ?_
          refine Hx.run 0 (pc' := 88) (L' := [some (vi k), some (vi t), some (vi 1), some (vi 1), some (vi 1)]) (st' := [vi 2]) (M' := M) rfl ?_
          refine Hx.ret rfl ?_
          exact ⟨some_vi (by unfold bcF; repeat (first | rw [if_pos (by omega)] | rw [if_neg (by omega)]); first | done | rfl | omega), rfl⟩
        · skip
          refine Hx.run 1 (pc' := 87) (L' := [some (vi k), some (vi t), some (vi 1), some (vi 1), some (vi 1)]) (st' := [vi 0, vi 1]) (M' := M) rfl ?_
          refine Hx.add rfl (by omega) ?_
          refine Hx.run 0 (pc' := 88) (L' := [some (vi k), some (vi t), some (vi 1), some (vi 1), some (vi 1)]) (st' := [vi 1]) (M' := M) rfl ?_
          refine Hx.ret rfl ?_
          exact ⟨some_vi (by unfold bcF; repeat (first | rw [if_pos (by omega)] | rw [if_neg (by omega)]); first | done | rfl | omega), rfl⟩
      · refine Hx.tab (tgt := 89) 3 rfl h3 rfl ?_
        refine Hx.run 1 (pc' := 91) (L' := [some (vi k), some (vi t), some (vi 1), some (vi 1), some (vi 1)]) (st' := [vi 1]) (M' := M) rfl ?_
        refine Hx.ret rfl ?_
        exact ⟨some_vi (by unfold bcF; repeat (first | rw [if_pos (by omega)] | rw [if_neg (by omega)]); first | done | rfl | omega), rfl⟩
      · refine Hx.tab (tgt := 92) 4 rfl h3 rfl ?_
        refine Hx.run 3 (pc' := 96) (L' := [some (vi k), some (vi t), some (vi 1), some (vi 1), some (vi 1)]) (st' := [vi 1, vi 1, vi 1]) (M' := M) rfl ?_
        refine Hx.sub rfl (by omega) ?_
        refine Hx.run 0 (pc' := 97) (L' := [some (vi k), some (vi t), some (vi 1), some (vi 1), some (vi 1)]) (st' := [vi 0, vi 1]) (M' := M) rfl ?_
        refine Hx.call (t := 225) (as := [vi 1, vi 0]) (pc' := 100) (rest := []) rfl (c_max 1 0 M) ?_
        rintro _ _ ⟨rfl, rfl⟩
        refine Hx.run 0 (pc' := 100) (L' := [some (vi k), some (vi t), some (vi 1), some (vi 1), some (vi 1)]) (st' := [vi (max 1 0)]) (M' := M) rfl ?_
        refine Hx.ret rfl ?_
        exact ⟨some_vi (by unfold bcF; repeat (first | rw [if_pos (by omega)] | rw [if_neg (by omega)]); first | done | rfl | omega), rfl⟩
      · refine Hx.tab (tgt := 101) 5 rfl h3 rfl ?_
        refine Hx.run 2 (pc' := 103) (L' := [some (vi k), some (vi t), some (vi 1), some (vi 1), some (vi 1)]) (st' := [vi 5, vi t]) (M' := M) rfl ?_
        refine Hx.br (c := t < 5) (t := 106) (f := 110) rfl (fun h5 => ?_) (fun h5 => ?_)
        · skip
          refine Hx.run 2 (pc' := 111) (L' := [some (vi k), some (vi t), some (vi 1), some (vi 1), some (vi 1)]) (st' := [vi 0]) (M' := M) rfl ?_
          refine Hx.ret rfl ?_
          exact ⟨some_vi (by unfold bcF; repeat (first | rw [if_pos (by omega)] | rw [if_neg (by omega)]); first | done | rfl | omega), rfl⟩
        · skip
          refine Hx.run 1 (pc' := 111) (L' := [some (vi k), some (vi t), some (vi 1), some (vi 1), some (vi 1)]) (st' := [vi 1]) (M' := M) rfl ?_
          refine Hx.ret rfl ?_
          exact ⟨some_vi (by unfold bcF; repeat (first | rw [if_pos (by omega)] | rw [if_neg (by omega)]); first | done | rfl | omega), rfl⟩
      · refine Hx.tabD (tgt := 112) rfl h3 rfl ?_
        refine Hx.run 1 (pc' := 113) (L' := [some (vi k), some (vi t), some (vi 1), some (vi 1), some (vi 1)]) (st' := [vi 1]) (M' := M) rfl ?_
        refine Hx.ret rfl ?_
        exact ⟨some_vi (by unfold bcF; repeat (first | rw [if_pos (by omega)] | rw [if_neg (by omega)]); first | done | rfl | omega), rfl⟩
    · skip
      refine Hx.run 2 (pc' := 26) (L' := [some (vi k), some (vi t), some (vi 1), some (vi 1), none]) (st' := [vi 16, vi t, vi 1]) (M' := M) rfl ?_
      refine Hx.br (c := 16 < t) (t := 33) (f := 29) rfl (fun h6 => ?_) (fun h6 => ?_)
      · skip
        refine Hx.run 1 (pc' := 34) (L' := [some (vi k), some (vi t), some (vi 1), some (vi 1), none]) (st' := [vi 0, vi 1]) (M' := M) rfl ?_
        refine Hx.add rfl (by omega) ?_
        refine Hx.run 0 (pc' := 35) (L' := [some (vi k), some (vi t), some (vi 1), some (vi 1), none]) (st' := [vi 1]) (M' := M) rfl ?_
        refine Hx.run 2 (pc' := 38) (L' := [some (vi k), some (vi t), some (vi 1), some (vi 1), some (vi 1)]) (st' := [vi k]) (M' := M) rfl ?_
        rcases (show k = 1 ∨ k = 2 ∨ k = 3 ∨ k = 4 ∨ k = 5 ∨ (k < 1 ∨ 5 < k) by omega) with h7 | h7 | h7 | h7 | h7 | h7
        · refine Hx.tab (tgt := 72) 1 rfl h7 rfl ?_
          refine Hx.run 1 (pc' := 73) (L' := [some (vi k), some (vi t), some (vi 1), some (vi 1), some (vi 1)]) (st' := [vi 1]) (M' := M) rfl ?_
          refine Hx.ret rfl ?_
          exact ⟨some_vi (by unfold bcF; repeat (first | rw [if_pos (by omega)] | rw [if_neg (by omega)]); first | done | rfl | omega), rfl⟩
        · refine Hx.tab (tgt := 74) 2 rfl h7 rfl ?_
          refine Hx.run 3 (pc' := 78) (L' := [some (vi k), some (vi t), some (vi 1), some (vi 1), some (vi 1)]) (st' := [vi 6, vi t, vi 1]) (M' := M) rfl ?_
          refine Hx.rem rfl (by omega) ?_
          refine Hx.br (c := (t % 6) = 0) (t := 82) (f := 86) rfl (fun h8 => ?_) (fun h8 => ?_)
          · skip
            refine Hx.run 2 (pc' := 87) (L' := [some (vi k), some (vi t), some (vi 1), some (vi 1), some (vi 1)]) (st' := [vi 1, vi 1]) (M' := M) rfl ?_
            refine Hx.add rfl (by omega) ?_
            refine Hx.run 0 (pc' := 88) (L' := [some (vi k), some (vi t), some (vi 1), some (vi 1), some (vi 1)]) (st' := [vi 2]) (M' := M) rfl ?_
            refine Hx.ret rfl ?_
            exact ⟨some_vi (by unfold bcF; repeat (first | rw [if_pos (by omega)] | rw [if_neg (by omega)]); first | done | rfl | omega), rfl⟩
          · skip
            refine Hx.run 1 (pc' := 87) (L' := [some (vi k), some (vi t), some (vi 1), some (vi 1), some (vi 1)]) (st' := [vi 0, vi 1]) (M' := M) rfl ?_
            refine Hx.add rfl (by omega) ?_
            refine Hx.run 0 (pc' := 88) (L' := [some (vi k), some (vi t), some (vi 1), some (vi 1), some (vi 1)]) (st' := [vi 1]) (M' := M) rfl ?_
            refine Hx.ret rfl ?_
            exact ⟨some_vi (by unfold bcF; repeat (first | rw [if_pos (by omega)] | rw [if_neg (by omega)]); first | done | rfl | omega), rfl⟩
        · refine Hx.tab (tgt := 89) 3 rfl h7 rfl ?_
          refine Hx.run 1 (pc' := 91) (L' := [some (vi k), some (vi t), some (vi 1), some (vi 1), some (vi 1)]) (st' := [vi 1]) (M' := M) rfl ?_
          refine Hx.ret rfl ?_
          exact ⟨some_vi (by unfold bcF; repeat (first | rw [if_pos (by omega)] | rw [if_neg (by omega)]); first | done | rfl | omega), rfl⟩
        · refine Hx.tab (tgt := 92) 4 rfl h7 rfl ?_
          refine Hx.run 3 (pc' := 96) (L' := [some (vi k), some (vi t), some (vi 1), some (vi 1), some (vi 1)]) (st' := [vi 1, vi 1, vi 1]) (M' := M) rfl ?_
          refine Hx.sub rfl (by omega) ?_
          refine Hx.run 0 (pc' := 97) (L' := [some (vi k), some (vi t), some (vi 1), some (vi 1), some (vi 1)]) (st' := [vi 0, vi 1]) (M' := M) rfl ?_
          refine Hx.call (t := 225) (as := [vi 1, vi 0]) (pc' := 100) (rest := []) rfl (c_max 1 0 M) ?_
          rintro _ _ ⟨rfl, rfl⟩
          refine Hx.run 0 (pc' := 100) (L' := [some (vi k), some (vi t), some (vi 1), some (vi 1), some (vi 1)]) (st' := [vi (max 1 0)]) (M' := M) rfl ?_
          refine Hx.ret rfl ?_
          exact ⟨some_vi (by unfold bcF; repeat (first | rw [if_pos (by omega)] | rw [if_neg (by omega)]); first | done | rfl | omega), rfl⟩
        · refine Hx.tab (tgt := 101) 5 rfl h7 rfl ?_
          refine Hx.run 2 (pc' := 103) (L' := [some (vi k), some (vi t), some (vi 1), some (vi 1), some (vi 1)]) (st' := [vi 5, vi t]) (M' := M) rfl ?_
          refine Hx.br (c := t < 5) (t := 106) (f := 110) rfl (fun h9 => ?_) (fun h9 => ?_)
          · skip
            refine Hx.run 2 (pc' := 111) (L' := [some (vi k), some (vi t), some (vi 1), some (vi 1), some (vi 1)]) (st' := [vi 0]) (M' := M) rfl ?_
            refine Hx.ret rfl ?_
            exact ⟨some_vi (by unfold bcF; repeat (first | rw [if_pos (by omega)] | rw [if_neg (by omega)]); first | done | rfl | omega), rfl⟩
          · skip
            refine Hx.run 1 (pc' := 111) (L' := [some (vi k), some (vi t), some (vi 1), some (vi 1), some (vi 1)]) (st' := [vi 1]) (M' := M) rfl ?_
            refine Hx.ret rfl ?_
            exact ⟨some_vi (by unfold bcF; repeat (first | rw [if_pos (by omega)] | rw [if_neg (by omega)]); first | done | rfl | omega), rfl⟩
        · refine Hx.tabD (tgt := 112) rfl h7 rfl ?_
          refine Hx.run 1 (pc' := 113) (L' := [some (vi k), some (vi t), some (vi 1), some (vi 1), some (vi 1)]) (st' := [vi 1]) (M' := M) rfl ?_
          refine Hx.ret rfl ?_
          exact ⟨some_vi (by unfold bcF; repeat (first | rw [if_pos (by omega)] | rw [if_neg (by omega)]); first | done | rfl | omega), rfl⟩
      · skip
        refine Hx.run 2 (pc' := 34) (L' := [some (vi k), some (vi t), some (vi 1), some (vi 1), none]) (st' := [vi 2, vi 1]) (M' := M) rfl ?_
        refine Hx.add rfl (by omega) ?_
        refine Hx.run 0 (pc' := 35) (L' := [some (vi k), some (vi t), some (vi 1), some (vi 1), none]) (st' := [vi 3]) (M' := M) rfl ?_
        refine Hx.run 2 (pc' := 38) (L' := [some (vi k), some (vi t), some (vi 1), some (vi 1), some (vi 3)]) (st' := [vi k]) (M' := M) rfl ?_
        rcases (show k = 1 ∨ k = 2 ∨ k = 3 ∨ k = 4 ∨ k = 5 ∨ (k < 1 ∨ 5 < k) by omega) with h10 | h10 | h10 | h10 | h10 | h10
        · refine Hx.tab (tgt := 72) 1 rfl h10 rfl ?_
          refine Hx.run 1 (pc' := 73) (L' := [some (vi k), some (vi t), some (vi 1), some (vi 1), some (vi 3)]) (st' := [vi 1]) (M' := M) rfl ?_
          refine Hx.ret rfl ?_
          exact ⟨some_vi (by unfold bcF; repeat (first | rw [if_pos (by omega)] | rw [if_neg (by omega)]); first | done | rfl | omega), rfl⟩
        · refine Hx.tab (tgt := 74) 2 rfl h10 rfl ?_
          refine Hx.run 3 (pc' := 78) (L' := [some (vi k), some (vi t), some (vi 1), some (vi 1), some (vi 3)]) (st' := [vi 6, vi t, vi 1]) (M' := M) rfl ?_
          refine Hx.rem rfl (by omega) ?_
          refine Hx.br (c := (t % 6) = 0) (t := 82) (f := 86) rfl (fun h11 => ?_) (fun h11 => ?_)
          · skip
            refine Hx.run 2 (pc' := 87) (L' := [some (vi k), some (vi t), some (vi 1), some (vi 1), some (vi 3)]) (st' := [vi 1, vi 1]) (M' := M) rfl ?_
            refine Hx.add rfl (by omega) ?_
            refine Hx.run 0 (pc' := 88) (L' := [some (vi k), some (vi t), some (vi 1), some (vi 1), some (vi 3)]) (st' := [vi 2]) (M' := M) rfl ?_
            refine Hx.ret rfl ?_
            exact ⟨some_vi (by unfold bcF; repeat (first | rw [if_pos (by omega)] | rw [if_neg (by omega)]); first | done | rfl | omega), rfl⟩
          · skip
            refine Hx.run 1 (pc' := 87) (L' := [some (vi k), some (vi t), some (vi 1), some (vi 1), some (vi 3)]) (st' := [vi 0, vi 1]) (M' := M) rfl ?_
            refine Hx.add rfl (by omega) ?_
            refine Hx.run 0 (pc' := 88) (L' := [some (vi k), some (vi t), some (vi 1), some (vi 1), some (vi 3)]) (st' := [vi 1]) (M' := M) rfl ?_
            refine Hx.ret rfl ?_
            exact ⟨some_vi (by unfold bcF; repeat (first | rw [if_pos (by omega)] | rw [if_neg (by omega)]); first | done | rfl | omega), rfl⟩
        · refine Hx.tab (tgt := 89) 3 rfl h10 rfl ?_
          refine Hx.run 1 (pc' := 91) (L' := [some (vi k), some (vi t), some (vi 1), some (vi 1), some (vi 3)]) (st' := [vi 3]) (M' := M) rfl ?_
          refine Hx.ret rfl ?_
          exact ⟨some_vi (by unfold bcF; repeat (first | rw [if_pos (by omega)] | rw [if_neg (by omega)]); first | done | rfl | omega), rfl⟩
        · refine Hx.tab (tgt := 92) 4 rfl h10 rfl ?_
          refine Hx.run 3 (pc' := 96) (L' := [some (vi k), some (vi t), some (vi 1), some (vi 1), some (vi 3)]) (st' := [vi 1, vi 3, vi 1]) (M' := M) rfl ?_
          refine Hx.sub rfl (by omega) ?_
          refine Hx.run 0 (pc' := 97) (L' := [some (vi k), some (vi t), some (vi 1), some (vi 1), some (vi 3)]) (st' := [vi 2, vi 1]) (M' := M) rfl ?_
          refine Hx.call (t := 225) (as := [vi 1, vi 2]) (pc' := 100) (rest := []) rfl (c_max 1 2 M) ?_
          rintro _ _ ⟨rfl, rfl⟩
          refine Hx.run 0 (pc' := 100) (L' := [some (vi k), some (vi t), some (vi 1), some (vi 1), some (vi 3)]) (st' := [vi (max 1 2)]) (M' := M) rfl ?_
          refine Hx.ret rfl ?_
          exact ⟨some_vi (by unfold bcF; repeat (first | rw [if_pos (by omega)] | rw [if_neg (by omega)]); first | done | rfl | omega), rfl⟩
        · refine Hx.tab (tgt := 101) 5 rfl h10 rfl ?_
          refine Hx.run 2 (pc' := 103) (L' := [some (vi k), some (vi t), some (vi 1), some (vi 1), some (vi 3)]) (st' := [vi 5, vi t]) (M' := M) rfl ?_
          refine Hx.br (c := t < 5) (t := 106) (f := 110) rfl (fun h12 => ?_) (fun h12 => ?_)
          · skip
            refine Hx.run 2 (pc' := 111) (L' := [some (vi k), some (vi t), some (vi 1), some (vi 1), some (vi 3)]) (st' := [vi 0]) (M' := M) rfl ?_
            refine Hx.ret rfl ?_
            exact ⟨some_vi (by unfold bcF; repeat (first | rw [if_pos (by omega)] | rw [if_neg (by omega)]); first | done | rfl | omega), rfl⟩
          · skip
            refine Hx.run 1 (pc' := 111) (L' := [some (vi k), some (vi t), some (vi 1), some (vi 1), some (vi 3)]) (st' := [vi 1]) (M' := M) rfl ?_
            refine Hx.ret rfl ?_
            exact ⟨some_vi (by unfold bcF; repeat (first | rw [if_pos (by omega)] | rw [if_neg (by omega)]); first | done | rfl | omega), rfl⟩
        · refine Hx.tabD (tgt := 112) rfl h10 rfl ?_
          refine Hx.run 1 (pc' := 113) (L' := [some (vi k), some (vi t), some (vi 1), some (vi 1), some (vi 3)]) (st' := [vi 1]) (M' := M) rfl ?_
          refine Hx.ret rfl ?_
          exact ⟨some_vi (by unfold bcF; repeat (first | rw [if_pos (by omega)] | rw [if_neg (by omega)]); first | done | rfl | omega), rfl⟩
  · skip
    refine Hx.run 2 (pc' := 14) (L' := [some (vi k), some (vi t), some (vi 1), none, none]) (st' := [vi 1, vi 1]) (M' := M) rfl ?_
    refine Hx.add rfl (by omega) ?_
    refine Hx.run 0 (pc' := 15) (L' := [some (vi k), some (vi t), some (vi 1), none, none]) (st' := [vi 2]) (M' := M) rfl ?_
    refine Hx.run 4 (pc' := 20) (L' := [some (vi k), some (vi t), some (vi 1), some (vi 2), none]) (st' := [vi 9, vi t, vi 1]) (M' := M) rfl ?_
    refine Hx.br (c := t < 9) (t := 33) (f := 23) rfl (fun h13 => ?_) (fun h13 => ?_)
    · skip
      refine Hx.run 1 (pc' := 34) (L' := [some (vi k), some (vi t), some (vi 1), some (vi 2), none]) (st' := [vi 0, vi 1]) (M' := M) rfl ?_
      refine Hx.add rfl (by omega) ?_
      refine Hx.run 0 (pc' := 35) (L' := [some (vi k), some (vi t), some (vi 1), some (vi 2), none]) (st' := [vi 1]) (M' := M) rfl ?_
      refine Hx.run 2 (pc' := 38) (L' := [some (vi k), some (vi t), some (vi 1), some (vi 2), some (vi 1)]) (st' := [vi k]) (M' := M) rfl ?_
      rcases (show k = 1 ∨ k = 2 ∨ k = 3 ∨ k = 4 ∨ k = 5 ∨ (k < 1 ∨ 5 < k) by omega) with h14 | h14 | h14 | h14 | h14 | h14
      · refine Hx.tab (tgt := 72) 1 rfl h14 rfl ?_
        refine Hx.run 1 (pc' := 73) (L' := [some (vi k), some (vi t), some (vi 1), some (vi 2), some (vi 1)]) (st' := [vi 2]) (M' := M) rfl ?_
        refine Hx.ret rfl ?_
        exact ⟨some_vi (by unfold bcF; repeat (first | rw [if_pos (by omega)] | rw [if_neg (by omega)]); first | done | rfl | omega), rfl⟩
      · refine Hx.tab (tgt := 74) 2 rfl h14 rfl ?_
        refine Hx.run 3 (pc' := 78) (L' := [some (vi k), some (vi t), some (vi 1), some (vi 2), some (vi 1)]) (st' := [vi 6, vi t, vi 2]) (M' := M) rfl ?_
        refine Hx.rem rfl (by omega) ?_
        refine Hx.br (c := (t % 6) = 0) (t := 82) (f := 86) rfl (fun h15 => ?_) (fun h15 => ?_)
        · skip
          refine Hx.run 2 (pc' := 87) (L' := [some (vi k), some (vi t), some (vi 1), some (vi 2), some (vi 1)]) (st' := [vi 1, vi 2]) (M' := M) rfl ?_
          refine Hx.add rfl (by omega) ?_
          refine Hx.run 0 (pc' := 88) (L' := [some (vi k), some (vi t), some (vi 1), some (vi 2), some (vi 1)]) (st' := [vi 3]) (M' := M) rfl ?_
          refine Hx.ret rfl ?_
          exact ⟨some_vi (by unfold bcF; repeat (first | rw [if_pos (by omega)] | rw [if_neg (by omega)]); first | done | rfl | omega), rfl⟩
        · skip
          refine Hx.run 1 (pc' := 87) (L' := [some (vi k), some (vi t), some (vi 1), some (vi 2), some (vi 1)]) (st' := [vi 0, vi 2]) (M' := M) rfl ?_
          refine Hx.add rfl (by omega) ?_
          refine Hx.run 0 (pc' := 88) (L' := [some (vi k), some (vi t), some (vi 1), some (vi 2), some (vi 1)]) (st' := [vi 2]) (M' := M) rfl ?_
          refine Hx.ret rfl ?_
          exact ⟨some_vi (by unfold bcF; repeat (first | rw [if_pos (by omega)] | rw [if_neg (by omega)]); first | done | rfl | omega), rfl⟩
      · refine Hx.tab (tgt := 89) 3 rfl h14 rfl ?_
        refine Hx.run 1 (pc' := 91) (L' := [some (vi k), some (vi t), some (vi 1), some (vi 2), some (vi 1)]) (st' := [vi 1]) (M' := M) rfl ?_
        refine Hx.ret rfl ?_
        exact ⟨some_vi (by unfold bcF; repeat (first | rw [if_pos (by omega)] | rw [if_neg (by omega)]); first | done | rfl | omega), rfl⟩
      · refine Hx.tab (tgt := 92) 4 rfl h14 rfl ?_
        refine Hx.run 3 (pc' := 96) (L' := [some (vi k), some (vi t), some (vi 1), some (vi 2), some (vi 1)]) (st' := [vi 1, vi 1, vi 1]) (M' := M) rfl ?_
        refine Hx.sub rfl (by omega) ?_
        refine Hx.run 0 (pc' := 97) (L' := [some (vi k), some (vi t), some (vi 1), some (vi 2), some (vi 1)]) (st' := [vi 0, vi 1]) (M' := M) rfl ?_
        refine Hx.call (t := 225) (as := [vi 1, vi 0]) (pc' := 100) (rest := []) rfl (c_max 1 0 M) ?_
        rintro _ _ ⟨rfl, rfl⟩
        refine Hx.run 0 (pc' := 100) (L' := [some (vi k), some (vi t), some (vi 1), some (vi 2), some (vi 1)]) (st' := [vi (max 1 0)]) (M' := M) rfl ?_
        refine Hx.ret rfl ?_
        exact ⟨some_vi (by unfold bcF; repeat (first | rw [if_pos (by omega)] | rw [if_neg (by omega)]); first | done | rfl | omega), rfl⟩
      · refine Hx.tab (tgt := 101) 5 rfl h14 rfl ?_
        refine Hx.run 2 (pc' := 103) (L' := [some (vi k), some (vi t), some (vi 1), some (vi 2), some (vi 1)]) (st' := [vi 5, vi t]) (M' := M) rfl ?_
        refine Hx.br (c := t < 5) (t := 106) (f := 110) rfl (fun h16 => ?_) (fun h16 => ?_)
        · skip
          refine Hx.run 2 (pc' := 111) (L' := [some (vi k), some (vi t), some (vi 1), some (vi 2), some (vi 1)]) (st' := [vi 0]) (M' := M) rfl ?_
          refine Hx.ret rfl ?_
          exact ⟨some_vi (by unfold bcF; repeat (first | rw [if_pos (by omega)] | rw [if_neg (by omega)]); first | done | rfl | omega), rfl⟩
        · skip
          refine Hx.run 1 (pc' := 111) (L' := [some (vi k), some (vi t), some (vi 1), some (vi 2), some (vi 1)]) (st' := [vi 1]) (M' := M) rfl ?_
          refine Hx.ret rfl ?_
          exact ⟨some_vi (by unfold bcF; repeat (first | rw [if_pos (by omega)] | rw [if_neg (by omega)]); first | done | rfl | omega), rfl⟩
      · refine Hx.tabD (tgt := 112) rfl h14 rfl ?_
        refine Hx.run 1 (pc' := 113) (L' := [some (vi k), some (vi t), some (vi 1), some (vi 2), some (vi 1)]) (st' := [vi 1]) (M' := M) rfl ?_
        refine Hx.ret rfl ?_
        exact ⟨some_vi (by unfold bcF; repeat (first | rw [if_pos (by omega)] | rw [if_neg (by omega)]); first | done | rfl | omega), rfl⟩
    · skip
      refine Hx.run 2 (pc' := 26) (L' := [some (vi k), some (vi t), some (vi 1), some (vi 2), none]) (st' := [vi 16, vi t, vi 1]) (M' := M) rfl ?_
      refine Hx.br (c := 16 < t) (t := 33) (f := 29) rfl (fun h17 => ?_) (fun h17 => ?_)
      · skip
        refine Hx.run 1 (pc' := 34) (L' := [some (vi k), some (vi t), some (vi 1), some (vi 2), none]) (st' := [vi 0, vi 1]) (M' := M) rfl ?_
        refine Hx.add rfl (by omega) ?_
        refine Hx.run 0 (pc' := 35) (L' := [some (vi k), some (vi t), some (vi 1), some (vi 2), none]) (st' := [vi 1]) (M' := M) rfl ?_
        refine Hx.run 2 (pc' := 38) (L' := [some (vi k), some (vi t), some (vi 1), some (vi 2), some (vi 1)]) (st' := [vi k]) (M' := M) rfl ?_
        rcases (show k = 1 ∨ k = 2 ∨ k = 3 ∨ k = 4 ∨ k = 5 ∨ (k < 1 ∨ 5 < k) by omega) with h18 | h18 | h18 | h18 | h18 | h18
        · refine Hx.tab (tgt := 72) 1 rfl h18 rfl ?_
          refine Hx.run 1 (pc' := 73) (L' := [some (vi k), some (vi t), some (vi 1), some (vi 2), some (vi 1)]) (st' := [vi 2]) (M' := M) rfl ?_
          refine Hx.ret rfl ?_
          exact ⟨some_vi (by unfold bcF; repeat (first | rw [if_pos (by omega)] | rw [if_neg (by omega)]); first | done | rfl | omega), rfl⟩
        · refine Hx.tab (tgt := 74) 2 rfl h18 rfl ?_
          refine Hx.run 3 (pc' := 78) (L' := [some (vi k), some (vi t), some (vi 1), some (vi 2), some (vi 1)]) (st' := [vi 6, vi t, vi 2]) (M' := M) rfl ?_
          refine Hx.rem rfl (by omega) ?_
          refine Hx.br (c := (t % 6) = 0) (t := 82) (f := 86) rfl (fun h19 => ?_) (fun h19 => ?_)
          · skip
            refine Hx.run 2 (pc' := 87) (L' := [some (vi k), some (vi t), some (vi 1), some (vi 2), some (vi 1)]) (st' := [vi 1, vi 2]) (M' := M) rfl ?_
            refine Hx.add rfl (by omega) ?_
            refine Hx.run 0 (pc' := 88) (L' := [some (vi k), some (vi t), some (vi 1), some (vi 2), some (vi 1)]) (st' := [vi 3]) (M' := M) rfl ?_
            refine Hx.ret rfl ?_
            exact ⟨some_vi (by unfold bcF; repeat (first | rw [if_pos (by omega)] | rw [if_neg (by omega)]); first | done | rfl | omega), rfl⟩
          · skip
            refine Hx.run 1 (pc' := 87) (L' := [some (vi k), some (vi t), some (vi 1), some (vi 2), some (vi 1)]) (st' := [vi 0, vi 2]) (M' := M) rfl ?_
            refine Hx.add rfl (by omega) ?_
            refine Hx.run 0 (pc' := 88) (L' := [some (vi k), some (vi t), some (vi 1), some (vi 2), some (vi 1)]) (st' := [vi 2]) (M' := M) rfl ?_
            refine Hx.ret rfl ?_
            exact ⟨some_vi (by unfold bcF; repeat (first | rw [if_pos (by omega)] | rw [if_neg (by omega)]); first | done | rfl | omega), rfl⟩
        · refine Hx.tab (tgt := 89) 3 rfl h18 rfl ?_
          refine Hx.run 1 (pc' := 91) (L' := [some (vi k), some (vi t), some (vi 1), some (vi 2), some (vi 1)]) (st' := [vi 1]) (M' := M) rfl ?_
          refine Hx.ret rfl ?_
          exact ⟨some_vi (by unfold bcF; repeat (first | rw [if_pos (by omega)] | rw [if_neg (by omega)]); first | done | rfl | omega), rfl⟩
        · refine Hx.tab (tgt := 92) 4 rfl h18 rfl ?_
          refine Hx.run 3 (pc' := 96) (L' := [some (vi k), some (vi t), some (vi 1), some (vi 2), some (vi 1)]) (st' := [vi 1, vi 1, vi 1]) (M' := M) rfl ?_
          refine Hx.sub rfl (by omega) ?_
          refine Hx.run 0 (pc' := 97) (L' := [some (vi k), some (vi t), some (vi 1), some (vi 2), some (vi 1)]) (st' := [vi 0, vi 1]) (M' := M) rfl ?_
          refine Hx.call (t := 225) (as := [vi 1, vi 0]) (pc' := 100) (rest := []) rfl (c_max 1 0 M) ?_
          rintro _ _ ⟨rfl, rfl⟩
          refine Hx.run 0 (pc' := 100) (L' := [some (vi k), some (vi t), some (vi 1), some (vi 2), some (vi 1)]) (st' := [vi (max 1 0)]) (M' := M) rfl ?_
          refine Hx.ret rfl ?_
          exact ⟨some_vi (by unfold bcF; repeat (first | rw [if_pos (by omega)] | rw [if_neg (by omega)]); first | done | rfl | omega), rfl⟩
        · refine Hx.tab (tgt := 101) 5 rfl h18 rfl ?_
          refine Hx.run 2 (pc' := 103) (L' := [some (vi k), some (vi t), some (vi 1), some (vi 2), some (vi 1)]) (st' := [vi 5, vi t]) (M' := M) rfl ?_
          refine Hx.br (c := t < 5) (t := 106) (f := 110) rfl (fun h20 => ?_) (fun h20 => ?_)
          · skip
            refine Hx.run 2 (pc' := 111) (L' := [some (vi k), some (vi t), some (vi 1), some (vi 2), some (vi 1)]) (st' := [vi 0]) (M' := M) rfl ?_
            refine Hx.ret rfl ?_
            exact ⟨some_vi (by unfold bcF; repeat (first | rw [if_pos (by omega)] | rw [if_neg (by omega)]); first | done | rfl | omega), rfl⟩
          · skip
            refine Hx.run 1 (pc' := 111) (L' := [some (vi k), some (vi t), some (vi 1), some (vi 2), some (vi 1)]) (st' := [vi 1]) (M' := M) rfl ?_
            refine Hx.ret rfl ?_
            exact ⟨some_vi (by unfold bcF; repeat (first | rw [if_pos (by omega)] | rw [if_neg (by omega)]); first | done | rfl | omega), rfl⟩
        · refine Hx.tabD (tgt := 112) rfl h18 rfl ?_
          refine Hx.run 1 (pc' := 113) (L' := [some (vi k), some (vi t), some (vi 1), some (vi 2), some (vi 1)]) (st' := [vi 1]) (M' := M) rfl ?_
          refine Hx.ret rfl ?_
          exact ⟨some_vi (by unfold bcF; repeat (first | rw [if_pos (by omega)] | rw [if_neg (by omega)]); first | done | rfl | omega), rfl⟩
      · skip
        refine Hx.run 2 (pc' := 34) (L' := [some (vi k), some (vi t), some (vi 1), some (vi 2), none]) (st' := [vi 2, vi 1]) (M' := M) rfl ?_
        refine Hx.add rfl (by omega) ?_
        refine Hx.run 0 (pc' := 35) (L' := [some (vi k), some (vi t), some (vi 1), some (vi 2), none]) (st' := [vi 3]) (M' := M) rfl ?_
        refine Hx.run 2 (pc' := 38) (L' := [some (vi k), some (vi t), some (vi 1), some (vi 2), some (vi 3)]) (st' := [vi k]) (M' := M) rfl ?_
        rcases (show k = 1 ∨ k = 2 ∨ k = 3 ∨ k = 4 ∨ k = 5 ∨ (k < 1 ∨ 5 < k) by omega) with h21 | h21 | h21 | h21 | h21 | h21
        · refine Hx.tab (tgt := 72) 1 rfl h21 rfl ?_
          refine Hx.run 1 (pc' := 73) (L' := [some (vi k), some (vi t), some (vi 1), some (vi 2), some (vi 3)]) (st' := [vi 2]) (M' := M) rfl ?_
          refine Hx.ret rfl ?_
          exact ⟨some_vi (by unfold bcF; repeat (first | rw [if_pos (by omega)] | rw [if_neg (by omega)]); first | done | rfl | omega), rfl⟩
        · refine Hx.tab (tgt := 74) 2 rfl h21 rfl ?_
          refine Hx.run 3 (pc' := 78) (L' := [some (vi k), some (vi t), some (vi 1), some (vi 2), some (vi 3)]) (st' := [vi 6, vi t, vi 2]) (M' := M) rfl ?_
          refine Hx.rem rfl (by omega) ?_
          refine Hx.br (c := (t % 6) = 0) (t := 82) (f := 86) rfl (fun h22 => ?_) (fun h22 => ?_)
          · skip
            refine Hx.run 2 (pc' := 87) (L' := [some (vi k), some (vi t), some (vi 1), some (vi 2), some (vi 3)]) (st' := [vi 1, vi 2]) (M' := M) rfl ?_
            refine Hx.add rfl (by omega) ?_
            refine Hx.run 0 (pc' := 88) (L' := [some (vi k), some (vi t), some (vi 1), some (vi 2), some (vi 3)]) (st' := [vi 3]) (M' := M) rfl ?_
            refine Hx.ret rfl ?_
            exact ⟨some_vi (by unfold bcF; repeat (first | rw [if_pos (by omega)] | rw [if_neg (by omega)]); first | done | rfl | omega), rfl⟩
          · skip
            refine Hx.run 1 (pc' := 87) (L' := [some (vi k), some (vi t), some (vi 1), some (vi 2), some (vi 3)]) (st' := [vi 0, vi 2]) (M' := M) rfl ?_
            refine Hx.add rfl (by omega) ?_
            refine Hx.run 0 (pc' := 88) (L' := [some (vi k), some (vi t), some (vi 1), some (vi 2), some (vi 3)]) (st' := [vi 2]) (M' := M) rfl ?_
            refine Hx.ret rfl ?_
            exact ⟨some_vi (by unfold bcF; repeat (first | rw [if_pos (by omega)] | rw [if_neg (by omega)]); first | done | rfl | omega), rfl⟩
        · refine Hx.tab (tgt := 89) 3 rfl h21 rfl ?_
          refine Hx.run 1 (pc' := 91) (L' := [some (vi k), some (vi t), some (vi 1), some (vi 2), some (vi 3)]) (st' := [vi 3]) (M' := M) rfl ?_
          refine Hx.ret rfl ?_
          exact ⟨some_vi (by unfold bcF; repeat (first | rw [if_pos (by omega)] | rw [if_neg (by omega)]); first | done | rfl | omega), rfl⟩
        · refine Hx.tab (tgt := 92) 4 rfl h21 rfl ?_
          refine Hx.run 3 (pc' := 96) (L' := [some (vi k), some (vi t), some (vi 1), some (vi 2), some (vi 3)]) (st' := [vi 1, vi 3, vi 1]) (M' := M) rfl ?_
          refine Hx.sub rfl (by omega) ?_
          refine Hx.run 0 (pc' := 97) (L' := [some (vi k), some (vi t), some (vi 1), some (vi 2), some (vi 3)]) (st' := [vi 2, vi 1]) (M' := M) rfl ?_
          refine Hx.call (t := 225) (as := [vi 1, vi 2]) (pc' := 100) (rest := []) rfl (c_max 1 2 M) ?_
          rintro _ _ ⟨rfl, rfl⟩
          refine Hx.run 0 (pc' := 100) (L' := [some (vi k), some (vi t), some (vi 1), some (vi 2), some (vi 3)]) (st' := [vi (max 1 2)]) (M' := M) rfl ?_
          refine Hx.ret rfl ?_
          exact ⟨some_vi (by unfold bcF; repeat (first | rw [if_pos (by omega)] | rw [if_neg (by omega)]); first | done | rfl | omega), rfl⟩
        · refine Hx.tab (tgt := 101) 5 rfl h21 rfl ?_
          refine Hx.run 2 (pc' := 103) (L' := [some (vi k), some (vi t), some (vi 1), some (vi 2), some (vi 3)]) (st' := [vi 5, vi t]) (M' := M) rfl ?_
          refine Hx.br (c := t < 5) (t := 106) (f := 110) rfl (fun h23 => ?_) (fun h23 => ?_)
          · skip
            refine Hx.run 2 (pc' := 111) (L' := [some (vi k), some (vi t), some (vi 1), some (vi 2), some (vi 3)]) (st' := [vi 0]) (M' := M) rfl ?_
            refine Hx.ret rfl ?_
            exact ⟨some_vi (by unfold bcF; repeat (first | rw [if_pos (by omega)] | rw [if_neg (by omega)]); first | done | rfl | omega), rfl⟩
          · skip
            refine Hx.run 1 (pc' := 111) (L' := [some (vi k), some (vi t), some (vi 1), some (vi 2), some (vi 3)]) (st' := [vi 1]) (M' := M) rfl ?_
            refine Hx.ret rfl ?_
            exact ⟨some_vi (by unfold bcF; repeat (first | rw [if_pos (by omega)] | rw [if_neg (by omega)]); first | done | rfl | omega), rfl⟩
        · refine Hx.tabD (tgt := 112) rfl h21 rfl ?_
          refine Hx.run 1 (pc' := 113) (L' := [some (vi k), some (vi t), some (vi 1), some (vi 2), some (vi 3)]) (st' := [vi 1]) (M' := M) rfl ?_
          refine Hx.ret rfl ?_
          exact ⟨some_vi (by unfold bcF; repeat (first | rw [if_pos (by omega)] | rw [if_neg (by omega)]); first | done | rfl | omega), rfl⟩
set_option maxRecDepth 100000 in
set_option maxHeartbeats 4000000 in
theorem c_strideOf (k l x t : Int) (M : Mm) (hk : 0 ≤ k ∧ k ≤ 5) (hl : 1 ≤ l ∧ l ≤ 4) (hx : 0 ≤ x ∧ x ≤ 9) (ht : 0 ≤ t ∧ t < 24) : Ct 129 [vi k, vi l, vi x, vi t] M (fun q0 M' => q0 = some (vi (sfF k l x t)) ∧ M = M') := by
  refine Hx.run 4 (pc' := 6) (L' := [some (vi k), some (vi l), some (vi x), some (vi t), some (vi l), none, none]) (st' := [vi 1, vi l]) (M' := M) rfl ?_
  refine Hx.add rfl (by omega) ?_
  refine Hx.run 1 (pc' := 8) (L' := [some (vi k), some (vi l), some (vi x), some (vi t), some (vi l), none, none]) (st' := [vi 2, vi (l + 1)]) (M' := M) rfl ?_
  refine Hx.div rfl (by omega) ?_
  refine Hx.run 5 (pc' := 16) (L' := [some (vi k), some (vi l), some (vi x), some (vi t), some (vi l), some (vi ((l + 1) / 2)), none]) (st' := [vi 3, vi x, vi l, vi 1]) (M' := M) rfl ?_
  refine Hx.div rfl (by omega) ?_
  refine Hx.sub rfl (by omega) ?_
  refine Hx.call (t := 225) (as := [vi 1, vi (l - (x / 3))]) (pc' := 21) (rest := []) rfl (c_max 1 (l - (x / 3)) M) ?_
  rintro _ _ ⟨rfl, rfl⟩
  refine Hx.run 0 (pc' := 21) (L' := [some (vi k), some (vi l), some (vi x), some (vi t), some (vi l), some (vi ((l + 1) / 2)), none]) (st' := [vi (max 1 (l - (x / 3)))]) (M' := M) rfl ?_
  refine Hx.run 2 (pc' := 24) (L' := [some (vi k), some (vi l), some (vi x), some (vi t), some (vi l), some (vi ((l + 1) / 2)), some (vi (max 1 (l - (x / 3))))]) (st' := [vi k]) (M' := M) rfl ?_
  rcases (show k = 1 ∨ k = 2 ∨ k = 3 ∨ k = 4 ∨ k = 5 ∨ (k < 1 ∨ 5 < k) by omega) with h1 | h1 | h1 | h1 | h1 | h1
  · refine Hx.tab (tgt := 60) 1 rfl h1 rfl ?_
    refine Hx.run 1 (pc' := 62) (L' := [some (vi k), some (vi l), some (vi x), some (vi t), some (vi l), some (vi ((l + 1) / 2)), some (vi (max 1 (l - (x / 3))))]) (st' := [vi ((l + 1) / 2)]) (M' := M) rfl ?_
    refine Hx.ret rfl ?_
    exact ⟨some_vi (by unfold sfF; repeat (first | rw [if_pos (by omega)] | rw [if_neg (by omega)]); first | done | rfl | omega), rfl⟩
  · refine Hx.tab (tgt := 63) 2 rfl h1 rfl ?_
    refine Hx.run 1 (pc' := 65) (L' := [some (vi k), some (vi l), some (vi x), some (vi t), some (vi l), some (vi ((l + 1) / 2)), some (vi (max 1 (l - (x / 3))))]) (st' := [vi (max 1 (l - (x / 3)))]) (M' := M) rfl ?_
    refine Hx.ret rfl ?_
    exact ⟨some_vi (by unfold sfF; repeat (first | rw [if_pos (by omega)] | rw [if_neg (by omega)]); first | done | rfl | omega), rfl⟩
  · refine Hx.tab (tgt := 66) 3 rfl h1 rfl ?_
    refine Hx.run 2 (pc' := 69) (L' := [some (vi k), some (vi l), some (vi x), some (vi t), some (vi l), some (vi ((l + 1) / 2)), some (vi (max 1 (l - (x / 3))))]) (st' := [vi (max 1 (l - (x / 3))), vi 2]) (M' := M) rfl ?_
    refine Hx.call (t := 226) (as := [vi 2, vi (max 1 (l - (x / 3)))]) (pc' := 72) (rest := []) rfl (c_min 2 (max 1 (l - (x / 3))) M) ?_
    rintro _ _ ⟨rfl, rfl⟩
    refine Hx.run 0 (pc' := 72) (L' := [some (vi k), some (vi l), some (vi x), some (vi t), some (vi l), some (vi ((l + 1) / 2)), some (vi (max 1 (l - (x / 3))))]) (st' := [vi (min 2 (max 1 (l - (x / 3))))]) (M' := M) rfl ?_
    refine Hx.ret rfl ?_
    exact ⟨some_vi (by unfold sfF; repeat (first | rw [if_pos (by omega)] | rw [if_neg (by omega)]); first | done | rfl | omega), rfl⟩
  · refine Hx.tab (tgt := 73) 4 rfl h1 rfl ?_
    refine Hx.run 3 (pc' := 78) (L' := [some (vi k), some (vi l), some (vi x), some (vi t), some (vi l), some (vi ((l + 1) / 2)), some (vi (max 1 (l - (x / 3))))]) (st' := [vi 18, vi t, vi l]) (M' := M) rfl ?_
    refine Hx.br (c := t < 18) (t := 85) (f := 81) rfl (fun h2 => ?_) (fun h2 => ?_)
    · skip
      refine Hx.run 1 (pc' := 86) (L' := [some (vi k), some (vi l), some (vi x), some (vi t), some (vi l), some (vi ((l + 1) / 2)), some (vi (max 1 (l - (x / 3))))]) (st' := [vi 0, vi l]) (M' := M) rfl ?_
      refine Hx.add rfl (by omega) ?_
      refine Hx.ret rfl ?_
      exact ⟨some_vi (by unfold sfF; repeat (first | rw [if_pos (by omega)] | rw [if_neg (by omega)]); first | done | rfl | omega), rfl⟩
    · skip
      refine Hx.run 2 (pc' := 86) (L' := [some (vi k), some (vi l), some (vi x), some (vi t), some (vi l), some (vi ((l + 1) / 2)), some (vi (max 1 (l - (x / 3))))]) (st' := [vi 1, vi l]) (M' := M) rfl ?_
      refine Hx.add rfl (by omega) ?_
      refine Hx.ret rfl ?_
      exact ⟨some_vi (by unfold sfF; repeat (first | rw [if_pos (by omega)] | rw [if_neg (by omega)]); first | done | rfl | omega), rfl⟩
  · refine Hx.tab (tgt := 88) 5 rfl h1 rfl ?_
    refine Hx.run 2 (pc' := 91) (L' := [some (vi k), some (vi l), some (vi x), some (vi t), some (vi l), some (vi ((l + 1) / 2)), some (vi (max 1 (l - (x / 3))))]) (st' := [vi 8, vi t]) (M' := M) rfl ?_
    refine Hx.br (c := t < 8) (t := 94) (f := 98) rfl (fun h3 => ?_) (fun h3 => ?_)
    · skip
      refine Hx.run 2 (pc' := 100) (L' := [some (vi k), some (vi l), some (vi x), some (vi t), some (vi l), some (vi ((l + 1) / 2)), some (vi (max 1 (l - (x / 3))))]) (st' := [vi 1]) (M' := M) rfl ?_
      refine Hx.ret rfl ?_
      exact ⟨some_vi (by unfold sfF; repeat (first | rw [if_pos (by omega)] | rw [if_neg (by omega)]); first | done | rfl | omega), rfl⟩
    · skip
      refine Hx.run 1 (pc' := 100) (L' := [some (vi k), some (vi l), some (vi x), some (vi t), some (vi l), some (vi ((l + 1) / 2)), some (vi (max 1 (l - (x / 3))))]) (st' := [vi ((l + 1) / 2)]) (M' := M) rfl ?_
      refine Hx.ret rfl ?_
      exact ⟨some_vi (by unfold sfF; repeat (first | rw [if_pos (by omega)] | rw [if_neg (by omega)]); first | done | rfl | omega), rfl⟩
  · refine Hx.tabD (tgt := 101) rfl h1 rfl ?_
    refine Hx.run 1 (pc' := 103) (L' := [some (vi k), some (vi l), some (vi x), some (vi t), some (vi l), some (vi ((l + 1) / 2)), some (vi (max 1 (l - (x / 3))))]) (st' := [vi l]) (M' := M) rfl ?_
    refine Hx.ret rfl ?_
    exact ⟨some_vi (by unfold sfF; repeat (first | rw [if_pos (by omega)] | rw [if_neg (by omega)]); first | done | rfl | omega), rfl⟩
set_option maxRecDepth 100000 in
theorem c_hasFlight_1 (x : Int) (M : Mm) : Ct 7 [vr 1, vi x] M (fun q0 M' => ((0 ≤ x ∧ x < M 1 0) ∧ q0 = some (vi 1) ∧ M = M') ∨ (¬ (0 ≤ x ∧ x < M 1 0) ∧ q0 = some (vi 0) ∧ M = M')) := by
  refine Hx.run 1 (pc' := 1) (L' := [some (vr 1), some (vi x)]) (st' := [vi x]) (M' := M) rfl ?_
  refine Hx.br (c := x < 0) (t := 16) (f := 4) rfl (fun h1 => ?_) (fun h1 => ?_)
  · skip
    refine Hx.run 1 (pc' := 17) (L' := [some (vr 1), some (vi x)]) (st' := [vi 0]) (M' := M) rfl ?_
    refine Hx.ret rfl ?_
    first | exact Or.inl ⟨by omega, rfl, rfl⟩ | exact Or.inr ⟨by omega, rfl, rfl⟩
  · skip
    refine Hx.run 3 (pc' := 9) (L' := [some (vr 1), some (vi x)]) (st' := [vi (M 1 0), vi x]) (M' := M) rfl ?_
    refine Hx.br (c := x < (M 1 0)) (t := 12) (f := 16) rfl (fun h2 => ?_) (fun h2 => ?_)
    · skip
      refine Hx.run 2 (pc' := 17) (L' := [some (vr 1), some (vi x)]) (st' := [vi 1]) (M' := M) rfl ?_
      refine Hx.ret rfl ?_
      first | exact Or.inl ⟨by omega, rfl, rfl⟩ | exact Or.inr ⟨by omega, rfl, rfl⟩
    · skip
      refine Hx.run 1 (pc' := 17) (L' := [some (vr 1), some (vi x)]) (st' := [vi 0]) (M' := M) rfl ?_
      refine Hx.ret rfl ?_
      first | exact Or.inl ⟨by omega, rfl, rfl⟩ | exact Or.inr ⟨by omega, rfl, rfl⟩
set_option maxRecDepth 100000 in
theorem c_hasGoer_1 (x : Int) (M : Mm) : Ct 8 [vr 1, vi x] M (fun q0 M' => ((0 ≤ x ∧ x < M 1 1) ∧ q0 = some (vi 1) ∧ M = M') ∨ (¬ (0 ≤ x ∧ x < M 1 1) ∧ q0 = some (vi 0) ∧ M = M')) := by
  refine Hx.run 1 (pc' := 1) (L' := [some (vr 1), some (vi x)]) (st' := [vi x]) (M' := M) rfl ?_
  refine Hx.br (c := x < 0) (t := 16) (f := 4) rfl (fun h1 => ?_) (fun h1 => ?_)
  · skip
    refine Hx.run 1 (pc' := 17) (L' := [some (vr 1), some (vi x)]) (st' := [vi 0]) (M' := M) rfl ?_
    refine Hx.ret rfl ?_
    first | exact Or.inl ⟨by omega, rfl, rfl⟩ | exact Or.inr ⟨by omega, rfl, rfl⟩
  · skip
    refine Hx.run 3 (pc' := 9) (L' := [some (vr 1), some (vi x)]) (st' := [vi (M 1 1), vi x]) (M' := M) rfl ?_
    refine Hx.br (c := x < (M 1 1)) (t := 12) (f := 16) rfl (fun h2 => ?_) (fun h2 => ?_)
    · skip
      refine Hx.run 2 (pc' := 17) (L' := [some (vr 1), some (vi x)]) (st' := [vi 1]) (M' := M) rfl ?_
      refine Hx.ret rfl ?_
      first | exact Or.inl ⟨by omega, rfl, rfl⟩ | exact Or.inr ⟨by omega, rfl, rfl⟩
    · skip
      refine Hx.run 1 (pc' := 17) (L' := [some (vr 1), some (vi x)]) (st' := [vi 0]) (M' := M) rfl ?_
      refine Hx.ret rfl ?_
      first | exact Or.inl ⟨by omega, rfl, rfl⟩ | exact Or.inr ⟨by omega, rfl, rfl⟩
set_option maxRecDepth 100000 in
theorem c_setOwnerStep_1 (x v : Int) (M : Mm) (hx : 0 ≤ x ∧ x < 3) : Ct 15 [vr 1, vi x, vi v] M (fun q0 M' => q0 = none ∧ up M 6 (12 + x) v = M') := by
  refine Hx.run 4 (pc' := 7) (L' := [some (vr 1), some (vi x), some (vi v)]) (st' := [vi x, vi 12, vr 6]) (M' := M) rfl ?_
  refine Hx.add rfl (by omega) ?_
  refine Hx.run 1 (pc' := 9) (L' := [some (vr 1), some (vi x), some (vi v)]) (st' := [vi v, vi (12 + x), vr 6]) (M' := M) rfl ?_
  refine Hx.call (t := 122) (as := [vr 6, vi (12 + x), vi v]) (pc' := 12) (rest := []) rfl (c_put (r := 6) (n := 17) rfl (by decide) (i := (12 + x)) (by omega) v M) ?_
  rintro _ _ ⟨rfl, rfl⟩
  refine Hx.run 0 (pc' := 12) (L' := [some (vr 1), some (vi x), some (vi v)]) (st' := []) (M' := (up M 6 (12 + x) v)) rfl ?_
  refine Hx.ret rfl ?_
  exact ⟨rfl, rfl⟩
set_option maxRecDepth 100000 in
theorem c_setStep_1 (x v : Int) (M : Mm) (hx : 0 ≤ x ∧ x < 6) : Ct 19 [vr 1, vi x, vi v] M (fun q0 M' => q0 = none ∧ up M 6 x v = M') := by
  refine Hx.run 4 (pc' := 6) (L' := [some (vr 1), some (vi x), some (vi v)]) (st' := [vi x, vi 0, vr 6]) (M' := M) rfl ?_
  refine Hx.add0 rfl (by omega) ?_
  refine Hx.run 1 (pc' := 8) (L' := [some (vr 1), some (vi x), some (vi v)]) (st' := [vi v, vi x, vr 6]) (M' := M) rfl ?_
  refine Hx.call (t := 122) (as := [vr 6, vi x, vi v]) (pc' := 11) (rest := []) rfl (c_put (r := 6) (n := 17) rfl (by decide) (i := x) (by omega) v M) ?_
  rintro _ _ ⟨rfl, rfl⟩
  refine Hx.run 0 (pc' := 11) (L' := [some (vr 1), some (vi x), some (vi v)]) (st' := []) (M' := (up M 6 x v)) rfl ?_
  refine Hx.ret rfl ?_
  exact ⟨rfl, rfl⟩
set_option maxRecDepth 100000 in
theorem c_setLoad_1 (x v : Int) (M : Mm) (hx : 0 ≤ x ∧ x < 6) : Ct 21 [vr 1, vi x, vi v] M (fun q0 M' => q0 = none ∧ up M 6 (6 + x) v = M') := by
  refine Hx.run 4 (pc' := 7) (L' := [some (vr 1), some (vi x), some (vi v)]) (st' := [vi x, vi 6, vr 6]) (M' := M) rfl ?_
  refine Hx.add rfl (by omega) ?_
  refine Hx.run 1 (pc' := 9) (L' := [some (vr 1), some (vi x), some (vi v)]) (st' := [vi v, vi (6 + x), vr 6]) (M' := M) rfl ?_
  refine Hx.call (t := 122) (as := [vr 6, vi (6 + x), vi v]) (pc' := 12) (rest := []) rfl (c_put (r := 6) (n := 17) rfl (by decide) (i := (6 + x)) (by omega) v M) ?_
  rintro _ _ ⟨rfl, rfl⟩
  refine Hx.run 0 (pc' := 12) (L' := [some (vr 1), some (vi x), some (vi v)]) (st' := []) (M' := (up M 6 (6 + x) v)) rfl ?_
  refine Hx.ret rfl ?_
  exact ⟨rfl, rfl⟩
set_option maxRecDepth 100000 in
theorem c_hourOfDay_1 (M : Mm) (hx : 0 ≤ M 6 16 ∧ M 6 16 ≤ 9999) : Ct 24 [vr 1] M (fun q0 M' => q0 = some (vi (M 6 16 % 24)) ∧ M = M') := by
  refine Hx.run 3 (pc' := 6) (L' := [some (vr 1)]) (st' := [vi 16, vr 6]) (M' := M) rfl ?_
  refine Hx.call (t := 121) (as := [vr 6, vi 16]) (pc' := 9) (rest := []) rfl (c_at (r := 6) (n := 17) rfl (by decide) (i := 16) (by omega) M) ?_
  rintro _ _ ⟨rfl, rfl⟩
  refine Hx.run 0 (pc' := 9) (L' := [some (vr 1)]) (st' := [vi (M 6 16)]) (M' := M) rfl ?_
  refine Hx.run 1 (pc' := 11) (L' := [some (vr 1)]) (st' := [vi 24, vi (M 6 16)]) (M' := M) rfl ?_
  refine Hx.rem rfl (by omega) ?_
  refine Hx.ret rfl ?_
  exact ⟨rfl, rfl⟩
set_option maxRecDepth 100000 in
theorem c_isOver_1 (x : Int) (M : Mm) (hx : 0 ≤ x ∧ x < 6) : Ct 26 [vr 1, vi x] M (fun q0 M' => ((11 ≤ M 6 x) ∧ q0 = some (vi 1) ∧ M = M') ∨ (¬ (11 ≤ M 6 x) ∧ q0 = some (vi 0) ∧ M = M')) := by
  refine Hx.run 2 (pc' := 2) (L' := [some (vr 1), some (vi x)]) (st' := [vi x, vr 1]) (M' := M) rfl ?_
  refine Hx.call (t := 18) (as := [vr 1, vi x]) (pc' := 5) (rest := []) rfl (c_stepOf_1 x (by omega) M) ?_
  rintro _ _ ⟨rfl, rfl⟩
  refine Hx.run 0 (pc' := 5) (L' := [some (vr 1), some (vi x)]) (st' := [vi (M 6 x)]) (M' := M) rfl ?_
  refine Hx.run 1 (pc' := 7) (L' := [some (vr 1), some (vi x)]) (st' := [vi 11, vi (M 6 x)]) (M' := M) rfl ?_
  refine Hx.br (c := (M 6 x) < 11) (t := 14) (f := 10) rfl (fun h1 => ?_) (fun h1 => ?_)
  · skip
    refine Hx.run 1 (pc' := 15) (L' := [some (vr 1), some (vi x)]) (st' := [vi 0]) (M' := M) rfl ?_
    refine Hx.ret rfl ?_
    first | exact Or.inl ⟨by omega, rfl, rfl⟩ | exact Or.inr ⟨by omega, rfl, rfl⟩
  · skip
    refine Hx.run 2 (pc' := 15) (L' := [some (vr 1), some (vi x)]) (st' := [vi 1]) (M' := M) rfl ?_
    refine Hx.ret rfl ?_
    first | exact Or.inl ⟨by omega, rfl, rfl⟩ | exact Or.inr ⟨by omega, rfl, rfl⟩
set_option maxRecDepth 100000 in
theorem c_hasFlight_40 (x : Int) (M : Mm) : Ct 7 [vr 40, vi x] M (fun q0 M' => ((0 ≤ x ∧ x < M 40 0) ∧ q0 = some (vi 1) ∧ M = M') ∨ (¬ (0 ≤ x ∧ x < M 40 0) ∧ q0 = some (vi 0) ∧ M = M')) := by
  refine Hx.run 1 (pc' := 1) (L' := [some (vr 40), some (vi x)]) (st' := [vi x]) (M' := M) rfl ?_
  refine Hx.br (c := x < 0) (t := 16) (f := 4) rfl (fun h1 => ?_) (fun h1 => ?_)
  · skip
    refine Hx.run 1 (pc' := 17) (L' := [some (vr 40), some (vi x)]) (st' := [vi 0]) (M' := M) rfl ?_
    refine Hx.ret rfl ?_
    first | exact Or.inl ⟨by omega, rfl, rfl⟩ | exact Or.inr ⟨by omega, rfl, rfl⟩
  · skip
    refine Hx.run 3 (pc' := 9) (L' := [some (vr 40), some (vi x)]) (st' := [vi (M 40 0), vi x]) (M' := M) rfl ?_
    refine Hx.br (c := x < (M 40 0)) (t := 12) (f := 16) rfl (fun h2 => ?_) (fun h2 => ?_)
    · skip
      refine Hx.run 2 (pc' := 17) (L' := [some (vr 40), some (vi x)]) (st' := [vi 1]) (M' := M) rfl ?_
      refine Hx.ret rfl ?_
      first | exact Or.inl ⟨by omega, rfl, rfl⟩ | exact Or.inr ⟨by omega, rfl, rfl⟩
    · skip
      refine Hx.run 1 (pc' := 17) (L' := [some (vr 40), some (vi x)]) (st' := [vi 0]) (M' := M) rfl ?_
      refine Hx.ret rfl ?_
      first | exact Or.inl ⟨by omega, rfl, rfl⟩ | exact Or.inr ⟨by omega, rfl, rfl⟩
set_option maxRecDepth 100000 in
theorem c_hasGoer_40 (x : Int) (M : Mm) : Ct 8 [vr 40, vi x] M (fun q0 M' => ((0 ≤ x ∧ x < M 40 1) ∧ q0 = some (vi 1) ∧ M = M') ∨ (¬ (0 ≤ x ∧ x < M 40 1) ∧ q0 = some (vi 0) ∧ M = M')) := by
  refine Hx.run 1 (pc' := 1) (L' := [some (vr 40), some (vi x)]) (st' := [vi x]) (M' := M) rfl ?_
  refine Hx.br (c := x < 0) (t := 16) (f := 4) rfl (fun h1 => ?_) (fun h1 => ?_)
  · skip
    refine Hx.run 1 (pc' := 17) (L' := [some (vr 40), some (vi x)]) (st' := [vi 0]) (M' := M) rfl ?_
    refine Hx.ret rfl ?_
    first | exact Or.inl ⟨by omega, rfl, rfl⟩ | exact Or.inr ⟨by omega, rfl, rfl⟩
  · skip
    refine Hx.run 3 (pc' := 9) (L' := [some (vr 40), some (vi x)]) (st' := [vi (M 40 1), vi x]) (M' := M) rfl ?_
    refine Hx.br (c := x < (M 40 1)) (t := 12) (f := 16) rfl (fun h2 => ?_) (fun h2 => ?_)
    · skip
      refine Hx.run 2 (pc' := 17) (L' := [some (vr 40), some (vi x)]) (st' := [vi 1]) (M' := M) rfl ?_
      refine Hx.ret rfl ?_
      first | exact Or.inl ⟨by omega, rfl, rfl⟩ | exact Or.inr ⟨by omega, rfl, rfl⟩
    · skip
      refine Hx.run 1 (pc' := 17) (L' := [some (vr 40), some (vi x)]) (st' := [vi 0]) (M' := M) rfl ?_
      refine Hx.ret rfl ?_
      first | exact Or.inl ⟨by omega, rfl, rfl⟩ | exact Or.inr ⟨by omega, rfl, rfl⟩
set_option maxRecDepth 100000 in
theorem c_setOwnerStep_40 (x v : Int) (M : Mm) (hx : 0 ≤ x ∧ x < 3) : Ct 15 [vr 40, vi x, vi v] M (fun q0 M' => q0 = none ∧ up M 45 (12 + x) v = M') := by
  refine Hx.run 4 (pc' := 7) (L' := [some (vr 40), some (vi x), some (vi v)]) (st' := [vi x, vi 12, vr 45]) (M' := M) rfl ?_
  refine Hx.add rfl (by omega) ?_
  refine Hx.run 1 (pc' := 9) (L' := [some (vr 40), some (vi x), some (vi v)]) (st' := [vi v, vi (12 + x), vr 45]) (M' := M) rfl ?_
  refine Hx.call (t := 122) (as := [vr 45, vi (12 + x), vi v]) (pc' := 12) (rest := []) rfl (c_put (r := 45) (n := 17) rfl (by decide) (i := (12 + x)) (by omega) v M) ?_
  rintro _ _ ⟨rfl, rfl⟩
  refine Hx.run 0 (pc' := 12) (L' := [some (vr 40), some (vi x), some (vi v)]) (st' := []) (M' := (up M 45 (12 + x) v)) rfl ?_
  refine Hx.ret rfl ?_
  exact ⟨rfl, rfl⟩
set_option maxRecDepth 100000 in
theorem c_setStep_40 (x v : Int) (M : Mm) (hx : 0 ≤ x ∧ x < 6) : Ct 19 [vr 40, vi x, vi v] M (fun q0 M' => q0 = none ∧ up M 45 x v = M') := by
  refine Hx.run 4 (pc' := 6) (L' := [some (vr 40), some (vi x), some (vi v)]) (st' := [vi x, vi 0, vr 45]) (M' := M) rfl ?_
  refine Hx.add0 rfl (by omega) ?_
  refine Hx.run 1 (pc' := 8) (L' := [some (vr 40), some (vi x), some (vi v)]) (st' := [vi v, vi x, vr 45]) (M' := M) rfl ?_
  refine Hx.call (t := 122) (as := [vr 45, vi x, vi v]) (pc' := 11) (rest := []) rfl (c_put (r := 45) (n := 17) rfl (by decide) (i := x) (by omega) v M) ?_
  rintro _ _ ⟨rfl, rfl⟩
  refine Hx.run 0 (pc' := 11) (L' := [some (vr 40), some (vi x), some (vi v)]) (st' := []) (M' := (up M 45 x v)) rfl ?_
  refine Hx.ret rfl ?_
  exact ⟨rfl, rfl⟩
set_option maxRecDepth 100000 in
theorem c_setLoad_40 (x v : Int) (M : Mm) (hx : 0 ≤ x ∧ x < 6) : Ct 21 [vr 40, vi x, vi v] M (fun q0 M' => q0 = none ∧ up M 45 (6 + x) v = M') := by
  refine Hx.run 4 (pc' := 7) (L' := [some (vr 40), some (vi x), some (vi v)]) (st' := [vi x, vi 6, vr 45]) (M' := M) rfl ?_
  refine Hx.add rfl (by omega) ?_
  refine Hx.run 1 (pc' := 9) (L' := [some (vr 40), some (vi x), some (vi v)]) (st' := [vi v, vi (6 + x), vr 45]) (M' := M) rfl ?_
  refine Hx.call (t := 122) (as := [vr 45, vi (6 + x), vi v]) (pc' := 12) (rest := []) rfl (c_put (r := 45) (n := 17) rfl (by decide) (i := (6 + x)) (by omega) v M) ?_
  rintro _ _ ⟨rfl, rfl⟩
  refine Hx.run 0 (pc' := 12) (L' := [some (vr 40), some (vi x), some (vi v)]) (st' := []) (M' := (up M 45 (6 + x) v)) rfl ?_
  refine Hx.ret rfl ?_
  exact ⟨rfl, rfl⟩
set_option maxRecDepth 100000 in
theorem c_hourOfDay_40 (M : Mm) (hx : 0 ≤ M 45 16 ∧ M 45 16 ≤ 9999) : Ct 24 [vr 40] M (fun q0 M' => q0 = some (vi (M 45 16 % 24)) ∧ M = M') := by
  refine Hx.run 3 (pc' := 6) (L' := [some (vr 40)]) (st' := [vi 16, vr 45]) (M' := M) rfl ?_
  refine Hx.call (t := 121) (as := [vr 45, vi 16]) (pc' := 9) (rest := []) rfl (c_at (r := 45) (n := 17) rfl (by decide) (i := 16) (by omega) M) ?_
  rintro _ _ ⟨rfl, rfl⟩
  refine Hx.run 0 (pc' := 9) (L' := [some (vr 40)]) (st' := [vi (M 45 16)]) (M' := M) rfl ?_
  refine Hx.run 1 (pc' := 11) (L' := [some (vr 40)]) (st' := [vi 24, vi (M 45 16)]) (M' := M) rfl ?_
  refine Hx.rem rfl (by omega) ?_
  refine Hx.ret rfl ?_
  exact ⟨rfl, rfl⟩
set_option maxRecDepth 100000 in
theorem c_isOver_40 (x : Int) (M : Mm) (hx : 0 ≤ x ∧ x < 6) : Ct 26 [vr 40, vi x] M (fun q0 M' => ((11 ≤ M 45 x) ∧ q0 = some (vi 1) ∧ M = M') ∨ (¬ (11 ≤ M 45 x) ∧ q0 = some (vi 0) ∧ M = M')) := by
  refine Hx.run 2 (pc' := 2) (L' := [some (vr 40), some (vi x)]) (st' := [vi x, vr 40]) (M' := M) rfl ?_
  refine Hx.call (t := 18) (as := [vr 40, vi x]) (pc' := 5) (rest := []) rfl (c_stepOf_40 x (by omega) M) ?_
  rintro _ _ ⟨rfl, rfl⟩
  refine Hx.run 0 (pc' := 5) (L' := [some (vr 40), some (vi x)]) (st' := [vi (M 45 x)]) (M' := M) rfl ?_
  refine Hx.run 1 (pc' := 7) (L' := [some (vr 40), some (vi x)]) (st' := [vi 11, vi (M 45 x)]) (M' := M) rfl ?_
  refine Hx.br (c := (M 45 x) < 11) (t := 14) (f := 10) rfl (fun h1 => ?_) (fun h1 => ?_)
  · skip
    refine Hx.run 1 (pc' := 15) (L' := [some (vr 40), some (vi x)]) (st' := [vi 0]) (M' := M) rfl ?_
    refine Hx.ret rfl ?_
    first | exact Or.inl ⟨by omega, rfl, rfl⟩ | exact Or.inr ⟨by omega, rfl, rfl⟩
  · skip
    refine Hx.run 2 (pc' := 15) (L' := [some (vr 40), some (vi x)]) (st' := [vi 1]) (M' := M) rfl ?_
    refine Hx.ret rfl ?_
    first | exact Or.inl ⟨by omega, rfl, rfl⟩ | exact Or.inr ⟨by omega, rfl, rfl⟩
end
section
/-! bits; copies; the moving members of a house (written by wip/whole/gen15.py) -/
theorem s_l9 : ∀ n, n < 32 → ((nI n &&& 31).toBitVec.smod 32).toNat = n := by decide +kernel
theorem shr32 {a p : Int} (ha : 0 ≤ a ∧ a < 2147483648) (hp : 0 ≤ p ∧ p < 32) : i2 fshr a p = a / 2 ^ p.toNat := by
  obtain ⟨n, rfl⟩ : ∃ n : Nat, a = n := ⟨a.toNat, by omega⟩
  obtain ⟨k, rfl⟩ : ∃ k : Nat, p = k := ⟨p.toNat, by omega⟩
  have hn : n < 2 ^ 31 := by omega
  have h := pk_shrN (n := n) hn (nI k &&& 31) k (s_l9 k (by omega))
  have hq : n / 2 ^ k ≤ n := Nat.div_le_self n _
  unfold i2 fshr
  rw [Int32.ofInt_eq_ofNat, Int32.ofInt_eq_ofNat]
  show (nI n >>> (nI k &&& 31)).toInt = _
  rw [h, nI_toInt (by omega)]
  simp
theorem and1 {a : Int} (ha : 0 ≤ a ∧ a < 2147483648) : i2 fand a 1 = a % 2 := by
  obtain ⟨n, rfl⟩ : ∃ n : Nat, a = n := ⟨a.toNat, by omega⟩
  have hn : n < 2 ^ 32 := by omega
  have h := pk_andN (n := n) hn (m := 1) 1 (by decide)
  unfold i2 fand
  rw [Int32.ofInt_eq_ofNat, show Int32.ofInt 1 = 1 from by decide]
  show (nI n &&& 1).toInt = _
  rw [h, nI_toInt (by omega)]
  omega
theorem shl32 {a p : Int} (ha : 0 ≤ a) (hp : 0 ≤ p ∧ p < 32) (h : a * 2 ^ p.toNat < 2147483648) : i2 fshl a p = a * 2 ^ p.toNat := by
  obtain ⟨n, rfl⟩ : ∃ n : Nat, a = n := ⟨a.toNat, by omega⟩
  obtain ⟨k, rfl⟩ : ∃ k : Nat, p = k := ⟨p.toNat, by omega⟩
  have h2 : n * 2 ^ k < 2 ^ 31 := by
    have e : (n : Int) * 2 ^ ((k : Int).toNat) = ((n * 2 ^ k : Nat) : Int) := by simp
    rw [e] at h
    omega
  have h3 := pk_shlN (n := n) (nI k &&& 31) k (s_l9 k (by omega)) (by omega)
  unfold i2 fshl
  rw [Int32.ofInt_eq_ofNat, Int32.ofInt_eq_ofNat]
  show (nI n <<< (nI k &&& 31)).toInt = _
  rw [h3, nI_toInt h2]
  simp
/-- bit p of b -/
def hb (b p : Int) : Prop := b / 2 ^ p.toNat % 2 = 1
theorem hb_e {b p : Int} (hb0 : 0 ≤ b ∧ b < 2147483648) (hp : 0 ≤ p ∧ p < 32) : i2 fand (i2 fshr b p) 1 = b / 2 ^ p.toNat % 2 := by
  have h1 : 0 ≤ b / 2 ^ p.toNat := Int.ediv_nonneg hb0.1 (Int.pow_nonneg (by decide))
  have h2 : b / 2 ^ p.toNat ≤ b := Int.ediv_le_self _ hb0.1
  rw [shr32 hb0 hp, and1 ⟨h1, by omega⟩]
/-- the steps, as bits, that an owner at step s bars, by how many -/
def bb (s n : Int) : Int := (((2 ^ n.toNat - 1) * 2 ^ s.toNat) % 2048 : Nat)
theorem lb_e : ∀ n : Fin 4, i2 fsub (i2 fshl 1 (n.val : Int)) 1 = (2 : Int) ^ n.val - 1 := by decide +kernel
theorem bb_e : ∀ (s : Fin 11) (n : Fin 4), 1 ≤ s.val → i2 fand (i2 fshl ((2 : Int) ^ n.val - 1) (s.val : Int)) 2046 = bb (s.val : Int) (n.val : Int) := by decide +kernel
theorem bb_rng (s n : Int) : 0 ≤ bb s n ∧ bb s n < 2048 := by
  unfold bb
  have := Nat.mod_lt ((2 ^ n.toNat - 1) * 2 ^ s.toNat) (show 0 < 2048 by decide)
  omega
theorem Hx.acopyI {y pc k rs rd n0 n1 : Nat} {L : Lc} {st : List PV} {M : Mm} {P : Option PV → Mm → Prop} {n dp sp : Int} (hf : fetch y pc = some (.invokestatic k, 3)) (hl : (look4 (nth mthT (mK y) []) k).map (fun q => q.1) = some 1002)
    (hs0 : shp rs = .inl (n0, false)) (hs1 : shp rd = .inl (n1, false)) (h0 : rs < 73) (h1 : rd < 73) (h : (0 ≤ sp ∧ 0 ≤ dp ∧ 0 ≤ n) ∧ sp + n ≤ (n0 : Int) ∧ dp + n ≤ (n1 : Int)) (hc : cs st ≤ 8)
    (kk : Hx y (pc + 3) L st (cp M rs sp rd dp n) P) : Hx y pc L (vi n :: vi dp :: vr rd :: vi sp :: vr rs :: st) M P := by
  refine Hx.go (pc' := pc + 3) (L' := L) (st' := st) (M' := cp M rs sp rd dp n) ?_ kk
  unfold step
  rw [hf]
  simp only [stepI]
  cases hq : look4 (nth mthT (mK y) []) k with
  | none => rw [hq] at hl; cases hl
  | some q =>
    obtain ⟨t, np, ne, w⟩ := q
    rw [hq] at hl
    have ht : t = 1002 := by simpa using hl
    subst ht
    have e : Nat.beq 1002 1002 = true := by decide
    simp only [e, cond_true]
    unfold acopy
    simp only [hs0, hs1]
    rw [if_pos ⟨h, ⟨h0, h1⟩, hc⟩]
    rfl
theorem c_lowBits (n : Int) (M : Mm) (hn : 0 ≤ n ∧ n ≤ 3) : Ct 127 [vi n] M (fun q0 M' => q0 = some (vi (2 ^ n.toNat - 1)) ∧ M = M') := by
  obtain ⟨j, rfl⟩ : ∃ j : Nat, n = j := ⟨n.toNat, by omega⟩
  refine Hx.run 5 (pc' := 5) (L' := [some (vi (j : Int))]) (st' := [vi (i2 fsub (i2 fshl 1 (j : Int)) 1)]) (M' := M) rfl ?_
  refine Hx.ret rfl ?_
  have := lb_e ⟨j, by omega⟩
  exact ⟨some_vi (by simpa using this), rfl⟩
set_option maxRecDepth 100000 in
theorem c_barBits (s n : Int) (M : Mm) (hs : 1 ≤ s ∧ s ≤ 10) (hn : 0 ≤ n ∧ n ≤ 3) : Ct 125 [vi s, vi n] M (fun q0 M' => q0 = some (vi (bb s n)) ∧ M = M') := by
  refine Hx.run 1 (pc' := 1) (L' := [some (vi s), some (vi n)]) (st' := [vi n]) (M' := M) rfl ?_
  refine Hx.call (t := 127) (as := [vi n]) (pc' := 4) (rest := []) rfl (c_lowBits n M (by omega)) ?_
  rintro _ _ ⟨rfl, rfl⟩
  refine Hx.run 4 (pc' := 10) (L' := [some (vi s), some (vi n)]) (st' := [vi (i2 fand (i2 fshl (2 ^ n.toNat - 1) s) 2046)]) (M' := M) rfl ?_
  refine Hx.ret rfl ⟨some_vi ?_, rfl⟩
  obtain ⟨j, rfl⟩ : ∃ j : Nat, n = j := ⟨n.toNat, by omega⟩
  obtain ⟨i, rfl⟩ : ∃ i : Nat, s = i := ⟨s.toNat, by omega⟩
  have h := bb_e ⟨i, by omega⟩ ⟨j, by omega⟩ (by show 1 ≤ i; omega)
  simpa using h
set_option maxRecDepth 100000 in
theorem c_isBarred (b p : Int) (M : Mm) (h0 : 0 ≤ b ∧ b < 2147483648) (hp : 0 ≤ p ∧ p < 32) : Ct 128 [vi b, vi p] M (fun q0 M' => ((hb b p) ∧ q0 = some (vi 1) ∧ M = M') ∨ (¬ (hb b p) ∧ q0 = some (vi 0) ∧ M = M')) := by
  refine Hx.run 6 (pc' := 6) (L' := [some (vi b), some (vi p)]) (st' := [vi 1, vi (i2 fand (i2 fshr b p) 1)]) (M' := M) rfl ?_
  refine Hx.br (c := (i2 fand (i2 fshr b p) 1) = 1) (t := 9) (f := 13) rfl (fun h1 => ?_) (fun h1 => ?_)
  · skip
    refine Hx.run 2 (pc' := 14) (L' := [some (vi b), some (vi p)]) (st' := [vi 1]) (M' := M) rfl ?_
    refine Hx.ret rfl ?_
    first | exact Or.inl ⟨by unfold hb; rw [hb_e h0 hp] at h1; omega, rfl, rfl⟩ | exact Or.inr ⟨by unfold hb; rw [hb_e h0 hp] at h1; omega, rfl, rfl⟩
  · skip
    refine Hx.run 1 (pc' := 14) (L' := [some (vi b), some (vi p)]) (st' := [vi 0]) (M' := M) rfl ?_
    refine Hx.ret rfl ?_
    first | exact Or.inl ⟨by unfold hb; rw [hb_e h0 hp] at h1; omega, rfl, rfl⟩ | exact Or.inr ⟨by unfold hb; rw [hb_e h0 hp] at h1; omega, rfl, rfl⟩
end
section
/-! the members of a house and of a ledger (written by wip/whole/gen16.py) -/
theorem bcF_rng {k t : Int} : 0 ≤ bcF k t ∧ bcF k t ≤ 3 := by
  unfold bcF; repeat' split
  all_goals omega
theorem sfF_rng {k l x t : Int} (hl : 1 ≤ l ∧ l ≤ 4) (hx : 0 ≤ x ∧ x ≤ 9) : 1 ≤ sfF k l x t ∧ sfF k l x t ≤ 5 := by
  unfold sfF; repeat' split
  all_goals omega
set_option maxRecDepth 100000 in
theorem c_barsAt_1 (f t : Int) (M : Mm) (hf : (0 ≤ f ∧ f < 3) ∧ (0 ≤ M 2 f ∧ M 2 f ≤ 5) ∧ (1 ≤ M 6 (12 + f) ∧ M 6 (12 + f) ≤ 10)) (ht : 0 ≤ t ∧ t < 24) : Ct 28 [vr 1, vi f, vi t] M (fun q0 M' => q0 = some (vi (bb (M 6 (12 + f)) (bcF (M 2 f) t))) ∧ M = M') := by
  have hbc := bcF_rng (k := M 2 f) (t := t)
  refine Hx.run 4 (pc' := 7) (L' := [some (vr 1), some (vi f), some (vi t)]) (st' := [vi f, vi 12, vr 6]) (M' := M) rfl ?_
  refine Hx.add rfl (by omega) ?_
  refine Hx.call (t := 121) (as := [vr 6, vi (12 + f)]) (pc' := 11) (rest := []) rfl (c_at (r := 6) (n := 17) rfl (by decide) (i := (12 + f)) (by omega) M) ?_
  rintro _ _ ⟨rfl, rfl⟩
  refine Hx.run 0 (pc' := 11) (L' := [some (vr 1), some (vi f), some (vi t)]) (st' := [vi (M 6 (12 + f))]) (M' := M) rfl ?_
  refine Hx.run 3 (pc' := 16) (L' := [some (vr 1), some (vi f), some (vi t)]) (st' := [vi f, vr 2, vi (M 6 (12 + f))]) (M' := M) rfl ?_
  refine Hx.call (t := 121) (as := [vr 2, vi f]) (pc' := 19) (rest := [vi (M 6 (12 + f))]) rfl (c_at (r := 2) (n := 3) rfl (by decide) (i := f) (by omega) M) ?_
  rintro _ _ ⟨rfl, rfl⟩
  refine Hx.run 0 (pc' := 19) (L' := [some (vr 1), some (vi f), some (vi t)]) (st' := [vi (M 2 f), vi (M 6 (12 + f))]) (M' := M) rfl ?_
  refine Hx.run 1 (pc' := 20) (L' := [some (vr 1), some (vi f), some (vi t)]) (st' := [vi t, vi (M 2 f), vi (M 6 (12 + f))]) (M' := M) rfl ?_
  refine Hx.call (t := 124) (as := [vi (M 2 f), vi t]) (pc' := 23) (rest := [vi (M 6 (12 + f))]) rfl (c_barCount (M 2 f) t M (by omega) (by omega)) ?_
  rintro _ _ ⟨rfl, rfl⟩
  refine Hx.run 0 (pc' := 23) (L' := [some (vr 1), some (vi f), some (vi t)]) (st' := [vi (bcF (M 2 f) t), vi (M 6 (12 + f))]) (M' := M) rfl ?_
  refine Hx.call (t := 125) (as := [vi (M 6 (12 + f)), vi (bcF (M 2 f) t)]) (pc' := 26) (rest := []) rfl (c_barBits (M 6 (12 + f)) (bcF (M 2 f) t) M (by omega) (by omega)) ?_
  rintro _ _ ⟨rfl, rfl⟩
  refine Hx.run 0 (pc' := 26) (L' := [some (vr 1), some (vi f), some (vi t)]) (st' := [vi (bb (M 6 (12 + f)) (bcF (M 2 f) t))]) (M' := M) rfl ?_
  refine Hx.ret rfl ?_
  exact ⟨rfl, rfl⟩
set_option maxRecDepth 100000 in
theorem c_barsFor_1 (i : Int) (M : Mm) (hg : (0 ≤ i ∧ i < 6) ∧ (0 ≤ M 3 i ∧ M 3 i ≤ 5) ∧ (1 ≤ M 4 i ∧ M 4 i ≤ 4) ∧ (0 ≤ M 5 i ∧ M 5 i < 3) ∧ (0 ≤ M 6 i ∧ M 6 i ≤ 11) ∧ (0 ≤ M 6 (6 + i) ∧ M 6 (6 + i) ≤ 9)) (hf : (0 ≤ (M 5 i) ∧ (M 5 i) < 3) ∧ (0 ≤ M 2 (M 5 i) ∧ M 2 (M 5 i) ≤ 5) ∧ (1 ≤ M 6 (12 + (M 5 i)) ∧ M 6 (12 + (M 5 i)) ≤ 10)) (hh : (0 ≤ M 6 16 ∧ M 6 16 ≤ 9999)) : Ct 29 [vr 1, vi i] M (fun q0 M' => q0 = some (vi (bb (M 6 (12 + (M 5 i))) (bcF (M 2 (M 5 i)) (M 6 16 % 24)))) ∧ M = M') := by
  refine Hx.run 3 (pc' := 3) (L' := [some (vr 1), some (vi i)]) (st' := [vi i, vr 1, vr 1]) (M' := M) rfl ?_
  refine Hx.call (t := 17) (as := [vr 1, vi i]) (pc' := 6) (rest := [vr 1]) rfl (c_flightOf_1 i (by omega) M) ?_
  rintro _ _ ⟨rfl, rfl⟩
  refine Hx.run 0 (pc' := 6) (L' := [some (vr 1), some (vi i)]) (st' := [vi (M 5 i), vr 1]) (M' := M) rfl ?_
  refine Hx.run 1 (pc' := 7) (L' := [some (vr 1), some (vi i)]) (st' := [vr 1, vi (M 5 i), vr 1]) (M' := M) rfl ?_
  refine Hx.call (t := 24) (as := [vr 1]) (pc' := 10) (rest := [vi (M 5 i), vr 1]) rfl (c_hourOfDay_1  M (by omega)) ?_
  rintro _ _ ⟨rfl, rfl⟩
  refine Hx.run 0 (pc' := 10) (L' := [some (vr 1), some (vi i)]) (st' := [vi (M 6 16 % 24), vi (M 5 i), vr 1]) (M' := M) rfl ?_
  refine Hx.call (t := 28) (as := [vr 1, vi (M 5 i), vi (M 6 16 % 24)]) (pc' := 13) (rest := []) rfl (c_barsAt_1 (M 5 i) (M 6 16 % 24) M (by omega) (by omega)) ?_
  rintro _ _ ⟨rfl, rfl⟩
  refine Hx.run 0 (pc' := 13) (L' := [some (vr 1), some (vi i)]) (st' := [vi (bb (M 6 (12 + (M 5 i))) (bcF (M 2 (M 5 i)) (M 6 16 % 24)))]) (M' := M) rfl ?_
  refine Hx.ret rfl ?_
  exact ⟨rfl, rfl⟩
set_option maxRecDepth 100000 in
theorem c_reachAt_1 (i t : Int) (M : Mm) (hg : (0 ≤ i ∧ i < 6) ∧ (0 ≤ M 3 i ∧ M 3 i ≤ 5) ∧ (1 ≤ M 4 i ∧ M 4 i ≤ 4) ∧ (0 ≤ M 5 i ∧ M 5 i < 3) ∧ (0 ≤ M 6 i ∧ M 6 i ≤ 11) ∧ (0 ≤ M 6 (6 + i) ∧ M 6 (6 + i) ≤ 9)) (ht : 0 ≤ t ∧ t < 24) : Ct 31 [vr 1, vi i, vi t] M (fun q0 M' => q0 = some (vi (sfF (M 3 i) (M 4 i) (M 6 (6 + i)) t)) ∧ M = M') := by
  refine Hx.run 3 (pc' := 5) (L' := [some (vr 1), some (vi i), some (vi t)]) (st' := [vi i, vr 3]) (M' := M) rfl ?_
  refine Hx.call (t := 121) (as := [vr 3, vi i]) (pc' := 8) (rest := []) rfl (c_at (r := 3) (n := 6) rfl (by decide) (i := i) (by omega) M) ?_
  rintro _ _ ⟨rfl, rfl⟩
  refine Hx.run 0 (pc' := 8) (L' := [some (vr 1), some (vi i), some (vi t)]) (st' := [vi (M 3 i)]) (M' := M) rfl ?_
  refine Hx.run 3 (pc' := 13) (L' := [some (vr 1), some (vi i), some (vi t)]) (st' := [vi i, vr 4, vi (M 3 i)]) (M' := M) rfl ?_
  refine Hx.call (t := 121) (as := [vr 4, vi i]) (pc' := 16) (rest := [vi (M 3 i)]) rfl (c_at (r := 4) (n := 6) rfl (by decide) (i := i) (by omega) M) ?_
  rintro _ _ ⟨rfl, rfl⟩
  refine Hx.run 0 (pc' := 16) (L' := [some (vr 1), some (vi i), some (vi t)]) (st' := [vi (M 4 i), vi (M 3 i)]) (M' := M) rfl ?_
  refine Hx.run 4 (pc' := 23) (L' := [some (vr 1), some (vi i), some (vi t)]) (st' := [vi i, vi 6, vr 6, vi (M 4 i), vi (M 3 i)]) (M' := M) rfl ?_
  refine Hx.add rfl (by omega) ?_
  refine Hx.call (t := 121) (as := [vr 6, vi (6 + i)]) (pc' := 27) (rest := [vi (M 4 i), vi (M 3 i)]) rfl (c_at (r := 6) (n := 17) rfl (by decide) (i := (6 + i)) (by omega) M) ?_
  rintro _ _ ⟨rfl, rfl⟩
  refine Hx.run 0 (pc' := 27) (L' := [some (vr 1), some (vi i), some (vi t)]) (st' := [vi (M 6 (6 + i)), vi (M 4 i), vi (M 3 i)]) (M' := M) rfl ?_
  refine Hx.run 1 (pc' := 28) (L' := [some (vr 1), some (vi i), some (vi t)]) (st' := [vi t, vi (M 6 (6 + i)), vi (M 4 i), vi (M 3 i)]) (M' := M) rfl ?_
  refine Hx.call (t := 129) (as := [vi (M 3 i), vi (M 4 i), vi (M 6 (6 + i)), vi t]) (pc' := 31) (rest := []) rfl (c_strideOf (M 3 i) (M 4 i) (M 6 (6 + i)) t M (by omega) (by omega) (by omega) (by omega)) ?_
  rintro _ _ ⟨rfl, rfl⟩
  refine Hx.run 0 (pc' := 31) (L' := [some (vr 1), some (vi i), some (vi t)]) (st' := [vi (sfF (M 3 i) (M 4 i) (M 6 (6 + i)) t)]) (M' := M) rfl ?_
  refine Hx.ret rfl ?_
  exact ⟨rfl, rfl⟩
set_option maxRecDepth 100000 in
theorem c_reach_1 (i : Int) (M : Mm) (hg : (0 ≤ i ∧ i < 6) ∧ (0 ≤ M 3 i ∧ M 3 i ≤ 5) ∧ (1 ≤ M 4 i ∧ M 4 i ≤ 4) ∧ (0 ≤ M 5 i ∧ M 5 i < 3) ∧ (0 ≤ M 6 i ∧ M 6 i ≤ 11) ∧ (0 ≤ M 6 (6 + i) ∧ M 6 (6 + i) ≤ 9)) (hh : (0 ≤ M 6 16 ∧ M 6 16 ≤ 9999)) : Ct 30 [vr 1, vi i] M (fun q0 M' => q0 = some (vi (sfF (M 3 i) (M 4 i) (M 6 (6 + i)) (M 6 16 % 24))) ∧ M = M') := by
  refine Hx.run 3 (pc' := 3) (L' := [some (vr 1), some (vi i)]) (st' := [vr 1, vi i, vr 1]) (M' := M) rfl ?_
  refine Hx.call (t := 24) (as := [vr 1]) (pc' := 6) (rest := [vi i, vr 1]) rfl (c_hourOfDay_1  M (by omega)) ?_
  rintro _ _ ⟨rfl, rfl⟩
  refine Hx.run 0 (pc' := 6) (L' := [some (vr 1), some (vi i)]) (st' := [vi (M 6 16 % 24), vi i, vr 1]) (M' := M) rfl ?_
  refine Hx.call (t := 31) (as := [vr 1, vi i, vi (M 6 16 % 24)]) (pc' := 9) (rest := []) rfl (c_reachAt_1 i (M 6 16 % 24) M (by omega) (by omega)) ?_
  rintro _ _ ⟨rfl, rfl⟩
  refine Hx.run 0 (pc' := 9) (L' := [some (vr 1), some (vi i)]) (st' := [vi (sfF (M 3 i) (M 4 i) (M 6 (6 + i)) (M 6 16 % 24))]) (M' := M) rfl ?_
  refine Hx.ret rfl ?_
  exact ⟨rfl, rfl⟩
set_option maxRecDepth 100000 in
theorem c_pass_1 (d : Int) (M : Mm) (hd : 0 ≤ d ∧ d ≤ 99) (hh : (0 ≤ M 6 16 ∧ M 6 16 ≤ 9999)) : Ct 25 [vr 1, vi d] M (fun q0 M' => q0 = none ∧ up M 6 16 (min 9999 (M 6 16 + d)) = M') := by
  refine Hx.run 5 (pc' := 10) (L' := [some (vr 1), some (vi d)]) (st' := [vr 1, vi 9999, vi 16, vr 6]) (M' := M) rfl ?_
  refine Hx.call (t := 23) (as := [vr 1]) (pc' := 13) (rest := [vi 9999, vi 16, vr 6]) rfl (c_hour_1 M) ?_
  rintro _ _ ⟨rfl, rfl⟩
  refine Hx.run 0 (pc' := 13) (L' := [some (vr 1), some (vi d)]) (st' := [vi (M 6 16), vi 9999, vi 16, vr 6]) (M' := M) rfl ?_
  refine Hx.run 1 (pc' := 14) (L' := [some (vr 1), some (vi d)]) (st' := [vi d, vi (M 6 16), vi 9999, vi 16, vr 6]) (M' := M) rfl ?_
  refine Hx.add rfl (by omega) ?_
  refine Hx.call (t := 226) (as := [vi 9999, vi ((M 6 16) + d)]) (pc' := 18) (rest := [vi 16, vr 6]) rfl (c_min 9999 ((M 6 16) + d) M) ?_
  rintro _ _ ⟨rfl, rfl⟩
  refine Hx.run 0 (pc' := 18) (L' := [some (vr 1), some (vi d)]) (st' := [vi (min 9999 ((M 6 16) + d)), vi 16, vr 6]) (M' := M) rfl ?_
  refine Hx.call (t := 122) (as := [vr 6, vi 16, vi (min 9999 ((M 6 16) + d))]) (pc' := 21) (rest := []) rfl (c_put (r := 6) (n := 17) rfl (by decide) (i := 16) (by omega) (min 9999 ((M 6 16) + d)) M) ?_
  rintro _ _ ⟨rfl, rfl⟩
  refine Hx.run 0 (pc' := 21) (L' := [some (vr 1), some (vi d)]) (st' := []) (M' := (up M 6 16 (min 9999 ((M 6 16) + d)))) rfl ?_
  refine Hx.ret rfl ?_
  exact ⟨rfl, rfl⟩
set_option maxRecDepth 100000 in
theorem c_addFlight_1 (kd s : Int) (M : Mm) (hx : 0 ≤ M 1 0 ∧ M 1 0 < 3) : Ct 9 [vr 1, vi kd, vi s] M (fun q0 M' => q0 = some (vi (M 1 0)) ∧ up (up (up (up M 2 (M 1 0) kd) 6 (12 + (M 1 0)) s) 1 0 (M 1 0 + 1)) 1 2 0 = M') := by
  refine Hx.run 7 (pc' := 11) (L' := [some (vr 1), some (vi kd), some (vi s), some (vi (M 1 0))]) (st' := [vi kd, vi (M 1 0), vr 2]) (M' := M) rfl ?_
  refine Hx.call (t := 122) (as := [vr 2, vi (M 1 0), vi kd]) (pc' := 14) (rest := []) rfl (c_put (r := 2) (n := 3) rfl (by decide) (i := (M 1 0)) (by omega) kd M) ?_
  rintro _ _ ⟨rfl, rfl⟩
  refine Hx.run 0 (pc' := 14) (L' := [some (vr 1), some (vi kd), some (vi s), some (vi (M 1 0))]) (st' := []) (M' := (up M 2 (M 1 0) kd)) rfl ?_
  refine Hx.run 3 (pc' := 17) (L' := [some (vr 1), some (vi kd), some (vi s), some (vi (M 1 0))]) (st' := [vi s, vi (M 1 0), vr 1]) (M' := (up M 2 (M 1 0) kd)) rfl ?_
  refine Hx.call (t := 15) (as := [vr 1, vi (M 1 0), vi s]) (pc' := 20) (rest := []) rfl (c_setOwnerStep_1 (M 1 0) s (up M 2 (M 1 0) kd) (by omega)) ?_
  rintro _ _ ⟨rfl, rfl⟩
  refine Hx.run 0 (pc' := 20) (L' := [some (vr 1), some (vi kd), some (vi s), some (vi (M 1 0))]) (st' := []) (M' := (up (up M 2 (M 1 0) kd) 6 (12 + (M 1 0)) s)) rfl ?_
  refine Hx.run 4 (pc' := 26) (L' := [some (vr 1), some (vi kd), some (vi s), some (vi (M 1 0))]) (st' := [vi 1, vi (M 1 0), vr 1]) (M' := (up (up M 2 (M 1 0) kd) 6 (12 + (M 1 0)) s)) rfl ?_
  refine Hx.add rfl (by omega) ?_
  refine Hx.run 5 (pc' := 36) (L' := [some (vr 1), some (vi kd), some (vi s), some (vi (M 1 0))]) (st' := [vi (M 1 0)]) (M' := (up (up (up (up M 2 (M 1 0) kd) 6 (12 + (M 1 0)) s) 1 0 ((M 1 0) + 1)) 1 2 0)) rfl ?_
  refine Hx.ret rfl ?_
  exact ⟨rfl, rfl⟩
set_option maxRecDepth 100000 in
theorem c_addGoer_1 (kd l f : Int) (M : Mm) (hx : 0 ≤ M 1 1 ∧ M 1 1 < 6) : Ct 10 [vr 1, vi kd, vi l, vi f] M (fun q0 M' => q0 = some (vi (M 1 1)) ∧ up (up (up (up (up (up (up M 3 (M 1 1) kd) 4 (M 1 1) l) 5 (M 1 1) f) 6 (M 1 1) 0) 6 (6 + (M 1 1)) 0) 1 1 (M 1 1 + 1)) 1 2 0 = M') := by
  refine Hx.run 7 (pc' := 13) (L' := [some (vr 1), some (vi kd), some (vi l), some (vi f), some (vi (M 1 1))]) (st' := [vi kd, vi (M 1 1), vr 3]) (M' := M) rfl ?_
  refine Hx.call (t := 122) (as := [vr 3, vi (M 1 1), vi kd]) (pc' := 16) (rest := []) rfl (c_put (r := 3) (n := 6) rfl (by decide) (i := (M 1 1)) (by omega) kd M) ?_
  rintro _ _ ⟨rfl, rfl⟩
  refine Hx.run 0 (pc' := 16) (L' := [some (vr 1), some (vi kd), some (vi l), some (vi f), some (vi (M 1 1))]) (st' := []) (M' := (up M 3 (M 1 1) kd)) rfl ?_
  refine Hx.run 4 (pc' := 23) (L' := [some (vr 1), some (vi kd), some (vi l), some (vi f), some (vi (M 1 1))]) (st' := [vi l, vi (M 1 1), vr 4]) (M' := (up M 3 (M 1 1) kd)) rfl ?_
  refine Hx.call (t := 122) (as := [vr 4, vi (M 1 1), vi l]) (pc' := 26) (rest := []) rfl (c_put (r := 4) (n := 6) rfl (by decide) (i := (M 1 1)) (by omega) l (up M 3 (M 1 1) kd)) ?_
  rintro _ _ ⟨rfl, rfl⟩
  refine Hx.run 0 (pc' := 26) (L' := [some (vr 1), some (vi kd), some (vi l), some (vi f), some (vi (M 1 1))]) (st' := []) (M' := (up (up M 3 (M 1 1) kd) 4 (M 1 1) l)) rfl ?_
  refine Hx.run 4 (pc' := 33) (L' := [some (vr 1), some (vi kd), some (vi l), some (vi f), some (vi (M 1 1))]) (st' := [vi f, vi (M 1 1), vr 5]) (M' := (up (up M 3 (M 1 1) kd) 4 (M 1 1) l)) rfl ?_
  refine Hx.call (t := 122) (as := [vr 5, vi (M 1 1), vi f]) (pc' := 36) (rest := []) rfl (c_put (r := 5) (n := 6) rfl (by decide) (i := (M 1 1)) (by omega) f (up (up M 3 (M 1 1) kd) 4 (M 1 1) l)) ?_
  rintro _ _ ⟨rfl, rfl⟩
  refine Hx.run 0 (pc' := 36) (L' := [some (vr 1), some (vi kd), some (vi l), some (vi f), some (vi (M 1 1))]) (st' := []) (M' := (up (up (up M 3 (M 1 1) kd) 4 (M 1 1) l) 5 (M 1 1) f)) rfl ?_
  refine Hx.run 3 (pc' := 40) (L' := [some (vr 1), some (vi kd), some (vi l), some (vi f), some (vi (M 1 1))]) (st' := [vi 0, vi (M 1 1), vr 1]) (M' := (up (up (up M 3 (M 1 1) kd) 4 (M 1 1) l) 5 (M 1 1) f)) rfl ?_
  refine Hx.call (t := 19) (as := [vr 1, vi (M 1 1), vi 0]) (pc' := 43) (rest := []) rfl (c_setStep_1 (M 1 1) 0 (up (up (up M 3 (M 1 1) kd) 4 (M 1 1) l) 5 (M 1 1) f) (by omega)) ?_
  rintro _ _ ⟨rfl, rfl⟩
  refine Hx.run 0 (pc' := 43) (L' := [some (vr 1), some (vi kd), some (vi l), some (vi f), some (vi (M 1 1))]) (st' := []) (M' := (up (up (up (up M 3 (M 1 1) kd) 4 (M 1 1) l) 5 (M 1 1) f) 6 (M 1 1) 0)) rfl ?_
  refine Hx.run 3 (pc' := 47) (L' := [some (vr 1), some (vi kd), some (vi l), some (vi f), some (vi (M 1 1))]) (st' := [vi 0, vi (M 1 1), vr 1]) (M' := (up (up (up (up M 3 (M 1 1) kd) 4 (M 1 1) l) 5 (M 1 1) f) 6 (M 1 1) 0)) rfl ?_
  refine Hx.call (t := 21) (as := [vr 1, vi (M 1 1), vi 0]) (pc' := 50) (rest := []) rfl (c_setLoad_1 (M 1 1) 0 (up (up (up (up M 3 (M 1 1) kd) 4 (M 1 1) l) 5 (M 1 1) f) 6 (M 1 1) 0) (by omega)) ?_
  rintro _ _ ⟨rfl, rfl⟩
  refine Hx.run 0 (pc' := 50) (L' := [some (vr 1), some (vi kd), some (vi l), some (vi f), some (vi (M 1 1))]) (st' := []) (M' := (up (up (up (up (up M 3 (M 1 1) kd) 4 (M 1 1) l) 5 (M 1 1) f) 6 (M 1 1) 0) 6 (6 + (M 1 1)) 0)) rfl ?_
  refine Hx.run 4 (pc' := 56) (L' := [some (vr 1), some (vi kd), some (vi l), some (vi f), some (vi (M 1 1))]) (st' := [vi 1, vi (M 1 1), vr 1]) (M' := (up (up (up (up (up M 3 (M 1 1) kd) 4 (M 1 1) l) 5 (M 1 1) f) 6 (M 1 1) 0) 6 (6 + (M 1 1)) 0)) rfl ?_
  refine Hx.add rfl (by omega) ?_
  refine Hx.run 5 (pc' := 67) (L' := [some (vr 1), some (vi kd), some (vi l), some (vi f), some (vi (M 1 1))]) (st' := [vi (M 1 1)]) (M' := (up (up (up (up (up (up (up M 3 (M 1 1) kd) 4 (M 1 1) l) 5 (M 1 1) f) 6 (M 1 1) 0) 6 (6 + (M 1 1)) 0) 1 1 ((M 1 1) + 1)) 1 2 0)) rfl ?_
  refine Hx.ret rfl ?_
  exact ⟨rfl, rfl⟩
set_option maxRecDepth 100000 in
theorem c_stride_1 (i d : Int) (M : Mm) (hg : (0 ≤ i ∧ i < 6) ∧ (0 ≤ M 3 i ∧ M 3 i ≤ 5) ∧ (1 ≤ M 4 i ∧ M 4 i ≤ 4) ∧ (0 ≤ M 5 i ∧ M 5 i < 3) ∧ (0 ≤ M 6 i ∧ M 6 i ≤ 11) ∧ (0 ≤ M 6 (6 + i) ∧ M 6 (6 + i) ≤ 9)) (hf : (0 ≤ (M 5 i) ∧ (M 5 i) < 3) ∧ (0 ≤ M 2 (M 5 i) ∧ M 2 (M 5 i) ≤ 5) ∧ (1 ≤ M 6 (12 + (M 5 i)) ∧ M 6 (12 + (M 5 i)) ≤ 10)) (hh : (0 ≤ M 6 16 ∧ M 6 16 ≤ 9999)) (hd : 1 ≤ d ∧ d ≤ 9) (hfa : 0 ≤ M 6 15 ∧ M 6 15 ≤ 9999) : Ct 33 [vr 1, vi i, vi d] M (fun q0 M' => (hb (bb (M 6 (12 + (M 5 i))) (bcF (M 2 (M 5 i)) (M 6 16 % 24))) (min 11 ((M 6 i) + d)) ∧ q0 = some (vi 0) ∧ up (up M 6 15 (min 9999 (M 6 15 + 1))) 6 i 0 = M') ∨ (¬ hb (bb (M 6 (12 + (M 5 i))) (bcF (M 2 (M 5 i)) (M 6 16 % 24))) (min 11 ((M 6 i) + d)) ∧ q0 = some (vi (min 11 ((M 6 i) + d))) ∧ up M 6 i (min 11 ((M 6 i) + d)) = M')) := by
  have hbb := bb_rng (M 6 (12 + (M 5 i))) (bcF (M 2 (M 5 i)) (M 6 16 % 24))
  refine Hx.run 3 (pc' := 4) (L' := [some (vr 1), some (vi i), some (vi d), none]) (st' := [vi i, vr 1, vi 11]) (M' := M) rfl ?_
  refine Hx.call (t := 18) (as := [vr 1, vi i]) (pc' := 7) (rest := [vi 11]) rfl (c_stepOf_1 i (by omega) M) ?_
  rintro _ _ ⟨rfl, rfl⟩
  refine Hx.run 0 (pc' := 7) (L' := [some (vr 1), some (vi i), some (vi d), none]) (st' := [vi (M 6 i), vi 11]) (M' := M) rfl ?_
  refine Hx.run 1 (pc' := 8) (L' := [some (vr 1), some (vi i), some (vi d), none]) (st' := [vi d, vi (M 6 i), vi 11]) (M' := M) rfl ?_
  refine Hx.add rfl (by omega) ?_
  refine Hx.call (t := 226) (as := [vi 11, vi ((M 6 i) + d)]) (pc' := 12) (rest := []) rfl (c_min 11 ((M 6 i) + d) M) ?_
  rintro _ _ ⟨rfl, rfl⟩
  refine Hx.run 0 (pc' := 12) (L' := [some (vr 1), some (vi i), some (vi d), none]) (st' := [vi (min 11 ((M 6 i) + d))]) (M' := M) rfl ?_
  refine Hx.run 3 (pc' := 15) (L' := [some (vr 1), some (vi i), some (vi d), some (vi (min 11 ((M 6 i) + d)))]) (st' := [vi i, vr 1]) (M' := M) rfl ?_
  refine Hx.call (t := 29) (as := [vr 1, vi i]) (pc' := 18) (rest := []) rfl (c_barsFor_1 i M (by omega) (by omega) (by omega)) ?_
  rintro _ _ ⟨rfl, rfl⟩
  refine Hx.run 0 (pc' := 18) (L' := [some (vr 1), some (vi i), some (vi d), some (vi (min 11 ((M 6 i) + d)))]) (st' := [vi (bb (M 6 (12 + (M 5 i))) (bcF (M 2 (M 5 i)) (M 6 16 % 24)))]) (M' := M) rfl ?_
  refine Hx.run 1 (pc' := 19) (L' := [some (vr 1), some (vi i), some (vi d), some (vi (min 11 ((M 6 i) + d)))]) (st' := [vi (min 11 ((M 6 i) + d)), vi (bb (M 6 (12 + (M 5 i))) (bcF (M 2 (M 5 i)) (M 6 16 % 24)))]) (M' := M) rfl ?_
  refine Hx.call (t := 128) (as := [vi (bb (M 6 (12 + (M 5 i))) (bcF (M 2 (M 5 i)) (M 6 16 % 24))), vi (min 11 ((M 6 i) + d))]) (pc' := 22) (rest := []) rfl (c_isBarred (bb (M 6 (12 + (M 5 i))) (bcF (M 2 (M 5 i)) (M 6 16 % 24))) (min 11 ((M 6 i) + d)) M (by omega) (by omega)) ?_
  rintro _ _ (⟨q1, rfl, rfl⟩ | ⟨q1, rfl, rfl⟩)
  · skip
    refine Hx.run 8 (pc' := 37) (L' := [some (vr 1), some (vi i), some (vi d), some (vi 0)]) (st' := [vr 1, vi 9999, vi 15, vr 6]) (M' := M) rfl ?_
    refine Hx.call (t := 22) (as := [vr 1]) (pc' := 40) (rest := [vi 9999, vi 15, vr 6]) rfl (c_falls_1 M) ?_
    rintro _ _ ⟨rfl, rfl⟩
    refine Hx.run 0 (pc' := 40) (L' := [some (vr 1), some (vi i), some (vi d), some (vi 0)]) (st' := [vi (M 6 15), vi 9999, vi 15, vr 6]) (M' := M) rfl ?_
    refine Hx.run 1 (pc' := 41) (L' := [some (vr 1), some (vi i), some (vi d), some (vi 0)]) (st' := [vi 1, vi (M 6 15), vi 9999, vi 15, vr 6]) (M' := M) rfl ?_
    refine Hx.add rfl (by omega) ?_
    refine Hx.call (t := 226) (as := [vi 9999, vi ((M 6 15) + 1)]) (pc' := 45) (rest := [vi 15, vr 6]) rfl (c_min 9999 ((M 6 15) + 1) M) ?_
    rintro _ _ ⟨rfl, rfl⟩
    refine Hx.run 0 (pc' := 45) (L' := [some (vr 1), some (vi i), some (vi d), some (vi 0)]) (st' := [vi (min 9999 ((M 6 15) + 1)), vi 15, vr 6]) (M' := M) rfl ?_
    refine Hx.call (t := 122) (as := [vr 6, vi 15, vi (min 9999 ((M 6 15) + 1))]) (pc' := 48) (rest := []) rfl (c_put (r := 6) (n := 17) rfl (by decide) (i := 15) (by omega) (min 9999 ((M 6 15) + 1)) M) ?_
    rintro _ _ ⟨rfl, rfl⟩
    refine Hx.run 0 (pc' := 48) (L' := [some (vr 1), some (vi i), some (vi d), some (vi 0)]) (st' := []) (M' := (up M 6 15 (min 9999 ((M 6 15) + 1)))) rfl ?_
    refine Hx.run 3 (pc' := 51) (L' := [some (vr 1), some (vi i), some (vi d), some (vi 0)]) (st' := [vi 0, vi i, vr 1]) (M' := (up M 6 15 (min 9999 ((M 6 15) + 1)))) rfl ?_
    refine Hx.call (t := 19) (as := [vr 1, vi i, vi 0]) (pc' := 54) (rest := []) rfl (c_setStep_1 i 0 (up M 6 15 (min 9999 ((M 6 15) + 1))) (by omega)) ?_
    rintro _ _ ⟨rfl, rfl⟩
    refine Hx.run 0 (pc' := 54) (L' := [some (vr 1), some (vi i), some (vi d), some (vi 0)]) (st' := []) (M' := (up (up M 6 15 (min 9999 ((M 6 15) + 1))) 6 i 0)) rfl ?_
    refine Hx.run 1 (pc' := 55) (L' := [some (vr 1), some (vi i), some (vi d), some (vi 0)]) (st' := [vi 0]) (M' := (up (up M 6 15 (min 9999 ((M 6 15) + 1))) 6 i 0)) rfl ?_
    refine Hx.ret rfl ?_
    first | exact Or.inl ⟨by assumption, rfl, rfl⟩ | exact Or.inr ⟨by assumption, rfl, rfl⟩
  · skip
    refine Hx.run 4 (pc' := 51) (L' := [some (vr 1), some (vi i), some (vi d), some (vi (min 11 ((M 6 i) + d)))]) (st' := [vi (min 11 ((M 6 i) + d)), vi i, vr 1]) (M' := M) rfl ?_
    refine Hx.call (t := 19) (as := [vr 1, vi i, vi (min 11 ((M 6 i) + d))]) (pc' := 54) (rest := []) rfl (c_setStep_1 i (min 11 ((M 6 i) + d)) M (by omega)) ?_
    rintro _ _ ⟨rfl, rfl⟩
    refine Hx.run 0 (pc' := 54) (L' := [some (vr 1), some (vi i), some (vi d), some (vi (min 11 ((M 6 i) + d)))]) (st' := []) (M' := (up M 6 i (min 11 ((M 6 i) + d)))) rfl ?_
    refine Hx.run 1 (pc' := 55) (L' := [some (vr 1), some (vi i), some (vi d), some (vi (min 11 ((M 6 i) + d)))]) (st' := [vi (min 11 ((M 6 i) + d))]) (M' := (up M 6 i (min 11 ((M 6 i) + d)))) rfl ?_
    refine Hx.ret rfl ?_
    first | exact Or.inl ⟨by assumption, rfl, rfl⟩ | exact Or.inr ⟨by assumption, rfl, rfl⟩
set_option maxRecDepth 100000 in
theorem c_barsAt_40 (f t : Int) (M : Mm) (hf : (0 ≤ f ∧ f < 3) ∧ (0 ≤ M 41 f ∧ M 41 f ≤ 5) ∧ (1 ≤ M 45 (12 + f) ∧ M 45 (12 + f) ≤ 10)) (ht : 0 ≤ t ∧ t < 24) : Ct 28 [vr 40, vi f, vi t] M (fun q0 M' => q0 = some (vi (bb (M 45 (12 + f)) (bcF (M 41 f) t))) ∧ M = M') := by
  have hbc := bcF_rng (k := M 41 f) (t := t)
  refine Hx.run 4 (pc' := 7) (L' := [some (vr 40), some (vi f), some (vi t)]) (st' := [vi f, vi 12, vr 45]) (M' := M) rfl ?_
  refine Hx.add rfl (by omega) ?_
  refine Hx.call (t := 121) (as := [vr 45, vi (12 + f)]) (pc' := 11) (rest := []) rfl (c_at (r := 45) (n := 17) rfl (by decide) (i := (12 + f)) (by omega) M) ?_
  rintro _ _ ⟨rfl, rfl⟩
  refine Hx.run 0 (pc' := 11) (L' := [some (vr 40), some (vi f), some (vi t)]) (st' := [vi (M 45 (12 + f))]) (M' := M) rfl ?_
  refine Hx.run 3 (pc' := 16) (L' := [some (vr 40), some (vi f), some (vi t)]) (st' := [vi f, vr 41, vi (M 45 (12 + f))]) (M' := M) rfl ?_
  refine Hx.call (t := 121) (as := [vr 41, vi f]) (pc' := 19) (rest := [vi (M 45 (12 + f))]) rfl (c_at (r := 41) (n := 3) rfl (by decide) (i := f) (by omega) M) ?_
  rintro _ _ ⟨rfl, rfl⟩
  refine Hx.run 0 (pc' := 19) (L' := [some (vr 40), some (vi f), some (vi t)]) (st' := [vi (M 41 f), vi (M 45 (12 + f))]) (M' := M) rfl ?_
  refine Hx.run 1 (pc' := 20) (L' := [some (vr 40), some (vi f), some (vi t)]) (st' := [vi t, vi (M 41 f), vi (M 45 (12 + f))]) (M' := M) rfl ?_
  refine Hx.call (t := 124) (as := [vi (M 41 f), vi t]) (pc' := 23) (rest := [vi (M 45 (12 + f))]) rfl (c_barCount (M 41 f) t M (by omega) (by omega)) ?_
  rintro _ _ ⟨rfl, rfl⟩
  refine Hx.run 0 (pc' := 23) (L' := [some (vr 40), some (vi f), some (vi t)]) (st' := [vi (bcF (M 41 f) t), vi (M 45 (12 + f))]) (M' := M) rfl ?_
  refine Hx.call (t := 125) (as := [vi (M 45 (12 + f)), vi (bcF (M 41 f) t)]) (pc' := 26) (rest := []) rfl (c_barBits (M 45 (12 + f)) (bcF (M 41 f) t) M (by omega) (by omega)) ?_
  rintro _ _ ⟨rfl, rfl⟩
  refine Hx.run 0 (pc' := 26) (L' := [some (vr 40), some (vi f), some (vi t)]) (st' := [vi (bb (M 45 (12 + f)) (bcF (M 41 f) t))]) (M' := M) rfl ?_
  refine Hx.ret rfl ?_
  exact ⟨rfl, rfl⟩
set_option maxRecDepth 100000 in
theorem c_barsFor_40 (i : Int) (M : Mm) (hg : (0 ≤ i ∧ i < 6) ∧ (0 ≤ M 42 i ∧ M 42 i ≤ 5) ∧ (1 ≤ M 43 i ∧ M 43 i ≤ 4) ∧ (0 ≤ M 44 i ∧ M 44 i < 3) ∧ (0 ≤ M 45 i ∧ M 45 i ≤ 11) ∧ (0 ≤ M 45 (6 + i) ∧ M 45 (6 + i) ≤ 9)) (hf : (0 ≤ (M 44 i) ∧ (M 44 i) < 3) ∧ (0 ≤ M 41 (M 44 i) ∧ M 41 (M 44 i) ≤ 5) ∧ (1 ≤ M 45 (12 + (M 44 i)) ∧ M 45 (12 + (M 44 i)) ≤ 10)) (hh : (0 ≤ M 45 16 ∧ M 45 16 ≤ 9999)) : Ct 29 [vr 40, vi i] M (fun q0 M' => q0 = some (vi (bb (M 45 (12 + (M 44 i))) (bcF (M 41 (M 44 i)) (M 45 16 % 24)))) ∧ M = M') := by
  refine Hx.run 3 (pc' := 3) (L' := [some (vr 40), some (vi i)]) (st' := [vi i, vr 40, vr 40]) (M' := M) rfl ?_
  refine Hx.call (t := 17) (as := [vr 40, vi i]) (pc' := 6) (rest := [vr 40]) rfl (c_flightOf_40 i (by omega) M) ?_
  rintro _ _ ⟨rfl, rfl⟩
  refine Hx.run 0 (pc' := 6) (L' := [some (vr 40), some (vi i)]) (st' := [vi (M 44 i), vr 40]) (M' := M) rfl ?_
  refine Hx.run 1 (pc' := 7) (L' := [some (vr 40), some (vi i)]) (st' := [vr 40, vi (M 44 i), vr 40]) (M' := M) rfl ?_
  refine Hx.call (t := 24) (as := [vr 40]) (pc' := 10) (rest := [vi (M 44 i), vr 40]) rfl (c_hourOfDay_40  M (by omega)) ?_
  rintro _ _ ⟨rfl, rfl⟩
  refine Hx.run 0 (pc' := 10) (L' := [some (vr 40), some (vi i)]) (st' := [vi (M 45 16 % 24), vi (M 44 i), vr 40]) (M' := M) rfl ?_
  refine Hx.call (t := 28) (as := [vr 40, vi (M 44 i), vi (M 45 16 % 24)]) (pc' := 13) (rest := []) rfl (c_barsAt_40 (M 44 i) (M 45 16 % 24) M (by omega) (by omega)) ?_
  rintro _ _ ⟨rfl, rfl⟩
  refine Hx.run 0 (pc' := 13) (L' := [some (vr 40), some (vi i)]) (st' := [vi (bb (M 45 (12 + (M 44 i))) (bcF (M 41 (M 44 i)) (M 45 16 % 24)))]) (M' := M) rfl ?_
  refine Hx.ret rfl ?_
  exact ⟨rfl, rfl⟩
set_option maxRecDepth 100000 in
theorem c_reachAt_40 (i t : Int) (M : Mm) (hg : (0 ≤ i ∧ i < 6) ∧ (0 ≤ M 42 i ∧ M 42 i ≤ 5) ∧ (1 ≤ M 43 i ∧ M 43 i ≤ 4) ∧ (0 ≤ M 44 i ∧ M 44 i < 3) ∧ (0 ≤ M 45 i ∧ M 45 i ≤ 11) ∧ (0 ≤ M 45 (6 + i) ∧ M 45 (6 + i) ≤ 9)) (ht : 0 ≤ t ∧ t < 24) : Ct 31 [vr 40, vi i, vi t] M (fun q0 M' => q0 = some (vi (sfF (M 42 i) (M 43 i) (M 45 (6 + i)) t)) ∧ M = M') := by
  refine Hx.run 3 (pc' := 5) (L' := [some (vr 40), some (vi i), some (vi t)]) (st' := [vi i, vr 42]) (M' := M) rfl ?_
  refine Hx.call (t := 121) (as := [vr 42, vi i]) (pc' := 8) (rest := []) rfl (c_at (r := 42) (n := 6) rfl (by decide) (i := i) (by omega) M) ?_
  rintro _ _ ⟨rfl, rfl⟩
  refine Hx.run 0 (pc' := 8) (L' := [some (vr 40), some (vi i), some (vi t)]) (st' := [vi (M 42 i)]) (M' := M) rfl ?_
  refine Hx.run 3 (pc' := 13) (L' := [some (vr 40), some (vi i), some (vi t)]) (st' := [vi i, vr 43, vi (M 42 i)]) (M' := M) rfl ?_
  refine Hx.call (t := 121) (as := [vr 43, vi i]) (pc' := 16) (rest := [vi (M 42 i)]) rfl (c_at (r := 43) (n := 6) rfl (by decide) (i := i) (by omega) M) ?_
  rintro _ _ ⟨rfl, rfl⟩
  refine Hx.run 0 (pc' := 16) (L' := [some (vr 40), some (vi i), some (vi t)]) (st' := [vi (M 43 i), vi (M 42 i)]) (M' := M) rfl ?_
  refine Hx.run 4 (pc' := 23) (L' := [some (vr 40), some (vi i), some (vi t)]) (st' := [vi i, vi 6, vr 45, vi (M 43 i), vi (M 42 i)]) (M' := M) rfl ?_
  refine Hx.add rfl (by omega) ?_
  refine Hx.call (t := 121) (as := [vr 45, vi (6 + i)]) (pc' := 27) (rest := [vi (M 43 i), vi (M 42 i)]) rfl (c_at (r := 45) (n := 17) rfl (by decide) (i := (6 + i)) (by omega) M) ?_
  rintro _ _ ⟨rfl, rfl⟩
  refine Hx.run 0 (pc' := 27) (L' := [some (vr 40), some (vi i), some (vi t)]) (st' := [vi (M 45 (6 + i)), vi (M 43 i), vi (M 42 i)]) (M' := M) rfl ?_
  refine Hx.run 1 (pc' := 28) (L' := [some (vr 40), some (vi i), some (vi t)]) (st' := [vi t, vi (M 45 (6 + i)), vi (M 43 i), vi (M 42 i)]) (M' := M) rfl ?_
  refine Hx.call (t := 129) (as := [vi (M 42 i), vi (M 43 i), vi (M 45 (6 + i)), vi t]) (pc' := 31) (rest := []) rfl (c_strideOf (M 42 i) (M 43 i) (M 45 (6 + i)) t M (by omega) (by omega) (by omega) (by omega)) ?_
  rintro _ _ ⟨rfl, rfl⟩
  refine Hx.run 0 (pc' := 31) (L' := [some (vr 40), some (vi i), some (vi t)]) (st' := [vi (sfF (M 42 i) (M 43 i) (M 45 (6 + i)) t)]) (M' := M) rfl ?_
  refine Hx.ret rfl ?_
  exact ⟨rfl, rfl⟩
set_option maxRecDepth 100000 in
theorem c_reach_40 (i : Int) (M : Mm) (hg : (0 ≤ i ∧ i < 6) ∧ (0 ≤ M 42 i ∧ M 42 i ≤ 5) ∧ (1 ≤ M 43 i ∧ M 43 i ≤ 4) ∧ (0 ≤ M 44 i ∧ M 44 i < 3) ∧ (0 ≤ M 45 i ∧ M 45 i ≤ 11) ∧ (0 ≤ M 45 (6 + i) ∧ M 45 (6 + i) ≤ 9)) (hh : (0 ≤ M 45 16 ∧ M 45 16 ≤ 9999)) : Ct 30 [vr 40, vi i] M (fun q0 M' => q0 = some (vi (sfF (M 42 i) (M 43 i) (M 45 (6 + i)) (M 45 16 % 24))) ∧ M = M') := by
  refine Hx.run 3 (pc' := 3) (L' := [some (vr 40), some (vi i)]) (st' := [vr 40, vi i, vr 40]) (M' := M) rfl ?_
  refine Hx.call (t := 24) (as := [vr 40]) (pc' := 6) (rest := [vi i, vr 40]) rfl (c_hourOfDay_40  M (by omega)) ?_
  rintro _ _ ⟨rfl, rfl⟩
  refine Hx.run 0 (pc' := 6) (L' := [some (vr 40), some (vi i)]) (st' := [vi (M 45 16 % 24), vi i, vr 40]) (M' := M) rfl ?_
  refine Hx.call (t := 31) (as := [vr 40, vi i, vi (M 45 16 % 24)]) (pc' := 9) (rest := []) rfl (c_reachAt_40 i (M 45 16 % 24) M (by omega) (by omega)) ?_
  rintro _ _ ⟨rfl, rfl⟩
  refine Hx.run 0 (pc' := 9) (L' := [some (vr 40), some (vi i)]) (st' := [vi (sfF (M 42 i) (M 43 i) (M 45 (6 + i)) (M 45 16 % 24))]) (M' := M) rfl ?_
  refine Hx.ret rfl ?_
  exact ⟨rfl, rfl⟩
set_option maxRecDepth 100000 in
theorem c_pass_40 (d : Int) (M : Mm) (hd : 0 ≤ d ∧ d ≤ 99) (hh : (0 ≤ M 45 16 ∧ M 45 16 ≤ 9999)) : Ct 25 [vr 40, vi d] M (fun q0 M' => q0 = none ∧ up M 45 16 (min 9999 (M 45 16 + d)) = M') := by
  refine Hx.run 5 (pc' := 10) (L' := [some (vr 40), some (vi d)]) (st' := [vr 40, vi 9999, vi 16, vr 45]) (M' := M) rfl ?_
  refine Hx.call (t := 23) (as := [vr 40]) (pc' := 13) (rest := [vi 9999, vi 16, vr 45]) rfl (c_hour_40 M) ?_
  rintro _ _ ⟨rfl, rfl⟩
  refine Hx.run 0 (pc' := 13) (L' := [some (vr 40), some (vi d)]) (st' := [vi (M 45 16), vi 9999, vi 16, vr 45]) (M' := M) rfl ?_
  refine Hx.run 1 (pc' := 14) (L' := [some (vr 40), some (vi d)]) (st' := [vi d, vi (M 45 16), vi 9999, vi 16, vr 45]) (M' := M) rfl ?_
  refine Hx.add rfl (by omega) ?_
  refine Hx.call (t := 226) (as := [vi 9999, vi ((M 45 16) + d)]) (pc' := 18) (rest := [vi 16, vr 45]) rfl (c_min 9999 ((M 45 16) + d) M) ?_
  rintro _ _ ⟨rfl, rfl⟩
  refine Hx.run 0 (pc' := 18) (L' := [some (vr 40), some (vi d)]) (st' := [vi (min 9999 ((M 45 16) + d)), vi 16, vr 45]) (M' := M) rfl ?_
  refine Hx.call (t := 122) (as := [vr 45, vi 16, vi (min 9999 ((M 45 16) + d))]) (pc' := 21) (rest := []) rfl (c_put (r := 45) (n := 17) rfl (by decide) (i := 16) (by omega) (min 9999 ((M 45 16) + d)) M) ?_
  rintro _ _ ⟨rfl, rfl⟩
  refine Hx.run 0 (pc' := 21) (L' := [some (vr 40), some (vi d)]) (st' := []) (M' := (up M 45 16 (min 9999 ((M 45 16) + d)))) rfl ?_
  refine Hx.ret rfl ?_
  exact ⟨rfl, rfl⟩
set_option maxRecDepth 100000 in
theorem c_addFlight_40 (kd s : Int) (M : Mm) (hx : 0 ≤ M 40 0 ∧ M 40 0 < 3) : Ct 9 [vr 40, vi kd, vi s] M (fun q0 M' => q0 = some (vi (M 40 0)) ∧ up (up (up (up M 41 (M 40 0) kd) 45 (12 + (M 40 0)) s) 40 0 (M 40 0 + 1)) 40 2 0 = M') := by
  refine Hx.run 7 (pc' := 11) (L' := [some (vr 40), some (vi kd), some (vi s), some (vi (M 40 0))]) (st' := [vi kd, vi (M 40 0), vr 41]) (M' := M) rfl ?_
  refine Hx.call (t := 122) (as := [vr 41, vi (M 40 0), vi kd]) (pc' := 14) (rest := []) rfl (c_put (r := 41) (n := 3) rfl (by decide) (i := (M 40 0)) (by omega) kd M) ?_
  rintro _ _ ⟨rfl, rfl⟩
  refine Hx.run 0 (pc' := 14) (L' := [some (vr 40), some (vi kd), some (vi s), some (vi (M 40 0))]) (st' := []) (M' := (up M 41 (M 40 0) kd)) rfl ?_
  refine Hx.run 3 (pc' := 17) (L' := [some (vr 40), some (vi kd), some (vi s), some (vi (M 40 0))]) (st' := [vi s, vi (M 40 0), vr 40]) (M' := (up M 41 (M 40 0) kd)) rfl ?_
  refine Hx.call (t := 15) (as := [vr 40, vi (M 40 0), vi s]) (pc' := 20) (rest := []) rfl (c_setOwnerStep_40 (M 40 0) s (up M 41 (M 40 0) kd) (by omega)) ?_
  rintro _ _ ⟨rfl, rfl⟩
  refine Hx.run 0 (pc' := 20) (L' := [some (vr 40), some (vi kd), some (vi s), some (vi (M 40 0))]) (st' := []) (M' := (up (up M 41 (M 40 0) kd) 45 (12 + (M 40 0)) s)) rfl ?_
  refine Hx.run 4 (pc' := 26) (L' := [some (vr 40), some (vi kd), some (vi s), some (vi (M 40 0))]) (st' := [vi 1, vi (M 40 0), vr 40]) (M' := (up (up M 41 (M 40 0) kd) 45 (12 + (M 40 0)) s)) rfl ?_
  refine Hx.add rfl (by omega) ?_
  refine Hx.run 5 (pc' := 36) (L' := [some (vr 40), some (vi kd), some (vi s), some (vi (M 40 0))]) (st' := [vi (M 40 0)]) (M' := (up (up (up (up M 41 (M 40 0) kd) 45 (12 + (M 40 0)) s) 40 0 ((M 40 0) + 1)) 40 2 0)) rfl ?_
  refine Hx.ret rfl ?_
  exact ⟨rfl, rfl⟩
set_option maxRecDepth 100000 in
theorem c_addGoer_40 (kd l f : Int) (M : Mm) (hx : 0 ≤ M 40 1 ∧ M 40 1 < 6) : Ct 10 [vr 40, vi kd, vi l, vi f] M (fun q0 M' => q0 = some (vi (M 40 1)) ∧ up (up (up (up (up (up (up M 42 (M 40 1) kd) 43 (M 40 1) l) 44 (M 40 1) f) 45 (M 40 1) 0) 45 (6 + (M 40 1)) 0) 40 1 (M 40 1 + 1)) 40 2 0 = M') := by
  refine Hx.run 7 (pc' := 13) (L' := [some (vr 40), some (vi kd), some (vi l), some (vi f), some (vi (M 40 1))]) (st' := [vi kd, vi (M 40 1), vr 42]) (M' := M) rfl ?_
  refine Hx.call (t := 122) (as := [vr 42, vi (M 40 1), vi kd]) (pc' := 16) (rest := []) rfl (c_put (r := 42) (n := 6) rfl (by decide) (i := (M 40 1)) (by omega) kd M) ?_
  rintro _ _ ⟨rfl, rfl⟩
  refine Hx.run 0 (pc' := 16) (L' := [some (vr 40), some (vi kd), some (vi l), some (vi f), some (vi (M 40 1))]) (st' := []) (M' := (up M 42 (M 40 1) kd)) rfl ?_
  refine Hx.run 4 (pc' := 23) (L' := [some (vr 40), some (vi kd), some (vi l), some (vi f), some (vi (M 40 1))]) (st' := [vi l, vi (M 40 1), vr 43]) (M' := (up M 42 (M 40 1) kd)) rfl ?_
  refine Hx.call (t := 122) (as := [vr 43, vi (M 40 1), vi l]) (pc' := 26) (rest := []) rfl (c_put (r := 43) (n := 6) rfl (by decide) (i := (M 40 1)) (by omega) l (up M 42 (M 40 1) kd)) ?_
  rintro _ _ ⟨rfl, rfl⟩
  refine Hx.run 0 (pc' := 26) (L' := [some (vr 40), some (vi kd), some (vi l), some (vi f), some (vi (M 40 1))]) (st' := []) (M' := (up (up M 42 (M 40 1) kd) 43 (M 40 1) l)) rfl ?_
  refine Hx.run 4 (pc' := 33) (L' := [some (vr 40), some (vi kd), some (vi l), some (vi f), some (vi (M 40 1))]) (st' := [vi f, vi (M 40 1), vr 44]) (M' := (up (up M 42 (M 40 1) kd) 43 (M 40 1) l)) rfl ?_
  refine Hx.call (t := 122) (as := [vr 44, vi (M 40 1), vi f]) (pc' := 36) (rest := []) rfl (c_put (r := 44) (n := 6) rfl (by decide) (i := (M 40 1)) (by omega) f (up (up M 42 (M 40 1) kd) 43 (M 40 1) l)) ?_
  rintro _ _ ⟨rfl, rfl⟩
  refine Hx.run 0 (pc' := 36) (L' := [some (vr 40), some (vi kd), some (vi l), some (vi f), some (vi (M 40 1))]) (st' := []) (M' := (up (up (up M 42 (M 40 1) kd) 43 (M 40 1) l) 44 (M 40 1) f)) rfl ?_
  refine Hx.run 3 (pc' := 40) (L' := [some (vr 40), some (vi kd), some (vi l), some (vi f), some (vi (M 40 1))]) (st' := [vi 0, vi (M 40 1), vr 40]) (M' := (up (up (up M 42 (M 40 1) kd) 43 (M 40 1) l) 44 (M 40 1) f)) rfl ?_
  refine Hx.call (t := 19) (as := [vr 40, vi (M 40 1), vi 0]) (pc' := 43) (rest := []) rfl (c_setStep_40 (M 40 1) 0 (up (up (up M 42 (M 40 1) kd) 43 (M 40 1) l) 44 (M 40 1) f) (by omega)) ?_
  rintro _ _ ⟨rfl, rfl⟩
  refine Hx.run 0 (pc' := 43) (L' := [some (vr 40), some (vi kd), some (vi l), some (vi f), some (vi (M 40 1))]) (st' := []) (M' := (up (up (up (up M 42 (M 40 1) kd) 43 (M 40 1) l) 44 (M 40 1) f) 45 (M 40 1) 0)) rfl ?_
  refine Hx.run 3 (pc' := 47) (L' := [some (vr 40), some (vi kd), some (vi l), some (vi f), some (vi (M 40 1))]) (st' := [vi 0, vi (M 40 1), vr 40]) (M' := (up (up (up (up M 42 (M 40 1) kd) 43 (M 40 1) l) 44 (M 40 1) f) 45 (M 40 1) 0)) rfl ?_
  refine Hx.call (t := 21) (as := [vr 40, vi (M 40 1), vi 0]) (pc' := 50) (rest := []) rfl (c_setLoad_40 (M 40 1) 0 (up (up (up (up M 42 (M 40 1) kd) 43 (M 40 1) l) 44 (M 40 1) f) 45 (M 40 1) 0) (by omega)) ?_
  rintro _ _ ⟨rfl, rfl⟩
  refine Hx.run 0 (pc' := 50) (L' := [some (vr 40), some (vi kd), some (vi l), some (vi f), some (vi (M 40 1))]) (st' := []) (M' := (up (up (up (up (up M 42 (M 40 1) kd) 43 (M 40 1) l) 44 (M 40 1) f) 45 (M 40 1) 0) 45 (6 + (M 40 1)) 0)) rfl ?_
  refine Hx.run 4 (pc' := 56) (L' := [some (vr 40), some (vi kd), some (vi l), some (vi f), some (vi (M 40 1))]) (st' := [vi 1, vi (M 40 1), vr 40]) (M' := (up (up (up (up (up M 42 (M 40 1) kd) 43 (M 40 1) l) 44 (M 40 1) f) 45 (M 40 1) 0) 45 (6 + (M 40 1)) 0)) rfl ?_
  refine Hx.add rfl (by omega) ?_
  refine Hx.run 5 (pc' := 67) (L' := [some (vr 40), some (vi kd), some (vi l), some (vi f), some (vi (M 40 1))]) (st' := [vi (M 40 1)]) (M' := (up (up (up (up (up (up (up M 42 (M 40 1) kd) 43 (M 40 1) l) 44 (M 40 1) f) 45 (M 40 1) 0) 45 (6 + (M 40 1)) 0) 40 1 ((M 40 1) + 1)) 40 2 0)) rfl ?_
  refine Hx.ret rfl ?_
  exact ⟨rfl, rfl⟩
set_option maxRecDepth 100000 in
theorem c_stride_40 (i d : Int) (M : Mm) (hg : (0 ≤ i ∧ i < 6) ∧ (0 ≤ M 42 i ∧ M 42 i ≤ 5) ∧ (1 ≤ M 43 i ∧ M 43 i ≤ 4) ∧ (0 ≤ M 44 i ∧ M 44 i < 3) ∧ (0 ≤ M 45 i ∧ M 45 i ≤ 11) ∧ (0 ≤ M 45 (6 + i) ∧ M 45 (6 + i) ≤ 9)) (hf : (0 ≤ (M 44 i) ∧ (M 44 i) < 3) ∧ (0 ≤ M 41 (M 44 i) ∧ M 41 (M 44 i) ≤ 5) ∧ (1 ≤ M 45 (12 + (M 44 i)) ∧ M 45 (12 + (M 44 i)) ≤ 10)) (hh : (0 ≤ M 45 16 ∧ M 45 16 ≤ 9999)) (hd : 1 ≤ d ∧ d ≤ 9) (hfa : 0 ≤ M 45 15 ∧ M 45 15 ≤ 9999) : Ct 33 [vr 40, vi i, vi d] M (fun q0 M' => (hb (bb (M 45 (12 + (M 44 i))) (bcF (M 41 (M 44 i)) (M 45 16 % 24))) (min 11 ((M 45 i) + d)) ∧ q0 = some (vi 0) ∧ up (up M 45 15 (min 9999 (M 45 15 + 1))) 45 i 0 = M') ∨ (¬ hb (bb (M 45 (12 + (M 44 i))) (bcF (M 41 (M 44 i)) (M 45 16 % 24))) (min 11 ((M 45 i) + d)) ∧ q0 = some (vi (min 11 ((M 45 i) + d))) ∧ up M 45 i (min 11 ((M 45 i) + d)) = M')) := by
  have hbb := bb_rng (M 45 (12 + (M 44 i))) (bcF (M 41 (M 44 i)) (M 45 16 % 24))
  refine Hx.run 3 (pc' := 4) (L' := [some (vr 40), some (vi i), some (vi d), none]) (st' := [vi i, vr 40, vi 11]) (M' := M) rfl ?_
  refine Hx.call (t := 18) (as := [vr 40, vi i]) (pc' := 7) (rest := [vi 11]) rfl (c_stepOf_40 i (by omega) M) ?_
  rintro _ _ ⟨rfl, rfl⟩
  refine Hx.run 0 (pc' := 7) (L' := [some (vr 40), some (vi i), some (vi d), none]) (st' := [vi (M 45 i), vi 11]) (M' := M) rfl ?_
  refine Hx.run 1 (pc' := 8) (L' := [some (vr 40), some (vi i), some (vi d), none]) (st' := [vi d, vi (M 45 i), vi 11]) (M' := M) rfl ?_
  refine Hx.add rfl (by omega) ?_
  refine Hx.call (t := 226) (as := [vi 11, vi ((M 45 i) + d)]) (pc' := 12) (rest := []) rfl (c_min 11 ((M 45 i) + d) M) ?_
  rintro _ _ ⟨rfl, rfl⟩
  refine Hx.run 0 (pc' := 12) (L' := [some (vr 40), some (vi i), some (vi d), none]) (st' := [vi (min 11 ((M 45 i) + d))]) (M' := M) rfl ?_
  refine Hx.run 3 (pc' := 15) (L' := [some (vr 40), some (vi i), some (vi d), some (vi (min 11 ((M 45 i) + d)))]) (st' := [vi i, vr 40]) (M' := M) rfl ?_
  refine Hx.call (t := 29) (as := [vr 40, vi i]) (pc' := 18) (rest := []) rfl (c_barsFor_40 i M (by omega) (by omega) (by omega)) ?_
  rintro _ _ ⟨rfl, rfl⟩
  refine Hx.run 0 (pc' := 18) (L' := [some (vr 40), some (vi i), some (vi d), some (vi (min 11 ((M 45 i) + d)))]) (st' := [vi (bb (M 45 (12 + (M 44 i))) (bcF (M 41 (M 44 i)) (M 45 16 % 24)))]) (M' := M) rfl ?_
  refine Hx.run 1 (pc' := 19) (L' := [some (vr 40), some (vi i), some (vi d), some (vi (min 11 ((M 45 i) + d)))]) (st' := [vi (min 11 ((M 45 i) + d)), vi (bb (M 45 (12 + (M 44 i))) (bcF (M 41 (M 44 i)) (M 45 16 % 24)))]) (M' := M) rfl ?_
  refine Hx.call (t := 128) (as := [vi (bb (M 45 (12 + (M 44 i))) (bcF (M 41 (M 44 i)) (M 45 16 % 24))), vi (min 11 ((M 45 i) + d))]) (pc' := 22) (rest := []) rfl (c_isBarred (bb (M 45 (12 + (M 44 i))) (bcF (M 41 (M 44 i)) (M 45 16 % 24))) (min 11 ((M 45 i) + d)) M (by omega) (by omega)) ?_
  rintro _ _ (⟨q2, rfl, rfl⟩ | ⟨q2, rfl, rfl⟩)
  · skip
    refine Hx.run 8 (pc' := 37) (L' := [some (vr 40), some (vi i), some (vi d), some (vi 0)]) (st' := [vr 40, vi 9999, vi 15, vr 45]) (M' := M) rfl ?_
    refine Hx.call (t := 22) (as := [vr 40]) (pc' := 40) (rest := [vi 9999, vi 15, vr 45]) rfl (c_falls_40 M) ?_
    rintro _ _ ⟨rfl, rfl⟩
    refine Hx.run 0 (pc' := 40) (L' := [some (vr 40), some (vi i), some (vi d), some (vi 0)]) (st' := [vi (M 45 15), vi 9999, vi 15, vr 45]) (M' := M) rfl ?_
    refine Hx.run 1 (pc' := 41) (L' := [some (vr 40), some (vi i), some (vi d), some (vi 0)]) (st' := [vi 1, vi (M 45 15), vi 9999, vi 15, vr 45]) (M' := M) rfl ?_
    refine Hx.add rfl (by omega) ?_
    refine Hx.call (t := 226) (as := [vi 9999, vi ((M 45 15) + 1)]) (pc' := 45) (rest := [vi 15, vr 45]) rfl (c_min 9999 ((M 45 15) + 1) M) ?_
    rintro _ _ ⟨rfl, rfl⟩
    refine Hx.run 0 (pc' := 45) (L' := [some (vr 40), some (vi i), some (vi d), some (vi 0)]) (st' := [vi (min 9999 ((M 45 15) + 1)), vi 15, vr 45]) (M' := M) rfl ?_
    refine Hx.call (t := 122) (as := [vr 45, vi 15, vi (min 9999 ((M 45 15) + 1))]) (pc' := 48) (rest := []) rfl (c_put (r := 45) (n := 17) rfl (by decide) (i := 15) (by omega) (min 9999 ((M 45 15) + 1)) M) ?_
    rintro _ _ ⟨rfl, rfl⟩
    refine Hx.run 0 (pc' := 48) (L' := [some (vr 40), some (vi i), some (vi d), some (vi 0)]) (st' := []) (M' := (up M 45 15 (min 9999 ((M 45 15) + 1)))) rfl ?_
    refine Hx.run 3 (pc' := 51) (L' := [some (vr 40), some (vi i), some (vi d), some (vi 0)]) (st' := [vi 0, vi i, vr 40]) (M' := (up M 45 15 (min 9999 ((M 45 15) + 1)))) rfl ?_
    refine Hx.call (t := 19) (as := [vr 40, vi i, vi 0]) (pc' := 54) (rest := []) rfl (c_setStep_40 i 0 (up M 45 15 (min 9999 ((M 45 15) + 1))) (by omega)) ?_
    rintro _ _ ⟨rfl, rfl⟩
    refine Hx.run 0 (pc' := 54) (L' := [some (vr 40), some (vi i), some (vi d), some (vi 0)]) (st' := []) (M' := (up (up M 45 15 (min 9999 ((M 45 15) + 1))) 45 i 0)) rfl ?_
    refine Hx.run 1 (pc' := 55) (L' := [some (vr 40), some (vi i), some (vi d), some (vi 0)]) (st' := [vi 0]) (M' := (up (up M 45 15 (min 9999 ((M 45 15) + 1))) 45 i 0)) rfl ?_
    refine Hx.ret rfl ?_
    first | exact Or.inl ⟨by assumption, rfl, rfl⟩ | exact Or.inr ⟨by assumption, rfl, rfl⟩
  · skip
    refine Hx.run 4 (pc' := 51) (L' := [some (vr 40), some (vi i), some (vi d), some (vi (min 11 ((M 45 i) + d)))]) (st' := [vi (min 11 ((M 45 i) + d)), vi i, vr 40]) (M' := M) rfl ?_
    refine Hx.call (t := 19) (as := [vr 40, vi i, vi (min 11 ((M 45 i) + d))]) (pc' := 54) (rest := []) rfl (c_setStep_40 i (min 11 ((M 45 i) + d)) M (by omega)) ?_
    rintro _ _ ⟨rfl, rfl⟩
    refine Hx.run 0 (pc' := 54) (L' := [some (vr 40), some (vi i), some (vi d), some (vi (min 11 ((M 45 i) + d)))]) (st' := []) (M' := (up M 45 i (min 11 ((M 45 i) + d)))) rfl ?_
    refine Hx.run 1 (pc' := 55) (L' := [some (vr 40), some (vi i), some (vi d), some (vi (min 11 ((M 45 i) + d)))]) (st' := [vi (min 11 ((M 45 i) + d))]) (M' := (up M 45 i (min 11 ((M 45 i) + d)))) rfl ?_
    refine Hx.ret rfl ?_
    first | exact Or.inl ⟨by assumption, rfl, rfl⟩ | exact Or.inr ⟨by assumption, rfl, rfl⟩
end
section
/-! rows filled and copied; ledgers (written by wip/whole/gen17.py) -/
/-- places lo .. hi - 1 of row r hold v -/
def fl (M : Mm) (r : Nat) (lo hi v : Int) : Mm := fun a b => if a = r ∧ lo ≤ b ∧ b < hi then v else M a b
theorem fl_up {M : Mm} {r : Nat} {lo i v : Int} (h : lo ≤ i) : up (fl M r lo i v) r i v = fl M r lo (i + 1) v := by
  funext a b
  simp only [up, fl]
  by_cases ha : a = r
  · by_cases hb : b = i
    · rw [if_pos ⟨ha, hb⟩, if_pos ⟨ha, by omega, by omega⟩]
    · rw [if_neg (fun q => hb q.2)]
      by_cases hc : lo ≤ b ∧ b < i
      · rw [if_pos ⟨ha, hc⟩, if_pos ⟨ha, by omega, by omega⟩]
      · rw [if_neg (fun q => hc q.2), if_neg (fun q => hc ⟨by omega, by omega⟩)]
  · rw [if_neg (fun q => ha q.1), if_neg (fun q => ha q.1), if_neg (fun q => ha q.1)]
theorem fl_0 {M : Mm} {r : Nat} {lo v : Int} : fl M r lo lo v = M := by
  funext a b
  simp only [fl]
  rw [if_neg (fun q => by omega)]
theorem fl_ne {M : Mm} {r a : Nat} {lo hi v : Int} (h : a ≠ r) : fl M r lo hi v a = M a := by
  funext b; simp [fl, h]
theorem fl_in {M : Mm} {r : Nat} {lo hi v b : Int} (h : lo ≤ b ∧ b < hi) : fl M r lo hi v r b = v := if_pos ⟨rfl, h⟩
theorem fl_out {M : Mm} {r : Nat} {lo hi v b : Int} (h : ¬ (lo ≤ b ∧ b < hi)) : fl M r lo hi v r b = M r b := if_neg (fun q => h q.2)
set_option maxRecDepth 100000 in
theorem l_fill {r n : Nat} (hs : shp r = .inl (n, false)) (hr : r < 73) (hn : n < 2000) (v : Int) (M : Mm) : ∀ (kk : Nat) (i : Int), 0 ≤ i ∧ i ≤ (n : Int) → (n : Int) - i < (kk : Int) → Hx 224 5 [some (vr r), some (vi v), some (vi i), some (vi (n : Int))] [] (fl M r 0 i v) (fun q0 M' => q0 = none ∧ fl M r 0 (n : Int) v = M') := by
  intro kk
  induction kk with
  | zero => intro i _ hkk; exact absurd hkk (by omega)
  | succ kk ih =>
    intro i hi hkk
    refine Hx.run 2 (pc' := 7) (L' := [some (vr r), some (vi v), some (vi i), some (vi (n : Int))]) (st' := [vi (n : Int), vi i]) (M' := (fl M r 0 i v)) rfl ?_
    refine Hx.br (c := i < (n : Int)) (t := 10) (f := 20) rfl (fun h1 => ?_) (fun h1 => ?_)
    · skip
      refine Hx.run 3 (pc' := 13) (L' := [some (vr r), some (vi v), some (vi i), some (vi (n : Int))]) (st' := [vi v, vi i, vr r]) (M' := (fl M r 0 i v)) rfl ?_
      refine Hx.astI (n := n) rfl hs (by omega) ?_
      refine Hx.inc rfl rfl (by omega) ?_
      refine Hx.run 0 (pc' := 17) (L' := [some (vr r), some (vi v), some (vi (i + 1)), some (vi (n : Int))]) (st' := []) (M' := (up (fl M r 0 i v) r i v)) rfl ?_
      refine Hx.run 1 (pc' := 5) (L' := [some (vr r), some (vi v), some (vi (i + 1)), some (vi (n : Int))]) (st' := []) (M' := (up (fl M r 0 i v) r i v)) rfl ?_
      rw [fl_up (by omega)]
      exact ih (i + 1) (by omega) (by omega)
    · skip
      refine Hx.ret rfl ?_
      have e : i = (n : Int) := by omega
      subst e
      exact ⟨rfl, rfl⟩
set_option maxRecDepth 100000 in
theorem c_fill {r n : Nat} (hs : shp r = .inl (n, false)) (hr : r < 73) (hn : n < 2000) (v : Int) (M : Mm) : Ct 224 [vr r, vi v] M (fun q0 M' => q0 = none ∧ fl M r 0 (n : Int) v = M') := by
  refine Hx.run 3 (pc' := 3) (L' := [some (vr r), some (vi v), some (vi 0), none]) (st' := [vr r]) (M' := M) rfl ?_
  refine Hx.alenI (n := n) rfl hs hr ?_
  refine Hx.run 1 (pc' := 5) (L' := [some (vr r), some (vi v), some (vi 0), some (vi (n : Int))]) (st' := []) (M' := M) rfl ?_
  have h0 := l_fill hs hr hn v M ((n : Int).toNat + 1) 0 (by omega) (by omega)
  rw [fl_0] at h0
  exact h0
set_option maxRecDepth 100000 in
theorem c_copyInto {rd rs n : Nat} (hd : shp rd = .inl (n, false)) (hs : shp rs = .inl (n, false)) (hrd : rd < 73) (hrs : rs < 73) (hn : n < 2000) (M : Mm) : Ct 123 [vr rd, vr rs] M (fun q0 M' => q0 = none ∧ cp M rs 0 rd 0 (n : Int) = M') := by
  refine Hx.run 5 (pc' := 5) (L' := [some (vr rd), some (vr rs)]) (st' := [vr rs, vi 0, vr rd, vi 0, vr rs]) (M' := M) rfl ?_
  refine Hx.alenI (n := n) rfl hs hrs ?_
  refine Hx.run 1 (pc' := 7) (L' := [some (vr rd), some (vr rs)]) (st' := [vr rd, vi (n : Int), vi 0, vr rd, vi 0, vr rs]) (M' := M) rfl ?_
  refine Hx.alenI (n := n) rfl hd hrd ?_
  refine Hx.call (t := 226) (as := [vi (n : Int), vi (n : Int)]) (pc' := 11) (rest := [vi 0, vr rd, vi 0, vr rs]) rfl (c_min (n : Int) (n : Int) M) ?_
  rintro _ _ ⟨rfl, rfl⟩
  refine Hx.run 0 (pc' := 11) (L' := [some (vr rd), some (vr rs)]) (st' := [vi (min (n : Int) (n : Int)), vi 0, vr rd, vi 0, vr rs]) (M' := M) rfl ?_
  refine Hx.acopyI (n0 := n) (n1 := n) rfl rfl hs hd hrs hrd (by omega) (by decide) ?_
  refine Hx.run 0 (pc' := 14) (L' := [some (vr rd), some (vr rs)]) (st' := []) (M' := (cp M rs 0 rd 0 (min (n : Int) (n : Int)))) rfl ?_
  refine Hx.ret rfl ?_
  exact ⟨rfl, by rw [show min (n : Int) (n : Int) = (n : Int) by omega]⟩
set_option maxRecDepth 100000 in
theorem c_isFull_8 (M : Mm) (hl : (M 8 0 = 4 ∧ M 8 1 = 5 ∧ 0 ≤ M 8 3 ∧ M 8 3 ≤ 5)) : Ct 34 [vr 8] M (fun q0 M' => ((M 8 3 = 5) ∧ q0 = some (vi 1) ∧ M = M') ∨ (¬ (M 8 3 = 5) ∧ q0 = some (vi 0) ∧ M = M')) := by
  refine Hx.run 4 (pc' := 8) (L' := [some (vr 8)]) (st' := [vi (M 8 1), vi (M 8 3)]) (M' := M) rfl ?_
  refine Hx.br (c := (M 8 3) < (M 8 1)) (t := 15) (f := 11) rfl (fun h1 => ?_) (fun h1 => ?_)
  · skip
    refine Hx.run 1 (pc' := 16) (L' := [some (vr 8)]) (st' := [vi 0]) (M' := M) rfl ?_
    refine Hx.ret rfl ?_
    first | exact Or.inl ⟨by omega, rfl, rfl⟩ | exact Or.inr ⟨by omega, rfl, rfl⟩
  · skip
    refine Hx.run 2 (pc' := 16) (L' := [some (vr 8)]) (st' := [vi 1]) (M' := M) rfl ?_
    refine Hx.ret rfl ?_
    first | exact Or.inl ⟨by omega, rfl, rfl⟩ | exact Or.inr ⟨by omega, rfl, rfl⟩
set_option maxRecDepth 100000 in
theorem c_lempty_8 (M : Mm) : Ct 35 [vr 8] M (fun q0 M' => q0 = some (vi (M 8 3)) ∧ up M 8 3 0 = M') := by
  refine Hx.run 7 (pc' := 11) (L' := [some (vr 8), some (vi (M 8 3))]) (st' := [vi (M 8 3)]) (M' := (up M 8 3 0)) rfl ?_
  refine Hx.ret rfl ?_
  exact ⟨rfl, rfl⟩
set_option maxRecDepth 100000 in
theorem c_cell_8 (x c : Int) (M : Mm) (hl : (M 8 0 = 4 ∧ M 8 1 = 5 ∧ 0 ≤ M 8 3 ∧ M 8 3 ≤ 5)) (hx : 0 ≤ x ∧ x < 5) (hc : 0 ≤ c ∧ c < 4) : Ct 38 [vr 8, vi x, vi c] M (fun q0 M' => q0 = some (vi (M 9 (x * 4 + c))) ∧ M = M') := by
  refine Hx.run 5 (pc' := 9) (L' := [some (vr 8), some (vi x), some (vi c)]) (st' := [vi (M 8 0), vi x, vr 9]) (M' := M) rfl ?_
  refine Hx.mul rfl (by (rw [hl.1]; omega)) ?_
  refine Hx.run 1 (pc' := 11) (L' := [some (vr 8), some (vi x), some (vi c)]) (st' := [vi c, vi (x * (M 8 0)), vr 9]) (M' := M) rfl ?_
  refine Hx.add rfl (by (rw [hl.1]; omega)) ?_
  refine Hx.call (t := 121) (as := [vr 9, vi ((x * (M 8 0)) + c)]) (pc' := 15) (rest := []) rfl (c_at (r := 9) (n := 20) rfl (by decide) (i := ((x * (M 8 0)) + c)) (by (rw [hl.1]; omega)) M) ?_
  rintro _ _ ⟨rfl, rfl⟩
  refine Hx.run 0 (pc' := 15) (L' := [some (vr 8), some (vi x), some (vi c)]) (st' := [vi (M 9 ((x * (M 8 0)) + c))]) (M' := M) rfl ?_
  refine Hx.ret rfl ?_
  exact ⟨some_vi (by rw [hl.1]), rfl⟩
set_option maxRecDepth 100000 in
theorem c_isFull_10 (M : Mm) (hl : (M 10 0 = 3 ∧ M 10 1 = 6 ∧ 0 ≤ M 10 3 ∧ M 10 3 ≤ 6)) : Ct 34 [vr 10] M (fun q0 M' => ((M 10 3 = 6) ∧ q0 = some (vi 1) ∧ M = M') ∨ (¬ (M 10 3 = 6) ∧ q0 = some (vi 0) ∧ M = M')) := by
  refine Hx.run 4 (pc' := 8) (L' := [some (vr 10)]) (st' := [vi (M 10 1), vi (M 10 3)]) (M' := M) rfl ?_
  refine Hx.br (c := (M 10 3) < (M 10 1)) (t := 15) (f := 11) rfl (fun h1 => ?_) (fun h1 => ?_)
  · skip
    refine Hx.run 1 (pc' := 16) (L' := [some (vr 10)]) (st' := [vi 0]) (M' := M) rfl ?_
    refine Hx.ret rfl ?_
    first | exact Or.inl ⟨by omega, rfl, rfl⟩ | exact Or.inr ⟨by omega, rfl, rfl⟩
  · skip
    refine Hx.run 2 (pc' := 16) (L' := [some (vr 10)]) (st' := [vi 1]) (M' := M) rfl ?_
    refine Hx.ret rfl ?_
    first | exact Or.inl ⟨by omega, rfl, rfl⟩ | exact Or.inr ⟨by omega, rfl, rfl⟩
set_option maxRecDepth 100000 in
theorem c_lempty_10 (M : Mm) : Ct 35 [vr 10] M (fun q0 M' => q0 = some (vi (M 10 3)) ∧ up M 10 3 0 = M') := by
  refine Hx.run 7 (pc' := 11) (L' := [some (vr 10), some (vi (M 10 3))]) (st' := [vi (M 10 3)]) (M' := (up M 10 3 0)) rfl ?_
  refine Hx.ret rfl ?_
  exact ⟨rfl, rfl⟩
set_option maxRecDepth 100000 in
theorem c_cell_10 (x c : Int) (M : Mm) (hl : (M 10 0 = 3 ∧ M 10 1 = 6 ∧ 0 ≤ M 10 3 ∧ M 10 3 ≤ 6)) (hx : 0 ≤ x ∧ x < 6) (hc : 0 ≤ c ∧ c < 3) : Ct 38 [vr 10, vi x, vi c] M (fun q0 M' => q0 = some (vi (M 11 (x * 3 + c))) ∧ M = M') := by
  refine Hx.run 5 (pc' := 9) (L' := [some (vr 10), some (vi x), some (vi c)]) (st' := [vi (M 10 0), vi x, vr 11]) (M' := M) rfl ?_
  refine Hx.mul rfl (by (rw [hl.1]; omega)) ?_
  refine Hx.run 1 (pc' := 11) (L' := [some (vr 10), some (vi x), some (vi c)]) (st' := [vi c, vi (x * (M 10 0)), vr 11]) (M' := M) rfl ?_
  refine Hx.add rfl (by (rw [hl.1]; omega)) ?_
  refine Hx.call (t := 121) (as := [vr 11, vi ((x * (M 10 0)) + c)]) (pc' := 15) (rest := []) rfl (c_at (r := 11) (n := 18) rfl (by decide) (i := ((x * (M 10 0)) + c)) (by (rw [hl.1]; omega)) M) ?_
  rintro _ _ ⟨rfl, rfl⟩
  refine Hx.run 0 (pc' := 15) (L' := [some (vr 10), some (vi x), some (vi c)]) (st' := [vi (M 11 ((x * (M 10 0)) + c))]) (M' := M) rfl ?_
  refine Hx.ret rfl ?_
  exact ⟨some_vi (by rw [hl.1]), rfl⟩
set_option maxRecDepth 100000 in
theorem c_isFull_12 (M : Mm) (hl : (M 12 0 = 5 ∧ M 12 1 = 6 ∧ 0 ≤ M 12 3 ∧ M 12 3 ≤ 6)) : Ct 34 [vr 12] M (fun q0 M' => ((M 12 3 = 6) ∧ q0 = some (vi 1) ∧ M = M') ∨ (¬ (M 12 3 = 6) ∧ q0 = some (vi 0) ∧ M = M')) := by
  refine Hx.run 4 (pc' := 8) (L' := [some (vr 12)]) (st' := [vi (M 12 1), vi (M 12 3)]) (M' := M) rfl ?_
  refine Hx.br (c := (M 12 3) < (M 12 1)) (t := 15) (f := 11) rfl (fun h1 => ?_) (fun h1 => ?_)
  · skip
    refine Hx.run 1 (pc' := 16) (L' := [some (vr 12)]) (st' := [vi 0]) (M' := M) rfl ?_
    refine Hx.ret rfl ?_
    first | exact Or.inl ⟨by omega, rfl, rfl⟩ | exact Or.inr ⟨by omega, rfl, rfl⟩
  · skip
    refine Hx.run 2 (pc' := 16) (L' := [some (vr 12)]) (st' := [vi 1]) (M' := M) rfl ?_
    refine Hx.ret rfl ?_
    first | exact Or.inl ⟨by omega, rfl, rfl⟩ | exact Or.inr ⟨by omega, rfl, rfl⟩
set_option maxRecDepth 100000 in
theorem c_lempty_12 (M : Mm) : Ct 35 [vr 12] M (fun q0 M' => q0 = some (vi (M 12 3)) ∧ up M 12 3 0 = M') := by
  refine Hx.run 7 (pc' := 11) (L' := [some (vr 12), some (vi (M 12 3))]) (st' := [vi (M 12 3)]) (M' := (up M 12 3 0)) rfl ?_
  refine Hx.ret rfl ?_
  exact ⟨rfl, rfl⟩
set_option maxRecDepth 100000 in
theorem c_cell_12 (x c : Int) (M : Mm) (hl : (M 12 0 = 5 ∧ M 12 1 = 6 ∧ 0 ≤ M 12 3 ∧ M 12 3 ≤ 6)) (hx : 0 ≤ x ∧ x < 6) (hc : 0 ≤ c ∧ c < 5) : Ct 38 [vr 12, vi x, vi c] M (fun q0 M' => q0 = some (vi (M 13 (x * 5 + c))) ∧ M = M') := by
  refine Hx.run 5 (pc' := 9) (L' := [some (vr 12), some (vi x), some (vi c)]) (st' := [vi (M 12 0), vi x, vr 13]) (M' := M) rfl ?_
  refine Hx.mul rfl (by (rw [hl.1]; omega)) ?_
  refine Hx.run 1 (pc' := 11) (L' := [some (vr 12), some (vi x), some (vi c)]) (st' := [vi c, vi (x * (M 12 0)), vr 13]) (M' := M) rfl ?_
  refine Hx.add rfl (by (rw [hl.1]; omega)) ?_
  refine Hx.call (t := 121) (as := [vr 13, vi ((x * (M 12 0)) + c)]) (pc' := 15) (rest := []) rfl (c_at (r := 13) (n := 30) rfl (by decide) (i := ((x * (M 12 0)) + c)) (by (rw [hl.1]; omega)) M) ?_
  rintro _ _ ⟨rfl, rfl⟩
  refine Hx.run 0 (pc' := 15) (L' := [some (vr 12), some (vi x), some (vi c)]) (st' := [vi (M 13 ((x * (M 12 0)) + c))]) (M' := M) rfl ?_
  refine Hx.ret rfl ?_
  exact ⟨some_vi (by rw [hl.1]), rfl⟩
end
section
/-! a house emptied, taken over, its moments; ledgers grow (written by wip/whole/gen18.py) -/
def emM (M : Mm) (h : Nat) : Mm := up (up (up (fl (up (up (up M h 0 0) h 1 0) h 2 0) (h + 5) 0 17 0) (h + 7) 3 0) (h + 9) 3 0) (h + 11) 3 0
/-- house a takes over house b -/
def tkL (M : Mm) (a b : Nat) (n : Int) : Mm := cp (up M a 3 (M b 3)) (b + 1) 0 (a + 1) 0 n
def tkM (M : Mm) (a b : Nat) : Mm := tkL (tkL (tkL (cp (cp (cp (cp (cp (cp (up (up (up M a 0 (M b 0)) a 1 (M b 1)) a 2 (M b 2)) (b + 1) 0 (a + 1) 0 3) (b + 2) 0 (a + 2) 0 6) (b + 3) 0 (a + 3) 0 6) (b + 4) 0 (a + 4) 0 6) (b + 5) 0 (a + 5) 0 17) (b + 6) 0 (a + 6) 0 136) (a + 7) (b + 7) 20) (a + 9) (b + 9) 18) (a + 11) (b + 11) 30
/-- how many of the first n numbers of A are 11 or more -/
def ov (A : Int → Int) : Nat → Int
  | 0 => 0
  | n + 1 => ov A n + (if 11 ≤ A n then 1 else 0)
theorem ov_rng (A : Int → Int) : ∀ n, 0 ≤ ov A n ∧ ov A n ≤ n
  | 0 => ⟨Int.le_refl _, Int.le_refl _⟩
  | n + 1 => by
    have h := ov_rng A n
    unfold ov
    split <;> omega
def mx (h v : Int) : Int := l2 gadd (l2 gmul 31 h) v
/-- the numbers lo .. lo + n - 1 of A mixed in -/
def mxs (A : Int → Int) (lo : Int) : Nat → Int → Int
  | 0, h => h
  | n + 1, h => mx (mxs A lo n h) (A (lo + n))
set_option maxRecDepth 100000 in
theorem c_setIn_8 (c v z : Int) (M : Mm) (hw : M 8 0 = 4) (hz : M 8 3 = z + 1) (hzr : 0 ≤ z ∧ z < 5) (hc : 0 ≤ c ∧ c < 4) : Ct 37 [vr 8, vi c, vi v] M (fun q0 M' => q0 = none ∧ up M 9 (z * 4 + c) v = M') := by
  refine Hx.run 3 (pc' := 5) (L' := [some (vr 8), some (vi c), some (vi v)]) (st' := [vi (M 8 0), vi c]) (M' := M) rfl ?_
  refine Hx.br (c := c < (M 8 0)) (t := 8) (f := 29) rfl (fun h1 => ?_) (fun h1 => ?_)
  · skip
    refine Hx.run 5 (pc' := 17) (L' := [some (vr 8), some (vi c), some (vi v)]) (st' := [vi 1, vi (M 8 3), vr 9]) (M' := M) rfl ?_
    refine Hx.sub rfl (by (first | omega | (rw [hw, hz]; omega))) ?_
    refine Hx.run 2 (pc' := 22) (L' := [some (vr 8), some (vi c), some (vi v)]) (st' := [vi (M 8 0), vi ((M 8 3) - 1), vr 9]) (M' := M) rfl ?_
    refine Hx.mul rfl (by (first | omega | (rw [hw, hz]; omega))) ?_
    refine Hx.run 1 (pc' := 24) (L' := [some (vr 8), some (vi c), some (vi v)]) (st' := [vi c, vi (((M 8 3) - 1) * (M 8 0)), vr 9]) (M' := M) rfl ?_
    refine Hx.add rfl (by (first | omega | (rw [hw, hz]; omega))) ?_
    refine Hx.run 1 (pc' := 26) (L' := [some (vr 8), some (vi c), some (vi v)]) (st' := [vi v, vi ((((M 8 3) - 1) * (M 8 0)) + c), vr 9]) (M' := M) rfl ?_
    refine Hx.call (t := 122) (as := [vr 9, vi ((((M 8 3) - 1) * (M 8 0)) + c), vi v]) (pc' := 29) (rest := []) rfl (c_put (r := 9) (n := 20) rfl (by decide) (i := ((((M 8 3) - 1) * (M 8 0)) + c)) (by (first | omega | (rw [hw, hz]; omega))) v M) ?_
    rintro _ _ ⟨rfl, rfl⟩
    refine Hx.run 0 (pc' := 29) (L' := [some (vr 8), some (vi c), some (vi v)]) (st' := []) (M' := (up M 9 ((((M 8 3) - 1) * (M 8 0)) + c) v)) rfl ?_
    refine Hx.ret rfl ?_
    first | (exfalso; rw [hw] at h1; omega) | exact ⟨rfl, by rw [hw, hz, show (z + 1 - 1) = z by omega]⟩
  · skip
    refine Hx.ret rfl ?_
    first | (exfalso; rw [hw] at h1; omega) | exact ⟨rfl, by rw [hw, hz, show (z + 1 - 1) = z by omega]⟩
set_option maxRecDepth 100000 in
theorem c_setOut_8 (c v : Int) (M : Mm) (hw : M 8 0 = 4) (hc : 4 ≤ c ∧ c < 9) (h3 : 0 ≤ M 8 3 ∧ M 8 3 ≤ 9) : Ct 37 [vr 8, vi c, vi v] M (fun q0 M' => q0 = none ∧ M = M') := by
  refine Hx.run 3 (pc' := 5) (L' := [some (vr 8), some (vi c), some (vi v)]) (st' := [vi (M 8 0), vi c]) (M' := M) rfl ?_
  refine Hx.br (c := c < (M 8 0)) (t := 8) (f := 29) rfl (fun h1 => ?_) (fun h1 => ?_)
  · skip
    refine Hx.run 5 (pc' := 17) (L' := [some (vr 8), some (vi c), some (vi v)]) (st' := [vi 1, vi (M 8 3), vr 9]) (M' := M) rfl ?_
    refine Hx.sub rfl (by (first | omega | (exfalso; rw [hw] at h1; omega))) ?_
    refine Hx.run 2 (pc' := 22) (L' := [some (vr 8), some (vi c), some (vi v)]) (st' := [vi (M 8 0), vi ((M 8 3) - 1), vr 9]) (M' := M) rfl ?_
    refine Hx.mul rfl (by (first | omega | (exfalso; rw [hw] at h1; omega))) ?_
    refine Hx.run 1 (pc' := 24) (L' := [some (vr 8), some (vi c), some (vi v)]) (st' := [vi c, vi (((M 8 3) - 1) * (M 8 0)), vr 9]) (M' := M) rfl ?_
    refine Hx.add rfl (by (first | omega | (exfalso; rw [hw] at h1; omega))) ?_
    refine Hx.run 1 (pc' := 26) (L' := [some (vr 8), some (vi c), some (vi v)]) (st' := [vi v, vi ((((M 8 3) - 1) * (M 8 0)) + c), vr 9]) (M' := M) rfl ?_
    refine Hx.call (t := 122) (as := [vr 9, vi ((((M 8 3) - 1) * (M 8 0)) + c), vi v]) (pc' := 29) (rest := []) rfl (c_put (r := 9) (n := 20) rfl (by decide) (i := ((((M 8 3) - 1) * (M 8 0)) + c)) (by (first | omega | (exfalso; rw [hw] at h1; omega))) v M) ?_
    rintro _ _ ⟨rfl, rfl⟩
    refine Hx.run 0 (pc' := 29) (L' := [some (vr 8), some (vi c), some (vi v)]) (st' := []) (M' := (up M 9 ((((M 8 3) - 1) * (M 8 0)) + c) v)) rfl ?_
    refine Hx.ret rfl ?_
    first | exact ⟨rfl, rfl⟩ | (exfalso; rw [hw] at h1; omega)
  · skip
    refine Hx.ret rfl ?_
    first | exact ⟨rfl, rfl⟩ | (exfalso; rw [hw] at h1; omega)
set_option maxRecDepth 100000 in
theorem c_setIn_10 (c v z : Int) (M : Mm) (hw : M 10 0 = 3) (hz : M 10 3 = z + 1) (hzr : 0 ≤ z ∧ z < 6) (hc : 0 ≤ c ∧ c < 3) : Ct 37 [vr 10, vi c, vi v] M (fun q0 M' => q0 = none ∧ up M 11 (z * 3 + c) v = M') := by
  refine Hx.run 3 (pc' := 5) (L' := [some (vr 10), some (vi c), some (vi v)]) (st' := [vi (M 10 0), vi c]) (M' := M) rfl ?_
  refine Hx.br (c := c < (M 10 0)) (t := 8) (f := 29) rfl (fun h1 => ?_) (fun h1 => ?_)
  · skip
    refine Hx.run 5 (pc' := 17) (L' := [some (vr 10), some (vi c), some (vi v)]) (st' := [vi 1, vi (M 10 3), vr 11]) (M' := M) rfl ?_
    refine Hx.sub rfl (by (first | omega | (rw [hw, hz]; omega))) ?_
    refine Hx.run 2 (pc' := 22) (L' := [some (vr 10), some (vi c), some (vi v)]) (st' := [vi (M 10 0), vi ((M 10 3) - 1), vr 11]) (M' := M) rfl ?_
    refine Hx.mul rfl (by (first | omega | (rw [hw, hz]; omega))) ?_
    refine Hx.run 1 (pc' := 24) (L' := [some (vr 10), some (vi c), some (vi v)]) (st' := [vi c, vi (((M 10 3) - 1) * (M 10 0)), vr 11]) (M' := M) rfl ?_
    refine Hx.add rfl (by (first | omega | (rw [hw, hz]; omega))) ?_
    refine Hx.run 1 (pc' := 26) (L' := [some (vr 10), some (vi c), some (vi v)]) (st' := [vi v, vi ((((M 10 3) - 1) * (M 10 0)) + c), vr 11]) (M' := M) rfl ?_
    refine Hx.call (t := 122) (as := [vr 11, vi ((((M 10 3) - 1) * (M 10 0)) + c), vi v]) (pc' := 29) (rest := []) rfl (c_put (r := 11) (n := 18) rfl (by decide) (i := ((((M 10 3) - 1) * (M 10 0)) + c)) (by (first | omega | (rw [hw, hz]; omega))) v M) ?_
    rintro _ _ ⟨rfl, rfl⟩
    refine Hx.run 0 (pc' := 29) (L' := [some (vr 10), some (vi c), some (vi v)]) (st' := []) (M' := (up M 11 ((((M 10 3) - 1) * (M 10 0)) + c) v)) rfl ?_
    refine Hx.ret rfl ?_
    first | (exfalso; rw [hw] at h1; omega) | exact ⟨rfl, by rw [hw, hz, show (z + 1 - 1) = z by omega]⟩
  · skip
    refine Hx.ret rfl ?_
    first | (exfalso; rw [hw] at h1; omega) | exact ⟨rfl, by rw [hw, hz, show (z + 1 - 1) = z by omega]⟩
set_option maxRecDepth 100000 in
theorem c_setOut_10 (c v : Int) (M : Mm) (hw : M 10 0 = 3) (hc : 3 ≤ c ∧ c < 9) (h3 : 0 ≤ M 10 3 ∧ M 10 3 ≤ 9) : Ct 37 [vr 10, vi c, vi v] M (fun q0 M' => q0 = none ∧ M = M') := by
  refine Hx.run 3 (pc' := 5) (L' := [some (vr 10), some (vi c), some (vi v)]) (st' := [vi (M 10 0), vi c]) (M' := M) rfl ?_
  refine Hx.br (c := c < (M 10 0)) (t := 8) (f := 29) rfl (fun h1 => ?_) (fun h1 => ?_)
  · skip
    refine Hx.run 5 (pc' := 17) (L' := [some (vr 10), some (vi c), some (vi v)]) (st' := [vi 1, vi (M 10 3), vr 11]) (M' := M) rfl ?_
    refine Hx.sub rfl (by (first | omega | (exfalso; rw [hw] at h1; omega))) ?_
    refine Hx.run 2 (pc' := 22) (L' := [some (vr 10), some (vi c), some (vi v)]) (st' := [vi (M 10 0), vi ((M 10 3) - 1), vr 11]) (M' := M) rfl ?_
    refine Hx.mul rfl (by (first | omega | (exfalso; rw [hw] at h1; omega))) ?_
    refine Hx.run 1 (pc' := 24) (L' := [some (vr 10), some (vi c), some (vi v)]) (st' := [vi c, vi (((M 10 3) - 1) * (M 10 0)), vr 11]) (M' := M) rfl ?_
    refine Hx.add rfl (by (first | omega | (exfalso; rw [hw] at h1; omega))) ?_
    refine Hx.run 1 (pc' := 26) (L' := [some (vr 10), some (vi c), some (vi v)]) (st' := [vi v, vi ((((M 10 3) - 1) * (M 10 0)) + c), vr 11]) (M' := M) rfl ?_
    refine Hx.call (t := 122) (as := [vr 11, vi ((((M 10 3) - 1) * (M 10 0)) + c), vi v]) (pc' := 29) (rest := []) rfl (c_put (r := 11) (n := 18) rfl (by decide) (i := ((((M 10 3) - 1) * (M 10 0)) + c)) (by (first | omega | (exfalso; rw [hw] at h1; omega))) v M) ?_
    rintro _ _ ⟨rfl, rfl⟩
    refine Hx.run 0 (pc' := 29) (L' := [some (vr 10), some (vi c), some (vi v)]) (st' := []) (M' := (up M 11 ((((M 10 3) - 1) * (M 10 0)) + c) v)) rfl ?_
    refine Hx.ret rfl ?_
    first | exact ⟨rfl, rfl⟩ | (exfalso; rw [hw] at h1; omega)
  · skip
    refine Hx.ret rfl ?_
    first | exact ⟨rfl, rfl⟩ | (exfalso; rw [hw] at h1; omega)
set_option maxRecDepth 100000 in
theorem c_setIn_12 (c v z : Int) (M : Mm) (hw : M 12 0 = 5) (hz : M 12 3 = z + 1) (hzr : 0 ≤ z ∧ z < 6) (hc : 0 ≤ c ∧ c < 5) : Ct 37 [vr 12, vi c, vi v] M (fun q0 M' => q0 = none ∧ up M 13 (z * 5 + c) v = M') := by
  refine Hx.run 3 (pc' := 5) (L' := [some (vr 12), some (vi c), some (vi v)]) (st' := [vi (M 12 0), vi c]) (M' := M) rfl ?_
  refine Hx.br (c := c < (M 12 0)) (t := 8) (f := 29) rfl (fun h1 => ?_) (fun h1 => ?_)
  · skip
    refine Hx.run 5 (pc' := 17) (L' := [some (vr 12), some (vi c), some (vi v)]) (st' := [vi 1, vi (M 12 3), vr 13]) (M' := M) rfl ?_
    refine Hx.sub rfl (by (first | omega | (rw [hw, hz]; omega))) ?_
    refine Hx.run 2 (pc' := 22) (L' := [some (vr 12), some (vi c), some (vi v)]) (st' := [vi (M 12 0), vi ((M 12 3) - 1), vr 13]) (M' := M) rfl ?_
    refine Hx.mul rfl (by (first | omega | (rw [hw, hz]; omega))) ?_
    refine Hx.run 1 (pc' := 24) (L' := [some (vr 12), some (vi c), some (vi v)]) (st' := [vi c, vi (((M 12 3) - 1) * (M 12 0)), vr 13]) (M' := M) rfl ?_
    refine Hx.add rfl (by (first | omega | (rw [hw, hz]; omega))) ?_
    refine Hx.run 1 (pc' := 26) (L' := [some (vr 12), some (vi c), some (vi v)]) (st' := [vi v, vi ((((M 12 3) - 1) * (M 12 0)) + c), vr 13]) (M' := M) rfl ?_
    refine Hx.call (t := 122) (as := [vr 13, vi ((((M 12 3) - 1) * (M 12 0)) + c), vi v]) (pc' := 29) (rest := []) rfl (c_put (r := 13) (n := 30) rfl (by decide) (i := ((((M 12 3) - 1) * (M 12 0)) + c)) (by (first | omega | (rw [hw, hz]; omega))) v M) ?_
    rintro _ _ ⟨rfl, rfl⟩
    refine Hx.run 0 (pc' := 29) (L' := [some (vr 12), some (vi c), some (vi v)]) (st' := []) (M' := (up M 13 ((((M 12 3) - 1) * (M 12 0)) + c) v)) rfl ?_
    refine Hx.ret rfl ?_
    first | (exfalso; rw [hw] at h1; omega) | exact ⟨rfl, by rw [hw, hz, show (z + 1 - 1) = z by omega]⟩
  · skip
    refine Hx.ret rfl ?_
    first | (exfalso; rw [hw] at h1; omega) | exact ⟨rfl, by rw [hw, hz, show (z + 1 - 1) = z by omega]⟩
set_option maxRecDepth 100000 in
theorem c_add_8 (a b c d e : Int) (M : Mm) (hl : (M 8 0 = 4 ∧ M 8 1 = 5 ∧ 0 ≤ M 8 3 ∧ M 8 3 ≤ 5)) (hs : M 8 3 < 5) : Ct 36 [vr 8, vi a, vi b, vi c, vi d, vi e] M (fun q0 M' => q0 = some (vi (M 8 3 + 1)) ∧ (up (up (up (up (up M 8 3 (M 8 3 + 1)) 9 (M 8 3 * 4 + 0) a) 9 (M 8 3 * 4 + 1) b) 9 (M 8 3 * 4 + 2) c) 9 (M 8 3 * 4 + 3) d) = M') := by
  refine Hx.run 1 (pc' := 1) (L' := [some (vr 8), some (vi a), some (vi b), some (vi c), some (vi d), some (vi e)]) (st' := [vr 8]) (M' := M) rfl ?_
  refine Hx.call (t := 34) (as := [vr 8]) (pc' := 4) (rest := []) rfl (c_isFull_8  M (by omega)) ?_
  rintro _ _ (⟨q3, rfl, rfl⟩ | ⟨q3, rfl, rfl⟩)
  · skip
    refine Hx.run 3 (pc' := 11) (L' := [some (vr 8), some (vi a), some (vi b), some (vi c), some (vi d), some (vi e)]) (st' := [vi (M 8 3)]) (M' := M) rfl ?_
    refine Hx.ret rfl ?_
    first | exact ⟨rfl, rfl⟩ | (exfalso; omega)
  · skip
    refine Hx.run 5 (pc' := 18) (L' := [some (vr 8), some (vi a), some (vi b), some (vi c), some (vi d), some (vi e)]) (st' := [vi 1, vi (M 8 3), vr 8]) (M' := M) rfl ?_
    refine Hx.add rfl (by omega) ?_
    refine Hx.run 4 (pc' := 25) (L' := [some (vr 8), some (vi a), some (vi b), some (vi c), some (vi d), some (vi e)]) (st' := [vi a, vi 0, vr 8]) (M' := (up M 8 3 ((M 8 3) + 1))) rfl ?_
    refine Hx.call (t := 37) (as := [vr 8, vi 0, vi a]) (pc' := 28) (rest := []) rfl (c_setIn_8 0 a (M 8 3) (up M 8 3 ((M 8 3) + 1)) (by first | rfl | exact hl.1) rfl (by omega) (by decide)) ?_
    rintro _ _ ⟨rfl, rfl⟩
    refine Hx.run 0 (pc' := 28) (L' := [some (vr 8), some (vi a), some (vi b), some (vi c), some (vi d), some (vi e)]) (st' := []) (M' := (up (up M 8 3 ((M 8 3) + 1)) 9 ((M 8 3) * 4 + 0) a)) rfl ?_
    refine Hx.run 3 (pc' := 31) (L' := [some (vr 8), some (vi a), some (vi b), some (vi c), some (vi d), some (vi e)]) (st' := [vi b, vi 1, vr 8]) (M' := (up (up M 8 3 ((M 8 3) + 1)) 9 ((M 8 3) * 4 + 0) a)) rfl ?_
    refine Hx.call (t := 37) (as := [vr 8, vi 1, vi b]) (pc' := 34) (rest := []) rfl (c_setIn_8 1 b (M 8 3) (up (up M 8 3 ((M 8 3) + 1)) 9 ((M 8 3) * 4 + 0) a) (by first | rfl | exact hl.1) rfl (by omega) (by decide)) ?_
    rintro _ _ ⟨rfl, rfl⟩
    refine Hx.run 0 (pc' := 34) (L' := [some (vr 8), some (vi a), some (vi b), some (vi c), some (vi d), some (vi e)]) (st' := []) (M' := (up (up (up M 8 3 ((M 8 3) + 1)) 9 ((M 8 3) * 4 + 0) a) 9 ((M 8 3) * 4 + 1) b)) rfl ?_
    refine Hx.run 3 (pc' := 37) (L' := [some (vr 8), some (vi a), some (vi b), some (vi c), some (vi d), some (vi e)]) (st' := [vi c, vi 2, vr 8]) (M' := (up (up (up M 8 3 ((M 8 3) + 1)) 9 ((M 8 3) * 4 + 0) a) 9 ((M 8 3) * 4 + 1) b)) rfl ?_
    refine Hx.call (t := 37) (as := [vr 8, vi 2, vi c]) (pc' := 40) (rest := []) rfl (c_setIn_8 2 c (M 8 3) (up (up (up M 8 3 ((M 8 3) + 1)) 9 ((M 8 3) * 4 + 0) a) 9 ((M 8 3) * 4 + 1) b) (by first | rfl | exact hl.1) rfl (by omega) (by decide)) ?_
    rintro _ _ ⟨rfl, rfl⟩
    refine Hx.run 0 (pc' := 40) (L' := [some (vr 8), some (vi a), some (vi b), some (vi c), some (vi d), some (vi e)]) (st' := []) (M' := (up (up (up (up M 8 3 ((M 8 3) + 1)) 9 ((M 8 3) * 4 + 0) a) 9 ((M 8 3) * 4 + 1) b) 9 ((M 8 3) * 4 + 2) c)) rfl ?_
    refine Hx.run 3 (pc' := 44) (L' := [some (vr 8), some (vi a), some (vi b), some (vi c), some (vi d), some (vi e)]) (st' := [vi d, vi 3, vr 8]) (M' := (up (up (up (up M 8 3 ((M 8 3) + 1)) 9 ((M 8 3) * 4 + 0) a) 9 ((M 8 3) * 4 + 1) b) 9 ((M 8 3) * 4 + 2) c)) rfl ?_
    refine Hx.call (t := 37) (as := [vr 8, vi 3, vi d]) (pc' := 47) (rest := []) rfl (c_setIn_8 3 d (M 8 3) (up (up (up (up M 8 3 ((M 8 3) + 1)) 9 ((M 8 3) * 4 + 0) a) 9 ((M 8 3) * 4 + 1) b) 9 ((M 8 3) * 4 + 2) c) (by first | rfl | exact hl.1) rfl (by omega) (by decide)) ?_
    rintro _ _ ⟨rfl, rfl⟩
    refine Hx.run 0 (pc' := 47) (L' := [some (vr 8), some (vi a), some (vi b), some (vi c), some (vi d), some (vi e)]) (st' := []) (M' := (up (up (up (up (up M 8 3 ((M 8 3) + 1)) 9 ((M 8 3) * 4 + 0) a) 9 ((M 8 3) * 4 + 1) b) 9 ((M 8 3) * 4 + 2) c) 9 ((M 8 3) * 4 + 3) d)) rfl ?_
    refine Hx.run 3 (pc' := 51) (L' := [some (vr 8), some (vi a), some (vi b), some (vi c), some (vi d), some (vi e)]) (st' := [vi e, vi 4, vr 8]) (M' := (up (up (up (up (up M 8 3 ((M 8 3) + 1)) 9 ((M 8 3) * 4 + 0) a) 9 ((M 8 3) * 4 + 1) b) 9 ((M 8 3) * 4 + 2) c) 9 ((M 8 3) * 4 + 3) d)) rfl ?_
    refine Hx.call (t := 37) (as := [vr 8, vi 4, vi e]) (pc' := 54) (rest := []) rfl (c_setOut_8 4 e (up (up (up (up (up M 8 3 ((M 8 3) + 1)) 9 ((M 8 3) * 4 + 0) a) 9 ((M 8 3) * 4 + 1) b) 9 ((M 8 3) * 4 + 2) c) 9 ((M 8 3) * 4 + 3) d) (by first | rfl | exact hl.1) (by decide) (show 0 ≤ ((M 8 3) + 1) ∧ ((M 8 3) + 1) ≤ 9 from by omega)) ?_
    rintro _ _ ⟨rfl, rfl⟩
    refine Hx.run 0 (pc' := 54) (L' := [some (vr 8), some (vi a), some (vi b), some (vi c), some (vi d), some (vi e)]) (st' := []) (M' := (up (up (up (up (up M 8 3 ((M 8 3) + 1)) 9 ((M 8 3) * 4 + 0) a) 9 ((M 8 3) * 4 + 1) b) 9 ((M 8 3) * 4 + 2) c) 9 ((M 8 3) * 4 + 3) d)) rfl ?_
    refine Hx.run 2 (pc' := 58) (L' := [some (vr 8), some (vi a), some (vi b), some (vi c), some (vi d), some (vi e)]) (st' := [vi ((M 8 3) + 1)]) (M' := (up (up (up (up (up M 8 3 ((M 8 3) + 1)) 9 ((M 8 3) * 4 + 0) a) 9 ((M 8 3) * 4 + 1) b) 9 ((M 8 3) * 4 + 2) c) 9 ((M 8 3) * 4 + 3) d)) rfl ?_
    refine Hx.ret rfl ?_
    first | exact ⟨rfl, rfl⟩ | (exfalso; omega)
set_option maxRecDepth 100000 in
theorem c_add_10 (a b c d e : Int) (M : Mm) (hl : (M 10 0 = 3 ∧ M 10 1 = 6 ∧ 0 ≤ M 10 3 ∧ M 10 3 ≤ 6)) (hs : M 10 3 < 6) : Ct 36 [vr 10, vi a, vi b, vi c, vi d, vi e] M (fun q0 M' => q0 = some (vi (M 10 3 + 1)) ∧ (up (up (up (up M 10 3 (M 10 3 + 1)) 11 (M 10 3 * 3 + 0) a) 11 (M 10 3 * 3 + 1) b) 11 (M 10 3 * 3 + 2) c) = M') := by
  refine Hx.run 1 (pc' := 1) (L' := [some (vr 10), some (vi a), some (vi b), some (vi c), some (vi d), some (vi e)]) (st' := [vr 10]) (M' := M) rfl ?_
  refine Hx.call (t := 34) (as := [vr 10]) (pc' := 4) (rest := []) rfl (c_isFull_10  M (by omega)) ?_
  rintro _ _ (⟨q4, rfl, rfl⟩ | ⟨q4, rfl, rfl⟩)
  · skip
    refine Hx.run 3 (pc' := 11) (L' := [some (vr 10), some (vi a), some (vi b), some (vi c), some (vi d), some (vi e)]) (st' := [vi (M 10 3)]) (M' := M) rfl ?_
    refine Hx.ret rfl ?_
    first | exact ⟨rfl, rfl⟩ | (exfalso; omega)
  · skip
    refine Hx.run 5 (pc' := 18) (L' := [some (vr 10), some (vi a), some (vi b), some (vi c), some (vi d), some (vi e)]) (st' := [vi 1, vi (M 10 3), vr 10]) (M' := M) rfl ?_
    refine Hx.add rfl (by omega) ?_
    refine Hx.run 4 (pc' := 25) (L' := [some (vr 10), some (vi a), some (vi b), some (vi c), some (vi d), some (vi e)]) (st' := [vi a, vi 0, vr 10]) (M' := (up M 10 3 ((M 10 3) + 1))) rfl ?_
    refine Hx.call (t := 37) (as := [vr 10, vi 0, vi a]) (pc' := 28) (rest := []) rfl (c_setIn_10 0 a (M 10 3) (up M 10 3 ((M 10 3) + 1)) (by first | rfl | exact hl.1) rfl (by omega) (by decide)) ?_
    rintro _ _ ⟨rfl, rfl⟩
    refine Hx.run 0 (pc' := 28) (L' := [some (vr 10), some (vi a), some (vi b), some (vi c), some (vi d), some (vi e)]) (st' := []) (M' := (up (up M 10 3 ((M 10 3) + 1)) 11 ((M 10 3) * 3 + 0) a)) rfl ?_
    refine Hx.run 3 (pc' := 31) (L' := [some (vr 10), some (vi a), some (vi b), some (vi c), some (vi d), some (vi e)]) (st' := [vi b, vi 1, vr 10]) (M' := (up (up M 10 3 ((M 10 3) + 1)) 11 ((M 10 3) * 3 + 0) a)) rfl ?_
    refine Hx.call (t := 37) (as := [vr 10, vi 1, vi b]) (pc' := 34) (rest := []) rfl (c_setIn_10 1 b (M 10 3) (up (up M 10 3 ((M 10 3) + 1)) 11 ((M 10 3) * 3 + 0) a) (by first | rfl | exact hl.1) rfl (by omega) (by decide)) ?_
    rintro _ _ ⟨rfl, rfl⟩
    refine Hx.run 0 (pc' := 34) (L' := [some (vr 10), some (vi a), some (vi b), some (vi c), some (vi d), some (vi e)]) (st' := []) (M' := (up (up (up M 10 3 ((M 10 3) + 1)) 11 ((M 10 3) * 3 + 0) a) 11 ((M 10 3) * 3 + 1) b)) rfl ?_
    refine Hx.run 3 (pc' := 37) (L' := [some (vr 10), some (vi a), some (vi b), some (vi c), some (vi d), some (vi e)]) (st' := [vi c, vi 2, vr 10]) (M' := (up (up (up M 10 3 ((M 10 3) + 1)) 11 ((M 10 3) * 3 + 0) a) 11 ((M 10 3) * 3 + 1) b)) rfl ?_
    refine Hx.call (t := 37) (as := [vr 10, vi 2, vi c]) (pc' := 40) (rest := []) rfl (c_setIn_10 2 c (M 10 3) (up (up (up M 10 3 ((M 10 3) + 1)) 11 ((M 10 3) * 3 + 0) a) 11 ((M 10 3) * 3 + 1) b) (by first | rfl | exact hl.1) rfl (by omega) (by decide)) ?_
    rintro _ _ ⟨rfl, rfl⟩
    refine Hx.run 0 (pc' := 40) (L' := [some (vr 10), some (vi a), some (vi b), some (vi c), some (vi d), some (vi e)]) (st' := []) (M' := (up (up (up (up M 10 3 ((M 10 3) + 1)) 11 ((M 10 3) * 3 + 0) a) 11 ((M 10 3) * 3 + 1) b) 11 ((M 10 3) * 3 + 2) c)) rfl ?_
    refine Hx.run 3 (pc' := 44) (L' := [some (vr 10), some (vi a), some (vi b), some (vi c), some (vi d), some (vi e)]) (st' := [vi d, vi 3, vr 10]) (M' := (up (up (up (up M 10 3 ((M 10 3) + 1)) 11 ((M 10 3) * 3 + 0) a) 11 ((M 10 3) * 3 + 1) b) 11 ((M 10 3) * 3 + 2) c)) rfl ?_
    refine Hx.call (t := 37) (as := [vr 10, vi 3, vi d]) (pc' := 47) (rest := []) rfl (c_setOut_10 3 d (up (up (up (up M 10 3 ((M 10 3) + 1)) 11 ((M 10 3) * 3 + 0) a) 11 ((M 10 3) * 3 + 1) b) 11 ((M 10 3) * 3 + 2) c) (by first | rfl | exact hl.1) (by decide) (show 0 ≤ ((M 10 3) + 1) ∧ ((M 10 3) + 1) ≤ 9 from by omega)) ?_
    rintro _ _ ⟨rfl, rfl⟩
    refine Hx.run 0 (pc' := 47) (L' := [some (vr 10), some (vi a), some (vi b), some (vi c), some (vi d), some (vi e)]) (st' := []) (M' := (up (up (up (up M 10 3 ((M 10 3) + 1)) 11 ((M 10 3) * 3 + 0) a) 11 ((M 10 3) * 3 + 1) b) 11 ((M 10 3) * 3 + 2) c)) rfl ?_
    refine Hx.run 3 (pc' := 51) (L' := [some (vr 10), some (vi a), some (vi b), some (vi c), some (vi d), some (vi e)]) (st' := [vi e, vi 4, vr 10]) (M' := (up (up (up (up M 10 3 ((M 10 3) + 1)) 11 ((M 10 3) * 3 + 0) a) 11 ((M 10 3) * 3 + 1) b) 11 ((M 10 3) * 3 + 2) c)) rfl ?_
    refine Hx.call (t := 37) (as := [vr 10, vi 4, vi e]) (pc' := 54) (rest := []) rfl (c_setOut_10 4 e (up (up (up (up M 10 3 ((M 10 3) + 1)) 11 ((M 10 3) * 3 + 0) a) 11 ((M 10 3) * 3 + 1) b) 11 ((M 10 3) * 3 + 2) c) (by first | rfl | exact hl.1) (by decide) (show 0 ≤ ((M 10 3) + 1) ∧ ((M 10 3) + 1) ≤ 9 from by omega)) ?_
    rintro _ _ ⟨rfl, rfl⟩
    refine Hx.run 0 (pc' := 54) (L' := [some (vr 10), some (vi a), some (vi b), some (vi c), some (vi d), some (vi e)]) (st' := []) (M' := (up (up (up (up M 10 3 ((M 10 3) + 1)) 11 ((M 10 3) * 3 + 0) a) 11 ((M 10 3) * 3 + 1) b) 11 ((M 10 3) * 3 + 2) c)) rfl ?_
    refine Hx.run 2 (pc' := 58) (L' := [some (vr 10), some (vi a), some (vi b), some (vi c), some (vi d), some (vi e)]) (st' := [vi ((M 10 3) + 1)]) (M' := (up (up (up (up M 10 3 ((M 10 3) + 1)) 11 ((M 10 3) * 3 + 0) a) 11 ((M 10 3) * 3 + 1) b) 11 ((M 10 3) * 3 + 2) c)) rfl ?_
    refine Hx.ret rfl ?_
    first | exact ⟨rfl, rfl⟩ | (exfalso; omega)
set_option maxRecDepth 100000 in
theorem c_add_12 (a b c d e : Int) (M : Mm) (hl : (M 12 0 = 5 ∧ M 12 1 = 6 ∧ 0 ≤ M 12 3 ∧ M 12 3 ≤ 6)) (hs : M 12 3 < 6) : Ct 36 [vr 12, vi a, vi b, vi c, vi d, vi e] M (fun q0 M' => q0 = some (vi (M 12 3 + 1)) ∧ (up (up (up (up (up (up M 12 3 (M 12 3 + 1)) 13 (M 12 3 * 5 + 0) a) 13 (M 12 3 * 5 + 1) b) 13 (M 12 3 * 5 + 2) c) 13 (M 12 3 * 5 + 3) d) 13 (M 12 3 * 5 + 4) e) = M') := by
  refine Hx.run 1 (pc' := 1) (L' := [some (vr 12), some (vi a), some (vi b), some (vi c), some (vi d), some (vi e)]) (st' := [vr 12]) (M' := M) rfl ?_
  refine Hx.call (t := 34) (as := [vr 12]) (pc' := 4) (rest := []) rfl (c_isFull_12  M (by omega)) ?_
  rintro _ _ (⟨q5, rfl, rfl⟩ | ⟨q5, rfl, rfl⟩)
  · skip
    refine Hx.run 3 (pc' := 11) (L' := [some (vr 12), some (vi a), some (vi b), some (vi c), some (vi d), some (vi e)]) (st' := [vi (M 12 3)]) (M' := M) rfl ?_
    refine Hx.ret rfl ?_
    first | exact ⟨rfl, rfl⟩ | (exfalso; omega)
  · skip
    refine Hx.run 5 (pc' := 18) (L' := [some (vr 12), some (vi a), some (vi b), some (vi c), some (vi d), some (vi e)]) (st' := [vi 1, vi (M 12 3), vr 12]) (M' := M) rfl ?_
    refine Hx.add rfl (by omega) ?_
    refine Hx.run 4 (pc' := 25) (L' := [some (vr 12), some (vi a), some (vi b), some (vi c), some (vi d), some (vi e)]) (st' := [vi a, vi 0, vr 12]) (M' := (up M 12 3 ((M 12 3) + 1))) rfl ?_
    refine Hx.call (t := 37) (as := [vr 12, vi 0, vi a]) (pc' := 28) (rest := []) rfl (c_setIn_12 0 a (M 12 3) (up M 12 3 ((M 12 3) + 1)) (by first | rfl | exact hl.1) rfl (by omega) (by decide)) ?_
    rintro _ _ ⟨rfl, rfl⟩
    refine Hx.run 0 (pc' := 28) (L' := [some (vr 12), some (vi a), some (vi b), some (vi c), some (vi d), some (vi e)]) (st' := []) (M' := (up (up M 12 3 ((M 12 3) + 1)) 13 ((M 12 3) * 5 + 0) a)) rfl ?_
    refine Hx.run 3 (pc' := 31) (L' := [some (vr 12), some (vi a), some (vi b), some (vi c), some (vi d), some (vi e)]) (st' := [vi b, vi 1, vr 12]) (M' := (up (up M 12 3 ((M 12 3) + 1)) 13 ((M 12 3) * 5 + 0) a)) rfl ?_
    refine Hx.call (t := 37) (as := [vr 12, vi 1, vi b]) (pc' := 34) (rest := []) rfl (c_setIn_12 1 b (M 12 3) (up (up M 12 3 ((M 12 3) + 1)) 13 ((M 12 3) * 5 + 0) a) (by first | rfl | exact hl.1) rfl (by omega) (by decide)) ?_
    rintro _ _ ⟨rfl, rfl⟩
    refine Hx.run 0 (pc' := 34) (L' := [some (vr 12), some (vi a), some (vi b), some (vi c), some (vi d), some (vi e)]) (st' := []) (M' := (up (up (up M 12 3 ((M 12 3) + 1)) 13 ((M 12 3) * 5 + 0) a) 13 ((M 12 3) * 5 + 1) b)) rfl ?_
    refine Hx.run 3 (pc' := 37) (L' := [some (vr 12), some (vi a), some (vi b), some (vi c), some (vi d), some (vi e)]) (st' := [vi c, vi 2, vr 12]) (M' := (up (up (up M 12 3 ((M 12 3) + 1)) 13 ((M 12 3) * 5 + 0) a) 13 ((M 12 3) * 5 + 1) b)) rfl ?_
    refine Hx.call (t := 37) (as := [vr 12, vi 2, vi c]) (pc' := 40) (rest := []) rfl (c_setIn_12 2 c (M 12 3) (up (up (up M 12 3 ((M 12 3) + 1)) 13 ((M 12 3) * 5 + 0) a) 13 ((M 12 3) * 5 + 1) b) (by first | rfl | exact hl.1) rfl (by omega) (by decide)) ?_
    rintro _ _ ⟨rfl, rfl⟩
    refine Hx.run 0 (pc' := 40) (L' := [some (vr 12), some (vi a), some (vi b), some (vi c), some (vi d), some (vi e)]) (st' := []) (M' := (up (up (up (up M 12 3 ((M 12 3) + 1)) 13 ((M 12 3) * 5 + 0) a) 13 ((M 12 3) * 5 + 1) b) 13 ((M 12 3) * 5 + 2) c)) rfl ?_
    refine Hx.run 3 (pc' := 44) (L' := [some (vr 12), some (vi a), some (vi b), some (vi c), some (vi d), some (vi e)]) (st' := [vi d, vi 3, vr 12]) (M' := (up (up (up (up M 12 3 ((M 12 3) + 1)) 13 ((M 12 3) * 5 + 0) a) 13 ((M 12 3) * 5 + 1) b) 13 ((M 12 3) * 5 + 2) c)) rfl ?_
    refine Hx.call (t := 37) (as := [vr 12, vi 3, vi d]) (pc' := 47) (rest := []) rfl (c_setIn_12 3 d (M 12 3) (up (up (up (up M 12 3 ((M 12 3) + 1)) 13 ((M 12 3) * 5 + 0) a) 13 ((M 12 3) * 5 + 1) b) 13 ((M 12 3) * 5 + 2) c) (by first | rfl | exact hl.1) rfl (by omega) (by decide)) ?_
    rintro _ _ ⟨rfl, rfl⟩
    refine Hx.run 0 (pc' := 47) (L' := [some (vr 12), some (vi a), some (vi b), some (vi c), some (vi d), some (vi e)]) (st' := []) (M' := (up (up (up (up (up M 12 3 ((M 12 3) + 1)) 13 ((M 12 3) * 5 + 0) a) 13 ((M 12 3) * 5 + 1) b) 13 ((M 12 3) * 5 + 2) c) 13 ((M 12 3) * 5 + 3) d)) rfl ?_
    refine Hx.run 3 (pc' := 51) (L' := [some (vr 12), some (vi a), some (vi b), some (vi c), some (vi d), some (vi e)]) (st' := [vi e, vi 4, vr 12]) (M' := (up (up (up (up (up M 12 3 ((M 12 3) + 1)) 13 ((M 12 3) * 5 + 0) a) 13 ((M 12 3) * 5 + 1) b) 13 ((M 12 3) * 5 + 2) c) 13 ((M 12 3) * 5 + 3) d)) rfl ?_
    refine Hx.call (t := 37) (as := [vr 12, vi 4, vi e]) (pc' := 54) (rest := []) rfl (c_setIn_12 4 e (M 12 3) (up (up (up (up (up M 12 3 ((M 12 3) + 1)) 13 ((M 12 3) * 5 + 0) a) 13 ((M 12 3) * 5 + 1) b) 13 ((M 12 3) * 5 + 2) c) 13 ((M 12 3) * 5 + 3) d) (by first | rfl | exact hl.1) rfl (by omega) (by decide)) ?_
    rintro _ _ ⟨rfl, rfl⟩
    refine Hx.run 0 (pc' := 54) (L' := [some (vr 12), some (vi a), some (vi b), some (vi c), some (vi d), some (vi e)]) (st' := []) (M' := (up (up (up (up (up (up M 12 3 ((M 12 3) + 1)) 13 ((M 12 3) * 5 + 0) a) 13 ((M 12 3) * 5 + 1) b) 13 ((M 12 3) * 5 + 2) c) 13 ((M 12 3) * 5 + 3) d) 13 ((M 12 3) * 5 + 4) e)) rfl ?_
    refine Hx.run 2 (pc' := 58) (L' := [some (vr 12), some (vi a), some (vi b), some (vi c), some (vi d), some (vi e)]) (st' := [vi ((M 12 3) + 1)]) (M' := (up (up (up (up (up (up M 12 3 ((M 12 3) + 1)) 13 ((M 12 3) * 5 + 0) a) 13 ((M 12 3) * 5 + 1) b) 13 ((M 12 3) * 5 + 2) c) 13 ((M 12 3) * 5 + 3) d) 13 ((M 12 3) * 5 + 4) e)) rfl ?_
    refine Hx.ret rfl ?_
    first | exact ⟨rfl, rfl⟩ | (exfalso; omega)
set_option maxRecDepth 100000 in
theorem c_lempty_47 (M : Mm) : Ct 35 [vr 47] M (fun q0 M' => q0 = some (vi (M 47 3)) ∧ up M 47 3 0 = M') := by
  refine Hx.run 7 (pc' := 11) (L' := [some (vr 47), some (vi (M 47 3))]) (st' := [vi (M 47 3)]) (M' := (up M 47 3 0)) rfl ?_
  refine Hx.ret rfl ?_
  exact ⟨rfl, rfl⟩
set_option maxRecDepth 100000 in
theorem c_lempty_49 (M : Mm) : Ct 35 [vr 49] M (fun q0 M' => q0 = some (vi (M 49 3)) ∧ up M 49 3 0 = M') := by
  refine Hx.run 7 (pc' := 11) (L' := [some (vr 49), some (vi (M 49 3))]) (st' := [vi (M 49 3)]) (M' := (up M 49 3 0)) rfl ?_
  refine Hx.ret rfl ?_
  exact ⟨rfl, rfl⟩
set_option maxRecDepth 100000 in
theorem c_lempty_51 (M : Mm) : Ct 35 [vr 51] M (fun q0 M' => q0 = some (vi (M 51 3)) ∧ up M 51 3 0 = M') := by
  refine Hx.run 7 (pc' := 11) (L' := [some (vr 51), some (vi (M 51 3))]) (st' := [vi (M 51 3)]) (M' := (up M 51 3 0)) rfl ?_
  refine Hx.ret rfl ?_
  exact ⟨rfl, rfl⟩
set_option maxRecDepth 100000 in
theorem c_empty_1 (M : Mm) : Ct 5 [vr 1] M (fun q0 M' => q0 = none ∧ emM M 1 = M') := by
  refine Hx.run 12 (pc' := 20) (L' := [some (vr 1)]) (st' := [vi 0, vr 6]) (M' := (up (up (up M 1 0 0) 1 1 0) 1 2 0)) rfl ?_
  refine Hx.call (t := 224) (as := [vr 6, vi 0]) (pc' := 23) (rest := []) rfl (c_fill (r := 6) (n := 17) rfl (by decide) (by decide) 0 (up (up (up M 1 0 0) 1 1 0) 1 2 0)) ?_
  rintro _ _ ⟨rfl, rfl⟩
  refine Hx.run 0 (pc' := 23) (L' := [some (vr 1)]) (st' := []) (M' := (fl (up (up (up M 1 0 0) 1 1 0) 1 2 0) 6 0 17 0)) rfl ?_
  refine Hx.run 2 (pc' := 27) (L' := [some (vr 1)]) (st' := [vr 8]) (M' := (fl (up (up (up M 1 0 0) 1 1 0) 1 2 0) 6 0 17 0)) rfl ?_
  refine Hx.call (t := 35) (as := [vr 8]) (pc' := 30) (rest := []) rfl (c_lempty_8 (fl (up (up (up M 1 0 0) 1 1 0) 1 2 0) 6 0 17 0)) ?_
  rintro _ _ ⟨rfl, rfl⟩
  refine Hx.run 0 (pc' := 30) (L' := [some (vr 1)]) (st' := [vi ((fl (up (up (up M 1 0 0) 1 1 0) 1 2 0) 6 0 17 0) 8 3)]) (M' := (up (fl (up (up (up M 1 0 0) 1 1 0) 1 2 0) 6 0 17 0) 8 3 0)) rfl ?_
  refine Hx.run 3 (pc' := 35) (L' := [some (vr 1)]) (st' := [vr 10]) (M' := (up (fl (up (up (up M 1 0 0) 1 1 0) 1 2 0) 6 0 17 0) 8 3 0)) rfl ?_
  refine Hx.call (t := 35) (as := [vr 10]) (pc' := 38) (rest := []) rfl (c_lempty_10 (up (fl (up (up (up M 1 0 0) 1 1 0) 1 2 0) 6 0 17 0) 8 3 0)) ?_
  rintro _ _ ⟨rfl, rfl⟩
  refine Hx.run 0 (pc' := 38) (L' := [some (vr 1)]) (st' := [vi ((fl (up (up (up M 1 0 0) 1 1 0) 1 2 0) 6 0 17 0) 10 3)]) (M' := (up (up (fl (up (up (up M 1 0 0) 1 1 0) 1 2 0) 6 0 17 0) 8 3 0) 10 3 0)) rfl ?_
  refine Hx.run 3 (pc' := 43) (L' := [some (vr 1)]) (st' := [vr 12]) (M' := (up (up (fl (up (up (up M 1 0 0) 1 1 0) 1 2 0) 6 0 17 0) 8 3 0) 10 3 0)) rfl ?_
  refine Hx.call (t := 35) (as := [vr 12]) (pc' := 46) (rest := []) rfl (c_lempty_12 (up (up (fl (up (up (up M 1 0 0) 1 1 0) 1 2 0) 6 0 17 0) 8 3 0) 10 3 0)) ?_
  rintro _ _ ⟨rfl, rfl⟩
  refine Hx.run 0 (pc' := 46) (L' := [some (vr 1)]) (st' := [vi ((fl (up (up (up M 1 0 0) 1 1 0) 1 2 0) 6 0 17 0) 12 3)]) (M' := (up (up (up (fl (up (up (up M 1 0 0) 1 1 0) 1 2 0) 6 0 17 0) 8 3 0) 10 3 0) 12 3 0)) rfl ?_
  refine Hx.run 1 (pc' := 47) (L' := [some (vr 1)]) (st' := []) (M' := (up (up (up (fl (up (up (up M 1 0 0) 1 1 0) 1 2 0) 6 0 17 0) 8 3 0) 10 3 0) 12 3 0)) rfl ?_
  refine Hx.ret rfl ?_
  exact ⟨rfl, rfl⟩
set_option maxRecDepth 100000 in
theorem c_empty_40 (M : Mm) : Ct 5 [vr 40] M (fun q0 M' => q0 = none ∧ emM M 40 = M') := by
  refine Hx.run 12 (pc' := 20) (L' := [some (vr 40)]) (st' := [vi 0, vr 45]) (M' := (up (up (up M 40 0 0) 40 1 0) 40 2 0)) rfl ?_
  refine Hx.call (t := 224) (as := [vr 45, vi 0]) (pc' := 23) (rest := []) rfl (c_fill (r := 45) (n := 17) rfl (by decide) (by decide) 0 (up (up (up M 40 0 0) 40 1 0) 40 2 0)) ?_
  rintro _ _ ⟨rfl, rfl⟩
  refine Hx.run 0 (pc' := 23) (L' := [some (vr 40)]) (st' := []) (M' := (fl (up (up (up M 40 0 0) 40 1 0) 40 2 0) 45 0 17 0)) rfl ?_
  refine Hx.run 2 (pc' := 27) (L' := [some (vr 40)]) (st' := [vr 47]) (M' := (fl (up (up (up M 40 0 0) 40 1 0) 40 2 0) 45 0 17 0)) rfl ?_
  refine Hx.call (t := 35) (as := [vr 47]) (pc' := 30) (rest := []) rfl (c_lempty_47 (fl (up (up (up M 40 0 0) 40 1 0) 40 2 0) 45 0 17 0)) ?_
  rintro _ _ ⟨rfl, rfl⟩
  refine Hx.run 0 (pc' := 30) (L' := [some (vr 40)]) (st' := [vi ((fl (up (up (up M 40 0 0) 40 1 0) 40 2 0) 45 0 17 0) 47 3)]) (M' := (up (fl (up (up (up M 40 0 0) 40 1 0) 40 2 0) 45 0 17 0) 47 3 0)) rfl ?_
  refine Hx.run 3 (pc' := 35) (L' := [some (vr 40)]) (st' := [vr 49]) (M' := (up (fl (up (up (up M 40 0 0) 40 1 0) 40 2 0) 45 0 17 0) 47 3 0)) rfl ?_
  refine Hx.call (t := 35) (as := [vr 49]) (pc' := 38) (rest := []) rfl (c_lempty_49 (up (fl (up (up (up M 40 0 0) 40 1 0) 40 2 0) 45 0 17 0) 47 3 0)) ?_
  rintro _ _ ⟨rfl, rfl⟩
  refine Hx.run 0 (pc' := 38) (L' := [some (vr 40)]) (st' := [vi ((fl (up (up (up M 40 0 0) 40 1 0) 40 2 0) 45 0 17 0) 49 3)]) (M' := (up (up (fl (up (up (up M 40 0 0) 40 1 0) 40 2 0) 45 0 17 0) 47 3 0) 49 3 0)) rfl ?_
  refine Hx.run 3 (pc' := 43) (L' := [some (vr 40)]) (st' := [vr 51]) (M' := (up (up (fl (up (up (up M 40 0 0) 40 1 0) 40 2 0) 45 0 17 0) 47 3 0) 49 3 0)) rfl ?_
  refine Hx.call (t := 35) (as := [vr 51]) (pc' := 46) (rest := []) rfl (c_lempty_51 (up (up (fl (up (up (up M 40 0 0) 40 1 0) 40 2 0) 45 0 17 0) 47 3 0) 49 3 0)) ?_
  rintro _ _ ⟨rfl, rfl⟩
  refine Hx.run 0 (pc' := 46) (L' := [some (vr 40)]) (st' := [vi ((fl (up (up (up M 40 0 0) 40 1 0) 40 2 0) 45 0 17 0) 51 3)]) (M' := (up (up (up (fl (up (up (up M 40 0 0) 40 1 0) 40 2 0) 45 0 17 0) 47 3 0) 49 3 0) 51 3 0)) rfl ?_
  refine Hx.run 1 (pc' := 47) (L' := [some (vr 40)]) (st' := []) (M' := (up (up (up (fl (up (up (up M 40 0 0) 40 1 0) 40 2 0) 45 0 17 0) 47 3 0) 49 3 0) 51 3 0)) rfl ?_
  refine Hx.ret rfl ?_
  exact ⟨rfl, rfl⟩
set_option maxRecDepth 100000 in
theorem c_ltake_8_47 (M : Mm) : Ct 39 [vr 8, vr 47] M (fun q0 M' => q0 = none ∧ tkL M 8 47 20 = M') := by
  refine Hx.run 8 (pc' := 16) (L' := [some (vr 8), some (vr 47)]) (st' := [vr 48, vr 9]) (M' := (up M 8 3 (M 47 3))) rfl ?_
  refine Hx.call (t := 123) (as := [vr 9, vr 48]) (pc' := 19) (rest := []) rfl (c_copyInto (rd := 9) (rs := 48) (n := 20) rfl rfl (by decide) (by decide) (by decide) (up M 8 3 (M 47 3))) ?_
  rintro _ _ ⟨rfl, rfl⟩
  refine Hx.run 0 (pc' := 19) (L' := [some (vr 8), some (vr 47)]) (st' := []) (M' := (cp (up M 8 3 (M 47 3)) 48 0 9 0 20)) rfl ?_
  refine Hx.ret rfl ?_
  exact ⟨rfl, rfl⟩
set_option maxRecDepth 100000 in
theorem c_ltake_10_49 (M : Mm) : Ct 39 [vr 10, vr 49] M (fun q0 M' => q0 = none ∧ tkL M 10 49 18 = M') := by
  refine Hx.run 8 (pc' := 16) (L' := [some (vr 10), some (vr 49)]) (st' := [vr 50, vr 11]) (M' := (up M 10 3 (M 49 3))) rfl ?_
  refine Hx.call (t := 123) (as := [vr 11, vr 50]) (pc' := 19) (rest := []) rfl (c_copyInto (rd := 11) (rs := 50) (n := 18) rfl rfl (by decide) (by decide) (by decide) (up M 10 3 (M 49 3))) ?_
  rintro _ _ ⟨rfl, rfl⟩
  refine Hx.run 0 (pc' := 19) (L' := [some (vr 10), some (vr 49)]) (st' := []) (M' := (cp (up M 10 3 (M 49 3)) 50 0 11 0 18)) rfl ?_
  refine Hx.ret rfl ?_
  exact ⟨rfl, rfl⟩
set_option maxRecDepth 100000 in
theorem c_ltake_12_51 (M : Mm) : Ct 39 [vr 12, vr 51] M (fun q0 M' => q0 = none ∧ tkL M 12 51 30 = M') := by
  refine Hx.run 8 (pc' := 16) (L' := [some (vr 12), some (vr 51)]) (st' := [vr 52, vr 13]) (M' := (up M 12 3 (M 51 3))) rfl ?_
  refine Hx.call (t := 123) (as := [vr 13, vr 52]) (pc' := 19) (rest := []) rfl (c_copyInto (rd := 13) (rs := 52) (n := 30) rfl rfl (by decide) (by decide) (by decide) (up M 12 3 (M 51 3))) ?_
  rintro _ _ ⟨rfl, rfl⟩
  refine Hx.run 0 (pc' := 19) (L' := [some (vr 12), some (vr 51)]) (st' := []) (M' := (cp (up M 12 3 (M 51 3)) 52 0 13 0 30)) rfl ?_
  refine Hx.ret rfl ?_
  exact ⟨rfl, rfl⟩
set_option maxRecDepth 100000 in
theorem c_ltake_47_8 (M : Mm) : Ct 39 [vr 47, vr 8] M (fun q0 M' => q0 = none ∧ tkL M 47 8 20 = M') := by
  refine Hx.run 8 (pc' := 16) (L' := [some (vr 47), some (vr 8)]) (st' := [vr 9, vr 48]) (M' := (up M 47 3 (M 8 3))) rfl ?_
  refine Hx.call (t := 123) (as := [vr 48, vr 9]) (pc' := 19) (rest := []) rfl (c_copyInto (rd := 48) (rs := 9) (n := 20) rfl rfl (by decide) (by decide) (by decide) (up M 47 3 (M 8 3))) ?_
  rintro _ _ ⟨rfl, rfl⟩
  refine Hx.run 0 (pc' := 19) (L' := [some (vr 47), some (vr 8)]) (st' := []) (M' := (cp (up M 47 3 (M 8 3)) 9 0 48 0 20)) rfl ?_
  refine Hx.ret rfl ?_
  exact ⟨rfl, rfl⟩
set_option maxRecDepth 100000 in
theorem c_ltake_49_10 (M : Mm) : Ct 39 [vr 49, vr 10] M (fun q0 M' => q0 = none ∧ tkL M 49 10 18 = M') := by
  refine Hx.run 8 (pc' := 16) (L' := [some (vr 49), some (vr 10)]) (st' := [vr 11, vr 50]) (M' := (up M 49 3 (M 10 3))) rfl ?_
  refine Hx.call (t := 123) (as := [vr 50, vr 11]) (pc' := 19) (rest := []) rfl (c_copyInto (rd := 50) (rs := 11) (n := 18) rfl rfl (by decide) (by decide) (by decide) (up M 49 3 (M 10 3))) ?_
  rintro _ _ ⟨rfl, rfl⟩
  refine Hx.run 0 (pc' := 19) (L' := [some (vr 49), some (vr 10)]) (st' := []) (M' := (cp (up M 49 3 (M 10 3)) 11 0 50 0 18)) rfl ?_
  refine Hx.ret rfl ?_
  exact ⟨rfl, rfl⟩
set_option maxRecDepth 100000 in
theorem c_ltake_51_12 (M : Mm) : Ct 39 [vr 51, vr 12] M (fun q0 M' => q0 = none ∧ tkL M 51 12 30 = M') := by
  refine Hx.run 8 (pc' := 16) (L' := [some (vr 51), some (vr 12)]) (st' := [vr 13, vr 52]) (M' := (up M 51 3 (M 12 3))) rfl ?_
  refine Hx.call (t := 123) (as := [vr 52, vr 13]) (pc' := 19) (rest := []) rfl (c_copyInto (rd := 52) (rs := 13) (n := 30) rfl rfl (by decide) (by decide) (by decide) (up M 51 3 (M 12 3))) ?_
  rintro _ _ ⟨rfl, rfl⟩
  refine Hx.run 0 (pc' := 19) (L' := [some (vr 51), some (vr 12)]) (st' := []) (M' := (cp (up M 51 3 (M 12 3)) 13 0 52 0 30)) rfl ?_
  refine Hx.ret rfl ?_
  exact ⟨rfl, rfl⟩
set_option maxRecDepth 100000 in
theorem c_ltake_21_8 (M : Mm) : Ct 39 [vr 21, vr 8] M (fun q0 M' => q0 = none ∧ tkL M 21 8 20 = M') := by
  refine Hx.run 8 (pc' := 16) (L' := [some (vr 21), some (vr 8)]) (st' := [vr 9, vr 22]) (M' := (up M 21 3 (M 8 3))) rfl ?_
  refine Hx.call (t := 123) (as := [vr 22, vr 9]) (pc' := 19) (rest := []) rfl (c_copyInto (rd := 22) (rs := 9) (n := 20) rfl rfl (by decide) (by decide) (by decide) (up M 21 3 (M 8 3))) ?_
  rintro _ _ ⟨rfl, rfl⟩
  refine Hx.run 0 (pc' := 19) (L' := [some (vr 21), some (vr 8)]) (st' := []) (M' := (cp (up M 21 3 (M 8 3)) 9 0 22 0 20)) rfl ?_
  refine Hx.ret rfl ?_
  exact ⟨rfl, rfl⟩
set_option maxRecDepth 100000 in
theorem c_ltake_23_10 (M : Mm) : Ct 39 [vr 23, vr 10] M (fun q0 M' => q0 = none ∧ tkL M 23 10 18 = M') := by
  refine Hx.run 8 (pc' := 16) (L' := [some (vr 23), some (vr 10)]) (st' := [vr 11, vr 24]) (M' := (up M 23 3 (M 10 3))) rfl ?_
  refine Hx.call (t := 123) (as := [vr 24, vr 11]) (pc' := 19) (rest := []) rfl (c_copyInto (rd := 24) (rs := 11) (n := 18) rfl rfl (by decide) (by decide) (by decide) (up M 23 3 (M 10 3))) ?_
  rintro _ _ ⟨rfl, rfl⟩
  refine Hx.run 0 (pc' := 19) (L' := [some (vr 23), some (vr 10)]) (st' := []) (M' := (cp (up M 23 3 (M 10 3)) 11 0 24 0 18)) rfl ?_
  refine Hx.ret rfl ?_
  exact ⟨rfl, rfl⟩
set_option maxRecDepth 100000 in
theorem c_ltake_25_12 (M : Mm) : Ct 39 [vr 25, vr 12] M (fun q0 M' => q0 = none ∧ tkL M 25 12 30 = M') := by
  refine Hx.run 8 (pc' := 16) (L' := [some (vr 25), some (vr 12)]) (st' := [vr 13, vr 26]) (M' := (up M 25 3 (M 12 3))) rfl ?_
  refine Hx.call (t := 123) (as := [vr 26, vr 13]) (pc' := 19) (rest := []) rfl (c_copyInto (rd := 26) (rs := 13) (n := 30) rfl rfl (by decide) (by decide) (by decide) (up M 25 3 (M 12 3))) ?_
  rintro _ _ ⟨rfl, rfl⟩
  refine Hx.run 0 (pc' := 19) (L' := [some (vr 25), some (vr 12)]) (st' := []) (M' := (cp (up M 25 3 (M 12 3)) 13 0 26 0 30)) rfl ?_
  refine Hx.ret rfl ?_
  exact ⟨rfl, rfl⟩
set_option maxRecDepth 100000 in
theorem c_ltake_34_8 (M : Mm) : Ct 39 [vr 34, vr 8] M (fun q0 M' => q0 = none ∧ tkL M 34 8 20 = M') := by
  refine Hx.run 8 (pc' := 16) (L' := [some (vr 34), some (vr 8)]) (st' := [vr 9, vr 35]) (M' := (up M 34 3 (M 8 3))) rfl ?_
  refine Hx.call (t := 123) (as := [vr 35, vr 9]) (pc' := 19) (rest := []) rfl (c_copyInto (rd := 35) (rs := 9) (n := 20) rfl rfl (by decide) (by decide) (by decide) (up M 34 3 (M 8 3))) ?_
  rintro _ _ ⟨rfl, rfl⟩
  refine Hx.run 0 (pc' := 19) (L' := [some (vr 34), some (vr 8)]) (st' := []) (M' := (cp (up M 34 3 (M 8 3)) 9 0 35 0 20)) rfl ?_
  refine Hx.ret rfl ?_
  exact ⟨rfl, rfl⟩
set_option maxRecDepth 100000 in
theorem c_ltake_36_10 (M : Mm) : Ct 39 [vr 36, vr 10] M (fun q0 M' => q0 = none ∧ tkL M 36 10 18 = M') := by
  refine Hx.run 8 (pc' := 16) (L' := [some (vr 36), some (vr 10)]) (st' := [vr 11, vr 37]) (M' := (up M 36 3 (M 10 3))) rfl ?_
  refine Hx.call (t := 123) (as := [vr 37, vr 11]) (pc' := 19) (rest := []) rfl (c_copyInto (rd := 37) (rs := 11) (n := 18) rfl rfl (by decide) (by decide) (by decide) (up M 36 3 (M 10 3))) ?_
  rintro _ _ ⟨rfl, rfl⟩
  refine Hx.run 0 (pc' := 19) (L' := [some (vr 36), some (vr 10)]) (st' := []) (M' := (cp (up M 36 3 (M 10 3)) 11 0 37 0 18)) rfl ?_
  refine Hx.ret rfl ?_
  exact ⟨rfl, rfl⟩
set_option maxRecDepth 100000 in
theorem c_ltake_38_12 (M : Mm) : Ct 39 [vr 38, vr 12] M (fun q0 M' => q0 = none ∧ tkL M 38 12 30 = M') := by
  refine Hx.run 8 (pc' := 16) (L' := [some (vr 38), some (vr 12)]) (st' := [vr 13, vr 39]) (M' := (up M 38 3 (M 12 3))) rfl ?_
  refine Hx.call (t := 123) (as := [vr 39, vr 13]) (pc' := 19) (rest := []) rfl (c_copyInto (rd := 39) (rs := 13) (n := 30) rfl rfl (by decide) (by decide) (by decide) (up M 38 3 (M 12 3))) ?_
  rintro _ _ ⟨rfl, rfl⟩
  refine Hx.run 0 (pc' := 19) (L' := [some (vr 38), some (vr 12)]) (st' := []) (M' := (cp (up M 38 3 (M 12 3)) 13 0 39 0 30)) rfl ?_
  refine Hx.ret rfl ?_
  exact ⟨rfl, rfl⟩
set_option maxRecDepth 100000 in
theorem c_ltake_8_21 (M : Mm) : Ct 39 [vr 8, vr 21] M (fun q0 M' => q0 = none ∧ tkL M 8 21 20 = M') := by
  refine Hx.run 8 (pc' := 16) (L' := [some (vr 8), some (vr 21)]) (st' := [vr 22, vr 9]) (M' := (up M 8 3 (M 21 3))) rfl ?_
  refine Hx.call (t := 123) (as := [vr 9, vr 22]) (pc' := 19) (rest := []) rfl (c_copyInto (rd := 9) (rs := 22) (n := 20) rfl rfl (by decide) (by decide) (by decide) (up M 8 3 (M 21 3))) ?_
  rintro _ _ ⟨rfl, rfl⟩
  refine Hx.run 0 (pc' := 19) (L' := [some (vr 8), some (vr 21)]) (st' := []) (M' := (cp (up M 8 3 (M 21 3)) 22 0 9 0 20)) rfl ?_
  refine Hx.ret rfl ?_
  exact ⟨rfl, rfl⟩
set_option maxRecDepth 100000 in
theorem c_ltake_10_23 (M : Mm) : Ct 39 [vr 10, vr 23] M (fun q0 M' => q0 = none ∧ tkL M 10 23 18 = M') := by
  refine Hx.run 8 (pc' := 16) (L' := [some (vr 10), some (vr 23)]) (st' := [vr 24, vr 11]) (M' := (up M 10 3 (M 23 3))) rfl ?_
  refine Hx.call (t := 123) (as := [vr 11, vr 24]) (pc' := 19) (rest := []) rfl (c_copyInto (rd := 11) (rs := 24) (n := 18) rfl rfl (by decide) (by decide) (by decide) (up M 10 3 (M 23 3))) ?_
  rintro _ _ ⟨rfl, rfl⟩
  refine Hx.run 0 (pc' := 19) (L' := [some (vr 10), some (vr 23)]) (st' := []) (M' := (cp (up M 10 3 (M 23 3)) 24 0 11 0 18)) rfl ?_
  refine Hx.ret rfl ?_
  exact ⟨rfl, rfl⟩
set_option maxRecDepth 100000 in
theorem c_ltake_12_25 (M : Mm) : Ct 39 [vr 12, vr 25] M (fun q0 M' => q0 = none ∧ tkL M 12 25 30 = M') := by
  refine Hx.run 8 (pc' := 16) (L' := [some (vr 12), some (vr 25)]) (st' := [vr 26, vr 13]) (M' := (up M 12 3 (M 25 3))) rfl ?_
  refine Hx.call (t := 123) (as := [vr 13, vr 26]) (pc' := 19) (rest := []) rfl (c_copyInto (rd := 13) (rs := 26) (n := 30) rfl rfl (by decide) (by decide) (by decide) (up M 12 3 (M 25 3))) ?_
  rintro _ _ ⟨rfl, rfl⟩
  refine Hx.run 0 (pc' := 19) (L' := [some (vr 12), some (vr 25)]) (st' := []) (M' := (cp (up M 12 3 (M 25 3)) 26 0 13 0 30)) rfl ?_
  refine Hx.ret rfl ?_
  exact ⟨rfl, rfl⟩
set_option maxRecDepth 100000 in
theorem c_ltake_8_34 (M : Mm) : Ct 39 [vr 8, vr 34] M (fun q0 M' => q0 = none ∧ tkL M 8 34 20 = M') := by
  refine Hx.run 8 (pc' := 16) (L' := [some (vr 8), some (vr 34)]) (st' := [vr 35, vr 9]) (M' := (up M 8 3 (M 34 3))) rfl ?_
  refine Hx.call (t := 123) (as := [vr 9, vr 35]) (pc' := 19) (rest := []) rfl (c_copyInto (rd := 9) (rs := 35) (n := 20) rfl rfl (by decide) (by decide) (by decide) (up M 8 3 (M 34 3))) ?_
  rintro _ _ ⟨rfl, rfl⟩
  refine Hx.run 0 (pc' := 19) (L' := [some (vr 8), some (vr 34)]) (st' := []) (M' := (cp (up M 8 3 (M 34 3)) 35 0 9 0 20)) rfl ?_
  refine Hx.ret rfl ?_
  exact ⟨rfl, rfl⟩
set_option maxRecDepth 100000 in
theorem c_ltake_10_36 (M : Mm) : Ct 39 [vr 10, vr 36] M (fun q0 M' => q0 = none ∧ tkL M 10 36 18 = M') := by
  refine Hx.run 8 (pc' := 16) (L' := [some (vr 10), some (vr 36)]) (st' := [vr 37, vr 11]) (M' := (up M 10 3 (M 36 3))) rfl ?_
  refine Hx.call (t := 123) (as := [vr 11, vr 37]) (pc' := 19) (rest := []) rfl (c_copyInto (rd := 11) (rs := 37) (n := 18) rfl rfl (by decide) (by decide) (by decide) (up M 10 3 (M 36 3))) ?_
  rintro _ _ ⟨rfl, rfl⟩
  refine Hx.run 0 (pc' := 19) (L' := [some (vr 10), some (vr 36)]) (st' := []) (M' := (cp (up M 10 3 (M 36 3)) 37 0 11 0 18)) rfl ?_
  refine Hx.ret rfl ?_
  exact ⟨rfl, rfl⟩
set_option maxRecDepth 100000 in
theorem c_ltake_12_38 (M : Mm) : Ct 39 [vr 12, vr 38] M (fun q0 M' => q0 = none ∧ tkL M 12 38 30 = M') := by
  refine Hx.run 8 (pc' := 16) (L' := [some (vr 12), some (vr 38)]) (st' := [vr 39, vr 13]) (M' := (up M 12 3 (M 38 3))) rfl ?_
  refine Hx.call (t := 123) (as := [vr 13, vr 39]) (pc' := 19) (rest := []) rfl (c_copyInto (rd := 13) (rs := 39) (n := 30) rfl rfl (by decide) (by decide) (by decide) (up M 12 3 (M 38 3))) ?_
  rintro _ _ ⟨rfl, rfl⟩
  refine Hx.run 0 (pc' := 19) (L' := [some (vr 12), some (vr 38)]) (st' := []) (M' := (cp (up M 12 3 (M 38 3)) 39 0 13 0 30)) rfl ?_
  refine Hx.ret rfl ?_
  exact ⟨rfl, rfl⟩
set_option maxRecDepth 100000 in
set_option maxHeartbeats 4000000 in
theorem c_takeOver_1_40 (M : Mm) : Ct 6 [vr 1, vr 40] M (fun q0 M' => q0 = none ∧ tkM M 1 40 = M') := by
  refine Hx.run 12 (pc' := 24) (L' := [some (vr 1), some (vr 40)]) (st' := []) (M' := (up (up (up M 1 0 (M 40 0)) 1 1 (M 40 1)) 1 2 (M 40 2))) rfl ?_
  refine Hx.run 4 (pc' := 32) (L' := [some (vr 1), some (vr 40)]) (st' := [vr 41, vr 2]) (M' := (up (up (up M 1 0 (M 40 0)) 1 1 (M 40 1)) 1 2 (M 40 2))) rfl ?_
  refine Hx.call (t := 123) (as := [vr 2, vr 41]) (pc' := 35) (rest := []) rfl (c_copyInto (rd := 2) (rs := 41) (n := 3) rfl rfl (by decide) (by decide) (by decide) (up (up (up M 1 0 (M 40 0)) 1 1 (M 40 1)) 1 2 (M 40 2))) ?_
  rintro _ _ ⟨rfl, rfl⟩
  refine Hx.run 0 (pc' := 35) (L' := [some (vr 1), some (vr 40)]) (st' := []) (M' := (cp (up (up (up M 1 0 (M 40 0)) 1 1 (M 40 1)) 1 2 (M 40 2)) 41 0 2 0 3)) rfl ?_
  refine Hx.run 4 (pc' := 43) (L' := [some (vr 1), some (vr 40)]) (st' := [vr 42, vr 3]) (M' := (cp (up (up (up M 1 0 (M 40 0)) 1 1 (M 40 1)) 1 2 (M 40 2)) 41 0 2 0 3)) rfl ?_
  refine Hx.call (t := 123) (as := [vr 3, vr 42]) (pc' := 46) (rest := []) rfl (c_copyInto (rd := 3) (rs := 42) (n := 6) rfl rfl (by decide) (by decide) (by decide) (cp (up (up (up M 1 0 (M 40 0)) 1 1 (M 40 1)) 1 2 (M 40 2)) 41 0 2 0 3)) ?_
  rintro _ _ ⟨rfl, rfl⟩
  refine Hx.run 0 (pc' := 46) (L' := [some (vr 1), some (vr 40)]) (st' := []) (M' := (cp (cp (up (up (up M 1 0 (M 40 0)) 1 1 (M 40 1)) 1 2 (M 40 2)) 41 0 2 0 3) 42 0 3 0 6)) rfl ?_
  refine Hx.run 4 (pc' := 54) (L' := [some (vr 1), some (vr 40)]) (st' := [vr 43, vr 4]) (M' := (cp (cp (up (up (up M 1 0 (M 40 0)) 1 1 (M 40 1)) 1 2 (M 40 2)) 41 0 2 0 3) 42 0 3 0 6)) rfl ?_
  refine Hx.call (t := 123) (as := [vr 4, vr 43]) (pc' := 57) (rest := []) rfl (c_copyInto (rd := 4) (rs := 43) (n := 6) rfl rfl (by decide) (by decide) (by decide) (cp (cp (up (up (up M 1 0 (M 40 0)) 1 1 (M 40 1)) 1 2 (M 40 2)) 41 0 2 0 3) 42 0 3 0 6)) ?_
  rintro _ _ ⟨rfl, rfl⟩
  refine Hx.run 0 (pc' := 57) (L' := [some (vr 1), some (vr 40)]) (st' := []) (M' := (cp (cp (cp (up (up (up M 1 0 (M 40 0)) 1 1 (M 40 1)) 1 2 (M 40 2)) 41 0 2 0 3) 42 0 3 0 6) 43 0 4 0 6)) rfl ?_
  refine Hx.run 4 (pc' := 65) (L' := [some (vr 1), some (vr 40)]) (st' := [vr 44, vr 5]) (M' := (cp (cp (cp (up (up (up M 1 0 (M 40 0)) 1 1 (M 40 1)) 1 2 (M 40 2)) 41 0 2 0 3) 42 0 3 0 6) 43 0 4 0 6)) rfl ?_
  refine Hx.call (t := 123) (as := [vr 5, vr 44]) (pc' := 68) (rest := []) rfl (c_copyInto (rd := 5) (rs := 44) (n := 6) rfl rfl (by decide) (by decide) (by decide) (cp (cp (cp (up (up (up M 1 0 (M 40 0)) 1 1 (M 40 1)) 1 2 (M 40 2)) 41 0 2 0 3) 42 0 3 0 6) 43 0 4 0 6)) ?_
  rintro _ _ ⟨rfl, rfl⟩
  refine Hx.run 0 (pc' := 68) (L' := [some (vr 1), some (vr 40)]) (st' := []) (M' := (cp (cp (cp (cp (up (up (up M 1 0 (M 40 0)) 1 1 (M 40 1)) 1 2 (M 40 2)) 41 0 2 0 3) 42 0 3 0 6) 43 0 4 0 6) 44 0 5 0 6)) rfl ?_
  refine Hx.run 4 (pc' := 76) (L' := [some (vr 1), some (vr 40)]) (st' := [vr 45, vr 6]) (M' := (cp (cp (cp (cp (up (up (up M 1 0 (M 40 0)) 1 1 (M 40 1)) 1 2 (M 40 2)) 41 0 2 0 3) 42 0 3 0 6) 43 0 4 0 6) 44 0 5 0 6)) rfl ?_
  refine Hx.call (t := 123) (as := [vr 6, vr 45]) (pc' := 79) (rest := []) rfl (c_copyInto (rd := 6) (rs := 45) (n := 17) rfl rfl (by decide) (by decide) (by decide) (cp (cp (cp (cp (up (up (up M 1 0 (M 40 0)) 1 1 (M 40 1)) 1 2 (M 40 2)) 41 0 2 0 3) 42 0 3 0 6) 43 0 4 0 6) 44 0 5 0 6)) ?_
  rintro _ _ ⟨rfl, rfl⟩
  refine Hx.run 0 (pc' := 79) (L' := [some (vr 1), some (vr 40)]) (st' := []) (M' := (cp (cp (cp (cp (cp (up (up (up M 1 0 (M 40 0)) 1 1 (M 40 1)) 1 2 (M 40 2)) 41 0 2 0 3) 42 0 3 0 6) 43 0 4 0 6) 44 0 5 0 6) 45 0 6 0 17)) rfl ?_
  refine Hx.run 4 (pc' := 87) (L' := [some (vr 1), some (vr 40)]) (st' := [vr 46, vr 7]) (M' := (cp (cp (cp (cp (cp (up (up (up M 1 0 (M 40 0)) 1 1 (M 40 1)) 1 2 (M 40 2)) 41 0 2 0 3) 42 0 3 0 6) 43 0 4 0 6) 44 0 5 0 6) 45 0 6 0 17)) rfl ?_
  refine Hx.call (t := 123) (as := [vr 7, vr 46]) (pc' := 90) (rest := []) rfl (c_copyInto (rd := 7) (rs := 46) (n := 136) rfl rfl (by decide) (by decide) (by decide) (cp (cp (cp (cp (cp (up (up (up M 1 0 (M 40 0)) 1 1 (M 40 1)) 1 2 (M 40 2)) 41 0 2 0 3) 42 0 3 0 6) 43 0 4 0 6) 44 0 5 0 6) 45 0 6 0 17)) ?_
  rintro _ _ ⟨rfl, rfl⟩
  refine Hx.run 0 (pc' := 90) (L' := [some (vr 1), some (vr 40)]) (st' := []) (M' := (cp (cp (cp (cp (cp (cp (up (up (up M 1 0 (M 40 0)) 1 1 (M 40 1)) 1 2 (M 40 2)) 41 0 2 0 3) 42 0 3 0 6) 43 0 4 0 6) 44 0 5 0 6) 45 0 6 0 17) 46 0 7 0 136)) rfl ?_
  refine Hx.run 4 (pc' := 98) (L' := [some (vr 1), some (vr 40)]) (st' := [vr 47, vr 8]) (M' := (cp (cp (cp (cp (cp (cp (up (up (up M 1 0 (M 40 0)) 1 1 (M 40 1)) 1 2 (M 40 2)) 41 0 2 0 3) 42 0 3 0 6) 43 0 4 0 6) 44 0 5 0 6) 45 0 6 0 17) 46 0 7 0 136)) rfl ?_
  refine Hx.call (t := 39) (as := [vr 8, vr 47]) (pc' := 101) (rest := []) rfl (c_ltake_8_47 (cp (cp (cp (cp (cp (cp (up (up (up M 1 0 (M 40 0)) 1 1 (M 40 1)) 1 2 (M 40 2)) 41 0 2 0 3) 42 0 3 0 6) 43 0 4 0 6) 44 0 5 0 6) 45 0 6 0 17) 46 0 7 0 136)) ?_
  rintro _ _ ⟨rfl, rfl⟩
  refine Hx.run 0 (pc' := 101) (L' := [some (vr 1), some (vr 40)]) (st' := []) (M' := (tkL (cp (cp (cp (cp (cp (cp (up (up (up M 1 0 (M 40 0)) 1 1 (M 40 1)) 1 2 (M 40 2)) 41 0 2 0 3) 42 0 3 0 6) 43 0 4 0 6) 44 0 5 0 6) 45 0 6 0 17) 46 0 7 0 136) 8 47 20)) rfl ?_
  refine Hx.run 4 (pc' := 109) (L' := [some (vr 1), some (vr 40)]) (st' := [vr 49, vr 10]) (M' := (tkL (cp (cp (cp (cp (cp (cp (up (up (up M 1 0 (M 40 0)) 1 1 (M 40 1)) 1 2 (M 40 2)) 41 0 2 0 3) 42 0 3 0 6) 43 0 4 0 6) 44 0 5 0 6) 45 0 6 0 17) 46 0 7 0 136) 8 47 20)) rfl ?_
  refine Hx.call (t := 39) (as := [vr 10, vr 49]) (pc' := 112) (rest := []) rfl (c_ltake_10_49 (tkL (cp (cp (cp (cp (cp (cp (up (up (up M 1 0 (M 40 0)) 1 1 (M 40 1)) 1 2 (M 40 2)) 41 0 2 0 3) 42 0 3 0 6) 43 0 4 0 6) 44 0 5 0 6) 45 0 6 0 17) 46 0 7 0 136) 8 47 20)) ?_
  rintro _ _ ⟨rfl, rfl⟩
  refine Hx.run 0 (pc' := 112) (L' := [some (vr 1), some (vr 40)]) (st' := []) (M' := (tkL (tkL (cp (cp (cp (cp (cp (cp (up (up (up M 1 0 (M 40 0)) 1 1 (M 40 1)) 1 2 (M 40 2)) 41 0 2 0 3) 42 0 3 0 6) 43 0 4 0 6) 44 0 5 0 6) 45 0 6 0 17) 46 0 7 0 136) 8 47 20) 10 49 18)) rfl ?_
  refine Hx.run 4 (pc' := 120) (L' := [some (vr 1), some (vr 40)]) (st' := [vr 51, vr 12]) (M' := (tkL (tkL (cp (cp (cp (cp (cp (cp (up (up (up M 1 0 (M 40 0)) 1 1 (M 40 1)) 1 2 (M 40 2)) 41 0 2 0 3) 42 0 3 0 6) 43 0 4 0 6) 44 0 5 0 6) 45 0 6 0 17) 46 0 7 0 136) 8 47 20) 10 49 18)) rfl ?_
  refine Hx.call (t := 39) (as := [vr 12, vr 51]) (pc' := 123) (rest := []) rfl (c_ltake_12_51 (tkL (tkL (cp (cp (cp (cp (cp (cp (up (up (up M 1 0 (M 40 0)) 1 1 (M 40 1)) 1 2 (M 40 2)) 41 0 2 0 3) 42 0 3 0 6) 43 0 4 0 6) 44 0 5 0 6) 45 0 6 0 17) 46 0 7 0 136) 8 47 20) 10 49 18)) ?_
  rintro _ _ ⟨rfl, rfl⟩
  refine Hx.run 0 (pc' := 123) (L' := [some (vr 1), some (vr 40)]) (st' := []) (M' := (tkL (tkL (tkL (cp (cp (cp (cp (cp (cp (up (up (up M 1 0 (M 40 0)) 1 1 (M 40 1)) 1 2 (M 40 2)) 41 0 2 0 3) 42 0 3 0 6) 43 0 4 0 6) 44 0 5 0 6) 45 0 6 0 17) 46 0 7 0 136) 8 47 20) 10 49 18) 12 51 30)) rfl ?_
  refine Hx.ret rfl ?_
  exact ⟨rfl, rfl⟩
set_option maxRecDepth 100000 in
set_option maxHeartbeats 4000000 in
theorem c_takeOver_40_1 (M : Mm) : Ct 6 [vr 40, vr 1] M (fun q0 M' => q0 = none ∧ tkM M 40 1 = M') := by
  refine Hx.run 12 (pc' := 24) (L' := [some (vr 40), some (vr 1)]) (st' := []) (M' := (up (up (up M 40 0 (M 1 0)) 40 1 (M 1 1)) 40 2 (M 1 2))) rfl ?_
  refine Hx.run 4 (pc' := 32) (L' := [some (vr 40), some (vr 1)]) (st' := [vr 2, vr 41]) (M' := (up (up (up M 40 0 (M 1 0)) 40 1 (M 1 1)) 40 2 (M 1 2))) rfl ?_
  refine Hx.call (t := 123) (as := [vr 41, vr 2]) (pc' := 35) (rest := []) rfl (c_copyInto (rd := 41) (rs := 2) (n := 3) rfl rfl (by decide) (by decide) (by decide) (up (up (up M 40 0 (M 1 0)) 40 1 (M 1 1)) 40 2 (M 1 2))) ?_
  rintro _ _ ⟨rfl, rfl⟩
  refine Hx.run 0 (pc' := 35) (L' := [some (vr 40), some (vr 1)]) (st' := []) (M' := (cp (up (up (up M 40 0 (M 1 0)) 40 1 (M 1 1)) 40 2 (M 1 2)) 2 0 41 0 3)) rfl ?_
  refine Hx.run 4 (pc' := 43) (L' := [some (vr 40), some (vr 1)]) (st' := [vr 3, vr 42]) (M' := (cp (up (up (up M 40 0 (M 1 0)) 40 1 (M 1 1)) 40 2 (M 1 2)) 2 0 41 0 3)) rfl ?_
  refine Hx.call (t := 123) (as := [vr 42, vr 3]) (pc' := 46) (rest := []) rfl (c_copyInto (rd := 42) (rs := 3) (n := 6) rfl rfl (by decide) (by decide) (by decide) (cp (up (up (up M 40 0 (M 1 0)) 40 1 (M 1 1)) 40 2 (M 1 2)) 2 0 41 0 3)) ?_
  rintro _ _ ⟨rfl, rfl⟩
  refine Hx.run 0 (pc' := 46) (L' := [some (vr 40), some (vr 1)]) (st' := []) (M' := (cp (cp (up (up (up M 40 0 (M 1 0)) 40 1 (M 1 1)) 40 2 (M 1 2)) 2 0 41 0 3) 3 0 42 0 6)) rfl ?_
  refine Hx.run 4 (pc' := 54) (L' := [some (vr 40), some (vr 1)]) (st' := [vr 4, vr 43]) (M' := (cp (cp (up (up (up M 40 0 (M 1 0)) 40 1 (M 1 1)) 40 2 (M 1 2)) 2 0 41 0 3) 3 0 42 0 6)) rfl ?_
  refine Hx.call (t := 123) (as := [vr 43, vr 4]) (pc' := 57) (rest := []) rfl (c_copyInto (rd := 43) (rs := 4) (n := 6) rfl rfl (by decide) (by decide) (by decide) (cp (cp (up (up (up M 40 0 (M 1 0)) 40 1 (M 1 1)) 40 2 (M 1 2)) 2 0 41 0 3) 3 0 42 0 6)) ?_
  rintro _ _ ⟨rfl, rfl⟩
  refine Hx.run 0 (pc' := 57) (L' := [some (vr 40), some (vr 1)]) (st' := []) (M' := (cp (cp (cp (up (up (up M 40 0 (M 1 0)) 40 1 (M 1 1)) 40 2 (M 1 2)) 2 0 41 0 3) 3 0 42 0 6) 4 0 43 0 6)) rfl ?_
  refine Hx.run 4 (pc' := 65) (L' := [some (vr 40), some (vr 1)]) (st' := [vr 5, vr 44]) (M' := (cp (cp (cp (up (up (up M 40 0 (M 1 0)) 40 1 (M 1 1)) 40 2 (M 1 2)) 2 0 41 0 3) 3 0 42 0 6) 4 0 43 0 6)) rfl ?_
  refine Hx.call (t := 123) (as := [vr 44, vr 5]) (pc' := 68) (rest := []) rfl (c_copyInto (rd := 44) (rs := 5) (n := 6) rfl rfl (by decide) (by decide) (by decide) (cp (cp (cp (up (up (up M 40 0 (M 1 0)) 40 1 (M 1 1)) 40 2 (M 1 2)) 2 0 41 0 3) 3 0 42 0 6) 4 0 43 0 6)) ?_
  rintro _ _ ⟨rfl, rfl⟩
  refine Hx.run 0 (pc' := 68) (L' := [some (vr 40), some (vr 1)]) (st' := []) (M' := (cp (cp (cp (cp (up (up (up M 40 0 (M 1 0)) 40 1 (M 1 1)) 40 2 (M 1 2)) 2 0 41 0 3) 3 0 42 0 6) 4 0 43 0 6) 5 0 44 0 6)) rfl ?_
  refine Hx.run 4 (pc' := 76) (L' := [some (vr 40), some (vr 1)]) (st' := [vr 6, vr 45]) (M' := (cp (cp (cp (cp (up (up (up M 40 0 (M 1 0)) 40 1 (M 1 1)) 40 2 (M 1 2)) 2 0 41 0 3) 3 0 42 0 6) 4 0 43 0 6) 5 0 44 0 6)) rfl ?_
  refine Hx.call (t := 123) (as := [vr 45, vr 6]) (pc' := 79) (rest := []) rfl (c_copyInto (rd := 45) (rs := 6) (n := 17) rfl rfl (by decide) (by decide) (by decide) (cp (cp (cp (cp (up (up (up M 40 0 (M 1 0)) 40 1 (M 1 1)) 40 2 (M 1 2)) 2 0 41 0 3) 3 0 42 0 6) 4 0 43 0 6) 5 0 44 0 6)) ?_
  rintro _ _ ⟨rfl, rfl⟩
  refine Hx.run 0 (pc' := 79) (L' := [some (vr 40), some (vr 1)]) (st' := []) (M' := (cp (cp (cp (cp (cp (up (up (up M 40 0 (M 1 0)) 40 1 (M 1 1)) 40 2 (M 1 2)) 2 0 41 0 3) 3 0 42 0 6) 4 0 43 0 6) 5 0 44 0 6) 6 0 45 0 17)) rfl ?_
  refine Hx.run 4 (pc' := 87) (L' := [some (vr 40), some (vr 1)]) (st' := [vr 7, vr 46]) (M' := (cp (cp (cp (cp (cp (up (up (up M 40 0 (M 1 0)) 40 1 (M 1 1)) 40 2 (M 1 2)) 2 0 41 0 3) 3 0 42 0 6) 4 0 43 0 6) 5 0 44 0 6) 6 0 45 0 17)) rfl ?_
  refine Hx.call (t := 123) (as := [vr 46, vr 7]) (pc' := 90) (rest := []) rfl (c_copyInto (rd := 46) (rs := 7) (n := 136) rfl rfl (by decide) (by decide) (by decide) (cp (cp (cp (cp (cp (up (up (up M 40 0 (M 1 0)) 40 1 (M 1 1)) 40 2 (M 1 2)) 2 0 41 0 3) 3 0 42 0 6) 4 0 43 0 6) 5 0 44 0 6) 6 0 45 0 17)) ?_
  rintro _ _ ⟨rfl, rfl⟩
  refine Hx.run 0 (pc' := 90) (L' := [some (vr 40), some (vr 1)]) (st' := []) (M' := (cp (cp (cp (cp (cp (cp (up (up (up M 40 0 (M 1 0)) 40 1 (M 1 1)) 40 2 (M 1 2)) 2 0 41 0 3) 3 0 42 0 6) 4 0 43 0 6) 5 0 44 0 6) 6 0 45 0 17) 7 0 46 0 136)) rfl ?_
  refine Hx.run 4 (pc' := 98) (L' := [some (vr 40), some (vr 1)]) (st' := [vr 8, vr 47]) (M' := (cp (cp (cp (cp (cp (cp (up (up (up M 40 0 (M 1 0)) 40 1 (M 1 1)) 40 2 (M 1 2)) 2 0 41 0 3) 3 0 42 0 6) 4 0 43 0 6) 5 0 44 0 6) 6 0 45 0 17) 7 0 46 0 136)) rfl ?_
  refine Hx.call (t := 39) (as := [vr 47, vr 8]) (pc' := 101) (rest := []) rfl (c_ltake_47_8 (cp (cp (cp (cp (cp (cp (up (up (up M 40 0 (M 1 0)) 40 1 (M 1 1)) 40 2 (M 1 2)) 2 0 41 0 3) 3 0 42 0 6) 4 0 43 0 6) 5 0 44 0 6) 6 0 45 0 17) 7 0 46 0 136)) ?_
  rintro _ _ ⟨rfl, rfl⟩
  refine Hx.run 0 (pc' := 101) (L' := [some (vr 40), some (vr 1)]) (st' := []) (M' := (tkL (cp (cp (cp (cp (cp (cp (up (up (up M 40 0 (M 1 0)) 40 1 (M 1 1)) 40 2 (M 1 2)) 2 0 41 0 3) 3 0 42 0 6) 4 0 43 0 6) 5 0 44 0 6) 6 0 45 0 17) 7 0 46 0 136) 47 8 20)) rfl ?_
  refine Hx.run 4 (pc' := 109) (L' := [some (vr 40), some (vr 1)]) (st' := [vr 10, vr 49]) (M' := (tkL (cp (cp (cp (cp (cp (cp (up (up (up M 40 0 (M 1 0)) 40 1 (M 1 1)) 40 2 (M 1 2)) 2 0 41 0 3) 3 0 42 0 6) 4 0 43 0 6) 5 0 44 0 6) 6 0 45 0 17) 7 0 46 0 136) 47 8 20)) rfl ?_
  refine Hx.call (t := 39) (as := [vr 49, vr 10]) (pc' := 112) (rest := []) rfl (c_ltake_49_10 (tkL (cp (cp (cp (cp (cp (cp (up (up (up M 40 0 (M 1 0)) 40 1 (M 1 1)) 40 2 (M 1 2)) 2 0 41 0 3) 3 0 42 0 6) 4 0 43 0 6) 5 0 44 0 6) 6 0 45 0 17) 7 0 46 0 136) 47 8 20)) ?_
  rintro _ _ ⟨rfl, rfl⟩
  refine Hx.run 0 (pc' := 112) (L' := [some (vr 40), some (vr 1)]) (st' := []) (M' := (tkL (tkL (cp (cp (cp (cp (cp (cp (up (up (up M 40 0 (M 1 0)) 40 1 (M 1 1)) 40 2 (M 1 2)) 2 0 41 0 3) 3 0 42 0 6) 4 0 43 0 6) 5 0 44 0 6) 6 0 45 0 17) 7 0 46 0 136) 47 8 20) 49 10 18)) rfl ?_
  refine Hx.run 4 (pc' := 120) (L' := [some (vr 40), some (vr 1)]) (st' := [vr 12, vr 51]) (M' := (tkL (tkL (cp (cp (cp (cp (cp (cp (up (up (up M 40 0 (M 1 0)) 40 1 (M 1 1)) 40 2 (M 1 2)) 2 0 41 0 3) 3 0 42 0 6) 4 0 43 0 6) 5 0 44 0 6) 6 0 45 0 17) 7 0 46 0 136) 47 8 20) 49 10 18)) rfl ?_
  refine Hx.call (t := 39) (as := [vr 51, vr 12]) (pc' := 123) (rest := []) rfl (c_ltake_51_12 (tkL (tkL (cp (cp (cp (cp (cp (cp (up (up (up M 40 0 (M 1 0)) 40 1 (M 1 1)) 40 2 (M 1 2)) 2 0 41 0 3) 3 0 42 0 6) 4 0 43 0 6) 5 0 44 0 6) 6 0 45 0 17) 7 0 46 0 136) 47 8 20) 49 10 18)) ?_
  rintro _ _ ⟨rfl, rfl⟩
  refine Hx.run 0 (pc' := 123) (L' := [some (vr 40), some (vr 1)]) (st' := []) (M' := (tkL (tkL (tkL (cp (cp (cp (cp (cp (cp (up (up (up M 40 0 (M 1 0)) 40 1 (M 1 1)) 40 2 (M 1 2)) 2 0 41 0 3) 3 0 42 0 6) 4 0 43 0 6) 5 0 44 0 6) 6 0 45 0 17) 7 0 46 0 136) 47 8 20) 49 10 18) 51 12 30)) rfl ?_
  refine Hx.ret rfl ?_
  exact ⟨rfl, rfl⟩
set_option maxRecDepth 100000 in
set_option maxHeartbeats 4000000 in
theorem c_takeOver_14_1 (M : Mm) : Ct 6 [vr 14, vr 1] M (fun q0 M' => q0 = none ∧ tkM M 14 1 = M') := by
  refine Hx.run 12 (pc' := 24) (L' := [some (vr 14), some (vr 1)]) (st' := []) (M' := (up (up (up M 14 0 (M 1 0)) 14 1 (M 1 1)) 14 2 (M 1 2))) rfl ?_
  refine Hx.run 4 (pc' := 32) (L' := [some (vr 14), some (vr 1)]) (st' := [vr 2, vr 15]) (M' := (up (up (up M 14 0 (M 1 0)) 14 1 (M 1 1)) 14 2 (M 1 2))) rfl ?_
  refine Hx.call (t := 123) (as := [vr 15, vr 2]) (pc' := 35) (rest := []) rfl (c_copyInto (rd := 15) (rs := 2) (n := 3) rfl rfl (by decide) (by decide) (by decide) (up (up (up M 14 0 (M 1 0)) 14 1 (M 1 1)) 14 2 (M 1 2))) ?_
  rintro _ _ ⟨rfl, rfl⟩
  refine Hx.run 0 (pc' := 35) (L' := [some (vr 14), some (vr 1)]) (st' := []) (M' := (cp (up (up (up M 14 0 (M 1 0)) 14 1 (M 1 1)) 14 2 (M 1 2)) 2 0 15 0 3)) rfl ?_
  refine Hx.run 4 (pc' := 43) (L' := [some (vr 14), some (vr 1)]) (st' := [vr 3, vr 16]) (M' := (cp (up (up (up M 14 0 (M 1 0)) 14 1 (M 1 1)) 14 2 (M 1 2)) 2 0 15 0 3)) rfl ?_
  refine Hx.call (t := 123) (as := [vr 16, vr 3]) (pc' := 46) (rest := []) rfl (c_copyInto (rd := 16) (rs := 3) (n := 6) rfl rfl (by decide) (by decide) (by decide) (cp (up (up (up M 14 0 (M 1 0)) 14 1 (M 1 1)) 14 2 (M 1 2)) 2 0 15 0 3)) ?_
  rintro _ _ ⟨rfl, rfl⟩
  refine Hx.run 0 (pc' := 46) (L' := [some (vr 14), some (vr 1)]) (st' := []) (M' := (cp (cp (up (up (up M 14 0 (M 1 0)) 14 1 (M 1 1)) 14 2 (M 1 2)) 2 0 15 0 3) 3 0 16 0 6)) rfl ?_
  refine Hx.run 4 (pc' := 54) (L' := [some (vr 14), some (vr 1)]) (st' := [vr 4, vr 17]) (M' := (cp (cp (up (up (up M 14 0 (M 1 0)) 14 1 (M 1 1)) 14 2 (M 1 2)) 2 0 15 0 3) 3 0 16 0 6)) rfl ?_
  refine Hx.call (t := 123) (as := [vr 17, vr 4]) (pc' := 57) (rest := []) rfl (c_copyInto (rd := 17) (rs := 4) (n := 6) rfl rfl (by decide) (by decide) (by decide) (cp (cp (up (up (up M 14 0 (M 1 0)) 14 1 (M 1 1)) 14 2 (M 1 2)) 2 0 15 0 3) 3 0 16 0 6)) ?_
  rintro _ _ ⟨rfl, rfl⟩
  refine Hx.run 0 (pc' := 57) (L' := [some (vr 14), some (vr 1)]) (st' := []) (M' := (cp (cp (cp (up (up (up M 14 0 (M 1 0)) 14 1 (M 1 1)) 14 2 (M 1 2)) 2 0 15 0 3) 3 0 16 0 6) 4 0 17 0 6)) rfl ?_
  refine Hx.run 4 (pc' := 65) (L' := [some (vr 14), some (vr 1)]) (st' := [vr 5, vr 18]) (M' := (cp (cp (cp (up (up (up M 14 0 (M 1 0)) 14 1 (M 1 1)) 14 2 (M 1 2)) 2 0 15 0 3) 3 0 16 0 6) 4 0 17 0 6)) rfl ?_
  refine Hx.call (t := 123) (as := [vr 18, vr 5]) (pc' := 68) (rest := []) rfl (c_copyInto (rd := 18) (rs := 5) (n := 6) rfl rfl (by decide) (by decide) (by decide) (cp (cp (cp (up (up (up M 14 0 (M 1 0)) 14 1 (M 1 1)) 14 2 (M 1 2)) 2 0 15 0 3) 3 0 16 0 6) 4 0 17 0 6)) ?_
  rintro _ _ ⟨rfl, rfl⟩
  refine Hx.run 0 (pc' := 68) (L' := [some (vr 14), some (vr 1)]) (st' := []) (M' := (cp (cp (cp (cp (up (up (up M 14 0 (M 1 0)) 14 1 (M 1 1)) 14 2 (M 1 2)) 2 0 15 0 3) 3 0 16 0 6) 4 0 17 0 6) 5 0 18 0 6)) rfl ?_
  refine Hx.run 4 (pc' := 76) (L' := [some (vr 14), some (vr 1)]) (st' := [vr 6, vr 19]) (M' := (cp (cp (cp (cp (up (up (up M 14 0 (M 1 0)) 14 1 (M 1 1)) 14 2 (M 1 2)) 2 0 15 0 3) 3 0 16 0 6) 4 0 17 0 6) 5 0 18 0 6)) rfl ?_
  refine Hx.call (t := 123) (as := [vr 19, vr 6]) (pc' := 79) (rest := []) rfl (c_copyInto (rd := 19) (rs := 6) (n := 17) rfl rfl (by decide) (by decide) (by decide) (cp (cp (cp (cp (up (up (up M 14 0 (M 1 0)) 14 1 (M 1 1)) 14 2 (M 1 2)) 2 0 15 0 3) 3 0 16 0 6) 4 0 17 0 6) 5 0 18 0 6)) ?_
  rintro _ _ ⟨rfl, rfl⟩
  refine Hx.run 0 (pc' := 79) (L' := [some (vr 14), some (vr 1)]) (st' := []) (M' := (cp (cp (cp (cp (cp (up (up (up M 14 0 (M 1 0)) 14 1 (M 1 1)) 14 2 (M 1 2)) 2 0 15 0 3) 3 0 16 0 6) 4 0 17 0 6) 5 0 18 0 6) 6 0 19 0 17)) rfl ?_
  refine Hx.run 4 (pc' := 87) (L' := [some (vr 14), some (vr 1)]) (st' := [vr 7, vr 20]) (M' := (cp (cp (cp (cp (cp (up (up (up M 14 0 (M 1 0)) 14 1 (M 1 1)) 14 2 (M 1 2)) 2 0 15 0 3) 3 0 16 0 6) 4 0 17 0 6) 5 0 18 0 6) 6 0 19 0 17)) rfl ?_
  refine Hx.call (t := 123) (as := [vr 20, vr 7]) (pc' := 90) (rest := []) rfl (c_copyInto (rd := 20) (rs := 7) (n := 136) rfl rfl (by decide) (by decide) (by decide) (cp (cp (cp (cp (cp (up (up (up M 14 0 (M 1 0)) 14 1 (M 1 1)) 14 2 (M 1 2)) 2 0 15 0 3) 3 0 16 0 6) 4 0 17 0 6) 5 0 18 0 6) 6 0 19 0 17)) ?_
  rintro _ _ ⟨rfl, rfl⟩
  refine Hx.run 0 (pc' := 90) (L' := [some (vr 14), some (vr 1)]) (st' := []) (M' := (cp (cp (cp (cp (cp (cp (up (up (up M 14 0 (M 1 0)) 14 1 (M 1 1)) 14 2 (M 1 2)) 2 0 15 0 3) 3 0 16 0 6) 4 0 17 0 6) 5 0 18 0 6) 6 0 19 0 17) 7 0 20 0 136)) rfl ?_
  refine Hx.run 4 (pc' := 98) (L' := [some (vr 14), some (vr 1)]) (st' := [vr 8, vr 21]) (M' := (cp (cp (cp (cp (cp (cp (up (up (up M 14 0 (M 1 0)) 14 1 (M 1 1)) 14 2 (M 1 2)) 2 0 15 0 3) 3 0 16 0 6) 4 0 17 0 6) 5 0 18 0 6) 6 0 19 0 17) 7 0 20 0 136)) rfl ?_
  refine Hx.call (t := 39) (as := [vr 21, vr 8]) (pc' := 101) (rest := []) rfl (c_ltake_21_8 (cp (cp (cp (cp (cp (cp (up (up (up M 14 0 (M 1 0)) 14 1 (M 1 1)) 14 2 (M 1 2)) 2 0 15 0 3) 3 0 16 0 6) 4 0 17 0 6) 5 0 18 0 6) 6 0 19 0 17) 7 0 20 0 136)) ?_
  rintro _ _ ⟨rfl, rfl⟩
  refine Hx.run 0 (pc' := 101) (L' := [some (vr 14), some (vr 1)]) (st' := []) (M' := (tkL (cp (cp (cp (cp (cp (cp (up (up (up M 14 0 (M 1 0)) 14 1 (M 1 1)) 14 2 (M 1 2)) 2 0 15 0 3) 3 0 16 0 6) 4 0 17 0 6) 5 0 18 0 6) 6 0 19 0 17) 7 0 20 0 136) 21 8 20)) rfl ?_
  refine Hx.run 4 (pc' := 109) (L' := [some (vr 14), some (vr 1)]) (st' := [vr 10, vr 23]) (M' := (tkL (cp (cp (cp (cp (cp (cp (up (up (up M 14 0 (M 1 0)) 14 1 (M 1 1)) 14 2 (M 1 2)) 2 0 15 0 3) 3 0 16 0 6) 4 0 17 0 6) 5 0 18 0 6) 6 0 19 0 17) 7 0 20 0 136) 21 8 20)) rfl ?_
  refine Hx.call (t := 39) (as := [vr 23, vr 10]) (pc' := 112) (rest := []) rfl (c_ltake_23_10 (tkL (cp (cp (cp (cp (cp (cp (up (up (up M 14 0 (M 1 0)) 14 1 (M 1 1)) 14 2 (M 1 2)) 2 0 15 0 3) 3 0 16 0 6) 4 0 17 0 6) 5 0 18 0 6) 6 0 19 0 17) 7 0 20 0 136) 21 8 20)) ?_
  rintro _ _ ⟨rfl, rfl⟩
  refine Hx.run 0 (pc' := 112) (L' := [some (vr 14), some (vr 1)]) (st' := []) (M' := (tkL (tkL (cp (cp (cp (cp (cp (cp (up (up (up M 14 0 (M 1 0)) 14 1 (M 1 1)) 14 2 (M 1 2)) 2 0 15 0 3) 3 0 16 0 6) 4 0 17 0 6) 5 0 18 0 6) 6 0 19 0 17) 7 0 20 0 136) 21 8 20) 23 10 18)) rfl ?_
  refine Hx.run 4 (pc' := 120) (L' := [some (vr 14), some (vr 1)]) (st' := [vr 12, vr 25]) (M' := (tkL (tkL (cp (cp (cp (cp (cp (cp (up (up (up M 14 0 (M 1 0)) 14 1 (M 1 1)) 14 2 (M 1 2)) 2 0 15 0 3) 3 0 16 0 6) 4 0 17 0 6) 5 0 18 0 6) 6 0 19 0 17) 7 0 20 0 136) 21 8 20) 23 10 18)) rfl ?_
  refine Hx.call (t := 39) (as := [vr 25, vr 12]) (pc' := 123) (rest := []) rfl (c_ltake_25_12 (tkL (tkL (cp (cp (cp (cp (cp (cp (up (up (up M 14 0 (M 1 0)) 14 1 (M 1 1)) 14 2 (M 1 2)) 2 0 15 0 3) 3 0 16 0 6) 4 0 17 0 6) 5 0 18 0 6) 6 0 19 0 17) 7 0 20 0 136) 21 8 20) 23 10 18)) ?_
  rintro _ _ ⟨rfl, rfl⟩
  refine Hx.run 0 (pc' := 123) (L' := [some (vr 14), some (vr 1)]) (st' := []) (M' := (tkL (tkL (tkL (cp (cp (cp (cp (cp (cp (up (up (up M 14 0 (M 1 0)) 14 1 (M 1 1)) 14 2 (M 1 2)) 2 0 15 0 3) 3 0 16 0 6) 4 0 17 0 6) 5 0 18 0 6) 6 0 19 0 17) 7 0 20 0 136) 21 8 20) 23 10 18) 25 12 30)) rfl ?_
  refine Hx.ret rfl ?_
  exact ⟨rfl, rfl⟩
set_option maxRecDepth 100000 in
set_option maxHeartbeats 4000000 in
theorem c_takeOver_27_1 (M : Mm) : Ct 6 [vr 27, vr 1] M (fun q0 M' => q0 = none ∧ tkM M 27 1 = M') := by
  refine Hx.run 12 (pc' := 24) (L' := [some (vr 27), some (vr 1)]) (st' := []) (M' := (up (up (up M 27 0 (M 1 0)) 27 1 (M 1 1)) 27 2 (M 1 2))) rfl ?_
  refine Hx.run 4 (pc' := 32) (L' := [some (vr 27), some (vr 1)]) (st' := [vr 2, vr 28]) (M' := (up (up (up M 27 0 (M 1 0)) 27 1 (M 1 1)) 27 2 (M 1 2))) rfl ?_
  refine Hx.call (t := 123) (as := [vr 28, vr 2]) (pc' := 35) (rest := []) rfl (c_copyInto (rd := 28) (rs := 2) (n := 3) rfl rfl (by decide) (by decide) (by decide) (up (up (up M 27 0 (M 1 0)) 27 1 (M 1 1)) 27 2 (M 1 2))) ?_
  rintro _ _ ⟨rfl, rfl⟩
  refine Hx.run 0 (pc' := 35) (L' := [some (vr 27), some (vr 1)]) (st' := []) (M' := (cp (up (up (up M 27 0 (M 1 0)) 27 1 (M 1 1)) 27 2 (M 1 2)) 2 0 28 0 3)) rfl ?_
  refine Hx.run 4 (pc' := 43) (L' := [some (vr 27), some (vr 1)]) (st' := [vr 3, vr 29]) (M' := (cp (up (up (up M 27 0 (M 1 0)) 27 1 (M 1 1)) 27 2 (M 1 2)) 2 0 28 0 3)) rfl ?_
  refine Hx.call (t := 123) (as := [vr 29, vr 3]) (pc' := 46) (rest := []) rfl (c_copyInto (rd := 29) (rs := 3) (n := 6) rfl rfl (by decide) (by decide) (by decide) (cp (up (up (up M 27 0 (M 1 0)) 27 1 (M 1 1)) 27 2 (M 1 2)) 2 0 28 0 3)) ?_
  rintro _ _ ⟨rfl, rfl⟩
  refine Hx.run 0 (pc' := 46) (L' := [some (vr 27), some (vr 1)]) (st' := []) (M' := (cp (cp (up (up (up M 27 0 (M 1 0)) 27 1 (M 1 1)) 27 2 (M 1 2)) 2 0 28 0 3) 3 0 29 0 6)) rfl ?_
  refine Hx.run 4 (pc' := 54) (L' := [some (vr 27), some (vr 1)]) (st' := [vr 4, vr 30]) (M' := (cp (cp (up (up (up M 27 0 (M 1 0)) 27 1 (M 1 1)) 27 2 (M 1 2)) 2 0 28 0 3) 3 0 29 0 6)) rfl ?_
  refine Hx.call (t := 123) (as := [vr 30, vr 4]) (pc' := 57) (rest := []) rfl (c_copyInto (rd := 30) (rs := 4) (n := 6) rfl rfl (by decide) (by decide) (by decide) (cp (cp (up (up (up M 27 0 (M 1 0)) 27 1 (M 1 1)) 27 2 (M 1 2)) 2 0 28 0 3) 3 0 29 0 6)) ?_
  rintro _ _ ⟨rfl, rfl⟩
  refine Hx.run 0 (pc' := 57) (L' := [some (vr 27), some (vr 1)]) (st' := []) (M' := (cp (cp (cp (up (up (up M 27 0 (M 1 0)) 27 1 (M 1 1)) 27 2 (M 1 2)) 2 0 28 0 3) 3 0 29 0 6) 4 0 30 0 6)) rfl ?_
  refine Hx.run 4 (pc' := 65) (L' := [some (vr 27), some (vr 1)]) (st' := [vr 5, vr 31]) (M' := (cp (cp (cp (up (up (up M 27 0 (M 1 0)) 27 1 (M 1 1)) 27 2 (M 1 2)) 2 0 28 0 3) 3 0 29 0 6) 4 0 30 0 6)) rfl ?_
  refine Hx.call (t := 123) (as := [vr 31, vr 5]) (pc' := 68) (rest := []) rfl (c_copyInto (rd := 31) (rs := 5) (n := 6) rfl rfl (by decide) (by decide) (by decide) (cp (cp (cp (up (up (up M 27 0 (M 1 0)) 27 1 (M 1 1)) 27 2 (M 1 2)) 2 0 28 0 3) 3 0 29 0 6) 4 0 30 0 6)) ?_
  rintro _ _ ⟨rfl, rfl⟩
  refine Hx.run 0 (pc' := 68) (L' := [some (vr 27), some (vr 1)]) (st' := []) (M' := (cp (cp (cp (cp (up (up (up M 27 0 (M 1 0)) 27 1 (M 1 1)) 27 2 (M 1 2)) 2 0 28 0 3) 3 0 29 0 6) 4 0 30 0 6) 5 0 31 0 6)) rfl ?_
  refine Hx.run 4 (pc' := 76) (L' := [some (vr 27), some (vr 1)]) (st' := [vr 6, vr 32]) (M' := (cp (cp (cp (cp (up (up (up M 27 0 (M 1 0)) 27 1 (M 1 1)) 27 2 (M 1 2)) 2 0 28 0 3) 3 0 29 0 6) 4 0 30 0 6) 5 0 31 0 6)) rfl ?_
  refine Hx.call (t := 123) (as := [vr 32, vr 6]) (pc' := 79) (rest := []) rfl (c_copyInto (rd := 32) (rs := 6) (n := 17) rfl rfl (by decide) (by decide) (by decide) (cp (cp (cp (cp (up (up (up M 27 0 (M 1 0)) 27 1 (M 1 1)) 27 2 (M 1 2)) 2 0 28 0 3) 3 0 29 0 6) 4 0 30 0 6) 5 0 31 0 6)) ?_
  rintro _ _ ⟨rfl, rfl⟩
  refine Hx.run 0 (pc' := 79) (L' := [some (vr 27), some (vr 1)]) (st' := []) (M' := (cp (cp (cp (cp (cp (up (up (up M 27 0 (M 1 0)) 27 1 (M 1 1)) 27 2 (M 1 2)) 2 0 28 0 3) 3 0 29 0 6) 4 0 30 0 6) 5 0 31 0 6) 6 0 32 0 17)) rfl ?_
  refine Hx.run 4 (pc' := 87) (L' := [some (vr 27), some (vr 1)]) (st' := [vr 7, vr 33]) (M' := (cp (cp (cp (cp (cp (up (up (up M 27 0 (M 1 0)) 27 1 (M 1 1)) 27 2 (M 1 2)) 2 0 28 0 3) 3 0 29 0 6) 4 0 30 0 6) 5 0 31 0 6) 6 0 32 0 17)) rfl ?_
  refine Hx.call (t := 123) (as := [vr 33, vr 7]) (pc' := 90) (rest := []) rfl (c_copyInto (rd := 33) (rs := 7) (n := 136) rfl rfl (by decide) (by decide) (by decide) (cp (cp (cp (cp (cp (up (up (up M 27 0 (M 1 0)) 27 1 (M 1 1)) 27 2 (M 1 2)) 2 0 28 0 3) 3 0 29 0 6) 4 0 30 0 6) 5 0 31 0 6) 6 0 32 0 17)) ?_
  rintro _ _ ⟨rfl, rfl⟩
  refine Hx.run 0 (pc' := 90) (L' := [some (vr 27), some (vr 1)]) (st' := []) (M' := (cp (cp (cp (cp (cp (cp (up (up (up M 27 0 (M 1 0)) 27 1 (M 1 1)) 27 2 (M 1 2)) 2 0 28 0 3) 3 0 29 0 6) 4 0 30 0 6) 5 0 31 0 6) 6 0 32 0 17) 7 0 33 0 136)) rfl ?_
  refine Hx.run 4 (pc' := 98) (L' := [some (vr 27), some (vr 1)]) (st' := [vr 8, vr 34]) (M' := (cp (cp (cp (cp (cp (cp (up (up (up M 27 0 (M 1 0)) 27 1 (M 1 1)) 27 2 (M 1 2)) 2 0 28 0 3) 3 0 29 0 6) 4 0 30 0 6) 5 0 31 0 6) 6 0 32 0 17) 7 0 33 0 136)) rfl ?_
  refine Hx.call (t := 39) (as := [vr 34, vr 8]) (pc' := 101) (rest := []) rfl (c_ltake_34_8 (cp (cp (cp (cp (cp (cp (up (up (up M 27 0 (M 1 0)) 27 1 (M 1 1)) 27 2 (M 1 2)) 2 0 28 0 3) 3 0 29 0 6) 4 0 30 0 6) 5 0 31 0 6) 6 0 32 0 17) 7 0 33 0 136)) ?_
  rintro _ _ ⟨rfl, rfl⟩
  refine Hx.run 0 (pc' := 101) (L' := [some (vr 27), some (vr 1)]) (st' := []) (M' := (tkL (cp (cp (cp (cp (cp (cp (up (up (up M 27 0 (M 1 0)) 27 1 (M 1 1)) 27 2 (M 1 2)) 2 0 28 0 3) 3 0 29 0 6) 4 0 30 0 6) 5 0 31 0 6) 6 0 32 0 17) 7 0 33 0 136) 34 8 20)) rfl ?_
  refine Hx.run 4 (pc' := 109) (L' := [some (vr 27), some (vr 1)]) (st' := [vr 10, vr 36]) (M' := (tkL (cp (cp (cp (cp (cp (cp (up (up (up M 27 0 (M 1 0)) 27 1 (M 1 1)) 27 2 (M 1 2)) 2 0 28 0 3) 3 0 29 0 6) 4 0 30 0 6) 5 0 31 0 6) 6 0 32 0 17) 7 0 33 0 136) 34 8 20)) rfl ?_
  refine Hx.call (t := 39) (as := [vr 36, vr 10]) (pc' := 112) (rest := []) rfl (c_ltake_36_10 (tkL (cp (cp (cp (cp (cp (cp (up (up (up M 27 0 (M 1 0)) 27 1 (M 1 1)) 27 2 (M 1 2)) 2 0 28 0 3) 3 0 29 0 6) 4 0 30 0 6) 5 0 31 0 6) 6 0 32 0 17) 7 0 33 0 136) 34 8 20)) ?_
  rintro _ _ ⟨rfl, rfl⟩
  refine Hx.run 0 (pc' := 112) (L' := [some (vr 27), some (vr 1)]) (st' := []) (M' := (tkL (tkL (cp (cp (cp (cp (cp (cp (up (up (up M 27 0 (M 1 0)) 27 1 (M 1 1)) 27 2 (M 1 2)) 2 0 28 0 3) 3 0 29 0 6) 4 0 30 0 6) 5 0 31 0 6) 6 0 32 0 17) 7 0 33 0 136) 34 8 20) 36 10 18)) rfl ?_
  refine Hx.run 4 (pc' := 120) (L' := [some (vr 27), some (vr 1)]) (st' := [vr 12, vr 38]) (M' := (tkL (tkL (cp (cp (cp (cp (cp (cp (up (up (up M 27 0 (M 1 0)) 27 1 (M 1 1)) 27 2 (M 1 2)) 2 0 28 0 3) 3 0 29 0 6) 4 0 30 0 6) 5 0 31 0 6) 6 0 32 0 17) 7 0 33 0 136) 34 8 20) 36 10 18)) rfl ?_
  refine Hx.call (t := 39) (as := [vr 38, vr 12]) (pc' := 123) (rest := []) rfl (c_ltake_38_12 (tkL (tkL (cp (cp (cp (cp (cp (cp (up (up (up M 27 0 (M 1 0)) 27 1 (M 1 1)) 27 2 (M 1 2)) 2 0 28 0 3) 3 0 29 0 6) 4 0 30 0 6) 5 0 31 0 6) 6 0 32 0 17) 7 0 33 0 136) 34 8 20) 36 10 18)) ?_
  rintro _ _ ⟨rfl, rfl⟩
  refine Hx.run 0 (pc' := 123) (L' := [some (vr 27), some (vr 1)]) (st' := []) (M' := (tkL (tkL (tkL (cp (cp (cp (cp (cp (cp (up (up (up M 27 0 (M 1 0)) 27 1 (M 1 1)) 27 2 (M 1 2)) 2 0 28 0 3) 3 0 29 0 6) 4 0 30 0 6) 5 0 31 0 6) 6 0 32 0 17) 7 0 33 0 136) 34 8 20) 36 10 18) 38 12 30)) rfl ?_
  refine Hx.ret rfl ?_
  exact ⟨rfl, rfl⟩
set_option maxRecDepth 100000 in
set_option maxHeartbeats 4000000 in
theorem c_takeOver_1_14 (M : Mm) : Ct 6 [vr 1, vr 14] M (fun q0 M' => q0 = none ∧ tkM M 1 14 = M') := by
  refine Hx.run 12 (pc' := 24) (L' := [some (vr 1), some (vr 14)]) (st' := []) (M' := (up (up (up M 1 0 (M 14 0)) 1 1 (M 14 1)) 1 2 (M 14 2))) rfl ?_
  refine Hx.run 4 (pc' := 32) (L' := [some (vr 1), some (vr 14)]) (st' := [vr 15, vr 2]) (M' := (up (up (up M 1 0 (M 14 0)) 1 1 (M 14 1)) 1 2 (M 14 2))) rfl ?_
  refine Hx.call (t := 123) (as := [vr 2, vr 15]) (pc' := 35) (rest := []) rfl (c_copyInto (rd := 2) (rs := 15) (n := 3) rfl rfl (by decide) (by decide) (by decide) (up (up (up M 1 0 (M 14 0)) 1 1 (M 14 1)) 1 2 (M 14 2))) ?_
  rintro _ _ ⟨rfl, rfl⟩
  refine Hx.run 0 (pc' := 35) (L' := [some (vr 1), some (vr 14)]) (st' := []) (M' := (cp (up (up (up M 1 0 (M 14 0)) 1 1 (M 14 1)) 1 2 (M 14 2)) 15 0 2 0 3)) rfl ?_
  refine Hx.run 4 (pc' := 43) (L' := [some (vr 1), some (vr 14)]) (st' := [vr 16, vr 3]) (M' := (cp (up (up (up M 1 0 (M 14 0)) 1 1 (M 14 1)) 1 2 (M 14 2)) 15 0 2 0 3)) rfl ?_
  refine Hx.call (t := 123) (as := [vr 3, vr 16]) (pc' := 46) (rest := []) rfl (c_copyInto (rd := 3) (rs := 16) (n := 6) rfl rfl (by decide) (by decide) (by decide) (cp (up (up (up M 1 0 (M 14 0)) 1 1 (M 14 1)) 1 2 (M 14 2)) 15 0 2 0 3)) ?_
  rintro _ _ ⟨rfl, rfl⟩
  refine Hx.run 0 (pc' := 46) (L' := [some (vr 1), some (vr 14)]) (st' := []) (M' := (cp (cp (up (up (up M 1 0 (M 14 0)) 1 1 (M 14 1)) 1 2 (M 14 2)) 15 0 2 0 3) 16 0 3 0 6)) rfl ?_
  refine Hx.run 4 (pc' := 54) (L' := [some (vr 1), some (vr 14)]) (st' := [vr 17, vr 4]) (M' := (cp (cp (up (up (up M 1 0 (M 14 0)) 1 1 (M 14 1)) 1 2 (M 14 2)) 15 0 2 0 3) 16 0 3 0 6)) rfl ?_
  refine Hx.call (t := 123) (as := [vr 4, vr 17]) (pc' := 57) (rest := []) rfl (c_copyInto (rd := 4) (rs := 17) (n := 6) rfl rfl (by decide) (by decide) (by decide) (cp (cp (up (up (up M 1 0 (M 14 0)) 1 1 (M 14 1)) 1 2 (M 14 2)) 15 0 2 0 3) 16 0 3 0 6)) ?_
  rintro _ _ ⟨rfl, rfl⟩
  refine Hx.run 0 (pc' := 57) (L' := [some (vr 1), some (vr 14)]) (st' := []) (M' := (cp (cp (cp (up (up (up M 1 0 (M 14 0)) 1 1 (M 14 1)) 1 2 (M 14 2)) 15 0 2 0 3) 16 0 3 0 6) 17 0 4 0 6)) rfl ?_
  refine Hx.run 4 (pc' := 65) (L' := [some (vr 1), some (vr 14)]) (st' := [vr 18, vr 5]) (M' := (cp (cp (cp (up (up (up M 1 0 (M 14 0)) 1 1 (M 14 1)) 1 2 (M 14 2)) 15 0 2 0 3) 16 0 3 0 6) 17 0 4 0 6)) rfl ?_
  refine Hx.call (t := 123) (as := [vr 5, vr 18]) (pc' := 68) (rest := []) rfl (c_copyInto (rd := 5) (rs := 18) (n := 6) rfl rfl (by decide) (by decide) (by decide) (cp (cp (cp (up (up (up M 1 0 (M 14 0)) 1 1 (M 14 1)) 1 2 (M 14 2)) 15 0 2 0 3) 16 0 3 0 6) 17 0 4 0 6)) ?_
  rintro _ _ ⟨rfl, rfl⟩
  refine Hx.run 0 (pc' := 68) (L' := [some (vr 1), some (vr 14)]) (st' := []) (M' := (cp (cp (cp (cp (up (up (up M 1 0 (M 14 0)) 1 1 (M 14 1)) 1 2 (M 14 2)) 15 0 2 0 3) 16 0 3 0 6) 17 0 4 0 6) 18 0 5 0 6)) rfl ?_
  refine Hx.run 4 (pc' := 76) (L' := [some (vr 1), some (vr 14)]) (st' := [vr 19, vr 6]) (M' := (cp (cp (cp (cp (up (up (up M 1 0 (M 14 0)) 1 1 (M 14 1)) 1 2 (M 14 2)) 15 0 2 0 3) 16 0 3 0 6) 17 0 4 0 6) 18 0 5 0 6)) rfl ?_
  refine Hx.call (t := 123) (as := [vr 6, vr 19]) (pc' := 79) (rest := []) rfl (c_copyInto (rd := 6) (rs := 19) (n := 17) rfl rfl (by decide) (by decide) (by decide) (cp (cp (cp (cp (up (up (up M 1 0 (M 14 0)) 1 1 (M 14 1)) 1 2 (M 14 2)) 15 0 2 0 3) 16 0 3 0 6) 17 0 4 0 6) 18 0 5 0 6)) ?_
  rintro _ _ ⟨rfl, rfl⟩
  refine Hx.run 0 (pc' := 79) (L' := [some (vr 1), some (vr 14)]) (st' := []) (M' := (cp (cp (cp (cp (cp (up (up (up M 1 0 (M 14 0)) 1 1 (M 14 1)) 1 2 (M 14 2)) 15 0 2 0 3) 16 0 3 0 6) 17 0 4 0 6) 18 0 5 0 6) 19 0 6 0 17)) rfl ?_
  refine Hx.run 4 (pc' := 87) (L' := [some (vr 1), some (vr 14)]) (st' := [vr 20, vr 7]) (M' := (cp (cp (cp (cp (cp (up (up (up M 1 0 (M 14 0)) 1 1 (M 14 1)) 1 2 (M 14 2)) 15 0 2 0 3) 16 0 3 0 6) 17 0 4 0 6) 18 0 5 0 6) 19 0 6 0 17)) rfl ?_
  refine Hx.call (t := 123) (as := [vr 7, vr 20]) (pc' := 90) (rest := []) rfl (c_copyInto (rd := 7) (rs := 20) (n := 136) rfl rfl (by decide) (by decide) (by decide) (cp (cp (cp (cp (cp (up (up (up M 1 0 (M 14 0)) 1 1 (M 14 1)) 1 2 (M 14 2)) 15 0 2 0 3) 16 0 3 0 6) 17 0 4 0 6) 18 0 5 0 6) 19 0 6 0 17)) ?_
  rintro _ _ ⟨rfl, rfl⟩
  refine Hx.run 0 (pc' := 90) (L' := [some (vr 1), some (vr 14)]) (st' := []) (M' := (cp (cp (cp (cp (cp (cp (up (up (up M 1 0 (M 14 0)) 1 1 (M 14 1)) 1 2 (M 14 2)) 15 0 2 0 3) 16 0 3 0 6) 17 0 4 0 6) 18 0 5 0 6) 19 0 6 0 17) 20 0 7 0 136)) rfl ?_
  refine Hx.run 4 (pc' := 98) (L' := [some (vr 1), some (vr 14)]) (st' := [vr 21, vr 8]) (M' := (cp (cp (cp (cp (cp (cp (up (up (up M 1 0 (M 14 0)) 1 1 (M 14 1)) 1 2 (M 14 2)) 15 0 2 0 3) 16 0 3 0 6) 17 0 4 0 6) 18 0 5 0 6) 19 0 6 0 17) 20 0 7 0 136)) rfl ?_
  refine Hx.call (t := 39) (as := [vr 8, vr 21]) (pc' := 101) (rest := []) rfl (c_ltake_8_21 (cp (cp (cp (cp (cp (cp (up (up (up M 1 0 (M 14 0)) 1 1 (M 14 1)) 1 2 (M 14 2)) 15 0 2 0 3) 16 0 3 0 6) 17 0 4 0 6) 18 0 5 0 6) 19 0 6 0 17) 20 0 7 0 136)) ?_
  rintro _ _ ⟨rfl, rfl⟩
  refine Hx.run 0 (pc' := 101) (L' := [some (vr 1), some (vr 14)]) (st' := []) (M' := (tkL (cp (cp (cp (cp (cp (cp (up (up (up M 1 0 (M 14 0)) 1 1 (M 14 1)) 1 2 (M 14 2)) 15 0 2 0 3) 16 0 3 0 6) 17 0 4 0 6) 18 0 5 0 6) 19 0 6 0 17) 20 0 7 0 136) 8 21 20)) rfl ?_
  refine Hx.run 4 (pc' := 109) (L' := [some (vr 1), some (vr 14)]) (st' := [vr 23, vr 10]) (M' := (tkL (cp (cp (cp (cp (cp (cp (up (up (up M 1 0 (M 14 0)) 1 1 (M 14 1)) 1 2 (M 14 2)) 15 0 2 0 3) 16 0 3 0 6) 17 0 4 0 6) 18 0 5 0 6) 19 0 6 0 17) 20 0 7 0 136) 8 21 20)) rfl ?_
  refine Hx.call (t := 39) (as := [vr 10, vr 23]) (pc' := 112) (rest := []) rfl (c_ltake_10_23 (tkL (cp (cp (cp (cp (cp (cp (up (up (up M 1 0 (M 14 0)) 1 1 (M 14 1)) 1 2 (M 14 2)) 15 0 2 0 3) 16 0 3 0 6) 17 0 4 0 6) 18 0 5 0 6) 19 0 6 0 17) 20 0 7 0 136) 8 21 20)) ?_
  rintro _ _ ⟨rfl, rfl⟩
  refine Hx.run 0 (pc' := 112) (L' := [some (vr 1), some (vr 14)]) (st' := []) (M' := (tkL (tkL (cp (cp (cp (cp (cp (cp (up (up (up M 1 0 (M 14 0)) 1 1 (M 14 1)) 1 2 (M 14 2)) 15 0 2 0 3) 16 0 3 0 6) 17 0 4 0 6) 18 0 5 0 6) 19 0 6 0 17) 20 0 7 0 136) 8 21 20) 10 23 18)) rfl ?_
  refine Hx.run 4 (pc' := 120) (L' := [some (vr 1), some (vr 14)]) (st' := [vr 25, vr 12]) (M' := (tkL (tkL (cp (cp (cp (cp (cp (cp (up (up (up M 1 0 (M 14 0)) 1 1 (M 14 1)) 1 2 (M 14 2)) 15 0 2 0 3) 16 0 3 0 6) 17 0 4 0 6) 18 0 5 0 6) 19 0 6 0 17) 20 0 7 0 136) 8 21 20) 10 23 18)) rfl ?_
  refine Hx.call (t := 39) (as := [vr 12, vr 25]) (pc' := 123) (rest := []) rfl (c_ltake_12_25 (tkL (tkL (cp (cp (cp (cp (cp (cp (up (up (up M 1 0 (M 14 0)) 1 1 (M 14 1)) 1 2 (M 14 2)) 15 0 2 0 3) 16 0 3 0 6) 17 0 4 0 6) 18 0 5 0 6) 19 0 6 0 17) 20 0 7 0 136) 8 21 20) 10 23 18)) ?_
  rintro _ _ ⟨rfl, rfl⟩
  refine Hx.run 0 (pc' := 123) (L' := [some (vr 1), some (vr 14)]) (st' := []) (M' := (tkL (tkL (tkL (cp (cp (cp (cp (cp (cp (up (up (up M 1 0 (M 14 0)) 1 1 (M 14 1)) 1 2 (M 14 2)) 15 0 2 0 3) 16 0 3 0 6) 17 0 4 0 6) 18 0 5 0 6) 19 0 6 0 17) 20 0 7 0 136) 8 21 20) 10 23 18) 12 25 30)) rfl ?_
  refine Hx.ret rfl ?_
  exact ⟨rfl, rfl⟩
set_option maxRecDepth 100000 in
set_option maxHeartbeats 4000000 in
theorem c_takeOver_1_27 (M : Mm) : Ct 6 [vr 1, vr 27] M (fun q0 M' => q0 = none ∧ tkM M 1 27 = M') := by
  refine Hx.run 12 (pc' := 24) (L' := [some (vr 1), some (vr 27)]) (st' := []) (M' := (up (up (up M 1 0 (M 27 0)) 1 1 (M 27 1)) 1 2 (M 27 2))) rfl ?_
  refine Hx.run 4 (pc' := 32) (L' := [some (vr 1), some (vr 27)]) (st' := [vr 28, vr 2]) (M' := (up (up (up M 1 0 (M 27 0)) 1 1 (M 27 1)) 1 2 (M 27 2))) rfl ?_
  refine Hx.call (t := 123) (as := [vr 2, vr 28]) (pc' := 35) (rest := []) rfl (c_copyInto (rd := 2) (rs := 28) (n := 3) rfl rfl (by decide) (by decide) (by decide) (up (up (up M 1 0 (M 27 0)) 1 1 (M 27 1)) 1 2 (M 27 2))) ?_
  rintro _ _ ⟨rfl, rfl⟩
  refine Hx.run 0 (pc' := 35) (L' := [some (vr 1), some (vr 27)]) (st' := []) (M' := (cp (up (up (up M 1 0 (M 27 0)) 1 1 (M 27 1)) 1 2 (M 27 2)) 28 0 2 0 3)) rfl ?_
  refine Hx.run 4 (pc' := 43) (L' := [some (vr 1), some (vr 27)]) (st' := [vr 29, vr 3]) (M' := (cp (up (up (up M 1 0 (M 27 0)) 1 1 (M 27 1)) 1 2 (M 27 2)) 28 0 2 0 3)) rfl ?_
  refine Hx.call (t := 123) (as := [vr 3, vr 29]) (pc' := 46) (rest := []) rfl (c_copyInto (rd := 3) (rs := 29) (n := 6) rfl rfl (by decide) (by decide) (by decide) (cp (up (up (up M 1 0 (M 27 0)) 1 1 (M 27 1)) 1 2 (M 27 2)) 28 0 2 0 3)) ?_
  rintro _ _ ⟨rfl, rfl⟩
  refine Hx.run 0 (pc' := 46) (L' := [some (vr 1), some (vr 27)]) (st' := []) (M' := (cp (cp (up (up (up M 1 0 (M 27 0)) 1 1 (M 27 1)) 1 2 (M 27 2)) 28 0 2 0 3) 29 0 3 0 6)) rfl ?_
  refine Hx.run 4 (pc' := 54) (L' := [some (vr 1), some (vr 27)]) (st' := [vr 30, vr 4]) (M' := (cp (cp (up (up (up M 1 0 (M 27 0)) 1 1 (M 27 1)) 1 2 (M 27 2)) 28 0 2 0 3) 29 0 3 0 6)) rfl ?_
  refine Hx.call (t := 123) (as := [vr 4, vr 30]) (pc' := 57) (rest := []) rfl (c_copyInto (rd := 4) (rs := 30) (n := 6) rfl rfl (by decide) (by decide) (by decide) (cp (cp (up (up (up M 1 0 (M 27 0)) 1 1 (M 27 1)) 1 2 (M 27 2)) 28 0 2 0 3) 29 0 3 0 6)) ?_
  rintro _ _ ⟨rfl, rfl⟩
  refine Hx.run 0 (pc' := 57) (L' := [some (vr 1), some (vr 27)]) (st' := []) (M' := (cp (cp (cp (up (up (up M 1 0 (M 27 0)) 1 1 (M 27 1)) 1 2 (M 27 2)) 28 0 2 0 3) 29 0 3 0 6) 30 0 4 0 6)) rfl ?_
  refine Hx.run 4 (pc' := 65) (L' := [some (vr 1), some (vr 27)]) (st' := [vr 31, vr 5]) (M' := (cp (cp (cp (up (up (up M 1 0 (M 27 0)) 1 1 (M 27 1)) 1 2 (M 27 2)) 28 0 2 0 3) 29 0 3 0 6) 30 0 4 0 6)) rfl ?_
  refine Hx.call (t := 123) (as := [vr 5, vr 31]) (pc' := 68) (rest := []) rfl (c_copyInto (rd := 5) (rs := 31) (n := 6) rfl rfl (by decide) (by decide) (by decide) (cp (cp (cp (up (up (up M 1 0 (M 27 0)) 1 1 (M 27 1)) 1 2 (M 27 2)) 28 0 2 0 3) 29 0 3 0 6) 30 0 4 0 6)) ?_
  rintro _ _ ⟨rfl, rfl⟩
  refine Hx.run 0 (pc' := 68) (L' := [some (vr 1), some (vr 27)]) (st' := []) (M' := (cp (cp (cp (cp (up (up (up M 1 0 (M 27 0)) 1 1 (M 27 1)) 1 2 (M 27 2)) 28 0 2 0 3) 29 0 3 0 6) 30 0 4 0 6) 31 0 5 0 6)) rfl ?_
  refine Hx.run 4 (pc' := 76) (L' := [some (vr 1), some (vr 27)]) (st' := [vr 32, vr 6]) (M' := (cp (cp (cp (cp (up (up (up M 1 0 (M 27 0)) 1 1 (M 27 1)) 1 2 (M 27 2)) 28 0 2 0 3) 29 0 3 0 6) 30 0 4 0 6) 31 0 5 0 6)) rfl ?_
  refine Hx.call (t := 123) (as := [vr 6, vr 32]) (pc' := 79) (rest := []) rfl (c_copyInto (rd := 6) (rs := 32) (n := 17) rfl rfl (by decide) (by decide) (by decide) (cp (cp (cp (cp (up (up (up M 1 0 (M 27 0)) 1 1 (M 27 1)) 1 2 (M 27 2)) 28 0 2 0 3) 29 0 3 0 6) 30 0 4 0 6) 31 0 5 0 6)) ?_
  rintro _ _ ⟨rfl, rfl⟩
  refine Hx.run 0 (pc' := 79) (L' := [some (vr 1), some (vr 27)]) (st' := []) (M' := (cp (cp (cp (cp (cp (up (up (up M 1 0 (M 27 0)) 1 1 (M 27 1)) 1 2 (M 27 2)) 28 0 2 0 3) 29 0 3 0 6) 30 0 4 0 6) 31 0 5 0 6) 32 0 6 0 17)) rfl ?_
  refine Hx.run 4 (pc' := 87) (L' := [some (vr 1), some (vr 27)]) (st' := [vr 33, vr 7]) (M' := (cp (cp (cp (cp (cp (up (up (up M 1 0 (M 27 0)) 1 1 (M 27 1)) 1 2 (M 27 2)) 28 0 2 0 3) 29 0 3 0 6) 30 0 4 0 6) 31 0 5 0 6) 32 0 6 0 17)) rfl ?_
  refine Hx.call (t := 123) (as := [vr 7, vr 33]) (pc' := 90) (rest := []) rfl (c_copyInto (rd := 7) (rs := 33) (n := 136) rfl rfl (by decide) (by decide) (by decide) (cp (cp (cp (cp (cp (up (up (up M 1 0 (M 27 0)) 1 1 (M 27 1)) 1 2 (M 27 2)) 28 0 2 0 3) 29 0 3 0 6) 30 0 4 0 6) 31 0 5 0 6) 32 0 6 0 17)) ?_
  rintro _ _ ⟨rfl, rfl⟩
  refine Hx.run 0 (pc' := 90) (L' := [some (vr 1), some (vr 27)]) (st' := []) (M' := (cp (cp (cp (cp (cp (cp (up (up (up M 1 0 (M 27 0)) 1 1 (M 27 1)) 1 2 (M 27 2)) 28 0 2 0 3) 29 0 3 0 6) 30 0 4 0 6) 31 0 5 0 6) 32 0 6 0 17) 33 0 7 0 136)) rfl ?_
  refine Hx.run 4 (pc' := 98) (L' := [some (vr 1), some (vr 27)]) (st' := [vr 34, vr 8]) (M' := (cp (cp (cp (cp (cp (cp (up (up (up M 1 0 (M 27 0)) 1 1 (M 27 1)) 1 2 (M 27 2)) 28 0 2 0 3) 29 0 3 0 6) 30 0 4 0 6) 31 0 5 0 6) 32 0 6 0 17) 33 0 7 0 136)) rfl ?_
  refine Hx.call (t := 39) (as := [vr 8, vr 34]) (pc' := 101) (rest := []) rfl (c_ltake_8_34 (cp (cp (cp (cp (cp (cp (up (up (up M 1 0 (M 27 0)) 1 1 (M 27 1)) 1 2 (M 27 2)) 28 0 2 0 3) 29 0 3 0 6) 30 0 4 0 6) 31 0 5 0 6) 32 0 6 0 17) 33 0 7 0 136)) ?_
  rintro _ _ ⟨rfl, rfl⟩
  refine Hx.run 0 (pc' := 101) (L' := [some (vr 1), some (vr 27)]) (st' := []) (M' := (tkL (cp (cp (cp (cp (cp (cp (up (up (up M 1 0 (M 27 0)) 1 1 (M 27 1)) 1 2 (M 27 2)) 28 0 2 0 3) 29 0 3 0 6) 30 0 4 0 6) 31 0 5 0 6) 32 0 6 0 17) 33 0 7 0 136) 8 34 20)) rfl ?_
  refine Hx.run 4 (pc' := 109) (L' := [some (vr 1), some (vr 27)]) (st' := [vr 36, vr 10]) (M' := (tkL (cp (cp (cp (cp (cp (cp (up (up (up M 1 0 (M 27 0)) 1 1 (M 27 1)) 1 2 (M 27 2)) 28 0 2 0 3) 29 0 3 0 6) 30 0 4 0 6) 31 0 5 0 6) 32 0 6 0 17) 33 0 7 0 136) 8 34 20)) rfl ?_
  refine Hx.call (t := 39) (as := [vr 10, vr 36]) (pc' := 112) (rest := []) rfl (c_ltake_10_36 (tkL (cp (cp (cp (cp (cp (cp (up (up (up M 1 0 (M 27 0)) 1 1 (M 27 1)) 1 2 (M 27 2)) 28 0 2 0 3) 29 0 3 0 6) 30 0 4 0 6) 31 0 5 0 6) 32 0 6 0 17) 33 0 7 0 136) 8 34 20)) ?_
  rintro _ _ ⟨rfl, rfl⟩
  refine Hx.run 0 (pc' := 112) (L' := [some (vr 1), some (vr 27)]) (st' := []) (M' := (tkL (tkL (cp (cp (cp (cp (cp (cp (up (up (up M 1 0 (M 27 0)) 1 1 (M 27 1)) 1 2 (M 27 2)) 28 0 2 0 3) 29 0 3 0 6) 30 0 4 0 6) 31 0 5 0 6) 32 0 6 0 17) 33 0 7 0 136) 8 34 20) 10 36 18)) rfl ?_
  refine Hx.run 4 (pc' := 120) (L' := [some (vr 1), some (vr 27)]) (st' := [vr 38, vr 12]) (M' := (tkL (tkL (cp (cp (cp (cp (cp (cp (up (up (up M 1 0 (M 27 0)) 1 1 (M 27 1)) 1 2 (M 27 2)) 28 0 2 0 3) 29 0 3 0 6) 30 0 4 0 6) 31 0 5 0 6) 32 0 6 0 17) 33 0 7 0 136) 8 34 20) 10 36 18)) rfl ?_
  refine Hx.call (t := 39) (as := [vr 12, vr 38]) (pc' := 123) (rest := []) rfl (c_ltake_12_38 (tkL (tkL (cp (cp (cp (cp (cp (cp (up (up (up M 1 0 (M 27 0)) 1 1 (M 27 1)) 1 2 (M 27 2)) 28 0 2 0 3) 29 0 3 0 6) 30 0 4 0 6) 31 0 5 0 6) 32 0 6 0 17) 33 0 7 0 136) 8 34 20) 10 36 18)) ?_
  rintro _ _ ⟨rfl, rfl⟩
  refine Hx.run 0 (pc' := 123) (L' := [some (vr 1), some (vr 27)]) (st' := []) (M' := (tkL (tkL (tkL (cp (cp (cp (cp (cp (cp (up (up (up M 1 0 (M 27 0)) 1 1 (M 27 1)) 1 2 (M 27 2)) 28 0 2 0 3) 29 0 3 0 6) 30 0 4 0 6) 31 0 5 0 6) 32 0 6 0 17) 33 0 7 0 136) 8 34 20) 10 36 18) 12 38 30)) rfl ?_
  refine Hx.ret rfl ?_
  exact ⟨rfl, rfl⟩
/-- a moment is kept -/
def kmM (M : Mm) : Mm := if M 1 2 = 8 then up (cp (up (cp M 7 17 7 0 119) 1 2 7) 6 0 7 119 17) 1 2 8 else up (cp M 6 0 7 (M 1 2 * 17) 17) 1 2 (M 1 2 + 1)
set_option maxRecDepth 100000 in
theorem c_keepMoment (M : Mm) (hk : 0 ≤ M 1 2 ∧ M 1 2 ≤ 8) : Ct 11 [vr 1] M (fun q0 M' => q0 = none ∧ kmM M = M') := by
  refine Hx.run 3 (pc' := 6) (L' := [some (vr 1)]) (st' := [vi 8, vi (M 1 2)]) (M' := M) rfl ?_
  refine Hx.br (c := (M 1 2) < 8) (t := 31) (f := 9) rfl (fun h1 => ?_) (fun h1 => ?_)
  · skip
    refine Hx.run 2 (pc' := 35) (L' := [some (vr 1)]) (st' := [vi (M 1 2)]) (M' := M) rfl ?_
    refine Hx.br (c := (M 1 2) < 0) (t := 59) (f := 38) rfl (fun h2 => ?_) (fun h2 => ?_)
    · skip
      refine Hx.run 4 (pc' := 65) (L' := [some (vr 1)]) (st' := [vi 1, vi (M 1 2), vr 1]) (M' := M) rfl ?_
      refine Hx.add rfl (by omega) ?_
      refine Hx.run 1 (pc' := 69) (L' := [some (vr 1)]) (st' := []) (M' := (up M 1 2 ((M 1 2) + 1))) rfl ?_
      refine Hx.ret rfl ?_
      refine ⟨rfl, ?_⟩
      unfold kmM
      first | (exfalso; omega) | (rw [if_pos (by omega)]; done) | (rw [if_pos (by omega)]; rfl) | (rw [if_neg (by omega)]; done) | (rw [if_neg (by omega)]; rfl)
    · skip
      refine Hx.run 8 (pc' := 53) (L' := [some (vr 1)]) (st' := [vi 17, vi (M 1 2), vr 7, vi 0, vr 6]) (M' := M) rfl ?_
      refine Hx.mul rfl (by omega) ?_
      refine Hx.run 1 (pc' := 56) (L' := [some (vr 1)]) (st' := [vi 17, vi ((M 1 2) * 17), vr 7, vi 0, vr 6]) (M' := M) rfl ?_
      refine Hx.acopyI (n0 := 17) (n1 := 136) rfl rfl rfl rfl (by decide) (by decide) (by omega) (by decide) ?_
      refine Hx.run 0 (pc' := 59) (L' := [some (vr 1)]) (st' := []) (M' := (cp M 6 0 7 ((M 1 2) * 17) 17)) rfl ?_
      refine Hx.run 4 (pc' := 65) (L' := [some (vr 1)]) (st' := [vi 1, vi (M 1 2), vr 1]) (M' := (cp M 6 0 7 ((M 1 2) * 17) 17)) rfl ?_
      refine Hx.add rfl (by omega) ?_
      refine Hx.run 1 (pc' := 69) (L' := [some (vr 1)]) (st' := []) (M' := (up (cp M 6 0 7 ((M 1 2) * 17) 17) 1 2 ((M 1 2) + 1))) rfl ?_
      refine Hx.ret rfl ?_
      refine ⟨rfl, ?_⟩
      unfold kmM
      first | (exfalso; omega) | (rw [if_pos (by omega)]; done) | (rw [if_pos (by omega)]; rfl) | (rw [if_neg (by omega)]; done) | (rw [if_neg (by omega)]; rfl)
  · skip
    refine Hx.run 7 (pc' := 22) (L' := [some (vr 1)]) (st' := [vi 119, vi 0, vr 7, vi 17, vr 7]) (M' := M) rfl ?_
    refine Hx.acopyI (n0 := 136) (n1 := 136) rfl rfl rfl rfl (by decide) (by decide) (by omega) (by decide) ?_
    refine Hx.run 0 (pc' := 25) (L' := [some (vr 1)]) (st' := []) (M' := (cp M 7 17 7 0 119)) rfl ?_
    refine Hx.run 12 (pc' := 48) (L' := [some (vr 1)]) (st' := [vr 1, vr 7, vi 0, vr 6]) (M' := (up (cp M 7 17 7 0 119) 1 2 7)) rfl ?_
    refine Hx.run 2 (pc' := 53) (L' := [some (vr 1)]) (st' := [vi 17, vi 7, vr 7, vi 0, vr 6]) (M' := (up (cp M 7 17 7 0 119) 1 2 7)) rfl ?_
    refine Hx.mul rfl (by omega) ?_
    refine Hx.run 0 (pc' := 54) (L' := [some (vr 1)]) (st' := [vi 119, vr 7, vi 0, vr 6]) (M' := (up (cp M 7 17 7 0 119) 1 2 7)) rfl ?_
    refine Hx.run 1 (pc' := 56) (L' := [some (vr 1)]) (st' := [vi 17, vi 119, vr 7, vi 0, vr 6]) (M' := (up (cp M 7 17 7 0 119) 1 2 7)) rfl ?_
    refine Hx.acopyI (n0 := 17) (n1 := 136) rfl rfl rfl rfl (by decide) (by decide) (by omega) (by decide) ?_
    refine Hx.run 0 (pc' := 59) (L' := [some (vr 1)]) (st' := []) (M' := (cp (up (cp M 7 17 7 0 119) 1 2 7) 6 0 7 119 17)) rfl ?_
    refine Hx.run 4 (pc' := 65) (L' := [some (vr 1)]) (st' := [vi 1, vi 7, vr 1]) (M' := (cp (up (cp M 7 17 7 0 119) 1 2 7) 6 0 7 119 17)) rfl ?_
    refine Hx.add rfl (by omega) ?_
    refine Hx.run 0 (pc' := 66) (L' := [some (vr 1)]) (st' := [vi 8, vr 1]) (M' := (cp (up (cp M 7 17 7 0 119) 1 2 7) 6 0 7 119 17)) rfl ?_
    refine Hx.run 1 (pc' := 69) (L' := [some (vr 1)]) (st' := []) (M' := (up (cp (up (cp M 7 17 7 0 119) 1 2 7) 6 0 7 119 17) 1 2 8)) rfl ?_
    refine Hx.ret rfl ?_
    refine ⟨rfl, ?_⟩
    unfold kmM
    first | (exfalso; omega) | (rw [if_pos (by omega)]; done) | (rw [if_pos (by omega)]; rfl) | (rw [if_neg (by omega)]; done) | (rw [if_neg (by omega)]; rfl)
set_option maxRecDepth 100000 in
theorem c_dropMoment (M : Mm) (hk : 1 ≤ M 1 2 ∧ M 1 2 ≤ 8) : Ct 12 [vr 1] M (fun q0 M' => q0 = none ∧ cp (up M 1 2 (M 1 2 - 1)) 7 ((M 1 2 - 1) * 17) 6 0 17 = M') := by
  refine Hx.run 3 (pc' := 5) (L' := [some (vr 1)]) (st' := [vi 1, vi (M 1 2)]) (M' := M) rfl ?_
  refine Hx.br (c := (M 1 2) < 1) (t := 17) (f := 8) rfl (fun h1 => ?_) (fun h1 => ?_)
  · skip
    refine Hx.ret rfl ?_
    first | exact ⟨rfl, rfl⟩ | (exfalso; omega)
  · skip
    refine Hx.run 3 (pc' := 14) (L' := [some (vr 1)]) (st' := [vi 8, vi (M 1 2)]) (M' := M) rfl ?_
    refine Hx.br (c := 8 < (M 1 2)) (t := 17) (f := 18) rfl (fun h2 => ?_) (fun h2 => ?_)
    · skip
      refine Hx.ret rfl ?_
      first | exact ⟨rfl, rfl⟩ | (exfalso; omega)
    · skip
      refine Hx.run 4 (pc' := 24) (L' := [some (vr 1)]) (st' := [vi 1, vi (M 1 2), vr 1]) (M' := M) rfl ?_
      refine Hx.sub rfl (by omega) ?_
      refine Hx.run 6 (pc' := 38) (L' := [some (vr 1)]) (st' := [vi 17, vi ((M 1 2) - 1), vr 7]) (M' := (up M 1 2 ((M 1 2) - 1))) rfl ?_
      refine Hx.mul rfl (by omega) ?_
      refine Hx.run 4 (pc' := 46) (L' := [some (vr 1)]) (st' := [vi 17, vi 0, vr 6, vi (((M 1 2) - 1) * 17), vr 7]) (M' := (up M 1 2 ((M 1 2) - 1))) rfl ?_
      refine Hx.acopyI (n0 := 136) (n1 := 17) rfl rfl rfl rfl (by decide) (by decide) (by omega) (by decide) ?_
      refine Hx.run 0 (pc' := 49) (L' := [some (vr 1)]) (st' := []) (M' := (cp (up M 1 2 ((M 1 2) - 1)) 7 (((M 1 2) - 1) * 17) 6 0 17)) rfl ?_
      refine Hx.ret rfl ?_
      first | exact ⟨rfl, rfl⟩ | (exfalso; omega)
end
section
/-! the class: what its members answer (written by wip/whole/gen19.py) -/
/-- what always holds of a house -/
def HI (M : Mm) (h : Nat) : Prop := (0 ≤ M h 0 ∧ M h 0 ≤ 3) ∧ (0 ≤ M h 1 ∧ M h 1 ≤ 6) ∧ (0 ≤ M h 2 ∧ M h 2 ≤ 8) ∧ (0 ≤ M (h + 5) 16 ∧ M (h + 5) 16 ≤ 9999) ∧ (0 ≤ M (h + 5) 15 ∧ M (h + 5) 15 ≤ 9000) ∧ (∀ f : Int, 0 ≤ f → f < M h 0 → (0 ≤ M (h + 1) f ∧ M (h + 1) f ≤ 5) ∧ (1 ≤ M (h + 5) (12 + f) ∧ M (h + 5) (12 + f) ≤ 10)) ∧ (∀ i : Int, 0 ≤ i → i < M h 1 → (0 ≤ M (h + 2) i ∧ M (h + 2) i ≤ 5) ∧ (1 ≤ M (h + 3) i ∧ M (h + 3) i ≤ 4) ∧ (0 ≤ M (h + 4) i ∧ M (h + 4) i < M h 0) ∧ (0 ≤ M (h + 5) i ∧ M (h + 5) i ≤ 11) ∧ (0 ≤ M (h + 5) (6 + i) ∧ M (h + 5) (6 + i) ≤ 9)) ∧ (M (h + 7) 0 = 4 ∧ M (h + 7) 1 = 5 ∧ 0 ≤ M (h + 7) 3 ∧ M (h + 7) 3 ≤ 5) ∧ (M (h + 9) 0 = 3 ∧ M (h + 9) 1 = 6 ∧ 0 ≤ M (h + 9) 3 ∧ M (h + 9) 3 ≤ 6) ∧ (M (h + 11) 0 = 5 ∧ M (h + 11) 1 = 6 ∧ 0 ≤ M (h + 11) 3 ∧ M (h + 11) 3 ≤ 6) ∧ (∀ n : Int, 0 ≤ n → n < M (h + 7) 3 → (0 ≤ M (h + 8) (n * 4 + 0) ∧ M (h + 8) (n * 4 + 0) ≤ 2) ∧ (1 ≤ M (h + 8) (n * 4 + 1) ∧ M (h + 8) (n * 4 + 1) ≤ 10) ∧ (0 ≤ M (h + 8) (n * 4 + 2) ∧ M (h + 8) (n * 4 + 2) ≤ 23) ∧ (0 ≤ M (h + 8) (n * 4 + 3) ∧ M (h + 8) (n * 4 + 3) ≤ 1)) ∧ (∀ n : Int, 0 ≤ n → n < M (h + 9) 3 → (0 ≤ M (h + 10) (n * 3 + 0) ∧ M (h + 10) (n * 3 + 0) ≤ 2) ∧ (0 ≤ M (h + 10) (n * 3 + 1) ∧ M (h + 10) (n * 3 + 1) ≤ 23) ∧ (0 ≤ M (h + 10) (n * 3 + 2) ∧ M (h + 10) (n * 3 + 2) ≤ 9)) ∧ (∀ n : Int, 0 ≤ n → n < M (h + 11) 3 → (0 ≤ M (h + 12) (n * 5 + 0) ∧ M (h + 12) (n * 5 + 0) ≤ 5) ∧ (1 ≤ M (h + 12) (n * 5 + 1) ∧ M (h + 12) (n * 5 + 1) ≤ 4) ∧ (0 ≤ M (h + 12) (n * 5 + 2) ∧ M (h + 12) (n * 5 + 2) ≤ 9) ∧ (0 ≤ M (h + 12) (n * 5 + 3) ∧ M (h + 12) (n * 5 + 3) ≤ 23) ∧ (0 ≤ M (h + 12) (n * 5 + 4) ∧ M (h + 12) (n * 5 + 4) ≤ 9)) ∧ (∀ k : Int, 0 ≤ k → k < M h 2 → (0 ≤ M (h + 6) (k * 17 + 16) ∧ M (h + 6) (k * 17 + 16) ≤ 9999) ∧ (0 ≤ M (h + 6) (k * 17 + 15) ∧ M (h + 6) (k * 17 + 15) ≤ 9000) ∧ (∀ f : Int, 0 ≤ f → f < M h 0 → (1 ≤ M (h + 6) (k * 17 + (12 + f)) ∧ M (h + 6) (k * 17 + (12 + f)) ≤ 10)) ∧ (∀ i : Int, 0 ≤ i → i < M h 1 → (0 ≤ M (h + 6) (k * 17 + i) ∧ M (h + 6) (k * 17 + i) ≤ 11) ∧ (0 ≤ M (h + 6) (k * 17 + (6 + i)) ∧ M (h + 6) (k * 17 + (6 + i)) ≤ 9)))
set_option maxRecDepth 100000 in
theorem C_tenement (M : Mm) (hI : HI M 1) (hs : (0 ≤ M 0 14 ∧ M 0 14 ≤ 600) ∧ (0 ≤ M 0 15 ∧ M 0 15 ≤ 600) ∧ (0 ≤ M 0 16 ∧ M 0 16 ≤ 600)) : Ct 58 [vr 0] M (fun q0 M' => (q0 = some (vi (M 1 1)) ∧ (emM M 1) = M')) := by
  obtain ⟨iF, iG, iK, iH, iFa, aF, aG, lS, lN, lM, rS, rN, rM, aK⟩ := (show (0 ≤ M 1 0 ∧ M 1 0 ≤ 3) ∧ (0 ≤ M 1 1 ∧ M 1 1 ≤ 6) ∧ (0 ≤ M 1 2 ∧ M 1 2 ≤ 8) ∧ (0 ≤ M 6 16 ∧ M 6 16 ≤ 9999) ∧ (0 ≤ M 6 15 ∧ M 6 15 ≤ 9000) ∧ (∀ f : Int, 0 ≤ f → f < M 1 0 → (0 ≤ M 2 f ∧ M 2 f ≤ 5) ∧ (1 ≤ M 6 (12 + f) ∧ M 6 (12 + f) ≤ 10)) ∧ (∀ i : Int, 0 ≤ i → i < M 1 1 → (0 ≤ M 3 i ∧ M 3 i ≤ 5) ∧ (1 ≤ M 4 i ∧ M 4 i ≤ 4) ∧ (0 ≤ M 5 i ∧ M 5 i < M 1 0) ∧ (0 ≤ M 6 i ∧ M 6 i ≤ 11) ∧ (0 ≤ M 6 (6 + i) ∧ M 6 (6 + i) ≤ 9)) ∧ (M 8 0 = 4 ∧ M 8 1 = 5 ∧ 0 ≤ M 8 3 ∧ M 8 3 ≤ 5) ∧ (M 10 0 = 3 ∧ M 10 1 = 6 ∧ 0 ≤ M 10 3 ∧ M 10 3 ≤ 6) ∧ (M 12 0 = 5 ∧ M 12 1 = 6 ∧ 0 ≤ M 12 3 ∧ M 12 3 ≤ 6) ∧ (∀ n : Int, 0 ≤ n → n < M 8 3 → (0 ≤ M 9 (n * 4 + 0) ∧ M 9 (n * 4 + 0) ≤ 2) ∧ (1 ≤ M 9 (n * 4 + 1) ∧ M 9 (n * 4 + 1) ≤ 10) ∧ (0 ≤ M 9 (n * 4 + 2) ∧ M 9 (n * 4 + 2) ≤ 23) ∧ (0 ≤ M 9 (n * 4 + 3) ∧ M 9 (n * 4 + 3) ≤ 1)) ∧ (∀ n : Int, 0 ≤ n → n < M 10 3 → (0 ≤ M 11 (n * 3 + 0) ∧ M 11 (n * 3 + 0) ≤ 2) ∧ (0 ≤ M 11 (n * 3 + 1) ∧ M 11 (n * 3 + 1) ≤ 23) ∧ (0 ≤ M 11 (n * 3 + 2) ∧ M 11 (n * 3 + 2) ≤ 9)) ∧ (∀ n : Int, 0 ≤ n → n < M 12 3 → (0 ≤ M 13 (n * 5 + 0) ∧ M 13 (n * 5 + 0) ≤ 5) ∧ (1 ≤ M 13 (n * 5 + 1) ∧ M 13 (n * 5 + 1) ≤ 4) ∧ (0 ≤ M 13 (n * 5 + 2) ∧ M 13 (n * 5 + 2) ≤ 9) ∧ (0 ≤ M 13 (n * 5 + 3) ∧ M 13 (n * 5 + 3) ≤ 23) ∧ (0 ≤ M 13 (n * 5 + 4) ∧ M 13 (n * 5 + 4) ≤ 9)) ∧ (∀ k : Int, 0 ≤ k → k < M 1 2 → (0 ≤ M 7 (k * 17 + 16) ∧ M 7 (k * 17 + 16) ≤ 9999) ∧ (0 ≤ M 7 (k * 17 + 15) ∧ M 7 (k * 17 + 15) ≤ 9000) ∧ (∀ f : Int, 0 ≤ f → f < M 1 0 → (1 ≤ M 7 (k * 17 + (12 + f)) ∧ M 7 (k * 17 + (12 + f)) ≤ 10)) ∧ (∀ i : Int, 0 ≤ i → i < M 1 1 → (0 ≤ M 7 (k * 17 + i) ∧ M 7 (k * 17 + i) ≤ 11) ∧ (0 ≤ M 7 (k * 17 + (6 + i)) ∧ M 7 (k * 17 + (6 + i)) ≤ 9))) from hI)
  refine Hx.run 6 (pc' := 12) (L' := [some (vr 0), some (vi (M 1 1))]) (st' := [vr 1]) (M' := M) rfl ?_
  refine Hx.call (t := 5) (as := [vr 1]) (pc' := 15) (rest := []) rfl (c_empty_1  M) ?_
  rintro _ _ ⟨rfl, rfl⟩
  refine Hx.run 0 (pc' := 15) (L' := [some (vr 0), some (vi (M 1 1))]) (st' := []) (M' := (emM M 1)) rfl ?_
  refine Hx.run 1 (pc' := 16) (L' := [some (vr 0), some (vi (M 1 1))]) (st' := [vi (M 1 1)]) (M' := (emM M 1)) rfl ?_
  refine Hx.ret rfl ?_
  exact ⟨rfl, rfl⟩
set_option maxRecDepth 100000 in
theorem C_flight (kd : Int) (s : Int) (M : Mm) (hI : HI M 1) (hs : (0 ≤ M 0 14 ∧ M 0 14 ≤ 600) ∧ (0 ≤ M 0 15 ∧ M 0 15 ≤ 600) ∧ (0 ≤ M 0 16 ∧ M 0 16 ≤ 600)) : Ct 59 [vr 0, vi kd, vi s] M (fun q0 M' => ((0 ≤ kd ∧ kd < 6) ∧ (1 ≤ s ∧ s ≤ 10) ∧ ((M 1 0) < 3) ∧ q0 = some (vi (M 1 0)) ∧ (up (up (up (up M 2 (M 1 0) kd) 6 (12 + (M 1 0)) s) 1 0 ((M 1 0) + 1)) 1 2 0) = M') ∨ ((0 ≤ kd ∧ kd < 6) ∧ (1 ≤ s ∧ s ≤ 10) ∧ (¬ ((M 1 0) < 3)) ∧ q0 = some (vi (-4)) ∧ (up M 0 16 ((M 0 16) + 1)) = M') ∨ ((0 ≤ kd ∧ kd < 6) ∧ (¬ (1 ≤ s ∧ s ≤ 10)) ∧ q0 = some (vi (-2)) ∧ (up M 0 14 ((M 0 14) + 1)) = M') ∨ ((¬ (0 ≤ kd ∧ kd < 6)) ∧ q0 = some (vi (-2)) ∧ (up M 0 14 ((M 0 14) + 1)) = M')) := by
  obtain ⟨iF, iG, iK, iH, iFa, aF, aG, lS, lN, lM, rS, rN, rM, aK⟩ := (show (0 ≤ M 1 0 ∧ M 1 0 ≤ 3) ∧ (0 ≤ M 1 1 ∧ M 1 1 ≤ 6) ∧ (0 ≤ M 1 2 ∧ M 1 2 ≤ 8) ∧ (0 ≤ M 6 16 ∧ M 6 16 ≤ 9999) ∧ (0 ≤ M 6 15 ∧ M 6 15 ≤ 9000) ∧ (∀ f : Int, 0 ≤ f → f < M 1 0 → (0 ≤ M 2 f ∧ M 2 f ≤ 5) ∧ (1 ≤ M 6 (12 + f) ∧ M 6 (12 + f) ≤ 10)) ∧ (∀ i : Int, 0 ≤ i → i < M 1 1 → (0 ≤ M 3 i ∧ M 3 i ≤ 5) ∧ (1 ≤ M 4 i ∧ M 4 i ≤ 4) ∧ (0 ≤ M 5 i ∧ M 5 i < M 1 0) ∧ (0 ≤ M 6 i ∧ M 6 i ≤ 11) ∧ (0 ≤ M 6 (6 + i) ∧ M 6 (6 + i) ≤ 9)) ∧ (M 8 0 = 4 ∧ M 8 1 = 5 ∧ 0 ≤ M 8 3 ∧ M 8 3 ≤ 5) ∧ (M 10 0 = 3 ∧ M 10 1 = 6 ∧ 0 ≤ M 10 3 ∧ M 10 3 ≤ 6) ∧ (M 12 0 = 5 ∧ M 12 1 = 6 ∧ 0 ≤ M 12 3 ∧ M 12 3 ≤ 6) ∧ (∀ n : Int, 0 ≤ n → n < M 8 3 → (0 ≤ M 9 (n * 4 + 0) ∧ M 9 (n * 4 + 0) ≤ 2) ∧ (1 ≤ M 9 (n * 4 + 1) ∧ M 9 (n * 4 + 1) ≤ 10) ∧ (0 ≤ M 9 (n * 4 + 2) ∧ M 9 (n * 4 + 2) ≤ 23) ∧ (0 ≤ M 9 (n * 4 + 3) ∧ M 9 (n * 4 + 3) ≤ 1)) ∧ (∀ n : Int, 0 ≤ n → n < M 10 3 → (0 ≤ M 11 (n * 3 + 0) ∧ M 11 (n * 3 + 0) ≤ 2) ∧ (0 ≤ M 11 (n * 3 + 1) ∧ M 11 (n * 3 + 1) ≤ 23) ∧ (0 ≤ M 11 (n * 3 + 2) ∧ M 11 (n * 3 + 2) ≤ 9)) ∧ (∀ n : Int, 0 ≤ n → n < M 12 3 → (0 ≤ M 13 (n * 5 + 0) ∧ M 13 (n * 5 + 0) ≤ 5) ∧ (1 ≤ M 13 (n * 5 + 1) ∧ M 13 (n * 5 + 1) ≤ 4) ∧ (0 ≤ M 13 (n * 5 + 2) ∧ M 13 (n * 5 + 2) ≤ 9) ∧ (0 ≤ M 13 (n * 5 + 3) ∧ M 13 (n * 5 + 3) ≤ 23) ∧ (0 ≤ M 13 (n * 5 + 4) ∧ M 13 (n * 5 + 4) ≤ 9)) ∧ (∀ k : Int, 0 ≤ k → k < M 1 2 → (0 ≤ M 7 (k * 17 + 16) ∧ M 7 (k * 17 + 16) ≤ 9999) ∧ (0 ≤ M 7 (k * 17 + 15) ∧ M 7 (k * 17 + 15) ≤ 9000) ∧ (∀ f : Int, 0 ≤ f → f < M 1 0 → (1 ≤ M 7 (k * 17 + (12 + f)) ∧ M 7 (k * 17 + (12 + f)) ≤ 10)) ∧ (∀ i : Int, 0 ≤ i → i < M 1 1 → (0 ≤ M 7 (k * 17 + i) ∧ M 7 (k * 17 + i) ≤ 11) ∧ (0 ≤ M 7 (k * 17 + (6 + i)) ∧ M 7 (k * 17 + (6 + i)) ≤ 9))) from hI)
  refine Hx.run 1 (pc' := 1) (L' := [some (vr 0), some (vi kd), some (vi s)]) (st' := [vi kd]) (M' := M) rfl ?_
  refine Hx.call (t := 117) (as := [vi kd]) (pc' := 4) (rest := []) rfl (c_isKind kd M) ?_
  rintro _ _ (⟨q6, rfl, rfl⟩ | ⟨q6, rfl, rfl⟩)
  · skip
    refine Hx.run 2 (pc' := 8) (L' := [some (vr 0), some (vi kd), some (vi s)]) (st' := [vi s]) (M' := M) rfl ?_
    refine Hx.call (t := 118) (as := [vi s]) (pc' := 11) (rest := []) rfl (c_isOwnable s M) ?_
    rintro _ _ (⟨q7, rfl, rfl⟩ | ⟨q7, rfl, rfl⟩)
    · skip
      refine Hx.run 5 (pc' := 27) (L' := [some (vr 0), some (vi kd), some (vi s)]) (st' := [vi 3, vi (M 1 0)]) (M' := M) rfl ?_
      refine Hx.br (c := (M 1 0) < 3) (t := 35) (f := 30) rfl (fun h1 => ?_) (fun h1 => ?_)
      · skip
        refine Hx.run 4 (pc' := 41) (L' := [some (vr 0), some (vi kd), some (vi s)]) (st' := [vi s, vi kd, vr 1]) (M' := M) rfl ?_
        refine Hx.call (t := 9) (as := [vr 1, vi kd, vi s]) (pc' := 44) (rest := []) rfl (c_addFlight_1 kd s M (by omega)) ?_
        rintro _ _ ⟨rfl, rfl⟩
        refine Hx.run 0 (pc' := 44) (L' := [some (vr 0), some (vi kd), some (vi s)]) (st' := [vi (M 1 0)]) (M' := (up (up (up (up M 2 (M 1 0) kd) 6 (12 + (M 1 0)) s) 1 0 ((M 1 0) + 1)) 1 2 0)) rfl ?_
        refine Hx.ret rfl ?_
        exact Or.inl ⟨q6, q7, h1, rfl, rfl⟩
      · skip
        refine Hx.run 1 (pc' := 31) (L' := [some (vr 0), some (vi kd), some (vi s)]) (st' := [vr 0]) (M' := M) rfl ?_
        refine Hx.call (t := 116) (as := [vr 0]) (pc' := 34) (rest := []) rfl (c_full M (by omega)) ?_
        rintro _ _ ⟨rfl, rfl⟩
        refine Hx.run 0 (pc' := 34) (L' := [some (vr 0), some (vi kd), some (vi s)]) (st' := [vi (-4)]) (M' := (up M 0 16 ((M 0 16) + 1))) rfl ?_
        refine Hx.ret rfl ?_
        exact Or.inr (Or.inl ⟨q6, q7, h1, rfl, rfl⟩)
    · skip
      refine Hx.run 2 (pc' := 15) (L' := [some (vr 0), some (vi kd), some (vi s)]) (st' := [vr 0]) (M' := M) rfl ?_
      refine Hx.call (t := 114) (as := [vr 0]) (pc' := 18) (rest := []) rfl (c_bad M (by omega)) ?_
      rintro _ _ ⟨rfl, rfl⟩
      refine Hx.run 0 (pc' := 18) (L' := [some (vr 0), some (vi kd), some (vi s)]) (st' := [vi (-2)]) (M' := (up M 0 14 ((M 0 14) + 1))) rfl ?_
      refine Hx.ret rfl ?_
      exact Or.inr (Or.inr (Or.inl ⟨q6, q7, rfl, rfl⟩))
  · skip
    refine Hx.run 2 (pc' := 15) (L' := [some (vr 0), some (vi kd), some (vi s)]) (st' := [vr 0]) (M' := M) rfl ?_
    refine Hx.call (t := 114) (as := [vr 0]) (pc' := 18) (rest := []) rfl (c_bad M (by omega)) ?_
    rintro _ _ ⟨rfl, rfl⟩
    refine Hx.run 0 (pc' := 18) (L' := [some (vr 0), some (vi kd), some (vi s)]) (st' := [vi (-2)]) (M' := (up M 0 14 ((M 0 14) + 1))) rfl ?_
    refine Hx.ret rfl ?_
    exact Or.inr (Or.inr (Or.inr (⟨q6, rfl, rfl⟩)))
set_option maxRecDepth 100000 in
theorem C_goer (kd : Int) (lg : Int) (f : Int) (M : Mm) (hI : HI M 1) (hs : (0 ≤ M 0 14 ∧ M 0 14 ≤ 600) ∧ (0 ≤ M 0 15 ∧ M 0 15 ≤ 600) ∧ (0 ≤ M 0 16 ∧ M 0 16 ≤ 600)) : Ct 60 [vr 0, vi kd, vi lg, vi f] M (fun q0 M' => ((0 ≤ kd ∧ kd < 6) ∧ (lg < 1) ∧ q0 = some (vi (-2)) ∧ (up M 0 14 ((M 0 14) + 1)) = M') ∨ ((0 ≤ kd ∧ kd < 6) ∧ (¬ (lg < 1)) ∧ (4 < lg) ∧ q0 = some (vi (-2)) ∧ (up M 0 14 ((M 0 14) + 1)) = M') ∨ ((0 ≤ kd ∧ kd < 6) ∧ (¬ (lg < 1)) ∧ (¬ (4 < lg)) ∧ (0 ≤ f ∧ f < (M 1 0)) ∧ ((M 1 1) < 6) ∧ q0 = some (vi (M 1 1)) ∧ (up (up (up (up (up (up (up M 3 (M 1 1) kd) 4 (M 1 1) lg) 5 (M 1 1) f) 6 (M 1 1) 0) 6 (6 + (M 1 1)) 0) 1 1 ((M 1 1) + 1)) 1 2 0) = M') ∨ ((0 ≤ kd ∧ kd < 6) ∧ (¬ (lg < 1)) ∧ (¬ (4 < lg)) ∧ (0 ≤ f ∧ f < (M 1 0)) ∧ (¬ ((M 1 1) < 6)) ∧ q0 = some (vi (-4)) ∧ (up M 0 16 ((M 0 16) + 1)) = M') ∨ ((0 ≤ kd ∧ kd < 6) ∧ (¬ (lg < 1)) ∧ (¬ (4 < lg)) ∧ (¬ (0 ≤ f ∧ f < (M 1 0))) ∧ q0 = some (vi (-2)) ∧ (up M 0 14 ((M 0 14) + 1)) = M') ∨ ((¬ (0 ≤ kd ∧ kd < 6)) ∧ q0 = some (vi (-2)) ∧ (up M 0 14 ((M 0 14) + 1)) = M')) := by
  obtain ⟨iF, iG, iK, iH, iFa, aF, aG, lS, lN, lM, rS, rN, rM, aK⟩ := (show (0 ≤ M 1 0 ∧ M 1 0 ≤ 3) ∧ (0 ≤ M 1 1 ∧ M 1 1 ≤ 6) ∧ (0 ≤ M 1 2 ∧ M 1 2 ≤ 8) ∧ (0 ≤ M 6 16 ∧ M 6 16 ≤ 9999) ∧ (0 ≤ M 6 15 ∧ M 6 15 ≤ 9000) ∧ (∀ f : Int, 0 ≤ f → f < M 1 0 → (0 ≤ M 2 f ∧ M 2 f ≤ 5) ∧ (1 ≤ M 6 (12 + f) ∧ M 6 (12 + f) ≤ 10)) ∧ (∀ i : Int, 0 ≤ i → i < M 1 1 → (0 ≤ M 3 i ∧ M 3 i ≤ 5) ∧ (1 ≤ M 4 i ∧ M 4 i ≤ 4) ∧ (0 ≤ M 5 i ∧ M 5 i < M 1 0) ∧ (0 ≤ M 6 i ∧ M 6 i ≤ 11) ∧ (0 ≤ M 6 (6 + i) ∧ M 6 (6 + i) ≤ 9)) ∧ (M 8 0 = 4 ∧ M 8 1 = 5 ∧ 0 ≤ M 8 3 ∧ M 8 3 ≤ 5) ∧ (M 10 0 = 3 ∧ M 10 1 = 6 ∧ 0 ≤ M 10 3 ∧ M 10 3 ≤ 6) ∧ (M 12 0 = 5 ∧ M 12 1 = 6 ∧ 0 ≤ M 12 3 ∧ M 12 3 ≤ 6) ∧ (∀ n : Int, 0 ≤ n → n < M 8 3 → (0 ≤ M 9 (n * 4 + 0) ∧ M 9 (n * 4 + 0) ≤ 2) ∧ (1 ≤ M 9 (n * 4 + 1) ∧ M 9 (n * 4 + 1) ≤ 10) ∧ (0 ≤ M 9 (n * 4 + 2) ∧ M 9 (n * 4 + 2) ≤ 23) ∧ (0 ≤ M 9 (n * 4 + 3) ∧ M 9 (n * 4 + 3) ≤ 1)) ∧ (∀ n : Int, 0 ≤ n → n < M 10 3 → (0 ≤ M 11 (n * 3 + 0) ∧ M 11 (n * 3 + 0) ≤ 2) ∧ (0 ≤ M 11 (n * 3 + 1) ∧ M 11 (n * 3 + 1) ≤ 23) ∧ (0 ≤ M 11 (n * 3 + 2) ∧ M 11 (n * 3 + 2) ≤ 9)) ∧ (∀ n : Int, 0 ≤ n → n < M 12 3 → (0 ≤ M 13 (n * 5 + 0) ∧ M 13 (n * 5 + 0) ≤ 5) ∧ (1 ≤ M 13 (n * 5 + 1) ∧ M 13 (n * 5 + 1) ≤ 4) ∧ (0 ≤ M 13 (n * 5 + 2) ∧ M 13 (n * 5 + 2) ≤ 9) ∧ (0 ≤ M 13 (n * 5 + 3) ∧ M 13 (n * 5 + 3) ≤ 23) ∧ (0 ≤ M 13 (n * 5 + 4) ∧ M 13 (n * 5 + 4) ≤ 9)) ∧ (∀ k : Int, 0 ≤ k → k < M 1 2 → (0 ≤ M 7 (k * 17 + 16) ∧ M 7 (k * 17 + 16) ≤ 9999) ∧ (0 ≤ M 7 (k * 17 + 15) ∧ M 7 (k * 17 + 15) ≤ 9000) ∧ (∀ f : Int, 0 ≤ f → f < M 1 0 → (1 ≤ M 7 (k * 17 + (12 + f)) ∧ M 7 (k * 17 + (12 + f)) ≤ 10)) ∧ (∀ i : Int, 0 ≤ i → i < M 1 1 → (0 ≤ M 7 (k * 17 + i) ∧ M 7 (k * 17 + i) ≤ 11) ∧ (0 ≤ M 7 (k * 17 + (6 + i)) ∧ M 7 (k * 17 + (6 + i)) ≤ 9))) from hI)
  refine Hx.run 1 (pc' := 1) (L' := [some (vr 0), some (vi kd), some (vi lg), some (vi f)]) (st' := [vi kd]) (M' := M) rfl ?_
  refine Hx.call (t := 117) (as := [vi kd]) (pc' := 4) (rest := []) rfl (c_isKind kd M) ?_
  rintro _ _ (⟨q8, rfl, rfl⟩ | ⟨q8, rfl, rfl⟩)
  · skip
    refine Hx.run 3 (pc' := 9) (L' := [some (vr 0), some (vi kd), some (vi lg), some (vi f)]) (st' := [vi 1, vi lg]) (M' := M) rfl ?_
    refine Hx.br (c := lg < 1) (t := 28) (f := 12) rfl (fun h1 => ?_) (fun h1 => ?_)
    · skip
      refine Hx.run 1 (pc' := 29) (L' := [some (vr 0), some (vi kd), some (vi lg), some (vi f)]) (st' := [vr 0]) (M' := M) rfl ?_
      refine Hx.call (t := 114) (as := [vr 0]) (pc' := 32) (rest := []) rfl (c_bad M (by omega)) ?_
      rintro _ _ ⟨rfl, rfl⟩
      refine Hx.run 0 (pc' := 32) (L' := [some (vr 0), some (vi kd), some (vi lg), some (vi f)]) (st' := [vi (-2)]) (M' := (up M 0 14 ((M 0 14) + 1))) rfl ?_
      refine Hx.ret rfl ?_
      exact Or.inl ⟨q8, h1, rfl, rfl⟩
    · skip
      refine Hx.run 2 (pc' := 14) (L' := [some (vr 0), some (vi kd), some (vi lg), some (vi f)]) (st' := [vi 4, vi lg]) (M' := M) rfl ?_
      refine Hx.br (c := 4 < lg) (t := 28) (f := 17) rfl (fun h2 => ?_) (fun h2 => ?_)
      · skip
        refine Hx.run 1 (pc' := 29) (L' := [some (vr 0), some (vi kd), some (vi lg), some (vi f)]) (st' := [vr 0]) (M' := M) rfl ?_
        refine Hx.call (t := 114) (as := [vr 0]) (pc' := 32) (rest := []) rfl (c_bad M (by omega)) ?_
        rintro _ _ ⟨rfl, rfl⟩
        refine Hx.run 0 (pc' := 32) (L' := [some (vr 0), some (vi kd), some (vi lg), some (vi f)]) (st' := [vi (-2)]) (M' := (up M 0 14 ((M 0 14) + 1))) rfl ?_
        refine Hx.ret rfl ?_
        exact Or.inr (Or.inl ⟨q8, h1, h2, rfl, rfl⟩)
      · skip
        refine Hx.run 3 (pc' := 22) (L' := [some (vr 0), some (vi kd), some (vi lg), some (vi f)]) (st' := [vi f, vr 1]) (M' := M) rfl ?_
        refine Hx.call (t := 7) (as := [vr 1, vi f]) (pc' := 25) (rest := []) rfl (c_hasFlight_1 f M) ?_
        rintro _ _ (⟨q9, rfl, rfl⟩ | ⟨q9, rfl, rfl⟩)
        · skip
          have fq9 := aF f q9.1 q9.2
          refine Hx.run 5 (pc' := 42) (L' := [some (vr 0), some (vi kd), some (vi lg), some (vi f)]) (st' := [vi 6, vi (M 1 1)]) (M' := M) rfl ?_
          refine Hx.br (c := (M 1 1) < 6) (t := 50) (f := 45) rfl (fun h3 => ?_) (fun h3 => ?_)
          · skip
            refine Hx.run 5 (pc' := 57) (L' := [some (vr 0), some (vi kd), some (vi lg), some (vi f)]) (st' := [vi f, vi lg, vi kd, vr 1]) (M' := M) rfl ?_
            refine Hx.call (t := 10) (as := [vr 1, vi kd, vi lg, vi f]) (pc' := 60) (rest := []) rfl (c_addGoer_1 kd lg f M (by omega)) ?_
            rintro _ _ ⟨rfl, rfl⟩
            refine Hx.run 0 (pc' := 60) (L' := [some (vr 0), some (vi kd), some (vi lg), some (vi f)]) (st' := [vi (M 1 1)]) (M' := (up (up (up (up (up (up (up M 3 (M 1 1) kd) 4 (M 1 1) lg) 5 (M 1 1) f) 6 (M 1 1) 0) 6 (6 + (M 1 1)) 0) 1 1 ((M 1 1) + 1)) 1 2 0)) rfl ?_
            refine Hx.ret rfl ?_
            exact Or.inr (Or.inr (Or.inl ⟨q8, h1, h2, q9, h3, rfl, rfl⟩))
          · skip
            refine Hx.run 1 (pc' := 46) (L' := [some (vr 0), some (vi kd), some (vi lg), some (vi f)]) (st' := [vr 0]) (M' := M) rfl ?_
            refine Hx.call (t := 116) (as := [vr 0]) (pc' := 49) (rest := []) rfl (c_full M (by omega)) ?_
            rintro _ _ ⟨rfl, rfl⟩
            refine Hx.run 0 (pc' := 49) (L' := [some (vr 0), some (vi kd), some (vi lg), some (vi f)]) (st' := [vi (-4)]) (M' := (up M 0 16 ((M 0 16) + 1))) rfl ?_
            refine Hx.ret rfl ?_
            exact Or.inr (Or.inr (Or.inr (Or.inl ⟨q8, h1, h2, q9, h3, rfl, rfl⟩)))
        · skip
          refine Hx.run 2 (pc' := 29) (L' := [some (vr 0), some (vi kd), some (vi lg), some (vi f)]) (st' := [vr 0]) (M' := M) rfl ?_
          refine Hx.call (t := 114) (as := [vr 0]) (pc' := 32) (rest := []) rfl (c_bad M (by omega)) ?_
          rintro _ _ ⟨rfl, rfl⟩
          refine Hx.run 0 (pc' := 32) (L' := [some (vr 0), some (vi kd), some (vi lg), some (vi f)]) (st' := [vi (-2)]) (M' := (up M 0 14 ((M 0 14) + 1))) rfl ?_
          refine Hx.ret rfl ?_
          exact Or.inr (Or.inr (Or.inr (Or.inr (Or.inl ⟨q8, h1, h2, q9, rfl, rfl⟩))))
  · skip
    refine Hx.run 2 (pc' := 29) (L' := [some (vr 0), some (vi kd), some (vi lg), some (vi f)]) (st' := [vr 0]) (M' := M) rfl ?_
    refine Hx.call (t := 114) (as := [vr 0]) (pc' := 32) (rest := []) rfl (c_bad M (by omega)) ?_
    rintro _ _ ⟨rfl, rfl⟩
    refine Hx.run 0 (pc' := 32) (L' := [some (vr 0), some (vi kd), some (vi lg), some (vi f)]) (st' := [vi (-2)]) (M' := (up M 0 14 ((M 0 14) + 1))) rfl ?_
    refine Hx.ret rfl ?_
    exact Or.inr (Or.inr (Or.inr (Or.inr (Or.inr (⟨q8, rfl, rfl⟩)))))
set_option maxRecDepth 100000 in
theorem C_seen (f : Int) (s : Int) (t : Int) (b : Int) (M : Mm) (hI : HI M 1) (hs : (0 ≤ M 0 14 ∧ M 0 14 ≤ 600) ∧ (0 ≤ M 0 15 ∧ M 0 15 ≤ 600) ∧ (0 ≤ M 0 16 ∧ M 0 16 ≤ 600)) : Ct 78 [vr 0, vi f, vi s, vi t, vi b] M (fun q0 M' => ((0 ≤ f ∧ f < (M 1 0)) ∧ (1 ≤ s ∧ s ≤ 10) ∧ (0 ≤ t ∧ t < 24) ∧ (b < 0) ∧ q0 = some (vi (-2)) ∧ (up M 0 14 ((M 0 14) + 1)) = M') ∨ ((0 ≤ f ∧ f < (M 1 0)) ∧ (1 ≤ s ∧ s ≤ 10) ∧ (0 ≤ t ∧ t < 24) ∧ (¬ (b < 0)) ∧ (1 < b) ∧ q0 = some (vi (-2)) ∧ (up M 0 14 ((M 0 14) + 1)) = M') ∨ ((0 ≤ f ∧ f < (M 1 0)) ∧ (1 ≤ s ∧ s ≤ 10) ∧ (0 ≤ t ∧ t < 24) ∧ (¬ (b < 0)) ∧ (¬ (1 < b)) ∧ (((M 8 3) = 5)) ∧ q0 = some (vi (-4)) ∧ (up M 0 16 ((M 0 16) + 1)) = M') ∨ ((0 ≤ f ∧ f < (M 1 0)) ∧ (1 ≤ s ∧ s ≤ 10) ∧ (0 ≤ t ∧ t < 24) ∧ (¬ (b < 0)) ∧ (¬ (1 < b)) ∧ (¬ ((M 8 3) = 5)) ∧ q0 = some (vi ((M 8 3) + 1)) ∧ (up (up (up (up (up M 8 3 ((M 8 3) + 1)) 9 ((M 8 3) * 4 + 0) f) 9 ((M 8 3) * 4 + 1) s) 9 ((M 8 3) * 4 + 2) t) 9 ((M 8 3) * 4 + 3) b) = M') ∨ ((0 ≤ f ∧ f < (M 1 0)) ∧ (1 ≤ s ∧ s ≤ 10) ∧ (¬ (0 ≤ t ∧ t < 24)) ∧ q0 = some (vi (-2)) ∧ (up M 0 14 ((M 0 14) + 1)) = M') ∨ ((0 ≤ f ∧ f < (M 1 0)) ∧ (¬ (1 ≤ s ∧ s ≤ 10)) ∧ q0 = some (vi (-2)) ∧ (up M 0 14 ((M 0 14) + 1)) = M') ∨ ((¬ (0 ≤ f ∧ f < (M 1 0))) ∧ q0 = some (vi (-2)) ∧ (up M 0 14 ((M 0 14) + 1)) = M')) := by
  obtain ⟨iF, iG, iK, iH, iFa, aF, aG, lS, lN, lM, rS, rN, rM, aK⟩ := (show (0 ≤ M 1 0 ∧ M 1 0 ≤ 3) ∧ (0 ≤ M 1 1 ∧ M 1 1 ≤ 6) ∧ (0 ≤ M 1 2 ∧ M 1 2 ≤ 8) ∧ (0 ≤ M 6 16 ∧ M 6 16 ≤ 9999) ∧ (0 ≤ M 6 15 ∧ M 6 15 ≤ 9000) ∧ (∀ f : Int, 0 ≤ f → f < M 1 0 → (0 ≤ M 2 f ∧ M 2 f ≤ 5) ∧ (1 ≤ M 6 (12 + f) ∧ M 6 (12 + f) ≤ 10)) ∧ (∀ i : Int, 0 ≤ i → i < M 1 1 → (0 ≤ M 3 i ∧ M 3 i ≤ 5) ∧ (1 ≤ M 4 i ∧ M 4 i ≤ 4) ∧ (0 ≤ M 5 i ∧ M 5 i < M 1 0) ∧ (0 ≤ M 6 i ∧ M 6 i ≤ 11) ∧ (0 ≤ M 6 (6 + i) ∧ M 6 (6 + i) ≤ 9)) ∧ (M 8 0 = 4 ∧ M 8 1 = 5 ∧ 0 ≤ M 8 3 ∧ M 8 3 ≤ 5) ∧ (M 10 0 = 3 ∧ M 10 1 = 6 ∧ 0 ≤ M 10 3 ∧ M 10 3 ≤ 6) ∧ (M 12 0 = 5 ∧ M 12 1 = 6 ∧ 0 ≤ M 12 3 ∧ M 12 3 ≤ 6) ∧ (∀ n : Int, 0 ≤ n → n < M 8 3 → (0 ≤ M 9 (n * 4 + 0) ∧ M 9 (n * 4 + 0) ≤ 2) ∧ (1 ≤ M 9 (n * 4 + 1) ∧ M 9 (n * 4 + 1) ≤ 10) ∧ (0 ≤ M 9 (n * 4 + 2) ∧ M 9 (n * 4 + 2) ≤ 23) ∧ (0 ≤ M 9 (n * 4 + 3) ∧ M 9 (n * 4 + 3) ≤ 1)) ∧ (∀ n : Int, 0 ≤ n → n < M 10 3 → (0 ≤ M 11 (n * 3 + 0) ∧ M 11 (n * 3 + 0) ≤ 2) ∧ (0 ≤ M 11 (n * 3 + 1) ∧ M 11 (n * 3 + 1) ≤ 23) ∧ (0 ≤ M 11 (n * 3 + 2) ∧ M 11 (n * 3 + 2) ≤ 9)) ∧ (∀ n : Int, 0 ≤ n → n < M 12 3 → (0 ≤ M 13 (n * 5 + 0) ∧ M 13 (n * 5 + 0) ≤ 5) ∧ (1 ≤ M 13 (n * 5 + 1) ∧ M 13 (n * 5 + 1) ≤ 4) ∧ (0 ≤ M 13 (n * 5 + 2) ∧ M 13 (n * 5 + 2) ≤ 9) ∧ (0 ≤ M 13 (n * 5 + 3) ∧ M 13 (n * 5 + 3) ≤ 23) ∧ (0 ≤ M 13 (n * 5 + 4) ∧ M 13 (n * 5 + 4) ≤ 9)) ∧ (∀ k : Int, 0 ≤ k → k < M 1 2 → (0 ≤ M 7 (k * 17 + 16) ∧ M 7 (k * 17 + 16) ≤ 9999) ∧ (0 ≤ M 7 (k * 17 + 15) ∧ M 7 (k * 17 + 15) ≤ 9000) ∧ (∀ f : Int, 0 ≤ f → f < M 1 0 → (1 ≤ M 7 (k * 17 + (12 + f)) ∧ M 7 (k * 17 + (12 + f)) ≤ 10)) ∧ (∀ i : Int, 0 ≤ i → i < M 1 1 → (0 ≤ M 7 (k * 17 + i) ∧ M 7 (k * 17 + i) ≤ 11) ∧ (0 ≤ M 7 (k * 17 + (6 + i)) ∧ M 7 (k * 17 + (6 + i)) ≤ 9))) from hI)
  refine Hx.run 3 (pc' := 5) (L' := [some (vr 0), some (vi f), some (vi s), some (vi t), some (vi b)]) (st' := [vi f, vr 1]) (M' := M) rfl ?_
  refine Hx.call (t := 7) (as := [vr 1, vi f]) (pc' := 8) (rest := []) rfl (c_hasFlight_1 f M) ?_
  rintro _ _ (⟨q10, rfl, rfl⟩ | ⟨q10, rfl, rfl⟩)
  · skip
    have fq10 := aF f q10.1 q10.2
    refine Hx.run 2 (pc' := 12) (L' := [some (vr 0), some (vi f), some (vi s), some (vi t), some (vi b)]) (st' := [vi s]) (M' := M) rfl ?_
    refine Hx.call (t := 118) (as := [vi s]) (pc' := 15) (rest := []) rfl (c_isOwnable s M) ?_
    rintro _ _ (⟨q11, rfl, rfl⟩ | ⟨q11, rfl, rfl⟩)
    · skip
      refine Hx.run 2 (pc' := 19) (L' := [some (vr 0), some (vi f), some (vi s), some (vi t), some (vi b)]) (st' := [vi t]) (M' := M) rfl ?_
      refine Hx.call (t := 120) (as := [vi t]) (pc' := 22) (rest := []) rfl (c_isHour t M) ?_
      rintro _ _ (⟨q12, rfl, rfl⟩ | ⟨q12, rfl, rfl⟩)
      · skip
        refine Hx.run 2 (pc' := 27) (L' := [some (vr 0), some (vi f), some (vi s), some (vi t), some (vi b)]) (st' := [vi b]) (M' := M) rfl ?_
        refine Hx.br (c := b < 0) (t := 36) (f := 30) rfl (fun h1 => ?_) (fun h1 => ?_)
        · skip
          refine Hx.run 1 (pc' := 37) (L' := [some (vr 0), some (vi f), some (vi s), some (vi t), some (vi b)]) (st' := [vr 0]) (M' := M) rfl ?_
          refine Hx.call (t := 114) (as := [vr 0]) (pc' := 40) (rest := []) rfl (c_bad M (by omega)) ?_
          rintro _ _ ⟨rfl, rfl⟩
          refine Hx.run 0 (pc' := 40) (L' := [some (vr 0), some (vi f), some (vi s), some (vi t), some (vi b)]) (st' := [vi (-2)]) (M' := (up M 0 14 ((M 0 14) + 1))) rfl ?_
          refine Hx.ret rfl ?_
          exact Or.inl ⟨q10, q11, q12, h1, rfl, rfl⟩
        · skip
          refine Hx.run 2 (pc' := 33) (L' := [some (vr 0), some (vi f), some (vi s), some (vi t), some (vi b)]) (st' := [vi 1, vi b]) (M' := M) rfl ?_
          refine Hx.br (c := 1 < b) (t := 36) (f := 41) rfl (fun h2 => ?_) (fun h2 => ?_)
          · skip
            refine Hx.run 1 (pc' := 37) (L' := [some (vr 0), some (vi f), some (vi s), some (vi t), some (vi b)]) (st' := [vr 0]) (M' := M) rfl ?_
            refine Hx.call (t := 114) (as := [vr 0]) (pc' := 40) (rest := []) rfl (c_bad M (by omega)) ?_
            rintro _ _ ⟨rfl, rfl⟩
            refine Hx.run 0 (pc' := 40) (L' := [some (vr 0), some (vi f), some (vi s), some (vi t), some (vi b)]) (st' := [vi (-2)]) (M' := (up M 0 14 ((M 0 14) + 1))) rfl ?_
            refine Hx.ret rfl ?_
            exact Or.inr (Or.inl ⟨q10, q11, q12, h1, h2, rfl, rfl⟩)
          · skip
            refine Hx.run 3 (pc' := 48) (L' := [some (vr 0), some (vi f), some (vi s), some (vi t), some (vi b)]) (st' := [vr 8]) (M' := M) rfl ?_
            refine Hx.call (t := 34) (as := [vr 8]) (pc' := 51) (rest := []) rfl (c_isFull_8 M (by omega)) ?_
            rintro _ _ (⟨q13, rfl, rfl⟩ | ⟨q13, rfl, rfl⟩)
            · skip
              refine Hx.run 2 (pc' := 55) (L' := [some (vr 0), some (vi f), some (vi s), some (vi t), some (vi b)]) (st' := [vr 0]) (M' := M) rfl ?_
              refine Hx.call (t := 116) (as := [vr 0]) (pc' := 58) (rest := []) rfl (c_full M (by omega)) ?_
              rintro _ _ ⟨rfl, rfl⟩
              refine Hx.run 0 (pc' := 58) (L' := [some (vr 0), some (vi f), some (vi s), some (vi t), some (vi b)]) (st' := [vi (-4)]) (M' := (up M 0 16 ((M 0 16) + 1))) rfl ?_
              refine Hx.ret rfl ?_
              exact Or.inr (Or.inr (Or.inl ⟨q10, q11, q12, h1, h2, q13, rfl, rfl⟩))
            · skip
              refine Hx.run 9 (pc' := 72) (L' := [some (vr 0), some (vi f), some (vi s), some (vi t), some (vi b)]) (st' := [vi 0, vi b, vi t, vi s, vi f, vr 8]) (M' := M) rfl ?_
              refine Hx.call (t := 36) (as := [vr 8, vi f, vi s, vi t, vi b, vi 0]) (pc' := 75) (rest := []) rfl (c_add_8 f s t b 0 M (by omega) (by omega)) ?_
              rintro _ _ ⟨rfl, rfl⟩
              refine Hx.run 0 (pc' := 75) (L' := [some (vr 0), some (vi f), some (vi s), some (vi t), some (vi b)]) (st' := [vi ((M 8 3) + 1)]) (M' := (up (up (up (up (up M 8 3 ((M 8 3) + 1)) 9 ((M 8 3) * 4 + 0) f) 9 ((M 8 3) * 4 + 1) s) 9 ((M 8 3) * 4 + 2) t) 9 ((M 8 3) * 4 + 3) b)) rfl ?_
              refine Hx.ret rfl ?_
              exact Or.inr (Or.inr (Or.inr (Or.inl ⟨q10, q11, q12, h1, h2, q13, rfl, rfl⟩)))
      · skip
        refine Hx.run 2 (pc' := 37) (L' := [some (vr 0), some (vi f), some (vi s), some (vi t), some (vi b)]) (st' := [vr 0]) (M' := M) rfl ?_
        refine Hx.call (t := 114) (as := [vr 0]) (pc' := 40) (rest := []) rfl (c_bad M (by omega)) ?_
        rintro _ _ ⟨rfl, rfl⟩
        refine Hx.run 0 (pc' := 40) (L' := [some (vr 0), some (vi f), some (vi s), some (vi t), some (vi b)]) (st' := [vi (-2)]) (M' := (up M 0 14 ((M 0 14) + 1))) rfl ?_
        refine Hx.ret rfl ?_
        exact Or.inr (Or.inr (Or.inr (Or.inr (Or.inl ⟨q10, q11, q12, rfl, rfl⟩))))
    · skip
      refine Hx.run 2 (pc' := 37) (L' := [some (vr 0), some (vi f), some (vi s), some (vi t), some (vi b)]) (st' := [vr 0]) (M' := M) rfl ?_
      refine Hx.call (t := 114) (as := [vr 0]) (pc' := 40) (rest := []) rfl (c_bad M (by omega)) ?_
      rintro _ _ ⟨rfl, rfl⟩
      refine Hx.run 0 (pc' := 40) (L' := [some (vr 0), some (vi f), some (vi s), some (vi t), some (vi b)]) (st' := [vi (-2)]) (M' := (up M 0 14 ((M 0 14) + 1))) rfl ?_
      refine Hx.ret rfl ?_
      exact Or.inr (Or.inr (Or.inr (Or.inr (Or.inr (Or.inl ⟨q10, q11, rfl, rfl⟩)))))
  · skip
    refine Hx.run 2 (pc' := 37) (L' := [some (vr 0), some (vi f), some (vi s), some (vi t), some (vi b)]) (st' := [vr 0]) (M' := M) rfl ?_
    refine Hx.call (t := 114) (as := [vr 0]) (pc' := 40) (rest := []) rfl (c_bad M (by omega)) ?_
    rintro _ _ ⟨rfl, rfl⟩
    refine Hx.run 0 (pc' := 40) (L' := [some (vr 0), some (vi f), some (vi s), some (vi t), some (vi b)]) (st' := [vi (-2)]) (M' := (up M 0 14 ((M 0 14) + 1))) rfl ?_
    refine Hx.ret rfl ?_
    exact Or.inr (Or.inr (Or.inr (Or.inr (Or.inr (Or.inr (⟨q10, rfl, rfl⟩))))))
set_option maxRecDepth 100000 in
theorem C_note (f : Int) (t : Int) (x : Int) (M : Mm) (hI : HI M 1) (hs : (0 ≤ M 0 14 ∧ M 0 14 ≤ 600) ∧ (0 ≤ M 0 15 ∧ M 0 15 ≤ 600) ∧ (0 ≤ M 0 16 ∧ M 0 16 ≤ 600)) : Ct 82 [vr 0, vi f, vi t, vi x] M (fun q0 M' => ((0 ≤ f ∧ f < (M 1 0)) ∧ (0 ≤ t ∧ t < 24) ∧ (x < 0) ∧ q0 = some (vi (-2)) ∧ (up M 0 14 ((M 0 14) + 1)) = M') ∨ ((0 ≤ f ∧ f < (M 1 0)) ∧ (0 ≤ t ∧ t < 24) ∧ (¬ (x < 0)) ∧ (9 < x) ∧ q0 = some (vi (-2)) ∧ (up M 0 14 ((M 0 14) + 1)) = M') ∨ ((0 ≤ f ∧ f < (M 1 0)) ∧ (0 ≤ t ∧ t < 24) ∧ (¬ (x < 0)) ∧ (¬ (9 < x)) ∧ (((M 10 3) = 6)) ∧ q0 = some (vi (-4)) ∧ (up M 0 16 ((M 0 16) + 1)) = M') ∨ ((0 ≤ f ∧ f < (M 1 0)) ∧ (0 ≤ t ∧ t < 24) ∧ (¬ (x < 0)) ∧ (¬ (9 < x)) ∧ (¬ ((M 10 3) = 6)) ∧ q0 = some (vi ((M 10 3) + 1)) ∧ (up (up (up (up M 10 3 ((M 10 3) + 1)) 11 ((M 10 3) * 3 + 0) f) 11 ((M 10 3) * 3 + 1) t) 11 ((M 10 3) * 3 + 2) x) = M') ∨ ((0 ≤ f ∧ f < (M 1 0)) ∧ (¬ (0 ≤ t ∧ t < 24)) ∧ q0 = some (vi (-2)) ∧ (up M 0 14 ((M 0 14) + 1)) = M') ∨ ((¬ (0 ≤ f ∧ f < (M 1 0))) ∧ q0 = some (vi (-2)) ∧ (up M 0 14 ((M 0 14) + 1)) = M')) := by
  obtain ⟨iF, iG, iK, iH, iFa, aF, aG, lS, lN, lM, rS, rN, rM, aK⟩ := (show (0 ≤ M 1 0 ∧ M 1 0 ≤ 3) ∧ (0 ≤ M 1 1 ∧ M 1 1 ≤ 6) ∧ (0 ≤ M 1 2 ∧ M 1 2 ≤ 8) ∧ (0 ≤ M 6 16 ∧ M 6 16 ≤ 9999) ∧ (0 ≤ M 6 15 ∧ M 6 15 ≤ 9000) ∧ (∀ f : Int, 0 ≤ f → f < M 1 0 → (0 ≤ M 2 f ∧ M 2 f ≤ 5) ∧ (1 ≤ M 6 (12 + f) ∧ M 6 (12 + f) ≤ 10)) ∧ (∀ i : Int, 0 ≤ i → i < M 1 1 → (0 ≤ M 3 i ∧ M 3 i ≤ 5) ∧ (1 ≤ M 4 i ∧ M 4 i ≤ 4) ∧ (0 ≤ M 5 i ∧ M 5 i < M 1 0) ∧ (0 ≤ M 6 i ∧ M 6 i ≤ 11) ∧ (0 ≤ M 6 (6 + i) ∧ M 6 (6 + i) ≤ 9)) ∧ (M 8 0 = 4 ∧ M 8 1 = 5 ∧ 0 ≤ M 8 3 ∧ M 8 3 ≤ 5) ∧ (M 10 0 = 3 ∧ M 10 1 = 6 ∧ 0 ≤ M 10 3 ∧ M 10 3 ≤ 6) ∧ (M 12 0 = 5 ∧ M 12 1 = 6 ∧ 0 ≤ M 12 3 ∧ M 12 3 ≤ 6) ∧ (∀ n : Int, 0 ≤ n → n < M 8 3 → (0 ≤ M 9 (n * 4 + 0) ∧ M 9 (n * 4 + 0) ≤ 2) ∧ (1 ≤ M 9 (n * 4 + 1) ∧ M 9 (n * 4 + 1) ≤ 10) ∧ (0 ≤ M 9 (n * 4 + 2) ∧ M 9 (n * 4 + 2) ≤ 23) ∧ (0 ≤ M 9 (n * 4 + 3) ∧ M 9 (n * 4 + 3) ≤ 1)) ∧ (∀ n : Int, 0 ≤ n → n < M 10 3 → (0 ≤ M 11 (n * 3 + 0) ∧ M 11 (n * 3 + 0) ≤ 2) ∧ (0 ≤ M 11 (n * 3 + 1) ∧ M 11 (n * 3 + 1) ≤ 23) ∧ (0 ≤ M 11 (n * 3 + 2) ∧ M 11 (n * 3 + 2) ≤ 9)) ∧ (∀ n : Int, 0 ≤ n → n < M 12 3 → (0 ≤ M 13 (n * 5 + 0) ∧ M 13 (n * 5 + 0) ≤ 5) ∧ (1 ≤ M 13 (n * 5 + 1) ∧ M 13 (n * 5 + 1) ≤ 4) ∧ (0 ≤ M 13 (n * 5 + 2) ∧ M 13 (n * 5 + 2) ≤ 9) ∧ (0 ≤ M 13 (n * 5 + 3) ∧ M 13 (n * 5 + 3) ≤ 23) ∧ (0 ≤ M 13 (n * 5 + 4) ∧ M 13 (n * 5 + 4) ≤ 9)) ∧ (∀ k : Int, 0 ≤ k → k < M 1 2 → (0 ≤ M 7 (k * 17 + 16) ∧ M 7 (k * 17 + 16) ≤ 9999) ∧ (0 ≤ M 7 (k * 17 + 15) ∧ M 7 (k * 17 + 15) ≤ 9000) ∧ (∀ f : Int, 0 ≤ f → f < M 1 0 → (1 ≤ M 7 (k * 17 + (12 + f)) ∧ M 7 (k * 17 + (12 + f)) ≤ 10)) ∧ (∀ i : Int, 0 ≤ i → i < M 1 1 → (0 ≤ M 7 (k * 17 + i) ∧ M 7 (k * 17 + i) ≤ 11) ∧ (0 ≤ M 7 (k * 17 + (6 + i)) ∧ M 7 (k * 17 + (6 + i)) ≤ 9))) from hI)
  refine Hx.run 3 (pc' := 5) (L' := [some (vr 0), some (vi f), some (vi t), some (vi x)]) (st' := [vi f, vr 1]) (M' := M) rfl ?_
  refine Hx.call (t := 7) (as := [vr 1, vi f]) (pc' := 8) (rest := []) rfl (c_hasFlight_1 f M) ?_
  rintro _ _ (⟨q14, rfl, rfl⟩ | ⟨q14, rfl, rfl⟩)
  · skip
    have fq14 := aF f q14.1 q14.2
    refine Hx.run 2 (pc' := 12) (L' := [some (vr 0), some (vi f), some (vi t), some (vi x)]) (st' := [vi t]) (M' := M) rfl ?_
    refine Hx.call (t := 120) (as := [vi t]) (pc' := 15) (rest := []) rfl (c_isHour t M) ?_
    rintro _ _ (⟨q15, rfl, rfl⟩ | ⟨q15, rfl, rfl⟩)
    · skip
      refine Hx.run 2 (pc' := 19) (L' := [some (vr 0), some (vi f), some (vi t), some (vi x)]) (st' := [vi x]) (M' := M) rfl ?_
      refine Hx.br (c := x < 0) (t := 28) (f := 22) rfl (fun h1 => ?_) (fun h1 => ?_)
      · skip
        refine Hx.run 1 (pc' := 29) (L' := [some (vr 0), some (vi f), some (vi t), some (vi x)]) (st' := [vr 0]) (M' := M) rfl ?_
        refine Hx.call (t := 114) (as := [vr 0]) (pc' := 32) (rest := []) rfl (c_bad M (by omega)) ?_
        rintro _ _ ⟨rfl, rfl⟩
        refine Hx.run 0 (pc' := 32) (L' := [some (vr 0), some (vi f), some (vi t), some (vi x)]) (st' := [vi (-2)]) (M' := (up M 0 14 ((M 0 14) + 1))) rfl ?_
        refine Hx.ret rfl ?_
        exact Or.inl ⟨q14, q15, h1, rfl, rfl⟩
      · skip
        refine Hx.run 2 (pc' := 25) (L' := [some (vr 0), some (vi f), some (vi t), some (vi x)]) (st' := [vi 9, vi x]) (M' := M) rfl ?_
        refine Hx.br (c := 9 < x) (t := 28) (f := 33) rfl (fun h2 => ?_) (fun h2 => ?_)
        · skip
          refine Hx.run 1 (pc' := 29) (L' := [some (vr 0), some (vi f), some (vi t), some (vi x)]) (st' := [vr 0]) (M' := M) rfl ?_
          refine Hx.call (t := 114) (as := [vr 0]) (pc' := 32) (rest := []) rfl (c_bad M (by omega)) ?_
          rintro _ _ ⟨rfl, rfl⟩
          refine Hx.run 0 (pc' := 32) (L' := [some (vr 0), some (vi f), some (vi t), some (vi x)]) (st' := [vi (-2)]) (M' := (up M 0 14 ((M 0 14) + 1))) rfl ?_
          refine Hx.ret rfl ?_
          exact Or.inr (Or.inl ⟨q14, q15, h1, h2, rfl, rfl⟩)
        · skip
          refine Hx.run 3 (pc' := 40) (L' := [some (vr 0), some (vi f), some (vi t), some (vi x)]) (st' := [vr 10]) (M' := M) rfl ?_
          refine Hx.call (t := 34) (as := [vr 10]) (pc' := 43) (rest := []) rfl (c_isFull_10 M (by omega)) ?_
          rintro _ _ (⟨q16, rfl, rfl⟩ | ⟨q16, rfl, rfl⟩)
          · skip
            refine Hx.run 2 (pc' := 47) (L' := [some (vr 0), some (vi f), some (vi t), some (vi x)]) (st' := [vr 0]) (M' := M) rfl ?_
            refine Hx.call (t := 116) (as := [vr 0]) (pc' := 50) (rest := []) rfl (c_full M (by omega)) ?_
            rintro _ _ ⟨rfl, rfl⟩
            refine Hx.run 0 (pc' := 50) (L' := [some (vr 0), some (vi f), some (vi t), some (vi x)]) (st' := [vi (-4)]) (M' := (up M 0 16 ((M 0 16) + 1))) rfl ?_
            refine Hx.ret rfl ?_
            exact Or.inr (Or.inr (Or.inl ⟨q14, q15, h1, h2, q16, rfl, rfl⟩))
          · skip
            refine Hx.run 9 (pc' := 63) (L' := [some (vr 0), some (vi f), some (vi t), some (vi x)]) (st' := [vi 0, vi 0, vi x, vi t, vi f, vr 10]) (M' := M) rfl ?_
            refine Hx.call (t := 36) (as := [vr 10, vi f, vi t, vi x, vi 0, vi 0]) (pc' := 66) (rest := []) rfl (c_add_10 f t x 0 0 M (by omega) (by omega)) ?_
            rintro _ _ ⟨rfl, rfl⟩
            refine Hx.run 0 (pc' := 66) (L' := [some (vr 0), some (vi f), some (vi t), some (vi x)]) (st' := [vi ((M 10 3) + 1)]) (M' := (up (up (up (up M 10 3 ((M 10 3) + 1)) 11 ((M 10 3) * 3 + 0) f) 11 ((M 10 3) * 3 + 1) t) 11 ((M 10 3) * 3 + 2) x)) rfl ?_
            refine Hx.ret rfl ?_
            exact Or.inr (Or.inr (Or.inr (Or.inl ⟨q14, q15, h1, h2, q16, rfl, rfl⟩)))
    · skip
      refine Hx.run 2 (pc' := 29) (L' := [some (vr 0), some (vi f), some (vi t), some (vi x)]) (st' := [vr 0]) (M' := M) rfl ?_
      refine Hx.call (t := 114) (as := [vr 0]) (pc' := 32) (rest := []) rfl (c_bad M (by omega)) ?_
      rintro _ _ ⟨rfl, rfl⟩
      refine Hx.run 0 (pc' := 32) (L' := [some (vr 0), some (vi f), some (vi t), some (vi x)]) (st' := [vi (-2)]) (M' := (up M 0 14 ((M 0 14) + 1))) rfl ?_
      refine Hx.ret rfl ?_
      exact Or.inr (Or.inr (Or.inr (Or.inr (Or.inl ⟨q14, q15, rfl, rfl⟩))))
  · skip
    refine Hx.run 2 (pc' := 29) (L' := [some (vr 0), some (vi f), some (vi t), some (vi x)]) (st' := [vr 0]) (M' := M) rfl ?_
    refine Hx.call (t := 114) (as := [vr 0]) (pc' := 32) (rest := []) rfl (c_bad M (by omega)) ?_
    rintro _ _ ⟨rfl, rfl⟩
    refine Hx.run 0 (pc' := 32) (L' := [some (vr 0), some (vi f), some (vi t), some (vi x)]) (st' := [vi (-2)]) (M' := (up M 0 14 ((M 0 14) + 1))) rfl ?_
    refine Hx.ret rfl ?_
    exact Or.inr (Or.inr (Or.inr (Or.inr (Or.inr (⟨q14, rfl, rfl⟩)))))
set_option maxRecDepth 100000 in
theorem C_mark (i : Int) (lg : Int) (x : Int) (t : Int) (yy : Int) (M : Mm) (hI : HI M 1) (hs : (0 ≤ M 0 14 ∧ M 0 14 ≤ 600) ∧ (0 ≤ M 0 15 ∧ M 0 15 ≤ 600) ∧ (0 ≤ M 0 16 ∧ M 0 16 ≤ 600)) : Ct 83 [vr 0, vi i, vi lg, vi x, vi t, vi yy] M (fun q0 M' => ((0 ≤ i ∧ i < (M 1 1)) ∧ (lg < 1) ∧ q0 = some (vi (-2)) ∧ (up M 0 14 ((M 0 14) + 1)) = M') ∨ ((0 ≤ i ∧ i < (M 1 1)) ∧ (¬ (lg < 1)) ∧ (4 < lg) ∧ q0 = some (vi (-2)) ∧ (up M 0 14 ((M 0 14) + 1)) = M') ∨ ((0 ≤ i ∧ i < (M 1 1)) ∧ (¬ (lg < 1)) ∧ (¬ (4 < lg)) ∧ (0 ≤ x ∧ x ≤ 9) ∧ (0 ≤ t ∧ t < 24) ∧ (yy < 0) ∧ q0 = some (vi (-2)) ∧ (up M 0 14 ((M 0 14) + 1)) = M') ∨ ((0 ≤ i ∧ i < (M 1 1)) ∧ (¬ (lg < 1)) ∧ (¬ (4 < lg)) ∧ (0 ≤ x ∧ x ≤ 9) ∧ (0 ≤ t ∧ t < 24) ∧ (¬ (yy < 0)) ∧ (9 < yy) ∧ q0 = some (vi (-2)) ∧ (up M 0 14 ((M 0 14) + 1)) = M') ∨ ((0 ≤ i ∧ i < (M 1 1)) ∧ (¬ (lg < 1)) ∧ (¬ (4 < lg)) ∧ (0 ≤ x ∧ x ≤ 9) ∧ (0 ≤ t ∧ t < 24) ∧ (¬ (yy < 0)) ∧ (¬ (9 < yy)) ∧ (((M 12 3) = 6)) ∧ q0 = some (vi (-4)) ∧ (up M 0 16 ((M 0 16) + 1)) = M') ∨ ((0 ≤ i ∧ i < (M 1 1)) ∧ (¬ (lg < 1)) ∧ (¬ (4 < lg)) ∧ (0 ≤ x ∧ x ≤ 9) ∧ (0 ≤ t ∧ t < 24) ∧ (¬ (yy < 0)) ∧ (¬ (9 < yy)) ∧ (¬ ((M 12 3) = 6)) ∧ q0 = some (vi ((M 12 3) + 1)) ∧ (up (up (up (up (up (up M 12 3 ((M 12 3) + 1)) 13 ((M 12 3) * 5 + 0) i) 13 ((M 12 3) * 5 + 1) lg) 13 ((M 12 3) * 5 + 2) x) 13 ((M 12 3) * 5 + 3) t) 13 ((M 12 3) * 5 + 4) yy) = M') ∨ ((0 ≤ i ∧ i < (M 1 1)) ∧ (¬ (lg < 1)) ∧ (¬ (4 < lg)) ∧ (0 ≤ x ∧ x ≤ 9) ∧ (¬ (0 ≤ t ∧ t < 24)) ∧ q0 = some (vi (-2)) ∧ (up M 0 14 ((M 0 14) + 1)) = M') ∨ ((0 ≤ i ∧ i < (M 1 1)) ∧ (¬ (lg < 1)) ∧ (¬ (4 < lg)) ∧ (¬ (0 ≤ x ∧ x ≤ 9)) ∧ q0 = some (vi (-2)) ∧ (up M 0 14 ((M 0 14) + 1)) = M') ∨ ((¬ (0 ≤ i ∧ i < (M 1 1))) ∧ q0 = some (vi (-2)) ∧ (up M 0 14 ((M 0 14) + 1)) = M')) := by
  obtain ⟨iF, iG, iK, iH, iFa, aF, aG, lS, lN, lM, rS, rN, rM, aK⟩ := (show (0 ≤ M 1 0 ∧ M 1 0 ≤ 3) ∧ (0 ≤ M 1 1 ∧ M 1 1 ≤ 6) ∧ (0 ≤ M 1 2 ∧ M 1 2 ≤ 8) ∧ (0 ≤ M 6 16 ∧ M 6 16 ≤ 9999) ∧ (0 ≤ M 6 15 ∧ M 6 15 ≤ 9000) ∧ (∀ f : Int, 0 ≤ f → f < M 1 0 → (0 ≤ M 2 f ∧ M 2 f ≤ 5) ∧ (1 ≤ M 6 (12 + f) ∧ M 6 (12 + f) ≤ 10)) ∧ (∀ i : Int, 0 ≤ i → i < M 1 1 → (0 ≤ M 3 i ∧ M 3 i ≤ 5) ∧ (1 ≤ M 4 i ∧ M 4 i ≤ 4) ∧ (0 ≤ M 5 i ∧ M 5 i < M 1 0) ∧ (0 ≤ M 6 i ∧ M 6 i ≤ 11) ∧ (0 ≤ M 6 (6 + i) ∧ M 6 (6 + i) ≤ 9)) ∧ (M 8 0 = 4 ∧ M 8 1 = 5 ∧ 0 ≤ M 8 3 ∧ M 8 3 ≤ 5) ∧ (M 10 0 = 3 ∧ M 10 1 = 6 ∧ 0 ≤ M 10 3 ∧ M 10 3 ≤ 6) ∧ (M 12 0 = 5 ∧ M 12 1 = 6 ∧ 0 ≤ M 12 3 ∧ M 12 3 ≤ 6) ∧ (∀ n : Int, 0 ≤ n → n < M 8 3 → (0 ≤ M 9 (n * 4 + 0) ∧ M 9 (n * 4 + 0) ≤ 2) ∧ (1 ≤ M 9 (n * 4 + 1) ∧ M 9 (n * 4 + 1) ≤ 10) ∧ (0 ≤ M 9 (n * 4 + 2) ∧ M 9 (n * 4 + 2) ≤ 23) ∧ (0 ≤ M 9 (n * 4 + 3) ∧ M 9 (n * 4 + 3) ≤ 1)) ∧ (∀ n : Int, 0 ≤ n → n < M 10 3 → (0 ≤ M 11 (n * 3 + 0) ∧ M 11 (n * 3 + 0) ≤ 2) ∧ (0 ≤ M 11 (n * 3 + 1) ∧ M 11 (n * 3 + 1) ≤ 23) ∧ (0 ≤ M 11 (n * 3 + 2) ∧ M 11 (n * 3 + 2) ≤ 9)) ∧ (∀ n : Int, 0 ≤ n → n < M 12 3 → (0 ≤ M 13 (n * 5 + 0) ∧ M 13 (n * 5 + 0) ≤ 5) ∧ (1 ≤ M 13 (n * 5 + 1) ∧ M 13 (n * 5 + 1) ≤ 4) ∧ (0 ≤ M 13 (n * 5 + 2) ∧ M 13 (n * 5 + 2) ≤ 9) ∧ (0 ≤ M 13 (n * 5 + 3) ∧ M 13 (n * 5 + 3) ≤ 23) ∧ (0 ≤ M 13 (n * 5 + 4) ∧ M 13 (n * 5 + 4) ≤ 9)) ∧ (∀ k : Int, 0 ≤ k → k < M 1 2 → (0 ≤ M 7 (k * 17 + 16) ∧ M 7 (k * 17 + 16) ≤ 9999) ∧ (0 ≤ M 7 (k * 17 + 15) ∧ M 7 (k * 17 + 15) ≤ 9000) ∧ (∀ f : Int, 0 ≤ f → f < M 1 0 → (1 ≤ M 7 (k * 17 + (12 + f)) ∧ M 7 (k * 17 + (12 + f)) ≤ 10)) ∧ (∀ i : Int, 0 ≤ i → i < M 1 1 → (0 ≤ M 7 (k * 17 + i) ∧ M 7 (k * 17 + i) ≤ 11) ∧ (0 ≤ M 7 (k * 17 + (6 + i)) ∧ M 7 (k * 17 + (6 + i)) ≤ 9))) from hI)
  refine Hx.run 3 (pc' := 5) (L' := [some (vr 0), some (vi i), some (vi lg), some (vi x), some (vi t), some (vi yy)]) (st' := [vi i, vr 1]) (M' := M) rfl ?_
  refine Hx.call (t := 8) (as := [vr 1, vi i]) (pc' := 8) (rest := []) rfl (c_hasGoer_1 i M) ?_
  rintro _ _ (⟨q17, rfl, rfl⟩ | ⟨q17, rfl, rfl⟩)
  · skip
    have gq17 := aG i q17.1 q17.2
    have fq17 := aF (M 5 i) (by omega) (by omega)
    refine Hx.run 3 (pc' := 13) (L' := [some (vr 0), some (vi i), some (vi lg), some (vi x), some (vi t), some (vi yy)]) (st' := [vi 1, vi lg]) (M' := M) rfl ?_
    refine Hx.br (c := lg < 1) (t := 28) (f := 16) rfl (fun h1 => ?_) (fun h1 => ?_)
    · skip
      refine Hx.run 1 (pc' := 29) (L' := [some (vr 0), some (vi i), some (vi lg), some (vi x), some (vi t), some (vi yy)]) (st' := [vr 0]) (M' := M) rfl ?_
      refine Hx.call (t := 114) (as := [vr 0]) (pc' := 32) (rest := []) rfl (c_bad M (by omega)) ?_
      rintro _ _ ⟨rfl, rfl⟩
      refine Hx.run 0 (pc' := 32) (L' := [some (vr 0), some (vi i), some (vi lg), some (vi x), some (vi t), some (vi yy)]) (st' := [vi (-2)]) (M' := (up M 0 14 ((M 0 14) + 1))) rfl ?_
      refine Hx.ret rfl ?_
      exact Or.inl ⟨q17, h1, rfl, rfl⟩
    · skip
      refine Hx.run 2 (pc' := 18) (L' := [some (vr 0), some (vi i), some (vi lg), some (vi x), some (vi t), some (vi yy)]) (st' := [vi 4, vi lg]) (M' := M) rfl ?_
      refine Hx.br (c := 4 < lg) (t := 28) (f := 21) rfl (fun h2 => ?_) (fun h2 => ?_)
      · skip
        refine Hx.run 1 (pc' := 29) (L' := [some (vr 0), some (vi i), some (vi lg), some (vi x), some (vi t), some (vi yy)]) (st' := [vr 0]) (M' := M) rfl ?_
        refine Hx.call (t := 114) (as := [vr 0]) (pc' := 32) (rest := []) rfl (c_bad M (by omega)) ?_
        rintro _ _ ⟨rfl, rfl⟩
        refine Hx.run 0 (pc' := 32) (L' := [some (vr 0), some (vi i), some (vi lg), some (vi x), some (vi t), some (vi yy)]) (st' := [vi (-2)]) (M' := (up M 0 14 ((M 0 14) + 1))) rfl ?_
        refine Hx.ret rfl ?_
        exact Or.inr (Or.inl ⟨q17, h1, h2, rfl, rfl⟩)
      · skip
        refine Hx.run 1 (pc' := 22) (L' := [some (vr 0), some (vi i), some (vi lg), some (vi x), some (vi t), some (vi yy)]) (st' := [vi x]) (M' := M) rfl ?_
        refine Hx.call (t := 119) (as := [vi x]) (pc' := 25) (rest := []) rfl (c_isLoad x M) ?_
        rintro _ _ (⟨q18, rfl, rfl⟩ | ⟨q18, rfl, rfl⟩)
        · skip
          refine Hx.run 2 (pc' := 35) (L' := [some (vr 0), some (vi i), some (vi lg), some (vi x), some (vi t), some (vi yy)]) (st' := [vi t]) (M' := M) rfl ?_
          refine Hx.call (t := 120) (as := [vi t]) (pc' := 38) (rest := []) rfl (c_isHour t M) ?_
          rintro _ _ (⟨q19, rfl, rfl⟩ | ⟨q19, rfl, rfl⟩)
          · skip
            refine Hx.run 2 (pc' := 43) (L' := [some (vr 0), some (vi i), some (vi lg), some (vi x), some (vi t), some (vi yy)]) (st' := [vi yy]) (M' := M) rfl ?_
            refine Hx.br (c := yy < 0) (t := 53) (f := 46) rfl (fun h3 => ?_) (fun h3 => ?_)
            · skip
              refine Hx.run 1 (pc' := 54) (L' := [some (vr 0), some (vi i), some (vi lg), some (vi x), some (vi t), some (vi yy)]) (st' := [vr 0]) (M' := M) rfl ?_
              refine Hx.call (t := 114) (as := [vr 0]) (pc' := 57) (rest := []) rfl (c_bad M (by omega)) ?_
              rintro _ _ ⟨rfl, rfl⟩
              refine Hx.run 0 (pc' := 57) (L' := [some (vr 0), some (vi i), some (vi lg), some (vi x), some (vi t), some (vi yy)]) (st' := [vi (-2)]) (M' := (up M 0 14 ((M 0 14) + 1))) rfl ?_
              refine Hx.ret rfl ?_
              exact Or.inr (Or.inr (Or.inl ⟨q17, h1, h2, q18, q19, h3, rfl, rfl⟩))
            · skip
              refine Hx.run 2 (pc' := 50) (L' := [some (vr 0), some (vi i), some (vi lg), some (vi x), some (vi t), some (vi yy)]) (st' := [vi 9, vi yy]) (M' := M) rfl ?_
              refine Hx.br (c := 9 < yy) (t := 53) (f := 58) rfl (fun h4 => ?_) (fun h4 => ?_)
              · skip
                refine Hx.run 1 (pc' := 54) (L' := [some (vr 0), some (vi i), some (vi lg), some (vi x), some (vi t), some (vi yy)]) (st' := [vr 0]) (M' := M) rfl ?_
                refine Hx.call (t := 114) (as := [vr 0]) (pc' := 57) (rest := []) rfl (c_bad M (by omega)) ?_
                rintro _ _ ⟨rfl, rfl⟩
                refine Hx.run 0 (pc' := 57) (L' := [some (vr 0), some (vi i), some (vi lg), some (vi x), some (vi t), some (vi yy)]) (st' := [vi (-2)]) (M' := (up M 0 14 ((M 0 14) + 1))) rfl ?_
                refine Hx.ret rfl ?_
                exact Or.inr (Or.inr (Or.inr (Or.inl ⟨q17, h1, h2, q18, q19, h3, h4, rfl, rfl⟩)))
              · skip
                refine Hx.run 3 (pc' := 65) (L' := [some (vr 0), some (vi i), some (vi lg), some (vi x), some (vi t), some (vi yy)]) (st' := [vr 12]) (M' := M) rfl ?_
                refine Hx.call (t := 34) (as := [vr 12]) (pc' := 68) (rest := []) rfl (c_isFull_12 M (by omega)) ?_
                rintro _ _ (⟨q20, rfl, rfl⟩ | ⟨q20, rfl, rfl⟩)
                · skip
                  refine Hx.run 2 (pc' := 72) (L' := [some (vr 0), some (vi i), some (vi lg), some (vi x), some (vi t), some (vi yy)]) (st' := [vr 0]) (M' := M) rfl ?_
                  refine Hx.call (t := 116) (as := [vr 0]) (pc' := 75) (rest := []) rfl (c_full M (by omega)) ?_
                  rintro _ _ ⟨rfl, rfl⟩
                  refine Hx.run 0 (pc' := 75) (L' := [some (vr 0), some (vi i), some (vi lg), some (vi x), some (vi t), some (vi yy)]) (st' := [vi (-4)]) (M' := (up M 0 16 ((M 0 16) + 1))) rfl ?_
                  refine Hx.ret rfl ?_
                  exact Or.inr (Or.inr (Or.inr (Or.inr (Or.inl ⟨q17, h1, h2, q18, q19, h3, h4, q20, rfl, rfl⟩))))
                · skip
                  refine Hx.run 9 (pc' := 90) (L' := [some (vr 0), some (vi i), some (vi lg), some (vi x), some (vi t), some (vi yy)]) (st' := [vi yy, vi t, vi x, vi lg, vi i, vr 12]) (M' := M) rfl ?_
                  refine Hx.call (t := 36) (as := [vr 12, vi i, vi lg, vi x, vi t, vi yy]) (pc' := 93) (rest := []) rfl (c_add_12 i lg x t yy M (by omega) (by omega)) ?_
                  rintro _ _ ⟨rfl, rfl⟩
                  refine Hx.run 0 (pc' := 93) (L' := [some (vr 0), some (vi i), some (vi lg), some (vi x), some (vi t), some (vi yy)]) (st' := [vi ((M 12 3) + 1)]) (M' := (up (up (up (up (up (up M 12 3 ((M 12 3) + 1)) 13 ((M 12 3) * 5 + 0) i) 13 ((M 12 3) * 5 + 1) lg) 13 ((M 12 3) * 5 + 2) x) 13 ((M 12 3) * 5 + 3) t) 13 ((M 12 3) * 5 + 4) yy)) rfl ?_
                  refine Hx.ret rfl ?_
                  exact Or.inr (Or.inr (Or.inr (Or.inr (Or.inr (Or.inl ⟨q17, h1, h2, q18, q19, h3, h4, q20, rfl, rfl⟩)))))
          · skip
            refine Hx.run 2 (pc' := 54) (L' := [some (vr 0), some (vi i), some (vi lg), some (vi x), some (vi t), some (vi yy)]) (st' := [vr 0]) (M' := M) rfl ?_
            refine Hx.call (t := 114) (as := [vr 0]) (pc' := 57) (rest := []) rfl (c_bad M (by omega)) ?_
            rintro _ _ ⟨rfl, rfl⟩
            refine Hx.run 0 (pc' := 57) (L' := [some (vr 0), some (vi i), some (vi lg), some (vi x), some (vi t), some (vi yy)]) (st' := [vi (-2)]) (M' := (up M 0 14 ((M 0 14) + 1))) rfl ?_
            refine Hx.ret rfl ?_
            exact Or.inr (Or.inr (Or.inr (Or.inr (Or.inr (Or.inr (Or.inl ⟨q17, h1, h2, q18, q19, rfl, rfl⟩))))))
        · skip
          refine Hx.run 2 (pc' := 29) (L' := [some (vr 0), some (vi i), some (vi lg), some (vi x), some (vi t), some (vi yy)]) (st' := [vr 0]) (M' := M) rfl ?_
          refine Hx.call (t := 114) (as := [vr 0]) (pc' := 32) (rest := []) rfl (c_bad M (by omega)) ?_
          rintro _ _ ⟨rfl, rfl⟩
          refine Hx.run 0 (pc' := 32) (L' := [some (vr 0), some (vi i), some (vi lg), some (vi x), some (vi t), some (vi yy)]) (st' := [vi (-2)]) (M' := (up M 0 14 ((M 0 14) + 1))) rfl ?_
          refine Hx.ret rfl ?_
          exact Or.inr (Or.inr (Or.inr (Or.inr (Or.inr (Or.inr (Or.inr (Or.inl ⟨q17, h1, h2, q18, rfl, rfl⟩)))))))
  · skip
    refine Hx.run 2 (pc' := 29) (L' := [some (vr 0), some (vi i), some (vi lg), some (vi x), some (vi t), some (vi yy)]) (st' := [vr 0]) (M' := M) rfl ?_
    refine Hx.call (t := 114) (as := [vr 0]) (pc' := 32) (rest := []) rfl (c_bad M (by omega)) ?_
    rintro _ _ ⟨rfl, rfl⟩
    refine Hx.run 0 (pc' := 32) (L' := [some (vr 0), some (vi i), some (vi lg), some (vi x), some (vi t), some (vi yy)]) (st' := [vi (-2)]) (M' := (up M 0 14 ((M 0 14) + 1))) rfl ?_
    refine Hx.ret rfl ?_
    exact Or.inr (Or.inr (Or.inr (Or.inr (Or.inr (Or.inr (Or.inr (Or.inr (⟨q17, rfl, rfl⟩))))))))
set_option maxRecDepth 100000 in
theorem C_forget (w : Int) (M : Mm) (hI : HI M 1) (hs : (0 ≤ M 0 14 ∧ M 0 14 ≤ 600) ∧ (0 ≤ M 0 15 ∧ M 0 15 ≤ 600) ∧ (0 ≤ M 0 16 ∧ M 0 16 ≤ 600)) : Ct 84 [vr 0, vi w] M (fun q0 M' => ((w = 0) ∧ q0 = some (vi (M 8 3)) ∧ (up M 8 3 0) = M') ∨ ((w = 1) ∧ q0 = some (vi (M 10 3)) ∧ (up M 10 3 0) = M') ∨ ((w = 2) ∧ q0 = some (vi (M 12 3)) ∧ (up M 12 3 0) = M') ∨ (((w < 0 ∨ 2 < w)) ∧ q0 = some (vi (-2)) ∧ (up M 0 14 ((M 0 14) + 1)) = M')) := by
  obtain ⟨iF, iG, iK, iH, iFa, aF, aG, lS, lN, lM, rS, rN, rM, aK⟩ := (show (0 ≤ M 1 0 ∧ M 1 0 ≤ 3) ∧ (0 ≤ M 1 1 ∧ M 1 1 ≤ 6) ∧ (0 ≤ M 1 2 ∧ M 1 2 ≤ 8) ∧ (0 ≤ M 6 16 ∧ M 6 16 ≤ 9999) ∧ (0 ≤ M 6 15 ∧ M 6 15 ≤ 9000) ∧ (∀ f : Int, 0 ≤ f → f < M 1 0 → (0 ≤ M 2 f ∧ M 2 f ≤ 5) ∧ (1 ≤ M 6 (12 + f) ∧ M 6 (12 + f) ≤ 10)) ∧ (∀ i : Int, 0 ≤ i → i < M 1 1 → (0 ≤ M 3 i ∧ M 3 i ≤ 5) ∧ (1 ≤ M 4 i ∧ M 4 i ≤ 4) ∧ (0 ≤ M 5 i ∧ M 5 i < M 1 0) ∧ (0 ≤ M 6 i ∧ M 6 i ≤ 11) ∧ (0 ≤ M 6 (6 + i) ∧ M 6 (6 + i) ≤ 9)) ∧ (M 8 0 = 4 ∧ M 8 1 = 5 ∧ 0 ≤ M 8 3 ∧ M 8 3 ≤ 5) ∧ (M 10 0 = 3 ∧ M 10 1 = 6 ∧ 0 ≤ M 10 3 ∧ M 10 3 ≤ 6) ∧ (M 12 0 = 5 ∧ M 12 1 = 6 ∧ 0 ≤ M 12 3 ∧ M 12 3 ≤ 6) ∧ (∀ n : Int, 0 ≤ n → n < M 8 3 → (0 ≤ M 9 (n * 4 + 0) ∧ M 9 (n * 4 + 0) ≤ 2) ∧ (1 ≤ M 9 (n * 4 + 1) ∧ M 9 (n * 4 + 1) ≤ 10) ∧ (0 ≤ M 9 (n * 4 + 2) ∧ M 9 (n * 4 + 2) ≤ 23) ∧ (0 ≤ M 9 (n * 4 + 3) ∧ M 9 (n * 4 + 3) ≤ 1)) ∧ (∀ n : Int, 0 ≤ n → n < M 10 3 → (0 ≤ M 11 (n * 3 + 0) ∧ M 11 (n * 3 + 0) ≤ 2) ∧ (0 ≤ M 11 (n * 3 + 1) ∧ M 11 (n * 3 + 1) ≤ 23) ∧ (0 ≤ M 11 (n * 3 + 2) ∧ M 11 (n * 3 + 2) ≤ 9)) ∧ (∀ n : Int, 0 ≤ n → n < M 12 3 → (0 ≤ M 13 (n * 5 + 0) ∧ M 13 (n * 5 + 0) ≤ 5) ∧ (1 ≤ M 13 (n * 5 + 1) ∧ M 13 (n * 5 + 1) ≤ 4) ∧ (0 ≤ M 13 (n * 5 + 2) ∧ M 13 (n * 5 + 2) ≤ 9) ∧ (0 ≤ M 13 (n * 5 + 3) ∧ M 13 (n * 5 + 3) ≤ 23) ∧ (0 ≤ M 13 (n * 5 + 4) ∧ M 13 (n * 5 + 4) ≤ 9)) ∧ (∀ k : Int, 0 ≤ k → k < M 1 2 → (0 ≤ M 7 (k * 17 + 16) ∧ M 7 (k * 17 + 16) ≤ 9999) ∧ (0 ≤ M 7 (k * 17 + 15) ∧ M 7 (k * 17 + 15) ≤ 9000) ∧ (∀ f : Int, 0 ≤ f → f < M 1 0 → (1 ≤ M 7 (k * 17 + (12 + f)) ∧ M 7 (k * 17 + (12 + f)) ≤ 10)) ∧ (∀ i : Int, 0 ≤ i → i < M 1 1 → (0 ≤ M 7 (k * 17 + i) ∧ M 7 (k * 17 + i) ≤ 11) ∧ (0 ≤ M 7 (k * 17 + (6 + i)) ∧ M 7 (k * 17 + (6 + i)) ≤ 9))) from hI)
  refine Hx.run 1 (pc' := 1) (L' := [some (vr 0), some (vi w)]) (st' := [vi w]) (M' := M) rfl ?_
  rcases (show w = 0 ∨ w = 1 ∨ w = 2 ∨ (w < 0 ∨ 2 < w) by omega) with h1 | h1 | h1 | h1
  · refine Hx.tab (tgt := 28) 0 rfl h1 rfl ?_
    refine Hx.run 3 (pc' := 35) (L' := [some (vr 0), some (vi w)]) (st' := [vr 8]) (M' := M) rfl ?_
    refine Hx.call (t := 35) (as := [vr 8]) (pc' := 38) (rest := []) rfl (c_lempty_8 M) ?_
    rintro _ _ ⟨rfl, rfl⟩
    refine Hx.run 0 (pc' := 38) (L' := [some (vr 0), some (vi w)]) (st' := [vi (M 8 3)]) (M' := (up M 8 3 0)) rfl ?_
    refine Hx.ret rfl ?_
    exact Or.inl ⟨h1, rfl, rfl⟩
  · refine Hx.tab (tgt := 39) 1 rfl h1 rfl ?_
    refine Hx.run 3 (pc' := 46) (L' := [some (vr 0), some (vi w)]) (st' := [vr 10]) (M' := M) rfl ?_
    refine Hx.call (t := 35) (as := [vr 10]) (pc' := 49) (rest := []) rfl (c_lempty_10 M) ?_
    rintro _ _ ⟨rfl, rfl⟩
    refine Hx.run 0 (pc' := 49) (L' := [some (vr 0), some (vi w)]) (st' := [vi (M 10 3)]) (M' := (up M 10 3 0)) rfl ?_
    refine Hx.ret rfl ?_
    exact Or.inr (Or.inl ⟨h1, rfl, rfl⟩)
  · refine Hx.tab (tgt := 50) 2 rfl h1 rfl ?_
    refine Hx.run 3 (pc' := 57) (L' := [some (vr 0), some (vi w)]) (st' := [vr 12]) (M' := M) rfl ?_
    refine Hx.call (t := 35) (as := [vr 12]) (pc' := 60) (rest := []) rfl (c_lempty_12 M) ?_
    rintro _ _ ⟨rfl, rfl⟩
    refine Hx.run 0 (pc' := 60) (L' := [some (vr 0), some (vi w)]) (st' := [vi (M 12 3)]) (M' := (up M 12 3 0)) rfl ?_
    refine Hx.ret rfl ?_
    exact Or.inr (Or.inr (Or.inl ⟨h1, rfl, rfl⟩))
  · refine Hx.tabD (tgt := 61) rfl h1 rfl ?_
    refine Hx.run 1 (pc' := 62) (L' := [some (vr 0), some (vi w)]) (st' := [vr 0]) (M' := M) rfl ?_
    refine Hx.call (t := 114) (as := [vr 0]) (pc' := 65) (rest := []) rfl (c_bad M (by omega)) ?_
    rintro _ _ ⟨rfl, rfl⟩
    refine Hx.run 0 (pc' := 65) (L' := [some (vr 0), some (vi w)]) (st' := [vi (-2)]) (M' := (up M 0 14 ((M 0 14) + 1))) rfl ?_
    refine Hx.ret rfl ?_
    exact Or.inr (Or.inr (Or.inr (⟨h1, rfl, rfl⟩)))
set_option maxRecDepth 100000 in
theorem C_loads (i : Int) (x : Int) (M : Mm) (hI : HI M 1) (hs : (0 ≤ M 0 14 ∧ M 0 14 ≤ 600) ∧ (0 ≤ M 0 15 ∧ M 0 15 ≤ 600) ∧ (0 ≤ M 0 16 ∧ M 0 16 ≤ 600)) : Ct 66 [vr 0, vi i, vi x] M (fun q0 M' => ((0 ≤ i ∧ i < (M 1 1)) ∧ (0 ≤ x ∧ x ≤ 9) ∧ ((M 6 (6 + i)) = x) ∧ q0 = some (vi (-3)) ∧ (up M 0 15 ((M 0 15) + 1)) = M') ∨ ((0 ≤ i ∧ i < (M 1 1)) ∧ (0 ≤ x ∧ x ≤ 9) ∧ (¬ ((M 6 (6 + i)) = x)) ∧ q0 = some (vi (M 6 (6 + i))) ∧ (up (kmM M) 6 (6 + i) x) = M') ∨ ((0 ≤ i ∧ i < (M 1 1)) ∧ (¬ (0 ≤ x ∧ x ≤ 9)) ∧ q0 = some (vi (-2)) ∧ (up M 0 14 ((M 0 14) + 1)) = M') ∨ ((¬ (0 ≤ i ∧ i < (M 1 1))) ∧ q0 = some (vi (-2)) ∧ (up M 0 14 ((M 0 14) + 1)) = M')) := by
  obtain ⟨iF, iG, iK, iH, iFa, aF, aG, lS, lN, lM, rS, rN, rM, aK⟩ := (show (0 ≤ M 1 0 ∧ M 1 0 ≤ 3) ∧ (0 ≤ M 1 1 ∧ M 1 1 ≤ 6) ∧ (0 ≤ M 1 2 ∧ M 1 2 ≤ 8) ∧ (0 ≤ M 6 16 ∧ M 6 16 ≤ 9999) ∧ (0 ≤ M 6 15 ∧ M 6 15 ≤ 9000) ∧ (∀ f : Int, 0 ≤ f → f < M 1 0 → (0 ≤ M 2 f ∧ M 2 f ≤ 5) ∧ (1 ≤ M 6 (12 + f) ∧ M 6 (12 + f) ≤ 10)) ∧ (∀ i : Int, 0 ≤ i → i < M 1 1 → (0 ≤ M 3 i ∧ M 3 i ≤ 5) ∧ (1 ≤ M 4 i ∧ M 4 i ≤ 4) ∧ (0 ≤ M 5 i ∧ M 5 i < M 1 0) ∧ (0 ≤ M 6 i ∧ M 6 i ≤ 11) ∧ (0 ≤ M 6 (6 + i) ∧ M 6 (6 + i) ≤ 9)) ∧ (M 8 0 = 4 ∧ M 8 1 = 5 ∧ 0 ≤ M 8 3 ∧ M 8 3 ≤ 5) ∧ (M 10 0 = 3 ∧ M 10 1 = 6 ∧ 0 ≤ M 10 3 ∧ M 10 3 ≤ 6) ∧ (M 12 0 = 5 ∧ M 12 1 = 6 ∧ 0 ≤ M 12 3 ∧ M 12 3 ≤ 6) ∧ (∀ n : Int, 0 ≤ n → n < M 8 3 → (0 ≤ M 9 (n * 4 + 0) ∧ M 9 (n * 4 + 0) ≤ 2) ∧ (1 ≤ M 9 (n * 4 + 1) ∧ M 9 (n * 4 + 1) ≤ 10) ∧ (0 ≤ M 9 (n * 4 + 2) ∧ M 9 (n * 4 + 2) ≤ 23) ∧ (0 ≤ M 9 (n * 4 + 3) ∧ M 9 (n * 4 + 3) ≤ 1)) ∧ (∀ n : Int, 0 ≤ n → n < M 10 3 → (0 ≤ M 11 (n * 3 + 0) ∧ M 11 (n * 3 + 0) ≤ 2) ∧ (0 ≤ M 11 (n * 3 + 1) ∧ M 11 (n * 3 + 1) ≤ 23) ∧ (0 ≤ M 11 (n * 3 + 2) ∧ M 11 (n * 3 + 2) ≤ 9)) ∧ (∀ n : Int, 0 ≤ n → n < M 12 3 → (0 ≤ M 13 (n * 5 + 0) ∧ M 13 (n * 5 + 0) ≤ 5) ∧ (1 ≤ M 13 (n * 5 + 1) ∧ M 13 (n * 5 + 1) ≤ 4) ∧ (0 ≤ M 13 (n * 5 + 2) ∧ M 13 (n * 5 + 2) ≤ 9) ∧ (0 ≤ M 13 (n * 5 + 3) ∧ M 13 (n * 5 + 3) ≤ 23) ∧ (0 ≤ M 13 (n * 5 + 4) ∧ M 13 (n * 5 + 4) ≤ 9)) ∧ (∀ k : Int, 0 ≤ k → k < M 1 2 → (0 ≤ M 7 (k * 17 + 16) ∧ M 7 (k * 17 + 16) ≤ 9999) ∧ (0 ≤ M 7 (k * 17 + 15) ∧ M 7 (k * 17 + 15) ≤ 9000) ∧ (∀ f : Int, 0 ≤ f → f < M 1 0 → (1 ≤ M 7 (k * 17 + (12 + f)) ∧ M 7 (k * 17 + (12 + f)) ≤ 10)) ∧ (∀ i : Int, 0 ≤ i → i < M 1 1 → (0 ≤ M 7 (k * 17 + i) ∧ M 7 (k * 17 + i) ≤ 11) ∧ (0 ≤ M 7 (k * 17 + (6 + i)) ∧ M 7 (k * 17 + (6 + i)) ≤ 9))) from hI)
  refine Hx.run 3 (pc' := 5) (L' := [some (vr 0), some (vi i), some (vi x), none]) (st' := [vi i, vr 1]) (M' := M) rfl ?_
  refine Hx.call (t := 8) (as := [vr 1, vi i]) (pc' := 8) (rest := []) rfl (c_hasGoer_1 i M) ?_
  rintro _ _ (⟨q21, rfl, rfl⟩ | ⟨q21, rfl, rfl⟩)
  · skip
    have gq21 := aG i q21.1 q21.2
    have fq21 := aF (M 5 i) (by omega) (by omega)
    refine Hx.run 2 (pc' := 12) (L' := [some (vr 0), some (vi i), some (vi x), none]) (st' := [vi x]) (M' := M) rfl ?_
    refine Hx.call (t := 119) (as := [vi x]) (pc' := 15) (rest := []) rfl (c_isLoad x M) ?_
    rintro _ _ (⟨q22, rfl, rfl⟩ | ⟨q22, rfl, rfl⟩)
    · skip
      refine Hx.run 4 (pc' := 28) (L' := [some (vr 0), some (vi i), some (vi x), none]) (st' := [vi i, vr 1]) (M' := M) rfl ?_
      refine Hx.call (t := 20) (as := [vr 1, vi i]) (pc' := 31) (rest := []) rfl (c_loadOf_1 i (by omega) M) ?_
      rintro _ _ ⟨rfl, rfl⟩
      refine Hx.run 0 (pc' := 31) (L' := [some (vr 0), some (vi i), some (vi x), none]) (st' := [vi (M 6 (6 + i))]) (M' := M) rfl ?_
      refine Hx.run 3 (pc' := 34) (L' := [some (vr 0), some (vi i), some (vi x), some (vi (M 6 (6 + i)))]) (st' := [vi x, vi (M 6 (6 + i))]) (M' := M) rfl ?_
      refine Hx.br (c := (M 6 (6 + i)) = x) (t := 37) (f := 42) rfl (fun h1 => ?_) (fun h1 => ?_)
      · skip
        refine Hx.run 1 (pc' := 38) (L' := [some (vr 0), some (vi i), some (vi x), some (vi (M 6 (6 + i)))]) (st' := [vr 0]) (M' := M) rfl ?_
        refine Hx.call (t := 115) (as := [vr 0]) (pc' := 41) (rest := []) rfl (c_no M (by omega)) ?_
        rintro _ _ ⟨rfl, rfl⟩
        refine Hx.run 0 (pc' := 41) (L' := [some (vr 0), some (vi i), some (vi x), some (vi (M 6 (6 + i)))]) (st' := [vi (-3)]) (M' := (up M 0 15 ((M 0 15) + 1))) rfl ?_
        refine Hx.ret rfl ?_
        exact Or.inl ⟨q21, q22, h1, rfl, rfl⟩
      · skip
        refine Hx.run 2 (pc' := 46) (L' := [some (vr 0), some (vi i), some (vi x), some (vi (M 6 (6 + i)))]) (st' := [vr 1]) (M' := M) rfl ?_
        refine Hx.call (t := 11) (as := [vr 1]) (pc' := 49) (rest := []) rfl (c_keepMoment  M (by omega)) ?_
        rintro _ _ ⟨rfl, rfl⟩
        refine Hx.run 0 (pc' := 49) (L' := [some (vr 0), some (vi i), some (vi x), some (vi (M 6 (6 + i)))]) (st' := []) (M' := (kmM M)) rfl ?_
        refine Hx.run 4 (pc' := 55) (L' := [some (vr 0), some (vi i), some (vi x), some (vi (M 6 (6 + i)))]) (st' := [vi x, vi i, vr 1]) (M' := (kmM M)) rfl ?_
        refine Hx.call (t := 21) (as := [vr 1, vi i, vi x]) (pc' := 58) (rest := []) rfl (c_setLoad_1 i x (kmM M) (by omega)) ?_
        rintro _ _ ⟨rfl, rfl⟩
        refine Hx.run 0 (pc' := 58) (L' := [some (vr 0), some (vi i), some (vi x), some (vi (M 6 (6 + i)))]) (st' := []) (M' := (up (kmM M) 6 (6 + i) x)) rfl ?_
        refine Hx.run 1 (pc' := 59) (L' := [some (vr 0), some (vi i), some (vi x), some (vi (M 6 (6 + i)))]) (st' := [vi (M 6 (6 + i))]) (M' := (up (kmM M) 6 (6 + i) x)) rfl ?_
        refine Hx.ret rfl ?_
        exact Or.inr (Or.inl ⟨q21, q22, h1, rfl, rfl⟩)
    · skip
      refine Hx.run 2 (pc' := 19) (L' := [some (vr 0), some (vi i), some (vi x), none]) (st' := [vr 0]) (M' := M) rfl ?_
      refine Hx.call (t := 114) (as := [vr 0]) (pc' := 22) (rest := []) rfl (c_bad M (by omega)) ?_
      rintro _ _ ⟨rfl, rfl⟩
      refine Hx.run 0 (pc' := 22) (L' := [some (vr 0), some (vi i), some (vi x), none]) (st' := [vi (-2)]) (M' := (up M 0 14 ((M 0 14) + 1))) rfl ?_
      refine Hx.ret rfl ?_
      exact Or.inr (Or.inr (Or.inl ⟨q21, q22, rfl, rfl⟩))
  · skip
    refine Hx.run 2 (pc' := 19) (L' := [some (vr 0), some (vi i), some (vi x), none]) (st' := [vr 0]) (M' := M) rfl ?_
    refine Hx.call (t := 114) (as := [vr 0]) (pc' := 22) (rest := []) rfl (c_bad M (by omega)) ?_
    rintro _ _ ⟨rfl, rfl⟩
    refine Hx.run 0 (pc' := 22) (L' := [some (vr 0), some (vi i), some (vi x), none]) (st' := [vi (-2)]) (M' := (up M 0 14 ((M 0 14) + 1))) rfl ?_
    refine Hx.ret rfl ?_
    exact Or.inr (Or.inr (Or.inr (⟨q21, rfl, rfl⟩)))
set_option maxRecDepth 100000 in
theorem C_begins (i : Int) (M : Mm) (hI : HI M 1) (hs : (0 ≤ M 0 14 ∧ M 0 14 ≤ 600) ∧ (0 ≤ M 0 15 ∧ M 0 15 ≤ 600) ∧ (0 ≤ M 0 16 ∧ M 0 16 ≤ 600)) : Ct 65 [vr 0, vi i] M (fun q0 M' => ((0 ≤ i ∧ i < (M 1 1)) ∧ ((M 6 i) = 0) ∧ q0 = some (vi (-3)) ∧ (up M 0 15 ((M 0 15) + 1)) = M') ∨ ((0 ≤ i ∧ i < (M 1 1)) ∧ (¬ ((M 6 i) = 0)) ∧ q0 = some (vi (M 6 i)) ∧ (up (kmM M) 6 i 0) = M') ∨ ((¬ (0 ≤ i ∧ i < (M 1 1))) ∧ q0 = some (vi (-2)) ∧ (up M 0 14 ((M 0 14) + 1)) = M')) := by
  obtain ⟨iF, iG, iK, iH, iFa, aF, aG, lS, lN, lM, rS, rN, rM, aK⟩ := (show (0 ≤ M 1 0 ∧ M 1 0 ≤ 3) ∧ (0 ≤ M 1 1 ∧ M 1 1 ≤ 6) ∧ (0 ≤ M 1 2 ∧ M 1 2 ≤ 8) ∧ (0 ≤ M 6 16 ∧ M 6 16 ≤ 9999) ∧ (0 ≤ M 6 15 ∧ M 6 15 ≤ 9000) ∧ (∀ f : Int, 0 ≤ f → f < M 1 0 → (0 ≤ M 2 f ∧ M 2 f ≤ 5) ∧ (1 ≤ M 6 (12 + f) ∧ M 6 (12 + f) ≤ 10)) ∧ (∀ i : Int, 0 ≤ i → i < M 1 1 → (0 ≤ M 3 i ∧ M 3 i ≤ 5) ∧ (1 ≤ M 4 i ∧ M 4 i ≤ 4) ∧ (0 ≤ M 5 i ∧ M 5 i < M 1 0) ∧ (0 ≤ M 6 i ∧ M 6 i ≤ 11) ∧ (0 ≤ M 6 (6 + i) ∧ M 6 (6 + i) ≤ 9)) ∧ (M 8 0 = 4 ∧ M 8 1 = 5 ∧ 0 ≤ M 8 3 ∧ M 8 3 ≤ 5) ∧ (M 10 0 = 3 ∧ M 10 1 = 6 ∧ 0 ≤ M 10 3 ∧ M 10 3 ≤ 6) ∧ (M 12 0 = 5 ∧ M 12 1 = 6 ∧ 0 ≤ M 12 3 ∧ M 12 3 ≤ 6) ∧ (∀ n : Int, 0 ≤ n → n < M 8 3 → (0 ≤ M 9 (n * 4 + 0) ∧ M 9 (n * 4 + 0) ≤ 2) ∧ (1 ≤ M 9 (n * 4 + 1) ∧ M 9 (n * 4 + 1) ≤ 10) ∧ (0 ≤ M 9 (n * 4 + 2) ∧ M 9 (n * 4 + 2) ≤ 23) ∧ (0 ≤ M 9 (n * 4 + 3) ∧ M 9 (n * 4 + 3) ≤ 1)) ∧ (∀ n : Int, 0 ≤ n → n < M 10 3 → (0 ≤ M 11 (n * 3 + 0) ∧ M 11 (n * 3 + 0) ≤ 2) ∧ (0 ≤ M 11 (n * 3 + 1) ∧ M 11 (n * 3 + 1) ≤ 23) ∧ (0 ≤ M 11 (n * 3 + 2) ∧ M 11 (n * 3 + 2) ≤ 9)) ∧ (∀ n : Int, 0 ≤ n → n < M 12 3 → (0 ≤ M 13 (n * 5 + 0) ∧ M 13 (n * 5 + 0) ≤ 5) ∧ (1 ≤ M 13 (n * 5 + 1) ∧ M 13 (n * 5 + 1) ≤ 4) ∧ (0 ≤ M 13 (n * 5 + 2) ∧ M 13 (n * 5 + 2) ≤ 9) ∧ (0 ≤ M 13 (n * 5 + 3) ∧ M 13 (n * 5 + 3) ≤ 23) ∧ (0 ≤ M 13 (n * 5 + 4) ∧ M 13 (n * 5 + 4) ≤ 9)) ∧ (∀ k : Int, 0 ≤ k → k < M 1 2 → (0 ≤ M 7 (k * 17 + 16) ∧ M 7 (k * 17 + 16) ≤ 9999) ∧ (0 ≤ M 7 (k * 17 + 15) ∧ M 7 (k * 17 + 15) ≤ 9000) ∧ (∀ f : Int, 0 ≤ f → f < M 1 0 → (1 ≤ M 7 (k * 17 + (12 + f)) ∧ M 7 (k * 17 + (12 + f)) ≤ 10)) ∧ (∀ i : Int, 0 ≤ i → i < M 1 1 → (0 ≤ M 7 (k * 17 + i) ∧ M 7 (k * 17 + i) ≤ 11) ∧ (0 ≤ M 7 (k * 17 + (6 + i)) ∧ M 7 (k * 17 + (6 + i)) ≤ 9))) from hI)
  refine Hx.run 3 (pc' := 5) (L' := [some (vr 0), some (vi i), none]) (st' := [vi i, vr 1]) (M' := M) rfl ?_
  refine Hx.call (t := 8) (as := [vr 1, vi i]) (pc' := 8) (rest := []) rfl (c_hasGoer_1 i M) ?_
  rintro _ _ (⟨q23, rfl, rfl⟩ | ⟨q23, rfl, rfl⟩)
  · skip
    have gq23 := aG i q23.1 q23.2
    have fq23 := aF (M 5 i) (by omega) (by omega)
    refine Hx.run 4 (pc' := 21) (L' := [some (vr 0), some (vi i), none]) (st' := [vi i, vr 1]) (M' := M) rfl ?_
    refine Hx.call (t := 18) (as := [vr 1, vi i]) (pc' := 24) (rest := []) rfl (c_stepOf_1 i (by omega) M) ?_
    rintro _ _ ⟨rfl, rfl⟩
    refine Hx.run 0 (pc' := 24) (L' := [some (vr 0), some (vi i), none]) (st' := [vi (M 6 i)]) (M' := M) rfl ?_
    refine Hx.run 2 (pc' := 26) (L' := [some (vr 0), some (vi i), some (vi (M 6 i))]) (st' := [vi (M 6 i)]) (M' := M) rfl ?_
    refine Hx.br (c := (M 6 i) = 0) (t := 29) (f := 34) rfl (fun h1 => ?_) (fun h1 => ?_)
    · skip
      refine Hx.run 1 (pc' := 30) (L' := [some (vr 0), some (vi i), some (vi (M 6 i))]) (st' := [vr 0]) (M' := M) rfl ?_
      refine Hx.call (t := 115) (as := [vr 0]) (pc' := 33) (rest := []) rfl (c_no M (by omega)) ?_
      rintro _ _ ⟨rfl, rfl⟩
      refine Hx.run 0 (pc' := 33) (L' := [some (vr 0), some (vi i), some (vi (M 6 i))]) (st' := [vi (-3)]) (M' := (up M 0 15 ((M 0 15) + 1))) rfl ?_
      refine Hx.ret rfl ?_
      exact Or.inl ⟨q23, h1, rfl, rfl⟩
    · skip
      refine Hx.run 2 (pc' := 38) (L' := [some (vr 0), some (vi i), some (vi (M 6 i))]) (st' := [vr 1]) (M' := M) rfl ?_
      refine Hx.call (t := 11) (as := [vr 1]) (pc' := 41) (rest := []) rfl (c_keepMoment  M (by omega)) ?_
      rintro _ _ ⟨rfl, rfl⟩
      refine Hx.run 0 (pc' := 41) (L' := [some (vr 0), some (vi i), some (vi (M 6 i))]) (st' := []) (M' := (kmM M)) rfl ?_
      refine Hx.run 4 (pc' := 47) (L' := [some (vr 0), some (vi i), some (vi (M 6 i))]) (st' := [vi 0, vi i, vr 1]) (M' := (kmM M)) rfl ?_
      refine Hx.call (t := 19) (as := [vr 1, vi i, vi 0]) (pc' := 50) (rest := []) rfl (c_setStep_1 i 0 (kmM M) (by omega)) ?_
      rintro _ _ ⟨rfl, rfl⟩
      refine Hx.run 0 (pc' := 50) (L' := [some (vr 0), some (vi i), some (vi (M 6 i))]) (st' := []) (M' := (up (kmM M) 6 i 0)) rfl ?_
      refine Hx.run 1 (pc' := 51) (L' := [some (vr 0), some (vi i), some (vi (M 6 i))]) (st' := [vi (M 6 i)]) (M' := (up (kmM M) 6 i 0)) rfl ?_
      refine Hx.ret rfl ?_
      exact Or.inr (Or.inl ⟨q23, h1, rfl, rfl⟩)
  · skip
    refine Hx.run 2 (pc' := 12) (L' := [some (vr 0), some (vi i), none]) (st' := [vr 0]) (M' := M) rfl ?_
    refine Hx.call (t := 114) (as := [vr 0]) (pc' := 15) (rest := []) rfl (c_bad M (by omega)) ?_
    rintro _ _ ⟨rfl, rfl⟩
    refine Hx.run 0 (pc' := 15) (L' := [some (vr 0), some (vi i), none]) (st' := [vi (-2)]) (M' := (up M 0 14 ((M 0 14) + 1))) rfl ?_
    refine Hx.ret rfl ?_
    exact Or.inr (Or.inr (⟨q23, rfl, rfl⟩))
set_option maxRecDepth 100000 in
theorem C_sells (f : Int) (s : Int) (M : Mm) (hI : HI M 1) (hs : (0 ≤ M 0 14 ∧ M 0 14 ≤ 600) ∧ (0 ≤ M 0 15 ∧ M 0 15 ≤ 600) ∧ (0 ≤ M 0 16 ∧ M 0 16 ≤ 600)) : Ct 67 [vr 0, vi f, vi s] M (fun q0 M' => ((0 ≤ f ∧ f < (M 1 0)) ∧ (1 ≤ s ∧ s ≤ 10) ∧ ((M 6 (12 + f)) = s) ∧ q0 = some (vi (-3)) ∧ (up M 0 15 ((M 0 15) + 1)) = M') ∨ ((0 ≤ f ∧ f < (M 1 0)) ∧ (1 ≤ s ∧ s ≤ 10) ∧ (¬ ((M 6 (12 + f)) = s)) ∧ q0 = some (vi (M 6 (12 + f))) ∧ (up (kmM M) 6 (12 + f) s) = M') ∨ ((0 ≤ f ∧ f < (M 1 0)) ∧ (¬ (1 ≤ s ∧ s ≤ 10)) ∧ q0 = some (vi (-2)) ∧ (up M 0 14 ((M 0 14) + 1)) = M') ∨ ((¬ (0 ≤ f ∧ f < (M 1 0))) ∧ q0 = some (vi (-2)) ∧ (up M 0 14 ((M 0 14) + 1)) = M')) := by
  obtain ⟨iF, iG, iK, iH, iFa, aF, aG, lS, lN, lM, rS, rN, rM, aK⟩ := (show (0 ≤ M 1 0 ∧ M 1 0 ≤ 3) ∧ (0 ≤ M 1 1 ∧ M 1 1 ≤ 6) ∧ (0 ≤ M 1 2 ∧ M 1 2 ≤ 8) ∧ (0 ≤ M 6 16 ∧ M 6 16 ≤ 9999) ∧ (0 ≤ M 6 15 ∧ M 6 15 ≤ 9000) ∧ (∀ f : Int, 0 ≤ f → f < M 1 0 → (0 ≤ M 2 f ∧ M 2 f ≤ 5) ∧ (1 ≤ M 6 (12 + f) ∧ M 6 (12 + f) ≤ 10)) ∧ (∀ i : Int, 0 ≤ i → i < M 1 1 → (0 ≤ M 3 i ∧ M 3 i ≤ 5) ∧ (1 ≤ M 4 i ∧ M 4 i ≤ 4) ∧ (0 ≤ M 5 i ∧ M 5 i < M 1 0) ∧ (0 ≤ M 6 i ∧ M 6 i ≤ 11) ∧ (0 ≤ M 6 (6 + i) ∧ M 6 (6 + i) ≤ 9)) ∧ (M 8 0 = 4 ∧ M 8 1 = 5 ∧ 0 ≤ M 8 3 ∧ M 8 3 ≤ 5) ∧ (M 10 0 = 3 ∧ M 10 1 = 6 ∧ 0 ≤ M 10 3 ∧ M 10 3 ≤ 6) ∧ (M 12 0 = 5 ∧ M 12 1 = 6 ∧ 0 ≤ M 12 3 ∧ M 12 3 ≤ 6) ∧ (∀ n : Int, 0 ≤ n → n < M 8 3 → (0 ≤ M 9 (n * 4 + 0) ∧ M 9 (n * 4 + 0) ≤ 2) ∧ (1 ≤ M 9 (n * 4 + 1) ∧ M 9 (n * 4 + 1) ≤ 10) ∧ (0 ≤ M 9 (n * 4 + 2) ∧ M 9 (n * 4 + 2) ≤ 23) ∧ (0 ≤ M 9 (n * 4 + 3) ∧ M 9 (n * 4 + 3) ≤ 1)) ∧ (∀ n : Int, 0 ≤ n → n < M 10 3 → (0 ≤ M 11 (n * 3 + 0) ∧ M 11 (n * 3 + 0) ≤ 2) ∧ (0 ≤ M 11 (n * 3 + 1) ∧ M 11 (n * 3 + 1) ≤ 23) ∧ (0 ≤ M 11 (n * 3 + 2) ∧ M 11 (n * 3 + 2) ≤ 9)) ∧ (∀ n : Int, 0 ≤ n → n < M 12 3 → (0 ≤ M 13 (n * 5 + 0) ∧ M 13 (n * 5 + 0) ≤ 5) ∧ (1 ≤ M 13 (n * 5 + 1) ∧ M 13 (n * 5 + 1) ≤ 4) ∧ (0 ≤ M 13 (n * 5 + 2) ∧ M 13 (n * 5 + 2) ≤ 9) ∧ (0 ≤ M 13 (n * 5 + 3) ∧ M 13 (n * 5 + 3) ≤ 23) ∧ (0 ≤ M 13 (n * 5 + 4) ∧ M 13 (n * 5 + 4) ≤ 9)) ∧ (∀ k : Int, 0 ≤ k → k < M 1 2 → (0 ≤ M 7 (k * 17 + 16) ∧ M 7 (k * 17 + 16) ≤ 9999) ∧ (0 ≤ M 7 (k * 17 + 15) ∧ M 7 (k * 17 + 15) ≤ 9000) ∧ (∀ f : Int, 0 ≤ f → f < M 1 0 → (1 ≤ M 7 (k * 17 + (12 + f)) ∧ M 7 (k * 17 + (12 + f)) ≤ 10)) ∧ (∀ i : Int, 0 ≤ i → i < M 1 1 → (0 ≤ M 7 (k * 17 + i) ∧ M 7 (k * 17 + i) ≤ 11) ∧ (0 ≤ M 7 (k * 17 + (6 + i)) ∧ M 7 (k * 17 + (6 + i)) ≤ 9))) from hI)
  refine Hx.run 3 (pc' := 5) (L' := [some (vr 0), some (vi f), some (vi s), none]) (st' := [vi f, vr 1]) (M' := M) rfl ?_
  refine Hx.call (t := 7) (as := [vr 1, vi f]) (pc' := 8) (rest := []) rfl (c_hasFlight_1 f M) ?_
  rintro _ _ (⟨q24, rfl, rfl⟩ | ⟨q24, rfl, rfl⟩)
  · skip
    have fq24 := aF f q24.1 q24.2
    refine Hx.run 2 (pc' := 12) (L' := [some (vr 0), some (vi f), some (vi s), none]) (st' := [vi s]) (M' := M) rfl ?_
    refine Hx.call (t := 118) (as := [vi s]) (pc' := 15) (rest := []) rfl (c_isOwnable s M) ?_
    rintro _ _ (⟨q25, rfl, rfl⟩ | ⟨q25, rfl, rfl⟩)
    · skip
      refine Hx.run 4 (pc' := 28) (L' := [some (vr 0), some (vi f), some (vi s), none]) (st' := [vi f, vr 1]) (M' := M) rfl ?_
      refine Hx.call (t := 14) (as := [vr 1, vi f]) (pc' := 31) (rest := []) rfl (c_ownerStep_1 f (by omega) M) ?_
      rintro _ _ ⟨rfl, rfl⟩
      refine Hx.run 0 (pc' := 31) (L' := [some (vr 0), some (vi f), some (vi s), none]) (st' := [vi (M 6 (12 + f))]) (M' := M) rfl ?_
      refine Hx.run 3 (pc' := 34) (L' := [some (vr 0), some (vi f), some (vi s), some (vi (M 6 (12 + f)))]) (st' := [vi s, vi (M 6 (12 + f))]) (M' := M) rfl ?_
      refine Hx.br (c := (M 6 (12 + f)) = s) (t := 37) (f := 42) rfl (fun h1 => ?_) (fun h1 => ?_)
      · skip
        refine Hx.run 1 (pc' := 38) (L' := [some (vr 0), some (vi f), some (vi s), some (vi (M 6 (12 + f)))]) (st' := [vr 0]) (M' := M) rfl ?_
        refine Hx.call (t := 115) (as := [vr 0]) (pc' := 41) (rest := []) rfl (c_no M (by omega)) ?_
        rintro _ _ ⟨rfl, rfl⟩
        refine Hx.run 0 (pc' := 41) (L' := [some (vr 0), some (vi f), some (vi s), some (vi (M 6 (12 + f)))]) (st' := [vi (-3)]) (M' := (up M 0 15 ((M 0 15) + 1))) rfl ?_
        refine Hx.ret rfl ?_
        exact Or.inl ⟨q24, q25, h1, rfl, rfl⟩
      · skip
        refine Hx.run 2 (pc' := 46) (L' := [some (vr 0), some (vi f), some (vi s), some (vi (M 6 (12 + f)))]) (st' := [vr 1]) (M' := M) rfl ?_
        refine Hx.call (t := 11) (as := [vr 1]) (pc' := 49) (rest := []) rfl (c_keepMoment  M (by omega)) ?_
        rintro _ _ ⟨rfl, rfl⟩
        refine Hx.run 0 (pc' := 49) (L' := [some (vr 0), some (vi f), some (vi s), some (vi (M 6 (12 + f)))]) (st' := []) (M' := (kmM M)) rfl ?_
        refine Hx.run 4 (pc' := 55) (L' := [some (vr 0), some (vi f), some (vi s), some (vi (M 6 (12 + f)))]) (st' := [vi s, vi f, vr 1]) (M' := (kmM M)) rfl ?_
        refine Hx.call (t := 15) (as := [vr 1, vi f, vi s]) (pc' := 58) (rest := []) rfl (c_setOwnerStep_1 f s (kmM M) (by omega)) ?_
        rintro _ _ ⟨rfl, rfl⟩
        refine Hx.run 0 (pc' := 58) (L' := [some (vr 0), some (vi f), some (vi s), some (vi (M 6 (12 + f)))]) (st' := []) (M' := (up (kmM M) 6 (12 + f) s)) rfl ?_
        refine Hx.run 1 (pc' := 59) (L' := [some (vr 0), some (vi f), some (vi s), some (vi (M 6 (12 + f)))]) (st' := [vi (M 6 (12 + f))]) (M' := (up (kmM M) 6 (12 + f) s)) rfl ?_
        refine Hx.ret rfl ?_
        exact Or.inr (Or.inl ⟨q24, q25, h1, rfl, rfl⟩)
    · skip
      refine Hx.run 2 (pc' := 19) (L' := [some (vr 0), some (vi f), some (vi s), none]) (st' := [vr 0]) (M' := M) rfl ?_
      refine Hx.call (t := 114) (as := [vr 0]) (pc' := 22) (rest := []) rfl (c_bad M (by omega)) ?_
      rintro _ _ ⟨rfl, rfl⟩
      refine Hx.run 0 (pc' := 22) (L' := [some (vr 0), some (vi f), some (vi s), none]) (st' := [vi (-2)]) (M' := (up M 0 14 ((M 0 14) + 1))) rfl ?_
      refine Hx.ret rfl ?_
      exact Or.inr (Or.inr (Or.inl ⟨q24, q25, rfl, rfl⟩))
  · skip
    refine Hx.run 2 (pc' := 19) (L' := [some (vr 0), some (vi f), some (vi s), none]) (st' := [vr 0]) (M' := M) rfl ?_
    refine Hx.call (t := 114) (as := [vr 0]) (pc' := 22) (rest := []) rfl (c_bad M (by omega)) ?_
    rintro _ _ ⟨rfl, rfl⟩
    refine Hx.run 0 (pc' := 22) (L' := [some (vr 0), some (vi f), some (vi s), none]) (st' := [vi (-2)]) (M' := (up M 0 14 ((M 0 14) + 1))) rfl ?_
    refine Hx.ret rfl ?_
    exact Or.inr (Or.inr (Or.inr (⟨q24, rfl, rfl⟩)))
set_option maxRecDepth 100000 in
theorem C_part (w : Int) (M : Mm) (hI : HI M 1) (hs : (0 ≤ M 0 14 ∧ M 0 14 ≤ 600) ∧ (0 ≤ M 0 15 ∧ M 0 15 ≤ 600) ∧ (0 ≤ M 0 16 ∧ M 0 16 ≤ 600)) : Ct 107 [vr 0, vi w] M (fun q0 M' => ((w < 0) ∧ q0 = some (vl (-2)) ∧ (up M 0 14 ((M 0 14) + 1)) = M') ∨ ((¬ (w < 0)) ∧ (1 < w) ∧ q0 = some (vl (-2)) ∧ (up M 0 14 ((M 0 14) + 1)) = M') ∨ ((¬ (w < 0)) ∧ (¬ (1 < w)) ∧ (w = 0) ∧ q0 = some (vl (M 0 12)) ∧ M = M') ∨ ((¬ (w < 0)) ∧ (¬ (1 < w)) ∧ (¬ (w = 0)) ∧ q0 = some (vl (M 0 13)) ∧ M = M')) := by
  obtain ⟨iF, iG, iK, iH, iFa, aF, aG, lS, lN, lM, rS, rN, rM, aK⟩ := (show (0 ≤ M 1 0 ∧ M 1 0 ≤ 3) ∧ (0 ≤ M 1 1 ∧ M 1 1 ≤ 6) ∧ (0 ≤ M 1 2 ∧ M 1 2 ≤ 8) ∧ (0 ≤ M 6 16 ∧ M 6 16 ≤ 9999) ∧ (0 ≤ M 6 15 ∧ M 6 15 ≤ 9000) ∧ (∀ f : Int, 0 ≤ f → f < M 1 0 → (0 ≤ M 2 f ∧ M 2 f ≤ 5) ∧ (1 ≤ M 6 (12 + f) ∧ M 6 (12 + f) ≤ 10)) ∧ (∀ i : Int, 0 ≤ i → i < M 1 1 → (0 ≤ M 3 i ∧ M 3 i ≤ 5) ∧ (1 ≤ M 4 i ∧ M 4 i ≤ 4) ∧ (0 ≤ M 5 i ∧ M 5 i < M 1 0) ∧ (0 ≤ M 6 i ∧ M 6 i ≤ 11) ∧ (0 ≤ M 6 (6 + i) ∧ M 6 (6 + i) ≤ 9)) ∧ (M 8 0 = 4 ∧ M 8 1 = 5 ∧ 0 ≤ M 8 3 ∧ M 8 3 ≤ 5) ∧ (M 10 0 = 3 ∧ M 10 1 = 6 ∧ 0 ≤ M 10 3 ∧ M 10 3 ≤ 6) ∧ (M 12 0 = 5 ∧ M 12 1 = 6 ∧ 0 ≤ M 12 3 ∧ M 12 3 ≤ 6) ∧ (∀ n : Int, 0 ≤ n → n < M 8 3 → (0 ≤ M 9 (n * 4 + 0) ∧ M 9 (n * 4 + 0) ≤ 2) ∧ (1 ≤ M 9 (n * 4 + 1) ∧ M 9 (n * 4 + 1) ≤ 10) ∧ (0 ≤ M 9 (n * 4 + 2) ∧ M 9 (n * 4 + 2) ≤ 23) ∧ (0 ≤ M 9 (n * 4 + 3) ∧ M 9 (n * 4 + 3) ≤ 1)) ∧ (∀ n : Int, 0 ≤ n → n < M 10 3 → (0 ≤ M 11 (n * 3 + 0) ∧ M 11 (n * 3 + 0) ≤ 2) ∧ (0 ≤ M 11 (n * 3 + 1) ∧ M 11 (n * 3 + 1) ≤ 23) ∧ (0 ≤ M 11 (n * 3 + 2) ∧ M 11 (n * 3 + 2) ≤ 9)) ∧ (∀ n : Int, 0 ≤ n → n < M 12 3 → (0 ≤ M 13 (n * 5 + 0) ∧ M 13 (n * 5 + 0) ≤ 5) ∧ (1 ≤ M 13 (n * 5 + 1) ∧ M 13 (n * 5 + 1) ≤ 4) ∧ (0 ≤ M 13 (n * 5 + 2) ∧ M 13 (n * 5 + 2) ≤ 9) ∧ (0 ≤ M 13 (n * 5 + 3) ∧ M 13 (n * 5 + 3) ≤ 23) ∧ (0 ≤ M 13 (n * 5 + 4) ∧ M 13 (n * 5 + 4) ≤ 9)) ∧ (∀ k : Int, 0 ≤ k → k < M 1 2 → (0 ≤ M 7 (k * 17 + 16) ∧ M 7 (k * 17 + 16) ≤ 9999) ∧ (0 ≤ M 7 (k * 17 + 15) ∧ M 7 (k * 17 + 15) ≤ 9000) ∧ (∀ f : Int, 0 ≤ f → f < M 1 0 → (1 ≤ M 7 (k * 17 + (12 + f)) ∧ M 7 (k * 17 + (12 + f)) ≤ 10)) ∧ (∀ i : Int, 0 ≤ i → i < M 1 1 → (0 ≤ M 7 (k * 17 + i) ∧ M 7 (k * 17 + i) ≤ 11) ∧ (0 ≤ M 7 (k * 17 + (6 + i)) ∧ M 7 (k * 17 + (6 + i)) ≤ 9))) from hI)
  refine Hx.run 1 (pc' := 1) (L' := [some (vr 0), some (vi w)]) (st' := [vi w]) (M' := M) rfl ?_
  refine Hx.br (c := w < 0) (t := 9) (f := 4) rfl (fun h1 => ?_) (fun h1 => ?_)
  · skip
    refine Hx.run 1 (pc' := 10) (L' := [some (vr 0), some (vi w)]) (st' := [vr 0]) (M' := M) rfl ?_
    refine Hx.call (t := 114) (as := [vr 0]) (pc' := 13) (rest := []) rfl (c_bad M (by omega)) ?_
    rintro _ _ ⟨rfl, rfl⟩
    refine Hx.run 0 (pc' := 13) (L' := [some (vr 0), some (vi w)]) (st' := [vi (-2)]) (M' := (up M 0 14 ((M 0 14) + 1))) rfl ?_
    refine Hx.run 1 (pc' := 14) (L' := [some (vr 0), some (vi w)]) (st' := [vl (-2)]) (M' := (up M 0 14 ((M 0 14) + 1))) rfl ?_
    refine Hx.ret rfl ?_
    exact Or.inl ⟨h1, rfl, rfl⟩
  · skip
    refine Hx.run 2 (pc' := 6) (L' := [some (vr 0), some (vi w)]) (st' := [vi 1, vi w]) (M' := M) rfl ?_
    refine Hx.br (c := 1 < w) (t := 9) (f := 15) rfl (fun h2 => ?_) (fun h2 => ?_)
    · skip
      refine Hx.run 1 (pc' := 10) (L' := [some (vr 0), some (vi w)]) (st' := [vr 0]) (M' := M) rfl ?_
      refine Hx.call (t := 114) (as := [vr 0]) (pc' := 13) (rest := []) rfl (c_bad M (by omega)) ?_
      rintro _ _ ⟨rfl, rfl⟩
      refine Hx.run 0 (pc' := 13) (L' := [some (vr 0), some (vi w)]) (st' := [vi (-2)]) (M' := (up M 0 14 ((M 0 14) + 1))) rfl ?_
      refine Hx.run 1 (pc' := 14) (L' := [some (vr 0), some (vi w)]) (st' := [vl (-2)]) (M' := (up M 0 14 ((M 0 14) + 1))) rfl ?_
      refine Hx.ret rfl ?_
      exact Or.inr (Or.inl ⟨h1, h2, rfl, rfl⟩)
    · skip
      refine Hx.run 1 (pc' := 16) (L' := [some (vr 0), some (vi w)]) (st' := [vi w]) (M' := M) rfl ?_
      refine Hx.br (c := w = 0) (t := 19) (f := 26) rfl (fun h3 => ?_) (fun h3 => ?_)
      · skip
        refine Hx.run 3 (pc' := 30) (L' := [some (vr 0), some (vi w)]) (st' := [vl (M 0 12)]) (M' := M) rfl ?_
        refine Hx.ret rfl ?_
        exact Or.inr (Or.inr (Or.inl ⟨h1, h2, h3, rfl, rfl⟩))
      · skip
        refine Hx.run 2 (pc' := 30) (L' := [some (vr 0), some (vi w)]) (st' := [vl (M 0 13)]) (M' := M) rfl ?_
        refine Hx.ret rfl ?_
        exact Or.inr (Or.inr (Or.inr (⟨h1, h2, h3, rfl, rfl⟩)))
set_option maxRecDepth 100000 in
theorem C_image (i : Int) (M : Mm) (hI : HI M 1) (hs : (0 ≤ M 0 14 ∧ M 0 14 ≤ 600) ∧ (0 ≤ M 0 15 ∧ M 0 15 ≤ 600) ∧ (0 ≤ M 0 16 ∧ M 0 16 ≤ 600)) : Ct 108 [vr 0, vi i] M (fun q0 M' => ((i < 0) ∧ q0 = some (vi (-2)) ∧ (up M 0 14 ((M 0 14) + 1)) = M') ∨ ((¬ (i < 0)) ∧ (1 < i) ∧ q0 = some (vi (-2)) ∧ (up M 0 14 ((M 0 14) + 1)) = M') ∨ ((¬ (i < 0)) ∧ (¬ (1 < i)) ∧ (i = 0) ∧ q0 = some (vi 1) ∧ (up (tkM M 14 1) 0 3 1) = M') ∨ ((¬ (i < 0)) ∧ (¬ (1 < i)) ∧ (¬ (i = 0)) ∧ q0 = some (vi 1) ∧ (up (tkM M 27 1) 0 4 1) = M')) := by
  obtain ⟨iF, iG, iK, iH, iFa, aF, aG, lS, lN, lM, rS, rN, rM, aK⟩ := (show (0 ≤ M 1 0 ∧ M 1 0 ≤ 3) ∧ (0 ≤ M 1 1 ∧ M 1 1 ≤ 6) ∧ (0 ≤ M 1 2 ∧ M 1 2 ≤ 8) ∧ (0 ≤ M 6 16 ∧ M 6 16 ≤ 9999) ∧ (0 ≤ M 6 15 ∧ M 6 15 ≤ 9000) ∧ (∀ f : Int, 0 ≤ f → f < M 1 0 → (0 ≤ M 2 f ∧ M 2 f ≤ 5) ∧ (1 ≤ M 6 (12 + f) ∧ M 6 (12 + f) ≤ 10)) ∧ (∀ i : Int, 0 ≤ i → i < M 1 1 → (0 ≤ M 3 i ∧ M 3 i ≤ 5) ∧ (1 ≤ M 4 i ∧ M 4 i ≤ 4) ∧ (0 ≤ M 5 i ∧ M 5 i < M 1 0) ∧ (0 ≤ M 6 i ∧ M 6 i ≤ 11) ∧ (0 ≤ M 6 (6 + i) ∧ M 6 (6 + i) ≤ 9)) ∧ (M 8 0 = 4 ∧ M 8 1 = 5 ∧ 0 ≤ M 8 3 ∧ M 8 3 ≤ 5) ∧ (M 10 0 = 3 ∧ M 10 1 = 6 ∧ 0 ≤ M 10 3 ∧ M 10 3 ≤ 6) ∧ (M 12 0 = 5 ∧ M 12 1 = 6 ∧ 0 ≤ M 12 3 ∧ M 12 3 ≤ 6) ∧ (∀ n : Int, 0 ≤ n → n < M 8 3 → (0 ≤ M 9 (n * 4 + 0) ∧ M 9 (n * 4 + 0) ≤ 2) ∧ (1 ≤ M 9 (n * 4 + 1) ∧ M 9 (n * 4 + 1) ≤ 10) ∧ (0 ≤ M 9 (n * 4 + 2) ∧ M 9 (n * 4 + 2) ≤ 23) ∧ (0 ≤ M 9 (n * 4 + 3) ∧ M 9 (n * 4 + 3) ≤ 1)) ∧ (∀ n : Int, 0 ≤ n → n < M 10 3 → (0 ≤ M 11 (n * 3 + 0) ∧ M 11 (n * 3 + 0) ≤ 2) ∧ (0 ≤ M 11 (n * 3 + 1) ∧ M 11 (n * 3 + 1) ≤ 23) ∧ (0 ≤ M 11 (n * 3 + 2) ∧ M 11 (n * 3 + 2) ≤ 9)) ∧ (∀ n : Int, 0 ≤ n → n < M 12 3 → (0 ≤ M 13 (n * 5 + 0) ∧ M 13 (n * 5 + 0) ≤ 5) ∧ (1 ≤ M 13 (n * 5 + 1) ∧ M 13 (n * 5 + 1) ≤ 4) ∧ (0 ≤ M 13 (n * 5 + 2) ∧ M 13 (n * 5 + 2) ≤ 9) ∧ (0 ≤ M 13 (n * 5 + 3) ∧ M 13 (n * 5 + 3) ≤ 23) ∧ (0 ≤ M 13 (n * 5 + 4) ∧ M 13 (n * 5 + 4) ≤ 9)) ∧ (∀ k : Int, 0 ≤ k → k < M 1 2 → (0 ≤ M 7 (k * 17 + 16) ∧ M 7 (k * 17 + 16) ≤ 9999) ∧ (0 ≤ M 7 (k * 17 + 15) ∧ M 7 (k * 17 + 15) ≤ 9000) ∧ (∀ f : Int, 0 ≤ f → f < M 1 0 → (1 ≤ M 7 (k * 17 + (12 + f)) ∧ M 7 (k * 17 + (12 + f)) ≤ 10)) ∧ (∀ i : Int, 0 ≤ i → i < M 1 1 → (0 ≤ M 7 (k * 17 + i) ∧ M 7 (k * 17 + i) ≤ 11) ∧ (0 ≤ M 7 (k * 17 + (6 + i)) ∧ M 7 (k * 17 + (6 + i)) ≤ 9))) from hI)
  refine Hx.run 1 (pc' := 1) (L' := [some (vr 0), some (vi i)]) (st' := [vi i]) (M' := M) rfl ?_
  refine Hx.br (c := i < 0) (t := 9) (f := 4) rfl (fun h1 => ?_) (fun h1 => ?_)
  · skip
    refine Hx.run 1 (pc' := 10) (L' := [some (vr 0), some (vi i)]) (st' := [vr 0]) (M' := M) rfl ?_
    refine Hx.call (t := 114) (as := [vr 0]) (pc' := 13) (rest := []) rfl (c_bad M (by omega)) ?_
    rintro _ _ ⟨rfl, rfl⟩
    refine Hx.run 0 (pc' := 13) (L' := [some (vr 0), some (vi i)]) (st' := [vi (-2)]) (M' := (up M 0 14 ((M 0 14) + 1))) rfl ?_
    refine Hx.ret rfl ?_
    exact Or.inl ⟨h1, rfl, rfl⟩
  · skip
    refine Hx.run 2 (pc' := 6) (L' := [some (vr 0), some (vi i)]) (st' := [vi 1, vi i]) (M' := M) rfl ?_
    refine Hx.br (c := 1 < i) (t := 9) (f := 14) rfl (fun h2 => ?_) (fun h2 => ?_)
    · skip
      refine Hx.run 1 (pc' := 10) (L' := [some (vr 0), some (vi i)]) (st' := [vr 0]) (M' := M) rfl ?_
      refine Hx.call (t := 114) (as := [vr 0]) (pc' := 13) (rest := []) rfl (c_bad M (by omega)) ?_
      rintro _ _ ⟨rfl, rfl⟩
      refine Hx.run 0 (pc' := 13) (L' := [some (vr 0), some (vi i)]) (st' := [vi (-2)]) (M' := (up M 0 14 ((M 0 14) + 1))) rfl ?_
      refine Hx.ret rfl ?_
      exact Or.inr (Or.inl ⟨h1, h2, rfl, rfl⟩)
    · skip
      refine Hx.run 1 (pc' := 15) (L' := [some (vr 0), some (vi i)]) (st' := [vi i]) (M' := M) rfl ?_
      refine Hx.br (c := i = 0) (t := 18) (f := 37) rfl (fun h3 => ?_) (fun h3 => ?_)
      · skip
        refine Hx.run 4 (pc' := 26) (L' := [some (vr 0), some (vi i)]) (st' := [vr 1, vr 14]) (M' := M) rfl ?_
        refine Hx.call (t := 6) (as := [vr 14, vr 1]) (pc' := 29) (rest := []) rfl (c_takeOver_14_1 M) ?_
        rintro _ _ ⟨rfl, rfl⟩
        refine Hx.run 0 (pc' := 29) (L' := [some (vr 0), some (vi i)]) (st' := []) (M' := (tkM M 14 1)) rfl ?_
        refine Hx.run 5 (pc' := 54) (L' := [some (vr 0), some (vi i)]) (st' := [vi 1]) (M' := (up (tkM M 14 1) 0 3 1)) rfl ?_
        refine Hx.ret rfl ?_
        exact Or.inr (Or.inr (Or.inl ⟨h1, h2, h3, rfl, rfl⟩))
      · skip
        refine Hx.run 4 (pc' := 45) (L' := [some (vr 0), some (vi i)]) (st' := [vr 1, vr 27]) (M' := M) rfl ?_
        refine Hx.call (t := 6) (as := [vr 27, vr 1]) (pc' := 48) (rest := []) rfl (c_takeOver_27_1 M) ?_
        rintro _ _ ⟨rfl, rfl⟩
        refine Hx.run 0 (pc' := 48) (L' := [some (vr 0), some (vi i)]) (st' := []) (M' := (tkM M 27 1)) rfl ?_
        refine Hx.run 4 (pc' := 54) (L' := [some (vr 0), some (vi i)]) (st' := [vi 1]) (M' := (up (tkM M 27 1) 0 4 1)) rfl ?_
        refine Hx.ret rfl ?_
        exact Or.inr (Or.inr (Or.inr (⟨h1, h2, h3, rfl, rfl⟩)))
end
section
/-! the class: more members (written by wip/whole/gen20.py) -/
theorem kmM_ne {M : Mm} {r : Nat} (h1 : r ≠ 1) (h7 : r ≠ 7) : kmM M r = M r := by
  unfold kmM
  split
  · rw [up_ne h1, cp_ne h7, up_ne h1, cp_ne h7]
  · rw [up_ne h1, cp_ne h7]
theorem kmM_1 {M : Mm} {i : Int} (hi : i ≠ 2) : kmM M 1 i = M 1 i := by
  unfold kmM
  split
  · rw [up_off hi, cp_ne (by decide), up_off hi, cp_ne (by decide)]
  · rw [up_off hi, cp_ne (by decide)]
theorem ov_succ (A : Int → Int) (n : Nat) : ov A (n + 1) = ov A n + (if 11 ≤ A n then 1 else 0) := rfl
theorem km2 {M : Mm} : kmM M 2 = M 2 := kmM_ne (by decide) (by decide)
theorem km3 {M : Mm} : kmM M 3 = M 3 := kmM_ne (by decide) (by decide)
theorem km4 {M : Mm} : kmM M 4 = M 4 := kmM_ne (by decide) (by decide)
theorem km5 {M : Mm} : kmM M 5 = M 5 := kmM_ne (by decide) (by decide)
theorem km6 {M : Mm} : kmM M 6 = M 6 := kmM_ne (by decide) (by decide)
theorem km0 {M : Mm} : kmM M 0 = M 0 := kmM_ne (by decide) (by decide)
set_option maxRecDepth 100000 in
theorem c_append (c : Int) (M : Mm) (ht : 0 ≤ M 59 1 ∧ M 59 1 < 150) : Ct 41 [vr 59, vi c] M (fun q0 M' => q0 = some (vi (M 59 1 + 1)) ∧ up (up M 60 (M 59 1) c) 59 1 (M 59 1 + 1) = M') := by
  refine Hx.run 5 (pc' := 9) (L' := [some (vr 59), some (vi c)]) (st' := [vi c, vi (M 59 1), vr 60]) (M' := M) rfl ?_
  refine Hx.call (t := 122) (as := [vr 60, vi (M 59 1), vi c]) (pc' := 12) (rest := []) rfl (c_put (r := 60) (n := 150) rfl (by decide) (i := (M 59 1)) (by omega) c M) ?_
  rintro _ _ ⟨rfl, rfl⟩
  refine Hx.run 0 (pc' := 12) (L' := [some (vr 59), some (vi c)]) (st' := []) (M' := (up M 60 (M 59 1) c)) rfl ?_
  refine Hx.run 4 (pc' := 18) (L' := [some (vr 59), some (vi c)]) (st' := [vi 1, vi (M 59 1), vr 59]) (M' := (up M 60 (M 59 1) c)) rfl ?_
  refine Hx.add rfl (by omega) ?_
  refine Hx.run 3 (pc' := 26) (L' := [some (vr 59), some (vi c)]) (st' := [vi ((M 59 1) + 1)]) (M' := (up (up M 60 (M 59 1) c) 59 1 ((M 59 1) + 1))) rfl ?_
  refine Hx.ret rfl ?_
  exact ⟨rfl, rfl⟩
set_option maxRecDepth 100000 in
theorem C_type (c : Int) (M : Mm) (hI : HI M 1) (hs : (0 ≤ M 0 14 ∧ M 0 14 ≤ 600) ∧ (0 ≤ M 0 15 ∧ M 0 15 ≤ 600) ∧ (0 ≤ M 0 16 ∧ M 0 16 ≤ 600)) (ht : 0 ≤ M 59 1 ∧ M 59 1 ≤ 150) : Ct 61 [vr 0, vi c] M (fun q0 M' => ((c < 0) ∧ q0 = some (vi (-2)) ∧ (up M 0 14 ((M 0 14) + 1)) = M') ∨ ((¬ (c < 0)) ∧ (127 < c) ∧ q0 = some (vi (-2)) ∧ (up M 0 14 ((M 0 14) + 1)) = M') ∨ ((¬ (c < 0)) ∧ (¬ (127 < c)) ∧ ((M 59 1) < 150) ∧ q0 = some (vi (M 59 1 + 1)) ∧ (up (up M 60 (M 59 1) c) 59 1 ((M 59 1) + 1)) = M') ∨ ((¬ (c < 0)) ∧ (¬ (127 < c)) ∧ (¬ ((M 59 1) < 150)) ∧ q0 = some (vi (-4)) ∧ (up M 0 16 ((M 0 16) + 1)) = M')) := by
  obtain ⟨iF, iG, iK, iH, iFa, aF, aG, lS, lN, lM, rS, rN, rM, aK⟩ := (show (0 ≤ M 1 0 ∧ M 1 0 ≤ 3) ∧ (0 ≤ M 1 1 ∧ M 1 1 ≤ 6) ∧ (0 ≤ M 1 2 ∧ M 1 2 ≤ 8) ∧ (0 ≤ M 6 16 ∧ M 6 16 ≤ 9999) ∧ (0 ≤ M 6 15 ∧ M 6 15 ≤ 9000) ∧ (∀ f : Int, 0 ≤ f → f < M 1 0 → (0 ≤ M 2 f ∧ M 2 f ≤ 5) ∧ (1 ≤ M 6 (12 + f) ∧ M 6 (12 + f) ≤ 10)) ∧ (∀ i : Int, 0 ≤ i → i < M 1 1 → (0 ≤ M 3 i ∧ M 3 i ≤ 5) ∧ (1 ≤ M 4 i ∧ M 4 i ≤ 4) ∧ (0 ≤ M 5 i ∧ M 5 i < M 1 0) ∧ (0 ≤ M 6 i ∧ M 6 i ≤ 11) ∧ (0 ≤ M 6 (6 + i) ∧ M 6 (6 + i) ≤ 9)) ∧ (M 8 0 = 4 ∧ M 8 1 = 5 ∧ 0 ≤ M 8 3 ∧ M 8 3 ≤ 5) ∧ (M 10 0 = 3 ∧ M 10 1 = 6 ∧ 0 ≤ M 10 3 ∧ M 10 3 ≤ 6) ∧ (M 12 0 = 5 ∧ M 12 1 = 6 ∧ 0 ≤ M 12 3 ∧ M 12 3 ≤ 6) ∧ (∀ n : Int, 0 ≤ n → n < M 8 3 → (0 ≤ M 9 (n * 4 + 0) ∧ M 9 (n * 4 + 0) ≤ 2) ∧ (1 ≤ M 9 (n * 4 + 1) ∧ M 9 (n * 4 + 1) ≤ 10) ∧ (0 ≤ M 9 (n * 4 + 2) ∧ M 9 (n * 4 + 2) ≤ 23) ∧ (0 ≤ M 9 (n * 4 + 3) ∧ M 9 (n * 4 + 3) ≤ 1)) ∧ (∀ n : Int, 0 ≤ n → n < M 10 3 → (0 ≤ M 11 (n * 3 + 0) ∧ M 11 (n * 3 + 0) ≤ 2) ∧ (0 ≤ M 11 (n * 3 + 1) ∧ M 11 (n * 3 + 1) ≤ 23) ∧ (0 ≤ M 11 (n * 3 + 2) ∧ M 11 (n * 3 + 2) ≤ 9)) ∧ (∀ n : Int, 0 ≤ n → n < M 12 3 → (0 ≤ M 13 (n * 5 + 0) ∧ M 13 (n * 5 + 0) ≤ 5) ∧ (1 ≤ M 13 (n * 5 + 1) ∧ M 13 (n * 5 + 1) ≤ 4) ∧ (0 ≤ M 13 (n * 5 + 2) ∧ M 13 (n * 5 + 2) ≤ 9) ∧ (0 ≤ M 13 (n * 5 + 3) ∧ M 13 (n * 5 + 3) ≤ 23) ∧ (0 ≤ M 13 (n * 5 + 4) ∧ M 13 (n * 5 + 4) ≤ 9)) ∧ (∀ k : Int, 0 ≤ k → k < M 1 2 → (0 ≤ M 7 (k * 17 + 16) ∧ M 7 (k * 17 + 16) ≤ 9999) ∧ (0 ≤ M 7 (k * 17 + 15) ∧ M 7 (k * 17 + 15) ≤ 9000) ∧ (∀ f : Int, 0 ≤ f → f < M 1 0 → (1 ≤ M 7 (k * 17 + (12 + f)) ∧ M 7 (k * 17 + (12 + f)) ≤ 10)) ∧ (∀ i : Int, 0 ≤ i → i < M 1 1 → (0 ≤ M 7 (k * 17 + i) ∧ M 7 (k * 17 + i) ≤ 11) ∧ (0 ≤ M 7 (k * 17 + (6 + i)) ∧ M 7 (k * 17 + (6 + i)) ≤ 9))) from hI)
  refine Hx.run 1 (pc' := 1) (L' := [some (vr 0), some (vi c)]) (st' := [vi c]) (M' := M) rfl ?_
  refine Hx.br (c := c < 0) (t := 10) (f := 4) rfl (fun h1 => ?_) (fun h1 => ?_)
  · skip
    refine Hx.run 1 (pc' := 11) (L' := [some (vr 0), some (vi c)]) (st' := [vr 0]) (M' := M) rfl ?_
    refine Hx.call (t := 114) (as := [vr 0]) (pc' := 14) (rest := []) rfl (c_bad M (by omega)) ?_
    rintro _ _ ⟨rfl, rfl⟩
    refine Hx.run 0 (pc' := 14) (L' := [some (vr 0), some (vi c)]) (st' := [vi (-2)]) (M' := (up M 0 14 ((M 0 14) + 1))) rfl ?_
    refine Hx.ret rfl ?_
    exact Or.inl ⟨h1, rfl, rfl⟩
  · skip
    refine Hx.run 2 (pc' := 7) (L' := [some (vr 0), some (vi c)]) (st' := [vi 127, vi c]) (M' := M) rfl ?_
    refine Hx.br (c := 127 < c) (t := 10) (f := 15) rfl (fun h2 => ?_) (fun h2 => ?_)
    · skip
      refine Hx.run 1 (pc' := 11) (L' := [some (vr 0), some (vi c)]) (st' := [vr 0]) (M' := M) rfl ?_
      refine Hx.call (t := 114) (as := [vr 0]) (pc' := 14) (rest := []) rfl (c_bad M (by omega)) ?_
      rintro _ _ ⟨rfl, rfl⟩
      refine Hx.run 0 (pc' := 14) (L' := [some (vr 0), some (vi c)]) (st' := [vi (-2)]) (M' := (up M 0 14 ((M 0 14) + 1))) rfl ?_
      refine Hx.ret rfl ?_
      exact Or.inr (Or.inl ⟨h1, h2, rfl, rfl⟩)
    · skip
      refine Hx.run 4 (pc' := 25) (L' := [some (vr 0), some (vi c)]) (st' := [vi 150, vi (M 59 1)]) (M' := M) rfl ?_
      refine Hx.br (c := (M 59 1) < 150) (t := 33) (f := 28) rfl (fun h3 => ?_) (fun h3 => ?_)
      · skip
        refine Hx.run 3 (pc' := 38) (L' := [some (vr 0), some (vi c)]) (st' := [vi c, vr 59]) (M' := M) rfl ?_
        refine Hx.call (t := 41) (as := [vr 59, vi c]) (pc' := 41) (rest := []) rfl (c_append c M (by omega)) ?_
        rintro _ _ ⟨rfl, rfl⟩
        refine Hx.run 0 (pc' := 41) (L' := [some (vr 0), some (vi c)]) (st' := [vi (M 59 1 + 1)]) (M' := (up (up M 60 (M 59 1) c) 59 1 ((M 59 1) + 1))) rfl ?_
        refine Hx.ret rfl ?_
        exact Or.inr (Or.inr (Or.inl ⟨h1, h2, h3, rfl, rfl⟩))
      · skip
        refine Hx.run 1 (pc' := 29) (L' := [some (vr 0), some (vi c)]) (st' := [vr 0]) (M' := M) rfl ?_
        refine Hx.call (t := 116) (as := [vr 0]) (pc' := 32) (rest := []) rfl (c_full M (by omega)) ?_
        rintro _ _ ⟨rfl, rfl⟩
        refine Hx.run 0 (pc' := 32) (L' := [some (vr 0), some (vi c)]) (st' := [vi (-4)]) (M' := (up M 0 16 ((M 0 16) + 1))) rfl ?_
        refine Hx.ret rfl ?_
        exact Or.inr (Or.inr (Or.inr (⟨h1, h2, h3, rfl, rfl⟩)))
set_option maxRecDepth 100000 in
theorem C_clear (M : Mm) (hI : HI M 1) (hs : (0 ≤ M 0 14 ∧ M 0 14 ≤ 600) ∧ (0 ≤ M 0 15 ∧ M 0 15 ≤ 600) ∧ (0 ≤ M 0 16 ∧ M 0 16 ≤ 600)) (ht : 0 ≤ M 59 1 ∧ M 59 1 ≤ 150) : Ct 62 [vr 0] M (fun q0 M' => (q0 = some (vi (M 59 1)) ∧ (up M 59 1 0) = M')) := by
  obtain ⟨iF, iG, iK, iH, iFa, aF, aG, lS, lN, lM, rS, rN, rM, aK⟩ := (show (0 ≤ M 1 0 ∧ M 1 0 ≤ 3) ∧ (0 ≤ M 1 1 ∧ M 1 1 ≤ 6) ∧ (0 ≤ M 1 2 ∧ M 1 2 ≤ 8) ∧ (0 ≤ M 6 16 ∧ M 6 16 ≤ 9999) ∧ (0 ≤ M 6 15 ∧ M 6 15 ≤ 9000) ∧ (∀ f : Int, 0 ≤ f → f < M 1 0 → (0 ≤ M 2 f ∧ M 2 f ≤ 5) ∧ (1 ≤ M 6 (12 + f) ∧ M 6 (12 + f) ≤ 10)) ∧ (∀ i : Int, 0 ≤ i → i < M 1 1 → (0 ≤ M 3 i ∧ M 3 i ≤ 5) ∧ (1 ≤ M 4 i ∧ M 4 i ≤ 4) ∧ (0 ≤ M 5 i ∧ M 5 i < M 1 0) ∧ (0 ≤ M 6 i ∧ M 6 i ≤ 11) ∧ (0 ≤ M 6 (6 + i) ∧ M 6 (6 + i) ≤ 9)) ∧ (M 8 0 = 4 ∧ M 8 1 = 5 ∧ 0 ≤ M 8 3 ∧ M 8 3 ≤ 5) ∧ (M 10 0 = 3 ∧ M 10 1 = 6 ∧ 0 ≤ M 10 3 ∧ M 10 3 ≤ 6) ∧ (M 12 0 = 5 ∧ M 12 1 = 6 ∧ 0 ≤ M 12 3 ∧ M 12 3 ≤ 6) ∧ (∀ n : Int, 0 ≤ n → n < M 8 3 → (0 ≤ M 9 (n * 4 + 0) ∧ M 9 (n * 4 + 0) ≤ 2) ∧ (1 ≤ M 9 (n * 4 + 1) ∧ M 9 (n * 4 + 1) ≤ 10) ∧ (0 ≤ M 9 (n * 4 + 2) ∧ M 9 (n * 4 + 2) ≤ 23) ∧ (0 ≤ M 9 (n * 4 + 3) ∧ M 9 (n * 4 + 3) ≤ 1)) ∧ (∀ n : Int, 0 ≤ n → n < M 10 3 → (0 ≤ M 11 (n * 3 + 0) ∧ M 11 (n * 3 + 0) ≤ 2) ∧ (0 ≤ M 11 (n * 3 + 1) ∧ M 11 (n * 3 + 1) ≤ 23) ∧ (0 ≤ M 11 (n * 3 + 2) ∧ M 11 (n * 3 + 2) ≤ 9)) ∧ (∀ n : Int, 0 ≤ n → n < M 12 3 → (0 ≤ M 13 (n * 5 + 0) ∧ M 13 (n * 5 + 0) ≤ 5) ∧ (1 ≤ M 13 (n * 5 + 1) ∧ M 13 (n * 5 + 1) ≤ 4) ∧ (0 ≤ M 13 (n * 5 + 2) ∧ M 13 (n * 5 + 2) ≤ 9) ∧ (0 ≤ M 13 (n * 5 + 3) ∧ M 13 (n * 5 + 3) ≤ 23) ∧ (0 ≤ M 13 (n * 5 + 4) ∧ M 13 (n * 5 + 4) ≤ 9)) ∧ (∀ k : Int, 0 ≤ k → k < M 1 2 → (0 ≤ M 7 (k * 17 + 16) ∧ M 7 (k * 17 + 16) ≤ 9999) ∧ (0 ≤ M 7 (k * 17 + 15) ∧ M 7 (k * 17 + 15) ≤ 9000) ∧ (∀ f : Int, 0 ≤ f → f < M 1 0 → (1 ≤ M 7 (k * 17 + (12 + f)) ∧ M 7 (k * 17 + (12 + f)) ≤ 10)) ∧ (∀ i : Int, 0 ≤ i → i < M 1 1 → (0 ≤ M 7 (k * 17 + i) ∧ M 7 (k * 17 + i) ≤ 11) ∧ (0 ≤ M 7 (k * 17 + (6 + i)) ∧ M 7 (k * 17 + (6 + i)) ≤ 9))) from hI)
  refine Hx.run 9 (pc' := 17) (L' := [some (vr 0), some (vi (M 59 1))]) (st' := [vi (M 59 1)]) (M' := (up M 59 1 0)) rfl ?_
  refine Hx.ret rfl ?_
  exact ⟨rfl, rfl⟩
set_option maxRecDepth 100000 in
theorem C_strides (i : Int) (d : Int) (M : Mm) (hI : HI M 1) (hs : (0 ≤ M 0 14 ∧ M 0 14 ≤ 600) ∧ (0 ≤ M 0 15 ∧ M 0 15 ≤ 600) ∧ (0 ≤ M 0 16 ∧ M 0 16 ≤ 600)) : Ct 64 [vr 0, vi i, vi d] M (fun q0 M' => ((0 ≤ i ∧ i < (M 1 1)) ∧ (d < 1) ∧ q0 = some (vi (-2)) ∧ (up M 0 14 ((M 0 14) + 1)) = M') ∨ ((0 ≤ i ∧ i < (M 1 1)) ∧ (¬ (d < 1)) ∧ (9 < d) ∧ q0 = some (vi (-2)) ∧ (up M 0 14 ((M 0 14) + 1)) = M') ∨ ((0 ≤ i ∧ i < (M 1 1)) ∧ (¬ (d < 1)) ∧ (¬ (9 < d)) ∧ (11 ≤ (M 6 i)) ∧ q0 = some (vi (-3)) ∧ (up M 0 15 ((M 0 15) + 1)) = M') ∨ ((0 ≤ i ∧ i < (M 1 1)) ∧ (¬ (d < 1)) ∧ (¬ (9 < d)) ∧ (¬ (11 ≤ (M 6 i))) ∧ ((sfF (M 3 i) (M 4 i) (M 6 (6 + i)) (M 6 16 % 24)) < d) ∧ q0 = some (vi (-3)) ∧ (up M 0 15 ((M 0 15) + 1)) = M') ∨ ((0 ≤ i ∧ i < (M 1 1)) ∧ (¬ (d < 1)) ∧ (¬ (9 < d)) ∧ (¬ (11 ≤ (M 6 i))) ∧ (¬ ((sfF (M 3 i) (M 4 i) (M 6 (6 + i)) (M 6 16 % 24)) < d)) ∧ (hb (bb ((kmM M) 6 (12 + ((kmM M) 5 i))) (bcF ((kmM M) 2 ((kmM M) 5 i)) (((kmM M) 6 16) % 24))) (min 11 (((kmM M) 6 i) + d))) ∧ q0 = some (vi 0) ∧ (up (up (kmM M) 6 15 (min 9999 (((kmM M) 6 15) + 1))) 6 i 0) = M') ∨ ((0 ≤ i ∧ i < (M 1 1)) ∧ (¬ (d < 1)) ∧ (¬ (9 < d)) ∧ (¬ (11 ≤ (M 6 i))) ∧ (¬ ((sfF (M 3 i) (M 4 i) (M 6 (6 + i)) (M 6 16 % 24)) < d)) ∧ (¬ (hb (bb ((kmM M) 6 (12 + ((kmM M) 5 i))) (bcF ((kmM M) 2 ((kmM M) 5 i)) (((kmM M) 6 16) % 24))) (min 11 (((kmM M) 6 i) + d)))) ∧ q0 = some (vi (min 11 (((kmM M) 6 i) + d))) ∧ (up (kmM M) 6 i (min 11 (((kmM M) 6 i) + d))) = M') ∨ ((¬ (0 ≤ i ∧ i < (M 1 1))) ∧ q0 = some (vi (-2)) ∧ (up M 0 14 ((M 0 14) + 1)) = M')) := by
  obtain ⟨iF, iG, iK, iH, iFa, aF, aG, lS, lN, lM, rS, rN, rM, aK⟩ := (show (0 ≤ M 1 0 ∧ M 1 0 ≤ 3) ∧ (0 ≤ M 1 1 ∧ M 1 1 ≤ 6) ∧ (0 ≤ M 1 2 ∧ M 1 2 ≤ 8) ∧ (0 ≤ M 6 16 ∧ M 6 16 ≤ 9999) ∧ (0 ≤ M 6 15 ∧ M 6 15 ≤ 9000) ∧ (∀ f : Int, 0 ≤ f → f < M 1 0 → (0 ≤ M 2 f ∧ M 2 f ≤ 5) ∧ (1 ≤ M 6 (12 + f) ∧ M 6 (12 + f) ≤ 10)) ∧ (∀ i : Int, 0 ≤ i → i < M 1 1 → (0 ≤ M 3 i ∧ M 3 i ≤ 5) ∧ (1 ≤ M 4 i ∧ M 4 i ≤ 4) ∧ (0 ≤ M 5 i ∧ M 5 i < M 1 0) ∧ (0 ≤ M 6 i ∧ M 6 i ≤ 11) ∧ (0 ≤ M 6 (6 + i) ∧ M 6 (6 + i) ≤ 9)) ∧ (M 8 0 = 4 ∧ M 8 1 = 5 ∧ 0 ≤ M 8 3 ∧ M 8 3 ≤ 5) ∧ (M 10 0 = 3 ∧ M 10 1 = 6 ∧ 0 ≤ M 10 3 ∧ M 10 3 ≤ 6) ∧ (M 12 0 = 5 ∧ M 12 1 = 6 ∧ 0 ≤ M 12 3 ∧ M 12 3 ≤ 6) ∧ (∀ n : Int, 0 ≤ n → n < M 8 3 → (0 ≤ M 9 (n * 4 + 0) ∧ M 9 (n * 4 + 0) ≤ 2) ∧ (1 ≤ M 9 (n * 4 + 1) ∧ M 9 (n * 4 + 1) ≤ 10) ∧ (0 ≤ M 9 (n * 4 + 2) ∧ M 9 (n * 4 + 2) ≤ 23) ∧ (0 ≤ M 9 (n * 4 + 3) ∧ M 9 (n * 4 + 3) ≤ 1)) ∧ (∀ n : Int, 0 ≤ n → n < M 10 3 → (0 ≤ M 11 (n * 3 + 0) ∧ M 11 (n * 3 + 0) ≤ 2) ∧ (0 ≤ M 11 (n * 3 + 1) ∧ M 11 (n * 3 + 1) ≤ 23) ∧ (0 ≤ M 11 (n * 3 + 2) ∧ M 11 (n * 3 + 2) ≤ 9)) ∧ (∀ n : Int, 0 ≤ n → n < M 12 3 → (0 ≤ M 13 (n * 5 + 0) ∧ M 13 (n * 5 + 0) ≤ 5) ∧ (1 ≤ M 13 (n * 5 + 1) ∧ M 13 (n * 5 + 1) ≤ 4) ∧ (0 ≤ M 13 (n * 5 + 2) ∧ M 13 (n * 5 + 2) ≤ 9) ∧ (0 ≤ M 13 (n * 5 + 3) ∧ M 13 (n * 5 + 3) ≤ 23) ∧ (0 ≤ M 13 (n * 5 + 4) ∧ M 13 (n * 5 + 4) ≤ 9)) ∧ (∀ k : Int, 0 ≤ k → k < M 1 2 → (0 ≤ M 7 (k * 17 + 16) ∧ M 7 (k * 17 + 16) ≤ 9999) ∧ (0 ≤ M 7 (k * 17 + 15) ∧ M 7 (k * 17 + 15) ≤ 9000) ∧ (∀ f : Int, 0 ≤ f → f < M 1 0 → (1 ≤ M 7 (k * 17 + (12 + f)) ∧ M 7 (k * 17 + (12 + f)) ≤ 10)) ∧ (∀ i : Int, 0 ≤ i → i < M 1 1 → (0 ≤ M 7 (k * 17 + i) ∧ M 7 (k * 17 + i) ≤ 11) ∧ (0 ≤ M 7 (k * 17 + (6 + i)) ∧ M 7 (k * 17 + (6 + i)) ≤ 9))) from hI)
  refine Hx.run 3 (pc' := 5) (L' := [some (vr 0), some (vi i), some (vi d)]) (st' := [vi i, vr 1]) (M' := M) rfl ?_
  refine Hx.call (t := 8) (as := [vr 1, vi i]) (pc' := 8) (rest := []) rfl (c_hasGoer_1 i M) ?_
  rintro _ _ (⟨q26, rfl, rfl⟩ | ⟨q26, rfl, rfl⟩)
  · skip
    have gq26 := aG i q26.1 q26.2
    have fq26 := aF (M 5 i) (by omega) (by omega)
    refine Hx.run 3 (pc' := 13) (L' := [some (vr 0), some (vi i), some (vi d)]) (st' := [vi 1, vi d]) (M' := M) rfl ?_
    refine Hx.br (c := d < 1) (t := 22) (f := 16) rfl (fun h1 => ?_) (fun h1 => ?_)
    · skip
      refine Hx.run 1 (pc' := 23) (L' := [some (vr 0), some (vi i), some (vi d)]) (st' := [vr 0]) (M' := M) rfl ?_
      refine Hx.call (t := 114) (as := [vr 0]) (pc' := 26) (rest := []) rfl (c_bad M (by (first | omega | (simp only [km0, km2, km3, km4, km5, km6]; omega)))) ?_
      rintro _ _ ⟨rfl, rfl⟩
      refine Hx.run 0 (pc' := 26) (L' := [some (vr 0), some (vi i), some (vi d)]) (st' := [vi (-2)]) (M' := (up M 0 14 ((M 0 14) + 1))) rfl ?_
      refine Hx.ret rfl ?_
      exact Or.inl ⟨q26, h1, rfl, rfl⟩
    · skip
      refine Hx.run 2 (pc' := 19) (L' := [some (vr 0), some (vi i), some (vi d)]) (st' := [vi 9, vi d]) (M' := M) rfl ?_
      refine Hx.br (c := 9 < d) (t := 22) (f := 27) rfl (fun h2 => ?_) (fun h2 => ?_)
      · skip
        refine Hx.run 1 (pc' := 23) (L' := [some (vr 0), some (vi i), some (vi d)]) (st' := [vr 0]) (M' := M) rfl ?_
        refine Hx.call (t := 114) (as := [vr 0]) (pc' := 26) (rest := []) rfl (c_bad M (by (first | omega | (simp only [km0, km2, km3, km4, km5, km6]; omega)))) ?_
        rintro _ _ ⟨rfl, rfl⟩
        refine Hx.run 0 (pc' := 26) (L' := [some (vr 0), some (vi i), some (vi d)]) (st' := [vi (-2)]) (M' := (up M 0 14 ((M 0 14) + 1))) rfl ?_
        refine Hx.ret rfl ?_
        exact Or.inr (Or.inl ⟨q26, h1, h2, rfl, rfl⟩)
      · skip
        refine Hx.run 3 (pc' := 32) (L' := [some (vr 0), some (vi i), some (vi d)]) (st' := [vi i, vr 1]) (M' := M) rfl ?_
        refine Hx.call (t := 26) (as := [vr 1, vi i]) (pc' := 35) (rest := []) rfl (c_isOver_1 i M (by (first | omega | (simp only [km0, km2, km3, km4, km5, km6]; omega)))) ?_
        rintro _ _ (⟨q27, rfl, rfl⟩ | ⟨q27, rfl, rfl⟩)
        · skip
          refine Hx.run 2 (pc' := 51) (L' := [some (vr 0), some (vi i), some (vi d)]) (st' := [vr 0]) (M' := M) rfl ?_
          refine Hx.call (t := 115) (as := [vr 0]) (pc' := 54) (rest := []) rfl (c_no M (by (first | omega | (simp only [km0, km2, km3, km4, km5, km6]; omega)))) ?_
          rintro _ _ ⟨rfl, rfl⟩
          refine Hx.run 0 (pc' := 54) (L' := [some (vr 0), some (vi i), some (vi d)]) (st' := [vi (-3)]) (M' := (up M 0 15 ((M 0 15) + 1))) rfl ?_
          refine Hx.ret rfl ?_
          exact Or.inr (Or.inr (Or.inl ⟨q26, h1, h2, q27, rfl, rfl⟩))
        · skip
          refine Hx.run 5 (pc' := 44) (L' := [some (vr 0), some (vi i), some (vi d)]) (st' := [vi i, vr 1, vi d]) (M' := M) rfl ?_
          refine Hx.call (t := 30) (as := [vr 1, vi i]) (pc' := 47) (rest := [vi d]) rfl (c_reach_1 i M (by (first | omega | (simp only [km0, km2, km3, km4, km5, km6]; omega))) (by (first | omega | (simp only [km0, km2, km3, km4, km5, km6]; omega)))) ?_
          rintro _ _ ⟨rfl, rfl⟩
          refine Hx.run 0 (pc' := 47) (L' := [some (vr 0), some (vi i), some (vi d)]) (st' := [vi (sfF (M 3 i) (M 4 i) (M 6 (6 + i)) (M 6 16 % 24)), vi d]) (M' := M) rfl ?_
          refine Hx.br (c := (sfF (M 3 i) (M 4 i) (M 6 (6 + i)) (M 6 16 % 24)) < d) (t := 50) (f := 55) rfl (fun h3 => ?_) (fun h3 => ?_)
          · skip
            refine Hx.run 1 (pc' := 51) (L' := [some (vr 0), some (vi i), some (vi d)]) (st' := [vr 0]) (M' := M) rfl ?_
            refine Hx.call (t := 115) (as := [vr 0]) (pc' := 54) (rest := []) rfl (c_no M (by (first | omega | (simp only [km0, km2, km3, km4, km5, km6]; omega)))) ?_
            rintro _ _ ⟨rfl, rfl⟩
            refine Hx.run 0 (pc' := 54) (L' := [some (vr 0), some (vi i), some (vi d)]) (st' := [vi (-3)]) (M' := (up M 0 15 ((M 0 15) + 1))) rfl ?_
            refine Hx.ret rfl ?_
            exact Or.inr (Or.inr (Or.inr (Or.inl ⟨q26, h1, h2, q27, h3, rfl, rfl⟩)))
          · skip
            refine Hx.run 2 (pc' := 59) (L' := [some (vr 0), some (vi i), some (vi d)]) (st' := [vr 1]) (M' := M) rfl ?_
            refine Hx.call (t := 11) (as := [vr 1]) (pc' := 62) (rest := []) rfl (c_keepMoment  M (by (first | omega | (simp only [km0, km2, km3, km4, km5, km6]; omega)))) ?_
            rintro _ _ ⟨rfl, rfl⟩
            refine Hx.run 0 (pc' := 62) (L' := [some (vr 0), some (vi i), some (vi d)]) (st' := []) (M' := (kmM M)) rfl ?_
            refine Hx.run 4 (pc' := 68) (L' := [some (vr 0), some (vi i), some (vi d)]) (st' := [vi d, vi i, vr 1]) (M' := (kmM M)) rfl ?_
            refine Hx.call (t := 33) (as := [vr 1, vi i, vi d]) (pc' := 71) (rest := []) rfl (c_stride_1 i d (kmM M) (by (first | omega | (simp only [km0, km2, km3, km4, km5, km6]; omega))) (by (first | omega | (simp only [km0, km2, km3, km4, km5, km6]; omega))) (by (first | omega | (simp only [km0, km2, km3, km4, km5, km6]; omega))) (by (first | omega | (simp only [km0, km2, km3, km4, km5, km6]; omega))) (by (first | omega | (simp only [km0, km2, km3, km4, km5, km6]; omega)))) ?_
            rintro _ _ (⟨q28, rfl, rfl⟩ | ⟨q28, rfl, rfl⟩)
            · skip
              refine Hx.ret rfl ?_
              exact Or.inr (Or.inr (Or.inr (Or.inr (Or.inl ⟨q26, h1, h2, q27, h3, q28, rfl, rfl⟩))))
            · skip
              refine Hx.ret rfl ?_
              exact Or.inr (Or.inr (Or.inr (Or.inr (Or.inr (Or.inl ⟨q26, h1, h2, q27, h3, q28, rfl, rfl⟩)))))
  · skip
    refine Hx.run 2 (pc' := 23) (L' := [some (vr 0), some (vi i), some (vi d)]) (st' := [vr 0]) (M' := M) rfl ?_
    refine Hx.call (t := 114) (as := [vr 0]) (pc' := 26) (rest := []) rfl (c_bad M (by (first | omega | (simp only [km0, km2, km3, km4, km5, km6]; omega)))) ?_
    rintro _ _ ⟨rfl, rfl⟩
    refine Hx.run 0 (pc' := 26) (L' := [some (vr 0), some (vi i), some (vi d)]) (st' := [vi (-2)]) (M' := (up M 0 14 ((M 0 14) + 1))) rfl ?_
    refine Hx.ret rfl ?_
    exact Or.inr (Or.inr (Or.inr (Or.inr (Or.inr (Or.inr (⟨q26, rfl, rfl⟩))))))
set_option maxRecDepth 100000 in
theorem C_hours (n : Int) (M : Mm) (hI : HI M 1) (hs : (0 ≤ M 0 14 ∧ M 0 14 ≤ 600) ∧ (0 ≤ M 0 15 ∧ M 0 15 ≤ 600) ∧ (0 ≤ M 0 16 ∧ M 0 16 ≤ 600)) : Ct 68 [vr 0, vi n] M (fun q0 M' => ((n < 1) ∧ q0 = some (vi (-2)) ∧ (up M 0 14 ((M 0 14) + 1)) = M') ∨ ((¬ (n < 1)) ∧ (99 < n) ∧ q0 = some (vi (-2)) ∧ (up M 0 14 ((M 0 14) + 1)) = M') ∨ ((¬ (n < 1)) ∧ (¬ (99 < n)) ∧ q0 = some (vi (min 9999 (((kmM M) 6 16) + n))) ∧ (up (kmM M) 6 16 (min 9999 (((kmM M) 6 16) + n))) = M')) := by
  obtain ⟨iF, iG, iK, iH, iFa, aF, aG, lS, lN, lM, rS, rN, rM, aK⟩ := (show (0 ≤ M 1 0 ∧ M 1 0 ≤ 3) ∧ (0 ≤ M 1 1 ∧ M 1 1 ≤ 6) ∧ (0 ≤ M 1 2 ∧ M 1 2 ≤ 8) ∧ (0 ≤ M 6 16 ∧ M 6 16 ≤ 9999) ∧ (0 ≤ M 6 15 ∧ M 6 15 ≤ 9000) ∧ (∀ f : Int, 0 ≤ f → f < M 1 0 → (0 ≤ M 2 f ∧ M 2 f ≤ 5) ∧ (1 ≤ M 6 (12 + f) ∧ M 6 (12 + f) ≤ 10)) ∧ (∀ i : Int, 0 ≤ i → i < M 1 1 → (0 ≤ M 3 i ∧ M 3 i ≤ 5) ∧ (1 ≤ M 4 i ∧ M 4 i ≤ 4) ∧ (0 ≤ M 5 i ∧ M 5 i < M 1 0) ∧ (0 ≤ M 6 i ∧ M 6 i ≤ 11) ∧ (0 ≤ M 6 (6 + i) ∧ M 6 (6 + i) ≤ 9)) ∧ (M 8 0 = 4 ∧ M 8 1 = 5 ∧ 0 ≤ M 8 3 ∧ M 8 3 ≤ 5) ∧ (M 10 0 = 3 ∧ M 10 1 = 6 ∧ 0 ≤ M 10 3 ∧ M 10 3 ≤ 6) ∧ (M 12 0 = 5 ∧ M 12 1 = 6 ∧ 0 ≤ M 12 3 ∧ M 12 3 ≤ 6) ∧ (∀ n : Int, 0 ≤ n → n < M 8 3 → (0 ≤ M 9 (n * 4 + 0) ∧ M 9 (n * 4 + 0) ≤ 2) ∧ (1 ≤ M 9 (n * 4 + 1) ∧ M 9 (n * 4 + 1) ≤ 10) ∧ (0 ≤ M 9 (n * 4 + 2) ∧ M 9 (n * 4 + 2) ≤ 23) ∧ (0 ≤ M 9 (n * 4 + 3) ∧ M 9 (n * 4 + 3) ≤ 1)) ∧ (∀ n : Int, 0 ≤ n → n < M 10 3 → (0 ≤ M 11 (n * 3 + 0) ∧ M 11 (n * 3 + 0) ≤ 2) ∧ (0 ≤ M 11 (n * 3 + 1) ∧ M 11 (n * 3 + 1) ≤ 23) ∧ (0 ≤ M 11 (n * 3 + 2) ∧ M 11 (n * 3 + 2) ≤ 9)) ∧ (∀ n : Int, 0 ≤ n → n < M 12 3 → (0 ≤ M 13 (n * 5 + 0) ∧ M 13 (n * 5 + 0) ≤ 5) ∧ (1 ≤ M 13 (n * 5 + 1) ∧ M 13 (n * 5 + 1) ≤ 4) ∧ (0 ≤ M 13 (n * 5 + 2) ∧ M 13 (n * 5 + 2) ≤ 9) ∧ (0 ≤ M 13 (n * 5 + 3) ∧ M 13 (n * 5 + 3) ≤ 23) ∧ (0 ≤ M 13 (n * 5 + 4) ∧ M 13 (n * 5 + 4) ≤ 9)) ∧ (∀ k : Int, 0 ≤ k → k < M 1 2 → (0 ≤ M 7 (k * 17 + 16) ∧ M 7 (k * 17 + 16) ≤ 9999) ∧ (0 ≤ M 7 (k * 17 + 15) ∧ M 7 (k * 17 + 15) ≤ 9000) ∧ (∀ f : Int, 0 ≤ f → f < M 1 0 → (1 ≤ M 7 (k * 17 + (12 + f)) ∧ M 7 (k * 17 + (12 + f)) ≤ 10)) ∧ (∀ i : Int, 0 ≤ i → i < M 1 1 → (0 ≤ M 7 (k * 17 + i) ∧ M 7 (k * 17 + i) ≤ 11) ∧ (0 ≤ M 7 (k * 17 + (6 + i)) ∧ M 7 (k * 17 + (6 + i)) ≤ 9))) from hI)
  refine Hx.run 2 (pc' := 2) (L' := [some (vr 0), some (vi n)]) (st' := [vi 1, vi n]) (M' := M) rfl ?_
  refine Hx.br (c := n < 1) (t := 11) (f := 5) rfl (fun h1 => ?_) (fun h1 => ?_)
  · skip
    refine Hx.run 1 (pc' := 12) (L' := [some (vr 0), some (vi n)]) (st' := [vr 0]) (M' := M) rfl ?_
    refine Hx.call (t := 114) (as := [vr 0]) (pc' := 15) (rest := []) rfl (c_bad M (by (first | omega | (simp only [km0, km2, km3, km4, km5, km6]; omega)))) ?_
    rintro _ _ ⟨rfl, rfl⟩
    refine Hx.run 0 (pc' := 15) (L' := [some (vr 0), some (vi n)]) (st' := [vi (-2)]) (M' := (up M 0 14 ((M 0 14) + 1))) rfl ?_
    refine Hx.ret rfl ?_
    exact Or.inl ⟨h1, rfl, rfl⟩
  · skip
    refine Hx.run 2 (pc' := 8) (L' := [some (vr 0), some (vi n)]) (st' := [vi 99, vi n]) (M' := M) rfl ?_
    refine Hx.br (c := 99 < n) (t := 11) (f := 16) rfl (fun h2 => ?_) (fun h2 => ?_)
    · skip
      refine Hx.run 1 (pc' := 12) (L' := [some (vr 0), some (vi n)]) (st' := [vr 0]) (M' := M) rfl ?_
      refine Hx.call (t := 114) (as := [vr 0]) (pc' := 15) (rest := []) rfl (c_bad M (by (first | omega | (simp only [km0, km2, km3, km4, km5, km6]; omega)))) ?_
      rintro _ _ ⟨rfl, rfl⟩
      refine Hx.run 0 (pc' := 15) (L' := [some (vr 0), some (vi n)]) (st' := [vi (-2)]) (M' := (up M 0 14 ((M 0 14) + 1))) rfl ?_
      refine Hx.ret rfl ?_
      exact Or.inr (Or.inl ⟨h1, h2, rfl, rfl⟩)
    · skip
      refine Hx.run 2 (pc' := 20) (L' := [some (vr 0), some (vi n)]) (st' := [vr 1]) (M' := M) rfl ?_
      refine Hx.call (t := 11) (as := [vr 1]) (pc' := 23) (rest := []) rfl (c_keepMoment  M (by (first | omega | (simp only [km0, km2, km3, km4, km5, km6]; omega)))) ?_
      rintro _ _ ⟨rfl, rfl⟩
      refine Hx.run 0 (pc' := 23) (L' := [some (vr 0), some (vi n)]) (st' := []) (M' := (kmM M)) rfl ?_
      refine Hx.run 3 (pc' := 28) (L' := [some (vr 0), some (vi n)]) (st' := [vi n, vr 1]) (M' := (kmM M)) rfl ?_
      refine Hx.call (t := 25) (as := [vr 1, vi n]) (pc' := 31) (rest := []) rfl (c_pass_1 n (kmM M) (by (first | omega | (simp only [km0, km2, km3, km4, km5, km6]; omega))) (by (first | omega | (simp only [km0, km2, km3, km4, km5, km6]; omega)))) ?_
      rintro _ _ ⟨rfl, rfl⟩
      refine Hx.run 0 (pc' := 31) (L' := [some (vr 0), some (vi n)]) (st' := []) (M' := (up (kmM M) 6 16 (min 9999 (((kmM M) 6 16) + n)))) rfl ?_
      refine Hx.run 2 (pc' := 35) (L' := [some (vr 0), some (vi n)]) (st' := [vr 1]) (M' := (up (kmM M) 6 16 (min 9999 (((kmM M) 6 16) + n)))) rfl ?_
      refine Hx.call (t := 23) (as := [vr 1]) (pc' := 38) (rest := []) rfl (c_hour_1 (up (kmM M) 6 16 (min 9999 (((kmM M) 6 16) + n)))) ?_
      rintro _ _ ⟨rfl, rfl⟩
      refine Hx.run 0 (pc' := 38) (L' := [some (vr 0), some (vi n)]) (st' := [vi (min 9999 (((kmM M) 6 16) + n))]) (M' := (up (kmM M) 6 16 (min 9999 (((kmM M) 6 16) + n)))) rfl ?_
      refine Hx.ret rfl ?_
      exact Or.inr (Or.inr (⟨h1, h2, rfl, rfl⟩))
set_option maxRecDepth 100000 in
theorem C_undo (M : Mm) (hI : HI M 1) (hs : (0 ≤ M 0 14 ∧ M 0 14 ≤ 600) ∧ (0 ≤ M 0 15 ∧ M 0 15 ≤ 600) ∧ (0 ≤ M 0 16 ∧ M 0 16 ≤ 600)) : Ct 69 [vr 0] M (fun q0 M' => ((0 < (M 1 2)) ∧ q0 = some (vi ((cp (up M 1 2 ((M 1 2) - 1)) 7 (((M 1 2) - 1) * 17) 6 0 17) 6 16)) ∧ (cp (up M 1 2 ((M 1 2) - 1)) 7 (((M 1 2) - 1) * 17) 6 0 17) = M') ∨ ((¬ (0 < (M 1 2))) ∧ q0 = some (vi (-3)) ∧ (up M 0 15 ((M 0 15) + 1)) = M')) := by
  obtain ⟨iF, iG, iK, iH, iFa, aF, aG, lS, lN, lM, rS, rN, rM, aK⟩ := (show (0 ≤ M 1 0 ∧ M 1 0 ≤ 3) ∧ (0 ≤ M 1 1 ∧ M 1 1 ≤ 6) ∧ (0 ≤ M 1 2 ∧ M 1 2 ≤ 8) ∧ (0 ≤ M 6 16 ∧ M 6 16 ≤ 9999) ∧ (0 ≤ M 6 15 ∧ M 6 15 ≤ 9000) ∧ (∀ f : Int, 0 ≤ f → f < M 1 0 → (0 ≤ M 2 f ∧ M 2 f ≤ 5) ∧ (1 ≤ M 6 (12 + f) ∧ M 6 (12 + f) ≤ 10)) ∧ (∀ i : Int, 0 ≤ i → i < M 1 1 → (0 ≤ M 3 i ∧ M 3 i ≤ 5) ∧ (1 ≤ M 4 i ∧ M 4 i ≤ 4) ∧ (0 ≤ M 5 i ∧ M 5 i < M 1 0) ∧ (0 ≤ M 6 i ∧ M 6 i ≤ 11) ∧ (0 ≤ M 6 (6 + i) ∧ M 6 (6 + i) ≤ 9)) ∧ (M 8 0 = 4 ∧ M 8 1 = 5 ∧ 0 ≤ M 8 3 ∧ M 8 3 ≤ 5) ∧ (M 10 0 = 3 ∧ M 10 1 = 6 ∧ 0 ≤ M 10 3 ∧ M 10 3 ≤ 6) ∧ (M 12 0 = 5 ∧ M 12 1 = 6 ∧ 0 ≤ M 12 3 ∧ M 12 3 ≤ 6) ∧ (∀ n : Int, 0 ≤ n → n < M 8 3 → (0 ≤ M 9 (n * 4 + 0) ∧ M 9 (n * 4 + 0) ≤ 2) ∧ (1 ≤ M 9 (n * 4 + 1) ∧ M 9 (n * 4 + 1) ≤ 10) ∧ (0 ≤ M 9 (n * 4 + 2) ∧ M 9 (n * 4 + 2) ≤ 23) ∧ (0 ≤ M 9 (n * 4 + 3) ∧ M 9 (n * 4 + 3) ≤ 1)) ∧ (∀ n : Int, 0 ≤ n → n < M 10 3 → (0 ≤ M 11 (n * 3 + 0) ∧ M 11 (n * 3 + 0) ≤ 2) ∧ (0 ≤ M 11 (n * 3 + 1) ∧ M 11 (n * 3 + 1) ≤ 23) ∧ (0 ≤ M 11 (n * 3 + 2) ∧ M 11 (n * 3 + 2) ≤ 9)) ∧ (∀ n : Int, 0 ≤ n → n < M 12 3 → (0 ≤ M 13 (n * 5 + 0) ∧ M 13 (n * 5 + 0) ≤ 5) ∧ (1 ≤ M 13 (n * 5 + 1) ∧ M 13 (n * 5 + 1) ≤ 4) ∧ (0 ≤ M 13 (n * 5 + 2) ∧ M 13 (n * 5 + 2) ≤ 9) ∧ (0 ≤ M 13 (n * 5 + 3) ∧ M 13 (n * 5 + 3) ≤ 23) ∧ (0 ≤ M 13 (n * 5 + 4) ∧ M 13 (n * 5 + 4) ≤ 9)) ∧ (∀ k : Int, 0 ≤ k → k < M 1 2 → (0 ≤ M 7 (k * 17 + 16) ∧ M 7 (k * 17 + 16) ≤ 9999) ∧ (0 ≤ M 7 (k * 17 + 15) ∧ M 7 (k * 17 + 15) ≤ 9000) ∧ (∀ f : Int, 0 ≤ f → f < M 1 0 → (1 ≤ M 7 (k * 17 + (12 + f)) ∧ M 7 (k * 17 + (12 + f)) ≤ 10)) ∧ (∀ i : Int, 0 ≤ i → i < M 1 1 → (0 ≤ M 7 (k * 17 + i) ∧ M 7 (k * 17 + i) ≤ 11) ∧ (0 ≤ M 7 (k * 17 + (6 + i)) ∧ M 7 (k * 17 + (6 + i)) ≤ 9))) from hI)
  refine Hx.run 3 (pc' := 7) (L' := [some (vr 0)]) (st' := [vi (M 1 2)]) (M' := M) rfl ?_
  refine Hx.br (c := 0 < (M 1 2)) (t := 15) (f := 10) rfl (fun h1 => ?_) (fun h1 => ?_)
  · skip
    refine Hx.run 2 (pc' := 19) (L' := [some (vr 0)]) (st' := [vr 1]) (M' := M) rfl ?_
    refine Hx.call (t := 12) (as := [vr 1]) (pc' := 22) (rest := []) rfl (c_dropMoment  M (by omega)) ?_
    rintro _ _ ⟨rfl, rfl⟩
    refine Hx.run 0 (pc' := 22) (L' := [some (vr 0)]) (st' := []) (M' := (cp (up M 1 2 ((M 1 2) - 1)) 7 (((M 1 2) - 1) * 17) 6 0 17)) rfl ?_
    refine Hx.run 2 (pc' := 26) (L' := [some (vr 0)]) (st' := [vr 1]) (M' := (cp (up M 1 2 ((M 1 2) - 1)) 7 (((M 1 2) - 1) * 17) 6 0 17)) rfl ?_
    refine Hx.call (t := 23) (as := [vr 1]) (pc' := 29) (rest := []) rfl (c_hour_1 (cp (up M 1 2 ((M 1 2) - 1)) 7 (((M 1 2) - 1) * 17) 6 0 17)) ?_
    rintro _ _ ⟨rfl, rfl⟩
    refine Hx.run 0 (pc' := 29) (L' := [some (vr 0)]) (st' := [vi ((cp (up M 1 2 ((M 1 2) - 1)) 7 (((M 1 2) - 1) * 17) 6 0 17) 6 16)]) (M' := (cp (up M 1 2 ((M 1 2) - 1)) 7 (((M 1 2) - 1) * 17) 6 0 17)) rfl ?_
    refine Hx.ret rfl ?_
    exact Or.inl ⟨h1, rfl, rfl⟩
  · skip
    refine Hx.run 1 (pc' := 11) (L' := [some (vr 0)]) (st' := [vr 0]) (M' := M) rfl ?_
    refine Hx.call (t := 115) (as := [vr 0]) (pc' := 14) (rest := []) rfl (c_no M (by omega)) ?_
    rintro _ _ ⟨rfl, rfl⟩
    refine Hx.run 0 (pc' := 14) (L' := [some (vr 0)]) (st' := [vi (-3)]) (M' := (up M 0 15 ((M 0 15) + 1))) rfl ?_
    refine Hx.ret rfl ?_
    exact Or.inr (⟨h1, rfl, rfl⟩)
set_option maxRecDepth 100000 in
theorem l_over (M : Mm) (hg : 0 ≤ M 1 1 ∧ M 1 1 ≤ 6) : ∀ (kk : Nat) (j : Nat), (j : Int) ≤ M 1 1 → M 1 1 - j < (kk : Int) → Hx 27 4 [some (vr 1), some (vi (ov (M 6) j)), some (vi (j : Int))] [] M (fun q0 M' => q0 = some (vi (ov (M 6) (M 1 1).toNat)) ∧ M = M') := by
  intro kk
  induction kk with
  | zero => intro j _ hkk; exact absurd hkk (by omega)
  | succ kk ih =>
    intro j hj hkk
    refine Hx.run 3 (pc' := 9) (L' := [some (vr 1), some (vi (ov (M 6) j)), some (vi (j : Int))]) (st' := [vi (M 1 1), vi (j : Int)]) (M' := M) rfl ?_
    refine Hx.br (c := (j : Int) < (M 1 1)) (t := 12) (f := 29) rfl (fun h1 => ?_) (fun h1 => ?_)
    · skip
      refine Hx.run 2 (pc' := 14) (L' := [some (vr 1), some (vi (ov (M 6) j)), some (vi (j : Int))]) (st' := [vi (j : Int), vr 1]) (M' := M) rfl ?_
      refine Hx.call (t := 26) (as := [vr 1, vi (j : Int)]) (pc' := 17) (rest := []) rfl (c_isOver_1 (j : Int) M (by (have := ov_rng (M 6) j; omega))) ?_
      rintro _ _ (⟨q29, rfl, rfl⟩ | ⟨q29, rfl, rfl⟩)
      · skip
        refine Hx.run 1 (pc' := 20) (L' := [some (vr 1), some (vi (ov (M 6) j)), some (vi (j : Int))]) (st' := []) (M' := M) rfl ?_
        refine Hx.inc rfl rfl (by (have := ov_rng (M 6) j; omega)) ?_
        refine Hx.run 0 (pc' := 23) (L' := [some (vr 1), some (vi ((ov (M 6) j) + 1)), some (vi (j : Int))]) (st' := []) (M' := M) rfl ?_
        refine Hx.inc rfl rfl (by (have := ov_rng (M 6) j; omega)) ?_
        refine Hx.run 0 (pc' := 26) (L' := [some (vr 1), some (vi ((ov (M 6) j) + 1)), some (vi ((j : Int) + 1))]) (st' := []) (M' := M) rfl ?_
        refine Hx.run 1 (pc' := 4) (L' := [some (vr 1), some (vi ((ov (M 6) j) + 1)), some (vi ((j : Int) + 1))]) (st' := []) (M' := M) rfl ?_
        have e : ov (M 6) (j + 1) = ((ov (M 6) j) + 1) := by rw [ov_succ]; first | rw [if_pos (by assumption)] | (rw [if_neg (by assumption)]; omega)
        have h9 := ih (j + 1) (by omega) (by omega)
        rw [e] at h9
        exact h9
      · skip
        refine Hx.run 1 (pc' := 23) (L' := [some (vr 1), some (vi (ov (M 6) j)), some (vi (j : Int))]) (st' := []) (M' := M) rfl ?_
        refine Hx.inc rfl rfl (by (have := ov_rng (M 6) j; omega)) ?_
        refine Hx.run 0 (pc' := 26) (L' := [some (vr 1), some (vi (ov (M 6) j)), some (vi ((j : Int) + 1))]) (st' := []) (M' := M) rfl ?_
        refine Hx.run 1 (pc' := 4) (L' := [some (vr 1), some (vi (ov (M 6) j)), some (vi ((j : Int) + 1))]) (st' := []) (M' := M) rfl ?_
        have e : ov (M 6) (j + 1) = (ov (M 6) j) := by rw [ov_succ]; first | rw [if_pos (by assumption)] | (rw [if_neg (by assumption)]; omega)
        have h9 := ih (j + 1) (by omega) (by omega)
        rw [e] at h9
        exact h9
    · skip
      refine Hx.run 1 (pc' := 30) (L' := [some (vr 1), some (vi (ov (M 6) j)), some (vi (j : Int))]) (st' := [vi (ov (M 6) j)]) (M' := M) rfl ?_
      refine Hx.ret rfl ?_
      have e : (M 1 1).toNat = j := by omega
      exact ⟨by rw [e], rfl⟩
set_option maxRecDepth 100000 in
theorem c_over (M : Mm) (hg : 0 ≤ M 1 1 ∧ M 1 1 ≤ 6) : Ct 27 [vr 1] M (fun q0 M' => q0 = some (vi (ov (M 6) (M 1 1).toNat)) ∧ M = M') := by
  refine Hx.run 4 (pc' := 4) (L' := [some (vr 1), some (vi 0), some (vi 0)]) (st' := []) (M' := M) rfl ?_
  exact l_over M hg ((M 1 1).toNat + 1) 0 (by omega) (by omega)
def hmF (M : Mm) (w : Int) : Int := if w = 0 then M 1 1 else if w = 1 then M 1 0 else if w = 2 then ov (M 6) (M 1 1).toNat else if w = 3 then M 6 16 else if w = 4 then M 6 15 else if w = 5 then M 8 3 else if w = 6 then M 10 3 else if w = 7 then M 12 3 else if w = 8 then M 1 2 else M 59 1
set_option maxRecDepth 100000 in
theorem c_howMany (w : Int) (M : Mm) (hg : 0 ≤ M 1 1 ∧ M 1 1 ≤ 6) (hw : 0 ≤ w ∧ w ≤ 9) : Ct 112 [vr 0, vi w] M (fun q0 M' => q0 = some (vi (hmF M w)) ∧ M = M') := by
  refine Hx.run 1 (pc' := 1) (L' := [some (vr 0), some (vi w)]) (st' := [vi w]) (M' := M) rfl ?_
  rcases (show w = 0 ∨ w = 1 ∨ w = 2 ∨ w = 3 ∨ w = 4 ∨ w = 5 ∨ w = 6 ∨ w = 7 ∨ w = 8 ∨ (w < 0 ∨ 8 < w) by omega) with h1 | h1 | h1 | h1 | h1 | h1 | h1 | h1 | h1 | h1
  · refine Hx.tab (tgt := 52) 0 rfl h1 rfl ?_
    refine Hx.run 3 (pc' := 59) (L' := [some (vr 0), some (vi w)]) (st' := [vi (M 1 1)]) (M' := M) rfl ?_
    refine Hx.ret rfl ?_
    exact ⟨some_vi (by unfold hmF; repeat (first | rw [if_pos (by omega)] | rw [if_neg (by omega)])), rfl⟩
  · refine Hx.tab (tgt := 60) 1 rfl h1 rfl ?_
    refine Hx.run 3 (pc' := 67) (L' := [some (vr 0), some (vi w)]) (st' := [vi (M 1 0)]) (M' := M) rfl ?_
    refine Hx.ret rfl ?_
    exact ⟨some_vi (by unfold hmF; repeat (first | rw [if_pos (by omega)] | rw [if_neg (by omega)])), rfl⟩
  · refine Hx.tab (tgt := 68) 2 rfl h1 rfl ?_
    refine Hx.run 2 (pc' := 72) (L' := [some (vr 0), some (vi w)]) (st' := [vr 1]) (M' := M) rfl ?_
    refine Hx.call (t := 27) (as := [vr 1]) (pc' := 75) (rest := []) rfl (c_over  M (by omega)) ?_
    rintro _ _ ⟨rfl, rfl⟩
    refine Hx.run 0 (pc' := 75) (L' := [some (vr 0), some (vi w)]) (st' := [vi (ov (M 6) (M 1 1).toNat)]) (M' := M) rfl ?_
    refine Hx.ret rfl ?_
    exact ⟨some_vi (by unfold hmF; repeat (first | rw [if_pos (by omega)] | rw [if_neg (by omega)])), rfl⟩
  · refine Hx.tab (tgt := 76) 3 rfl h1 rfl ?_
    refine Hx.run 2 (pc' := 80) (L' := [some (vr 0), some (vi w)]) (st' := [vr 1]) (M' := M) rfl ?_
    refine Hx.call (t := 23) (as := [vr 1]) (pc' := 83) (rest := []) rfl (c_hour_1 M) ?_
    rintro _ _ ⟨rfl, rfl⟩
    refine Hx.run 0 (pc' := 83) (L' := [some (vr 0), some (vi w)]) (st' := [vi (M 6 16)]) (M' := M) rfl ?_
    refine Hx.ret rfl ?_
    exact ⟨some_vi (by unfold hmF; repeat (first | rw [if_pos (by omega)] | rw [if_neg (by omega)])), rfl⟩
  · refine Hx.tab (tgt := 84) 4 rfl h1 rfl ?_
    refine Hx.run 2 (pc' := 88) (L' := [some (vr 0), some (vi w)]) (st' := [vr 1]) (M' := M) rfl ?_
    refine Hx.call (t := 22) (as := [vr 1]) (pc' := 91) (rest := []) rfl (c_falls_1 M) ?_
    rintro _ _ ⟨rfl, rfl⟩
    refine Hx.run 0 (pc' := 91) (L' := [some (vr 0), some (vi w)]) (st' := [vi (M 6 15)]) (M' := M) rfl ?_
    refine Hx.ret rfl ?_
    exact ⟨some_vi (by unfold hmF; repeat (first | rw [if_pos (by omega)] | rw [if_neg (by omega)])), rfl⟩
  · refine Hx.tab (tgt := 92) 5 rfl h1 rfl ?_
    refine Hx.run 4 (pc' := 102) (L' := [some (vr 0), some (vi w)]) (st' := [vi (M 8 3)]) (M' := M) rfl ?_
    refine Hx.ret rfl ?_
    exact ⟨some_vi (by unfold hmF; repeat (first | rw [if_pos (by omega)] | rw [if_neg (by omega)])), rfl⟩
  · refine Hx.tab (tgt := 103) 6 rfl h1 rfl ?_
    refine Hx.run 4 (pc' := 113) (L' := [some (vr 0), some (vi w)]) (st' := [vi (M 10 3)]) (M' := M) rfl ?_
    refine Hx.ret rfl ?_
    exact ⟨some_vi (by unfold hmF; repeat (first | rw [if_pos (by omega)] | rw [if_neg (by omega)])), rfl⟩
  · refine Hx.tab (tgt := 114) 7 rfl h1 rfl ?_
    refine Hx.run 4 (pc' := 124) (L' := [some (vr 0), some (vi w)]) (st' := [vi (M 12 3)]) (M' := M) rfl ?_
    refine Hx.ret rfl ?_
    exact ⟨some_vi (by unfold hmF; repeat (first | rw [if_pos (by omega)] | rw [if_neg (by omega)])), rfl⟩
  · refine Hx.tab (tgt := 125) 8 rfl h1 rfl ?_
    refine Hx.run 3 (pc' := 132) (L' := [some (vr 0), some (vi w)]) (st' := [vi (M 1 2)]) (M' := M) rfl ?_
    refine Hx.ret rfl ?_
    exact ⟨some_vi (by unfold hmF; repeat (first | rw [if_pos (by omega)] | rw [if_neg (by omega)])), rfl⟩
  · refine Hx.tabD (tgt := 133) rfl h1 rfl ?_
    refine Hx.run 3 (pc' := 140) (L' := [some (vr 0), some (vi w)]) (st' := [vi (M 59 1)]) (M' := M) rfl ?_
    refine Hx.ret rfl ?_
    exact ⟨some_vi (by unfold hmF; repeat (first | rw [if_pos (by omega)] | rw [if_neg (by omega)])), rfl⟩
set_option maxRecDepth 100000 in
theorem C_count (w : Int) (M : Mm) (hI : HI M 1) (hs : (0 ≤ M 0 14 ∧ M 0 14 ≤ 600) ∧ (0 ≤ M 0 15 ∧ M 0 15 ≤ 600) ∧ (0 ≤ M 0 16 ∧ M 0 16 ≤ 600)) (ht : 0 ≤ M 59 1 ∧ M 59 1 ≤ 150) : Ct 111 [vr 0, vi w] M (fun q0 M' => ((w < 0) ∧ q0 = some (vi (-2)) ∧ (up M 0 14 ((M 0 14) + 1)) = M') ∨ ((¬ (w < 0)) ∧ (9 < w) ∧ q0 = some (vi (-2)) ∧ (up M 0 14 ((M 0 14) + 1)) = M') ∨ ((¬ (w < 0)) ∧ (¬ (9 < w)) ∧ q0 = some (vi (hmF M w)) ∧ M = M')) := by
  obtain ⟨iF, iG, iK, iH, iFa, aF, aG, lS, lN, lM, rS, rN, rM, aK⟩ := (show (0 ≤ M 1 0 ∧ M 1 0 ≤ 3) ∧ (0 ≤ M 1 1 ∧ M 1 1 ≤ 6) ∧ (0 ≤ M 1 2 ∧ M 1 2 ≤ 8) ∧ (0 ≤ M 6 16 ∧ M 6 16 ≤ 9999) ∧ (0 ≤ M 6 15 ∧ M 6 15 ≤ 9000) ∧ (∀ f : Int, 0 ≤ f → f < M 1 0 → (0 ≤ M 2 f ∧ M 2 f ≤ 5) ∧ (1 ≤ M 6 (12 + f) ∧ M 6 (12 + f) ≤ 10)) ∧ (∀ i : Int, 0 ≤ i → i < M 1 1 → (0 ≤ M 3 i ∧ M 3 i ≤ 5) ∧ (1 ≤ M 4 i ∧ M 4 i ≤ 4) ∧ (0 ≤ M 5 i ∧ M 5 i < M 1 0) ∧ (0 ≤ M 6 i ∧ M 6 i ≤ 11) ∧ (0 ≤ M 6 (6 + i) ∧ M 6 (6 + i) ≤ 9)) ∧ (M 8 0 = 4 ∧ M 8 1 = 5 ∧ 0 ≤ M 8 3 ∧ M 8 3 ≤ 5) ∧ (M 10 0 = 3 ∧ M 10 1 = 6 ∧ 0 ≤ M 10 3 ∧ M 10 3 ≤ 6) ∧ (M 12 0 = 5 ∧ M 12 1 = 6 ∧ 0 ≤ M 12 3 ∧ M 12 3 ≤ 6) ∧ (∀ n : Int, 0 ≤ n → n < M 8 3 → (0 ≤ M 9 (n * 4 + 0) ∧ M 9 (n * 4 + 0) ≤ 2) ∧ (1 ≤ M 9 (n * 4 + 1) ∧ M 9 (n * 4 + 1) ≤ 10) ∧ (0 ≤ M 9 (n * 4 + 2) ∧ M 9 (n * 4 + 2) ≤ 23) ∧ (0 ≤ M 9 (n * 4 + 3) ∧ M 9 (n * 4 + 3) ≤ 1)) ∧ (∀ n : Int, 0 ≤ n → n < M 10 3 → (0 ≤ M 11 (n * 3 + 0) ∧ M 11 (n * 3 + 0) ≤ 2) ∧ (0 ≤ M 11 (n * 3 + 1) ∧ M 11 (n * 3 + 1) ≤ 23) ∧ (0 ≤ M 11 (n * 3 + 2) ∧ M 11 (n * 3 + 2) ≤ 9)) ∧ (∀ n : Int, 0 ≤ n → n < M 12 3 → (0 ≤ M 13 (n * 5 + 0) ∧ M 13 (n * 5 + 0) ≤ 5) ∧ (1 ≤ M 13 (n * 5 + 1) ∧ M 13 (n * 5 + 1) ≤ 4) ∧ (0 ≤ M 13 (n * 5 + 2) ∧ M 13 (n * 5 + 2) ≤ 9) ∧ (0 ≤ M 13 (n * 5 + 3) ∧ M 13 (n * 5 + 3) ≤ 23) ∧ (0 ≤ M 13 (n * 5 + 4) ∧ M 13 (n * 5 + 4) ≤ 9)) ∧ (∀ k : Int, 0 ≤ k → k < M 1 2 → (0 ≤ M 7 (k * 17 + 16) ∧ M 7 (k * 17 + 16) ≤ 9999) ∧ (0 ≤ M 7 (k * 17 + 15) ∧ M 7 (k * 17 + 15) ≤ 9000) ∧ (∀ f : Int, 0 ≤ f → f < M 1 0 → (1 ≤ M 7 (k * 17 + (12 + f)) ∧ M 7 (k * 17 + (12 + f)) ≤ 10)) ∧ (∀ i : Int, 0 ≤ i → i < M 1 1 → (0 ≤ M 7 (k * 17 + i) ∧ M 7 (k * 17 + i) ≤ 11) ∧ (0 ≤ M 7 (k * 17 + (6 + i)) ∧ M 7 (k * 17 + (6 + i)) ≤ 9))) from hI)
  refine Hx.run 1 (pc' := 1) (L' := [some (vr 0), some (vi w)]) (st' := [vi w]) (M' := M) rfl ?_
  refine Hx.br (c := w < 0) (t := 10) (f := 4) rfl (fun h1 => ?_) (fun h1 => ?_)
  · skip
    refine Hx.run 1 (pc' := 11) (L' := [some (vr 0), some (vi w)]) (st' := [vr 0]) (M' := M) rfl ?_
    refine Hx.call (t := 114) (as := [vr 0]) (pc' := 14) (rest := []) rfl (c_bad M (by omega)) ?_
    rintro _ _ ⟨rfl, rfl⟩
    refine Hx.run 0 (pc' := 14) (L' := [some (vr 0), some (vi w)]) (st' := [vi (-2)]) (M' := (up M 0 14 ((M 0 14) + 1))) rfl ?_
    refine Hx.ret rfl ?_
    exact Or.inl ⟨h1, rfl, rfl⟩
  · skip
    refine Hx.run 2 (pc' := 7) (L' := [some (vr 0), some (vi w)]) (st' := [vi 9, vi w]) (M' := M) rfl ?_
    refine Hx.br (c := 9 < w) (t := 10) (f := 15) rfl (fun h2 => ?_) (fun h2 => ?_)
    · skip
      refine Hx.run 1 (pc' := 11) (L' := [some (vr 0), some (vi w)]) (st' := [vr 0]) (M' := M) rfl ?_
      refine Hx.call (t := 114) (as := [vr 0]) (pc' := 14) (rest := []) rfl (c_bad M (by omega)) ?_
      rintro _ _ ⟨rfl, rfl⟩
      refine Hx.run 0 (pc' := 14) (L' := [some (vr 0), some (vi w)]) (st' := [vi (-2)]) (M' := (up M 0 14 ((M 0 14) + 1))) rfl ?_
      refine Hx.ret rfl ?_
      exact Or.inr (Or.inl ⟨h1, h2, rfl, rfl⟩)
    · skip
      refine Hx.run 2 (pc' := 17) (L' := [some (vr 0), some (vi w)]) (st' := [vi w, vr 0]) (M' := M) rfl ?_
      refine Hx.call (t := 112) (as := [vr 0, vi w]) (pc' := 20) (rest := []) rfl (c_howMany w M (by omega) (by omega)) ?_
      rintro _ _ ⟨rfl, rfl⟩
      refine Hx.run 0 (pc' := 20) (L' := [some (vr 0), some (vi w)]) (st' := [vi (hmF M w)]) (M' := M) rfl ?_
      refine Hx.ret rfl ?_
      exact Or.inr (Or.inr (⟨h1, h2, rfl, rfl⟩))
set_option maxRecDepth 100000 in
theorem C_status (w : Int) (M : Mm) (hI : HI M 1) (hs : (0 ≤ M 0 14 ∧ M 0 14 ≤ 600) ∧ (0 ≤ M 0 15 ∧ M 0 15 ≤ 600) ∧ (0 ≤ M 0 16 ∧ M 0 16 ≤ 600)) : Ct 110 [vr 0, vi w] M (fun q0 M' => ((w = 0) ∧ q0 = some (vi (M 0 14)) ∧ M = M') ∨ ((w = 1) ∧ q0 = some (vi (M 0 15)) ∧ M = M') ∨ ((w = 2) ∧ q0 = some (vi (M 0 16)) ∧ M = M') ∨ (((w < 0 ∨ 2 < w)) ∧ q0 = some (vi (-1)) ∧ (up M 0 14 ((M 0 14) + 1)) = M')) := by
  obtain ⟨iF, iG, iK, iH, iFa, aF, aG, lS, lN, lM, rS, rN, rM, aK⟩ := (show (0 ≤ M 1 0 ∧ M 1 0 ≤ 3) ∧ (0 ≤ M 1 1 ∧ M 1 1 ≤ 6) ∧ (0 ≤ M 1 2 ∧ M 1 2 ≤ 8) ∧ (0 ≤ M 6 16 ∧ M 6 16 ≤ 9999) ∧ (0 ≤ M 6 15 ∧ M 6 15 ≤ 9000) ∧ (∀ f : Int, 0 ≤ f → f < M 1 0 → (0 ≤ M 2 f ∧ M 2 f ≤ 5) ∧ (1 ≤ M 6 (12 + f) ∧ M 6 (12 + f) ≤ 10)) ∧ (∀ i : Int, 0 ≤ i → i < M 1 1 → (0 ≤ M 3 i ∧ M 3 i ≤ 5) ∧ (1 ≤ M 4 i ∧ M 4 i ≤ 4) ∧ (0 ≤ M 5 i ∧ M 5 i < M 1 0) ∧ (0 ≤ M 6 i ∧ M 6 i ≤ 11) ∧ (0 ≤ M 6 (6 + i) ∧ M 6 (6 + i) ≤ 9)) ∧ (M 8 0 = 4 ∧ M 8 1 = 5 ∧ 0 ≤ M 8 3 ∧ M 8 3 ≤ 5) ∧ (M 10 0 = 3 ∧ M 10 1 = 6 ∧ 0 ≤ M 10 3 ∧ M 10 3 ≤ 6) ∧ (M 12 0 = 5 ∧ M 12 1 = 6 ∧ 0 ≤ M 12 3 ∧ M 12 3 ≤ 6) ∧ (∀ n : Int, 0 ≤ n → n < M 8 3 → (0 ≤ M 9 (n * 4 + 0) ∧ M 9 (n * 4 + 0) ≤ 2) ∧ (1 ≤ M 9 (n * 4 + 1) ∧ M 9 (n * 4 + 1) ≤ 10) ∧ (0 ≤ M 9 (n * 4 + 2) ∧ M 9 (n * 4 + 2) ≤ 23) ∧ (0 ≤ M 9 (n * 4 + 3) ∧ M 9 (n * 4 + 3) ≤ 1)) ∧ (∀ n : Int, 0 ≤ n → n < M 10 3 → (0 ≤ M 11 (n * 3 + 0) ∧ M 11 (n * 3 + 0) ≤ 2) ∧ (0 ≤ M 11 (n * 3 + 1) ∧ M 11 (n * 3 + 1) ≤ 23) ∧ (0 ≤ M 11 (n * 3 + 2) ∧ M 11 (n * 3 + 2) ≤ 9)) ∧ (∀ n : Int, 0 ≤ n → n < M 12 3 → (0 ≤ M 13 (n * 5 + 0) ∧ M 13 (n * 5 + 0) ≤ 5) ∧ (1 ≤ M 13 (n * 5 + 1) ∧ M 13 (n * 5 + 1) ≤ 4) ∧ (0 ≤ M 13 (n * 5 + 2) ∧ M 13 (n * 5 + 2) ≤ 9) ∧ (0 ≤ M 13 (n * 5 + 3) ∧ M 13 (n * 5 + 3) ≤ 23) ∧ (0 ≤ M 13 (n * 5 + 4) ∧ M 13 (n * 5 + 4) ≤ 9)) ∧ (∀ k : Int, 0 ≤ k → k < M 1 2 → (0 ≤ M 7 (k * 17 + 16) ∧ M 7 (k * 17 + 16) ≤ 9999) ∧ (0 ≤ M 7 (k * 17 + 15) ∧ M 7 (k * 17 + 15) ≤ 9000) ∧ (∀ f : Int, 0 ≤ f → f < M 1 0 → (1 ≤ M 7 (k * 17 + (12 + f)) ∧ M 7 (k * 17 + (12 + f)) ≤ 10)) ∧ (∀ i : Int, 0 ≤ i → i < M 1 1 → (0 ≤ M 7 (k * 17 + i) ∧ M 7 (k * 17 + i) ≤ 11) ∧ (0 ≤ M 7 (k * 17 + (6 + i)) ∧ M 7 (k * 17 + (6 + i)) ≤ 9))) from hI)
  refine Hx.run 1 (pc' := 1) (L' := [some (vr 0), some (vi w)]) (st' := [vi w]) (M' := M) rfl ?_
  rcases (show w = 0 ∨ w = 1 ∨ w = 2 ∨ (w < 0 ∨ 2 < w) by omega) with h1 | h1 | h1 | h1
  · refine Hx.tab (tgt := 28) 0 rfl h1 rfl ?_
    refine Hx.run 2 (pc' := 32) (L' := [some (vr 0), some (vi w)]) (st' := [vi (M 0 14)]) (M' := M) rfl ?_
    refine Hx.ret rfl ?_
    exact Or.inl ⟨h1, rfl, rfl⟩
  · refine Hx.tab (tgt := 33) 1 rfl h1 rfl ?_
    refine Hx.run 2 (pc' := 37) (L' := [some (vr 0), some (vi w)]) (st' := [vi (M 0 15)]) (M' := M) rfl ?_
    refine Hx.ret rfl ?_
    exact Or.inr (Or.inl ⟨h1, rfl, rfl⟩)
  · refine Hx.tab (tgt := 38) 2 rfl h1 rfl ?_
    refine Hx.run 2 (pc' := 42) (L' := [some (vr 0), some (vi w)]) (st' := [vi (M 0 16)]) (M' := M) rfl ?_
    refine Hx.ret rfl ?_
    exact Or.inr (Or.inr (Or.inl ⟨h1, rfl, rfl⟩))
  · refine Hx.tabD (tgt := 43) rfl h1 rfl ?_
    refine Hx.run 1 (pc' := 44) (L' := [some (vr 0), some (vi w)]) (st' := [vr 0]) (M' := M) rfl ?_
    refine Hx.call (t := 114) (as := [vr 0]) (pc' := 47) (rest := []) rfl (c_bad M (by omega)) ?_
    rintro _ _ ⟨rfl, rfl⟩
    refine Hx.run 0 (pc' := 47) (L' := [some (vr 0), some (vi w)]) (st' := [vi (-2)]) (M' := (up M 0 14 ((M 0 14) + 1))) rfl ?_
    refine Hx.run 2 (pc' := 49) (L' := [some (vr 0), some (vi w)]) (st' := [vi (-1)]) (M' := (up M 0 14 ((M 0 14) + 1))) rfl ?_
    refine Hx.ret rfl ?_
    exact Or.inr (Or.inr (Or.inr (⟨h1, rfl, rfl⟩)))
set_option maxRecDepth 100000 in
theorem C_from (i : Int) (M : Mm) (hI : HI M 1) (hs : (0 ≤ M 0 14 ∧ M 0 14 ≤ 600) ∧ (0 ≤ M 0 15 ∧ M 0 15 ≤ 600) ∧ (0 ≤ M 0 16 ∧ M 0 16 ≤ 600)) : Ct 109 [vr 0, vi i] M (fun q0 M' => ((i < 0) ∧ q0 = some (vi (-2)) ∧ (up M 0 14 ((M 0 14) + 1)) = M') ∨ ((¬ (i < 0)) ∧ (1 < i) ∧ q0 = some (vi (-2)) ∧ (up M 0 14 ((M 0 14) + 1)) = M') ∨ ((¬ (i < 0)) ∧ (¬ (1 < i)) ∧ (i = 0) ∧ ((M 0 3) = 0) ∧ q0 = some (vi (-3)) ∧ (up M 0 15 ((M 0 15) + 1)) = M') ∨ ((¬ (i < 0)) ∧ (¬ (1 < i)) ∧ (i = 0) ∧ (¬ ((M 0 3) = 0)) ∧ (i = 0) ∧ q0 = some (vi 1) ∧ (tkM M 1 14) = M') ∨ ((¬ (i < 0)) ∧ (¬ (1 < i)) ∧ (i = 0) ∧ (¬ ((M 0 3) = 0)) ∧ (¬ (i = 0)) ∧ q0 = some (vi 1) ∧ (tkM M 1 27) = M') ∨ ((¬ (i < 0)) ∧ (¬ (1 < i)) ∧ (¬ (i = 0)) ∧ ((M 0 4) = 0) ∧ q0 = some (vi (-3)) ∧ (up M 0 15 ((M 0 15) + 1)) = M') ∨ ((¬ (i < 0)) ∧ (¬ (1 < i)) ∧ (¬ (i = 0)) ∧ (¬ ((M 0 4) = 0)) ∧ (i = 0) ∧ q0 = some (vi 1) ∧ (tkM M 1 14) = M') ∨ ((¬ (i < 0)) ∧ (¬ (1 < i)) ∧ (¬ (i = 0)) ∧ (¬ ((M 0 4) = 0)) ∧ (¬ (i = 0)) ∧ q0 = some (vi 1) ∧ (tkM M 1 27) = M')) := by
  obtain ⟨iF, iG, iK, iH, iFa, aF, aG, lS, lN, lM, rS, rN, rM, aK⟩ := (show (0 ≤ M 1 0 ∧ M 1 0 ≤ 3) ∧ (0 ≤ M 1 1 ∧ M 1 1 ≤ 6) ∧ (0 ≤ M 1 2 ∧ M 1 2 ≤ 8) ∧ (0 ≤ M 6 16 ∧ M 6 16 ≤ 9999) ∧ (0 ≤ M 6 15 ∧ M 6 15 ≤ 9000) ∧ (∀ f : Int, 0 ≤ f → f < M 1 0 → (0 ≤ M 2 f ∧ M 2 f ≤ 5) ∧ (1 ≤ M 6 (12 + f) ∧ M 6 (12 + f) ≤ 10)) ∧ (∀ i : Int, 0 ≤ i → i < M 1 1 → (0 ≤ M 3 i ∧ M 3 i ≤ 5) ∧ (1 ≤ M 4 i ∧ M 4 i ≤ 4) ∧ (0 ≤ M 5 i ∧ M 5 i < M 1 0) ∧ (0 ≤ M 6 i ∧ M 6 i ≤ 11) ∧ (0 ≤ M 6 (6 + i) ∧ M 6 (6 + i) ≤ 9)) ∧ (M 8 0 = 4 ∧ M 8 1 = 5 ∧ 0 ≤ M 8 3 ∧ M 8 3 ≤ 5) ∧ (M 10 0 = 3 ∧ M 10 1 = 6 ∧ 0 ≤ M 10 3 ∧ M 10 3 ≤ 6) ∧ (M 12 0 = 5 ∧ M 12 1 = 6 ∧ 0 ≤ M 12 3 ∧ M 12 3 ≤ 6) ∧ (∀ n : Int, 0 ≤ n → n < M 8 3 → (0 ≤ M 9 (n * 4 + 0) ∧ M 9 (n * 4 + 0) ≤ 2) ∧ (1 ≤ M 9 (n * 4 + 1) ∧ M 9 (n * 4 + 1) ≤ 10) ∧ (0 ≤ M 9 (n * 4 + 2) ∧ M 9 (n * 4 + 2) ≤ 23) ∧ (0 ≤ M 9 (n * 4 + 3) ∧ M 9 (n * 4 + 3) ≤ 1)) ∧ (∀ n : Int, 0 ≤ n → n < M 10 3 → (0 ≤ M 11 (n * 3 + 0) ∧ M 11 (n * 3 + 0) ≤ 2) ∧ (0 ≤ M 11 (n * 3 + 1) ∧ M 11 (n * 3 + 1) ≤ 23) ∧ (0 ≤ M 11 (n * 3 + 2) ∧ M 11 (n * 3 + 2) ≤ 9)) ∧ (∀ n : Int, 0 ≤ n → n < M 12 3 → (0 ≤ M 13 (n * 5 + 0) ∧ M 13 (n * 5 + 0) ≤ 5) ∧ (1 ≤ M 13 (n * 5 + 1) ∧ M 13 (n * 5 + 1) ≤ 4) ∧ (0 ≤ M 13 (n * 5 + 2) ∧ M 13 (n * 5 + 2) ≤ 9) ∧ (0 ≤ M 13 (n * 5 + 3) ∧ M 13 (n * 5 + 3) ≤ 23) ∧ (0 ≤ M 13 (n * 5 + 4) ∧ M 13 (n * 5 + 4) ≤ 9)) ∧ (∀ k : Int, 0 ≤ k → k < M 1 2 → (0 ≤ M 7 (k * 17 + 16) ∧ M 7 (k * 17 + 16) ≤ 9999) ∧ (0 ≤ M 7 (k * 17 + 15) ∧ M 7 (k * 17 + 15) ≤ 9000) ∧ (∀ f : Int, 0 ≤ f → f < M 1 0 → (1 ≤ M 7 (k * 17 + (12 + f)) ∧ M 7 (k * 17 + (12 + f)) ≤ 10)) ∧ (∀ i : Int, 0 ≤ i → i < M 1 1 → (0 ≤ M 7 (k * 17 + i) ∧ M 7 (k * 17 + i) ≤ 11) ∧ (0 ≤ M 7 (k * 17 + (6 + i)) ∧ M 7 (k * 17 + (6 + i)) ≤ 9))) from hI)
  refine Hx.run 1 (pc' := 1) (L' := [some (vr 0), some (vi i)]) (st' := [vi i]) (M' := M) rfl ?_
  refine Hx.br (c := i < 0) (t := 9) (f := 4) rfl (fun h1 => ?_) (fun h1 => ?_)
  · skip
    refine Hx.run 1 (pc' := 10) (L' := [some (vr 0), some (vi i)]) (st' := [vr 0]) (M' := M) rfl ?_
    refine Hx.call (t := 114) (as := [vr 0]) (pc' := 13) (rest := []) rfl (c_bad M (by omega)) ?_
    rintro _ _ ⟨rfl, rfl⟩
    refine Hx.run 0 (pc' := 13) (L' := [some (vr 0), some (vi i)]) (st' := [vi (-2)]) (M' := (up M 0 14 ((M 0 14) + 1))) rfl ?_
    refine Hx.ret rfl ?_
    exact Or.inl ⟨h1, rfl, rfl⟩
  · skip
    refine Hx.run 2 (pc' := 6) (L' := [some (vr 0), some (vi i)]) (st' := [vi 1, vi i]) (M' := M) rfl ?_
    refine Hx.br (c := 1 < i) (t := 9) (f := 14) rfl (fun h2 => ?_) (fun h2 => ?_)
    · skip
      refine Hx.run 1 (pc' := 10) (L' := [some (vr 0), some (vi i)]) (st' := [vr 0]) (M' := M) rfl ?_
      refine Hx.call (t := 114) (as := [vr 0]) (pc' := 13) (rest := []) rfl (c_bad M (by omega)) ?_
      rintro _ _ ⟨rfl, rfl⟩
      refine Hx.run 0 (pc' := 13) (L' := [some (vr 0), some (vi i)]) (st' := [vi (-2)]) (M' := (up M 0 14 ((M 0 14) + 1))) rfl ?_
      refine Hx.ret rfl ?_
      exact Or.inr (Or.inl ⟨h1, h2, rfl, rfl⟩)
    · skip
      refine Hx.run 1 (pc' := 15) (L' := [some (vr 0), some (vi i)]) (st' := [vi i]) (M' := M) rfl ?_
      refine Hx.br (c := i = 0) (t := 18) (f := 28) rfl (fun h3 => ?_) (fun h3 => ?_)
      · skip
        refine Hx.run 2 (pc' := 22) (L' := [some (vr 0), some (vi i)]) (st' := [vi (M 0 3)]) (M' := M) rfl ?_
        refine Hx.br (c := (M 0 3) = 0) (t := 35) (f := 25) rfl (fun h4 => ?_) (fun h4 => ?_)
        · skip
          refine Hx.run 1 (pc' := 36) (L' := [some (vr 0), some (vi i)]) (st' := [vr 0]) (M' := M) rfl ?_
          refine Hx.call (t := 115) (as := [vr 0]) (pc' := 39) (rest := []) rfl (c_no M (by omega)) ?_
          rintro _ _ ⟨rfl, rfl⟩
          refine Hx.run 0 (pc' := 39) (L' := [some (vr 0), some (vi i)]) (st' := [vi (-3)]) (M' := (up M 0 15 ((M 0 15) + 1))) rfl ?_
          refine Hx.ret rfl ?_
          exact Or.inr (Or.inr (Or.inl ⟨h1, h2, h3, h4, rfl, rfl⟩))
        · skip
          refine Hx.run 4 (pc' := 45) (L' := [some (vr 0), some (vi i)]) (st' := [vi i, vr 1]) (M' := M) rfl ?_
          refine Hx.br (c := i = 0) (t := 48) (f := 55) rfl (fun h5 => ?_) (fun h5 => ?_)
          · skip
            refine Hx.run 3 (pc' := 59) (L' := [some (vr 0), some (vi i)]) (st' := [vr 14, vr 1]) (M' := M) rfl ?_
            refine Hx.call (t := 6) (as := [vr 1, vr 14]) (pc' := 62) (rest := []) rfl (c_takeOver_1_14 M) ?_
            rintro _ _ ⟨rfl, rfl⟩
            refine Hx.run 0 (pc' := 62) (L' := [some (vr 0), some (vi i)]) (st' := []) (M' := (tkM M 1 14)) rfl ?_
            refine Hx.run 1 (pc' := 63) (L' := [some (vr 0), some (vi i)]) (st' := [vi 1]) (M' := (tkM M 1 14)) rfl ?_
            refine Hx.ret rfl ?_
            exact Or.inr (Or.inr (Or.inr (Or.inl ⟨h1, h2, h3, h4, h5, rfl, rfl⟩)))
          · skip
            refine Hx.run 2 (pc' := 59) (L' := [some (vr 0), some (vi i)]) (st' := [vr 27, vr 1]) (M' := M) rfl ?_
            refine Hx.call (t := 6) (as := [vr 1, vr 27]) (pc' := 62) (rest := []) rfl (c_takeOver_1_27 M) ?_
            rintro _ _ ⟨rfl, rfl⟩
            refine Hx.run 0 (pc' := 62) (L' := [some (vr 0), some (vi i)]) (st' := []) (M' := (tkM M 1 27)) rfl ?_
            refine Hx.run 1 (pc' := 63) (L' := [some (vr 0), some (vi i)]) (st' := [vi 1]) (M' := (tkM M 1 27)) rfl ?_
            refine Hx.ret rfl ?_
            exact Or.inr (Or.inr (Or.inr (Or.inr (Or.inl ⟨h1, h2, h3, h4, h5, rfl, rfl⟩))))
      · skip
        refine Hx.run 2 (pc' := 32) (L' := [some (vr 0), some (vi i)]) (st' := [vi (M 0 4)]) (M' := M) rfl ?_
        refine Hx.br (c := (M 0 4) = 0) (t := 35) (f := 40) rfl (fun h6 => ?_) (fun h6 => ?_)
        · skip
          refine Hx.run 1 (pc' := 36) (L' := [some (vr 0), some (vi i)]) (st' := [vr 0]) (M' := M) rfl ?_
          refine Hx.call (t := 115) (as := [vr 0]) (pc' := 39) (rest := []) rfl (c_no M (by omega)) ?_
          rintro _ _ ⟨rfl, rfl⟩
          refine Hx.run 0 (pc' := 39) (L' := [some (vr 0), some (vi i)]) (st' := [vi (-3)]) (M' := (up M 0 15 ((M 0 15) + 1))) rfl ?_
          refine Hx.ret rfl ?_
          exact Or.inr (Or.inr (Or.inr (Or.inr (Or.inr (Or.inl ⟨h1, h2, h3, h6, rfl, rfl⟩)))))
        · skip
          refine Hx.run 3 (pc' := 45) (L' := [some (vr 0), some (vi i)]) (st' := [vi i, vr 1]) (M' := M) rfl ?_
          refine Hx.br (c := i = 0) (t := 48) (f := 55) rfl (fun h7 => ?_) (fun h7 => ?_)
          · skip
            refine Hx.run 3 (pc' := 59) (L' := [some (vr 0), some (vi i)]) (st' := [vr 14, vr 1]) (M' := M) rfl ?_
            refine Hx.call (t := 6) (as := [vr 1, vr 14]) (pc' := 62) (rest := []) rfl (c_takeOver_1_14 M) ?_
            rintro _ _ ⟨rfl, rfl⟩
            refine Hx.run 0 (pc' := 62) (L' := [some (vr 0), some (vi i)]) (st' := []) (M' := (tkM M 1 14)) rfl ?_
            refine Hx.run 1 (pc' := 63) (L' := [some (vr 0), some (vi i)]) (st' := [vi 1]) (M' := (tkM M 1 14)) rfl ?_
            refine Hx.ret rfl ?_
            exact Or.inr (Or.inr (Or.inr (Or.inr (Or.inr (Or.inr (Or.inl ⟨h1, h2, h3, h6, h7, rfl, rfl⟩))))))
          · skip
            refine Hx.run 2 (pc' := 59) (L' := [some (vr 0), some (vi i)]) (st' := [vr 27, vr 1]) (M' := M) rfl ?_
            refine Hx.call (t := 6) (as := [vr 1, vr 27]) (pc' := 62) (rest := []) rfl (c_takeOver_1_27 M) ?_
            rintro _ _ ⟨rfl, rfl⟩
            refine Hx.run 0 (pc' := 62) (L' := [some (vr 0), some (vi i)]) (st' := []) (M' := (tkM M 1 27)) rfl ?_
            refine Hx.run 1 (pc' := 63) (L' := [some (vr 0), some (vi i)]) (st' := [vi 1]) (M' := (tkM M 1 27)) rfl ?_
            refine Hx.ret rfl ?_
            exact Or.inr (Or.inr (Or.inr (Or.inr (Or.inr (Or.inr (Or.inr (⟨h1, h2, h3, h6, h7, rfl, rfl⟩)))))))
set_option maxRecDepth 100000 in
theorem c_ofGoer (i w : Int) (M : Mm) (hg : (0 ≤ i ∧ i < 6) ∧ (0 ≤ M 3 i ∧ M 3 i ≤ 5) ∧ (1 ≤ M 4 i ∧ M 4 i ≤ 4) ∧ (0 ≤ M 5 i ∧ M 5 i < 3) ∧ (0 ≤ M 6 i ∧ M 6 i ≤ 11) ∧ (0 ≤ M 6 (6 + i) ∧ M 6 (6 + i) ≤ 9)) (hh : (0 ≤ M 6 16 ∧ M 6 16 ≤ 9999)) : Ct 32 [vr 1, vi i, vi w] M (fun q0 M' => q0 = some (vi (if w = 0 then M 3 i else if w = 1 then M 4 i else if w = 2 then M 5 i else if w = 3 then M 6 i else if w = 4 then M 6 (6 + i) else sfF (M 3 i) (M 4 i) (M 6 (6 + i)) (M 6 16 % 24))) ∧ M = M') := by
  refine Hx.run 1 (pc' := 1) (L' := [some (vr 1), some (vi i), some (vi w)]) (st' := [vi w]) (M' := M) rfl ?_
  rcases (show w = 0 ∨ w = 1 ∨ w = 2 ∨ w = 3 ∨ w = 4 ∨ (w < 0 ∨ 4 < w) by omega) with h1 | h1 | h1 | h1 | h1 | h1
  · refine Hx.tab (tgt := 36) 0 rfl h1 rfl ?_
    refine Hx.run 3 (pc' := 41) (L' := [some (vr 1), some (vi i), some (vi w)]) (st' := [vi i, vr 3]) (M' := M) rfl ?_
    refine Hx.call (t := 121) (as := [vr 3, vi i]) (pc' := 44) (rest := []) rfl (c_at (r := 3) (n := 6) rfl (by decide) (i := i) (by omega) M) ?_
    rintro _ _ ⟨rfl, rfl⟩
    refine Hx.run 0 (pc' := 44) (L' := [some (vr 1), some (vi i), some (vi w)]) (st' := [vi (M 3 i)]) (M' := M) rfl ?_
    refine Hx.ret rfl ?_
    exact ⟨some_vi (by repeat (first | rw [if_pos (by omega)] | rw [if_neg (by omega)])), rfl⟩
  · refine Hx.tab (tgt := 45) 1 rfl h1 rfl ?_
    refine Hx.run 2 (pc' := 47) (L' := [some (vr 1), some (vi i), some (vi w)]) (st' := [vi i, vr 1]) (M' := M) rfl ?_
    refine Hx.call (t := 16) (as := [vr 1, vi i]) (pc' := 50) (rest := []) rfl (c_legsOf_1 i (by omega) M) ?_
    rintro _ _ ⟨rfl, rfl⟩
    refine Hx.run 0 (pc' := 50) (L' := [some (vr 1), some (vi i), some (vi w)]) (st' := [vi (M 4 i)]) (M' := M) rfl ?_
    refine Hx.ret rfl ?_
    exact ⟨some_vi (by repeat (first | rw [if_pos (by omega)] | rw [if_neg (by omega)])), rfl⟩
  · refine Hx.tab (tgt := 51) 2 rfl h1 rfl ?_
    refine Hx.run 2 (pc' := 53) (L' := [some (vr 1), some (vi i), some (vi w)]) (st' := [vi i, vr 1]) (M' := M) rfl ?_
    refine Hx.call (t := 17) (as := [vr 1, vi i]) (pc' := 56) (rest := []) rfl (c_flightOf_1 i (by omega) M) ?_
    rintro _ _ ⟨rfl, rfl⟩
    refine Hx.run 0 (pc' := 56) (L' := [some (vr 1), some (vi i), some (vi w)]) (st' := [vi (M 5 i)]) (M' := M) rfl ?_
    refine Hx.ret rfl ?_
    exact ⟨some_vi (by repeat (first | rw [if_pos (by omega)] | rw [if_neg (by omega)])), rfl⟩
  · refine Hx.tab (tgt := 57) 3 rfl h1 rfl ?_
    refine Hx.run 2 (pc' := 59) (L' := [some (vr 1), some (vi i), some (vi w)]) (st' := [vi i, vr 1]) (M' := M) rfl ?_
    refine Hx.call (t := 18) (as := [vr 1, vi i]) (pc' := 62) (rest := []) rfl (c_stepOf_1 i (by omega) M) ?_
    rintro _ _ ⟨rfl, rfl⟩
    refine Hx.run 0 (pc' := 62) (L' := [some (vr 1), some (vi i), some (vi w)]) (st' := [vi (M 6 i)]) (M' := M) rfl ?_
    refine Hx.ret rfl ?_
    exact ⟨some_vi (by repeat (first | rw [if_pos (by omega)] | rw [if_neg (by omega)])), rfl⟩
  · refine Hx.tab (tgt := 63) 4 rfl h1 rfl ?_
    refine Hx.run 2 (pc' := 65) (L' := [some (vr 1), some (vi i), some (vi w)]) (st' := [vi i, vr 1]) (M' := M) rfl ?_
    refine Hx.call (t := 20) (as := [vr 1, vi i]) (pc' := 68) (rest := []) rfl (c_loadOf_1 i (by omega) M) ?_
    rintro _ _ ⟨rfl, rfl⟩
    refine Hx.run 0 (pc' := 68) (L' := [some (vr 1), some (vi i), some (vi w)]) (st' := [vi (M 6 (6 + i))]) (M' := M) rfl ?_
    refine Hx.ret rfl ?_
    exact ⟨some_vi (by repeat (first | rw [if_pos (by omega)] | rw [if_neg (by omega)])), rfl⟩
  · refine Hx.tabD (tgt := 69) rfl h1 rfl ?_
    refine Hx.run 2 (pc' := 71) (L' := [some (vr 1), some (vi i), some (vi w)]) (st' := [vi i, vr 1]) (M' := M) rfl ?_
    refine Hx.call (t := 30) (as := [vr 1, vi i]) (pc' := 74) (rest := []) rfl (c_reach_1 i M (by omega) (by omega)) ?_
    rintro _ _ ⟨rfl, rfl⟩
    refine Hx.run 0 (pc' := 74) (L' := [some (vr 1), some (vi i), some (vi w)]) (st' := [vi (sfF (M 3 i) (M 4 i) (M 6 (6 + i)) (M 6 16 % 24))]) (M' := M) rfl ?_
    refine Hx.ret rfl ?_
    exact ⟨some_vi (by repeat (first | rw [if_pos (by omega)] | rw [if_neg (by omega)])), rfl⟩
set_option maxRecDepth 100000 in
theorem C_of (i : Int) (w : Int) (M : Mm) (hI : HI M 1) (hs : (0 ≤ M 0 14 ∧ M 0 14 ≤ 600) ∧ (0 ≤ M 0 15 ∧ M 0 15 ≤ 600) ∧ (0 ≤ M 0 16 ∧ M 0 16 ≤ 600)) : Ct 70 [vr 0, vi i, vi w] M (fun q0 M' => ((0 ≤ i ∧ i < (M 1 1)) ∧ (w < 0) ∧ q0 = some (vi (-2)) ∧ (up M 0 14 ((M 0 14) + 1)) = M') ∨ ((0 ≤ i ∧ i < (M 1 1)) ∧ (¬ (w < 0)) ∧ (5 < w) ∧ q0 = some (vi (-2)) ∧ (up M 0 14 ((M 0 14) + 1)) = M') ∨ ((0 ≤ i ∧ i < (M 1 1)) ∧ (¬ (w < 0)) ∧ (¬ (5 < w)) ∧ q0 = some (vi (if w = 0 then (M 3 i) else if w = 1 then (M 4 i) else if w = 2 then (M 5 i) else if w = 3 then (M 6 i) else if w = 4 then (M 6 (6 + i)) else sfF (M 3 i) (M 4 i) (M 6 (6 + i)) ((M 6 16) % 24))) ∧ M = M') ∨ ((¬ (0 ≤ i ∧ i < (M 1 1))) ∧ q0 = some (vi (-2)) ∧ (up M 0 14 ((M 0 14) + 1)) = M')) := by
  obtain ⟨iF, iG, iK, iH, iFa, aF, aG, lS, lN, lM, rS, rN, rM, aK⟩ := (show (0 ≤ M 1 0 ∧ M 1 0 ≤ 3) ∧ (0 ≤ M 1 1 ∧ M 1 1 ≤ 6) ∧ (0 ≤ M 1 2 ∧ M 1 2 ≤ 8) ∧ (0 ≤ M 6 16 ∧ M 6 16 ≤ 9999) ∧ (0 ≤ M 6 15 ∧ M 6 15 ≤ 9000) ∧ (∀ f : Int, 0 ≤ f → f < M 1 0 → (0 ≤ M 2 f ∧ M 2 f ≤ 5) ∧ (1 ≤ M 6 (12 + f) ∧ M 6 (12 + f) ≤ 10)) ∧ (∀ i : Int, 0 ≤ i → i < M 1 1 → (0 ≤ M 3 i ∧ M 3 i ≤ 5) ∧ (1 ≤ M 4 i ∧ M 4 i ≤ 4) ∧ (0 ≤ M 5 i ∧ M 5 i < M 1 0) ∧ (0 ≤ M 6 i ∧ M 6 i ≤ 11) ∧ (0 ≤ M 6 (6 + i) ∧ M 6 (6 + i) ≤ 9)) ∧ (M 8 0 = 4 ∧ M 8 1 = 5 ∧ 0 ≤ M 8 3 ∧ M 8 3 ≤ 5) ∧ (M 10 0 = 3 ∧ M 10 1 = 6 ∧ 0 ≤ M 10 3 ∧ M 10 3 ≤ 6) ∧ (M 12 0 = 5 ∧ M 12 1 = 6 ∧ 0 ≤ M 12 3 ∧ M 12 3 ≤ 6) ∧ (∀ n : Int, 0 ≤ n → n < M 8 3 → (0 ≤ M 9 (n * 4 + 0) ∧ M 9 (n * 4 + 0) ≤ 2) ∧ (1 ≤ M 9 (n * 4 + 1) ∧ M 9 (n * 4 + 1) ≤ 10) ∧ (0 ≤ M 9 (n * 4 + 2) ∧ M 9 (n * 4 + 2) ≤ 23) ∧ (0 ≤ M 9 (n * 4 + 3) ∧ M 9 (n * 4 + 3) ≤ 1)) ∧ (∀ n : Int, 0 ≤ n → n < M 10 3 → (0 ≤ M 11 (n * 3 + 0) ∧ M 11 (n * 3 + 0) ≤ 2) ∧ (0 ≤ M 11 (n * 3 + 1) ∧ M 11 (n * 3 + 1) ≤ 23) ∧ (0 ≤ M 11 (n * 3 + 2) ∧ M 11 (n * 3 + 2) ≤ 9)) ∧ (∀ n : Int, 0 ≤ n → n < M 12 3 → (0 ≤ M 13 (n * 5 + 0) ∧ M 13 (n * 5 + 0) ≤ 5) ∧ (1 ≤ M 13 (n * 5 + 1) ∧ M 13 (n * 5 + 1) ≤ 4) ∧ (0 ≤ M 13 (n * 5 + 2) ∧ M 13 (n * 5 + 2) ≤ 9) ∧ (0 ≤ M 13 (n * 5 + 3) ∧ M 13 (n * 5 + 3) ≤ 23) ∧ (0 ≤ M 13 (n * 5 + 4) ∧ M 13 (n * 5 + 4) ≤ 9)) ∧ (∀ k : Int, 0 ≤ k → k < M 1 2 → (0 ≤ M 7 (k * 17 + 16) ∧ M 7 (k * 17 + 16) ≤ 9999) ∧ (0 ≤ M 7 (k * 17 + 15) ∧ M 7 (k * 17 + 15) ≤ 9000) ∧ (∀ f : Int, 0 ≤ f → f < M 1 0 → (1 ≤ M 7 (k * 17 + (12 + f)) ∧ M 7 (k * 17 + (12 + f)) ≤ 10)) ∧ (∀ i : Int, 0 ≤ i → i < M 1 1 → (0 ≤ M 7 (k * 17 + i) ∧ M 7 (k * 17 + i) ≤ 11) ∧ (0 ≤ M 7 (k * 17 + (6 + i)) ∧ M 7 (k * 17 + (6 + i)) ≤ 9))) from hI)
  refine Hx.run 3 (pc' := 5) (L' := [some (vr 0), some (vi i), some (vi w)]) (st' := [vi i, vr 1]) (M' := M) rfl ?_
  refine Hx.call (t := 8) (as := [vr 1, vi i]) (pc' := 8) (rest := []) rfl (c_hasGoer_1 i M) ?_
  rintro _ _ (⟨q30, rfl, rfl⟩ | ⟨q30, rfl, rfl⟩)
  · skip
    have gq30 := aG i q30.1 q30.2
    have fq30 := aF (M 5 i) (by omega) (by omega)
    refine Hx.run 2 (pc' := 12) (L' := [some (vr 0), some (vi i), some (vi w)]) (st' := [vi w]) (M' := M) rfl ?_
    refine Hx.br (c := w < 0) (t := 20) (f := 15) rfl (fun h1 => ?_) (fun h1 => ?_)
    · skip
      refine Hx.run 1 (pc' := 21) (L' := [some (vr 0), some (vi i), some (vi w)]) (st' := [vr 0]) (M' := M) rfl ?_
      refine Hx.call (t := 114) (as := [vr 0]) (pc' := 24) (rest := []) rfl (c_bad M (by omega)) ?_
      rintro _ _ ⟨rfl, rfl⟩
      refine Hx.run 0 (pc' := 24) (L' := [some (vr 0), some (vi i), some (vi w)]) (st' := [vi (-2)]) (M' := (up M 0 14 ((M 0 14) + 1))) rfl ?_
      refine Hx.ret rfl ?_
      exact Or.inl ⟨q30, h1, rfl, rfl⟩
    · skip
      refine Hx.run 2 (pc' := 17) (L' := [some (vr 0), some (vi i), some (vi w)]) (st' := [vi 5, vi w]) (M' := M) rfl ?_
      refine Hx.br (c := 5 < w) (t := 20) (f := 25) rfl (fun h2 => ?_) (fun h2 => ?_)
      · skip
        refine Hx.run 1 (pc' := 21) (L' := [some (vr 0), some (vi i), some (vi w)]) (st' := [vr 0]) (M' := M) rfl ?_
        refine Hx.call (t := 114) (as := [vr 0]) (pc' := 24) (rest := []) rfl (c_bad M (by omega)) ?_
        rintro _ _ ⟨rfl, rfl⟩
        refine Hx.run 0 (pc' := 24) (L' := [some (vr 0), some (vi i), some (vi w)]) (st' := [vi (-2)]) (M' := (up M 0 14 ((M 0 14) + 1))) rfl ?_
        refine Hx.ret rfl ?_
        exact Or.inr (Or.inl ⟨q30, h1, h2, rfl, rfl⟩)
      · skip
        refine Hx.run 4 (pc' := 31) (L' := [some (vr 0), some (vi i), some (vi w)]) (st' := [vi w, vi i, vr 1]) (M' := M) rfl ?_
        refine Hx.call (t := 32) (as := [vr 1, vi i, vi w]) (pc' := 34) (rest := []) rfl (c_ofGoer i w M (by omega) (by omega)) ?_
        rintro _ _ ⟨rfl, rfl⟩
        refine Hx.run 0 (pc' := 34) (L' := [some (vr 0), some (vi i), some (vi w)]) (st' := [vi (if w = 0 then (M 3 i) else if w = 1 then (M 4 i) else if w = 2 then (M 5 i) else if w = 3 then (M 6 i) else if w = 4 then (M 6 (6 + i)) else sfF (M 3 i) (M 4 i) (M 6 (6 + i)) ((M 6 16) % 24))]) (M' := M) rfl ?_
        refine Hx.ret rfl ?_
        exact Or.inr (Or.inr (Or.inl ⟨q30, h1, h2, rfl, rfl⟩))
  · skip
    refine Hx.run 2 (pc' := 21) (L' := [some (vr 0), some (vi i), some (vi w)]) (st' := [vr 0]) (M' := M) rfl ?_
    refine Hx.call (t := 114) (as := [vr 0]) (pc' := 24) (rest := []) rfl (c_bad M (by omega)) ?_
    rintro _ _ ⟨rfl, rfl⟩
    refine Hx.run 0 (pc' := 24) (L' := [some (vr 0), some (vi i), some (vi w)]) (st' := [vi (-2)]) (M' := (up M 0 14 ((M 0 14) + 1))) rfl ?_
    refine Hx.ret rfl ?_
    exact Or.inr (Or.inr (Or.inr (⟨q30, rfl, rfl⟩)))
set_option maxRecDepth 100000 in
theorem C_about (f : Int) (w : Int) (M : Mm) (hI : HI M 1) (hs : (0 ≤ M 0 14 ∧ M 0 14 ≤ 600) ∧ (0 ≤ M 0 15 ∧ M 0 15 ≤ 600) ∧ (0 ≤ M 0 16 ∧ M 0 16 ≤ 600)) : Ct 71 [vr 0, vi f, vi w] M (fun q0 M' => ((0 ≤ f ∧ f < (M 1 0)) ∧ (w < 0) ∧ q0 = some (vi (-2)) ∧ (up M 0 14 ((M 0 14) + 1)) = M') ∨ ((0 ≤ f ∧ f < (M 1 0)) ∧ (¬ (w < 0)) ∧ (2 < w) ∧ q0 = some (vi (-2)) ∧ (up M 0 14 ((M 0 14) + 1)) = M') ∨ ((0 ≤ f ∧ f < (M 1 0)) ∧ (¬ (w < 0)) ∧ (¬ (2 < w)) ∧ (w = 0) ∧ q0 = some (vi (M 2 f)) ∧ M = M') ∨ ((0 ≤ f ∧ f < (M 1 0)) ∧ (¬ (w < 0)) ∧ (¬ (2 < w)) ∧ (¬ (w = 0)) ∧ (w = 1) ∧ q0 = some (vi (M 6 (12 + f))) ∧ M = M') ∨ ((0 ≤ f ∧ f < (M 1 0)) ∧ (¬ (w < 0)) ∧ (¬ (2 < w)) ∧ (¬ (w = 0)) ∧ (¬ (w = 1)) ∧ q0 = some (vi (bb (M 6 (12 + f)) (bcF (M 2 f) (M 6 16 % 24)))) ∧ M = M') ∨ ((¬ (0 ≤ f ∧ f < (M 1 0))) ∧ q0 = some (vi (-2)) ∧ (up M 0 14 ((M 0 14) + 1)) = M')) := by
  obtain ⟨iF, iG, iK, iH, iFa, aF, aG, lS, lN, lM, rS, rN, rM, aK⟩ := (show (0 ≤ M 1 0 ∧ M 1 0 ≤ 3) ∧ (0 ≤ M 1 1 ∧ M 1 1 ≤ 6) ∧ (0 ≤ M 1 2 ∧ M 1 2 ≤ 8) ∧ (0 ≤ M 6 16 ∧ M 6 16 ≤ 9999) ∧ (0 ≤ M 6 15 ∧ M 6 15 ≤ 9000) ∧ (∀ f : Int, 0 ≤ f → f < M 1 0 → (0 ≤ M 2 f ∧ M 2 f ≤ 5) ∧ (1 ≤ M 6 (12 + f) ∧ M 6 (12 + f) ≤ 10)) ∧ (∀ i : Int, 0 ≤ i → i < M 1 1 → (0 ≤ M 3 i ∧ M 3 i ≤ 5) ∧ (1 ≤ M 4 i ∧ M 4 i ≤ 4) ∧ (0 ≤ M 5 i ∧ M 5 i < M 1 0) ∧ (0 ≤ M 6 i ∧ M 6 i ≤ 11) ∧ (0 ≤ M 6 (6 + i) ∧ M 6 (6 + i) ≤ 9)) ∧ (M 8 0 = 4 ∧ M 8 1 = 5 ∧ 0 ≤ M 8 3 ∧ M 8 3 ≤ 5) ∧ (M 10 0 = 3 ∧ M 10 1 = 6 ∧ 0 ≤ M 10 3 ∧ M 10 3 ≤ 6) ∧ (M 12 0 = 5 ∧ M 12 1 = 6 ∧ 0 ≤ M 12 3 ∧ M 12 3 ≤ 6) ∧ (∀ n : Int, 0 ≤ n → n < M 8 3 → (0 ≤ M 9 (n * 4 + 0) ∧ M 9 (n * 4 + 0) ≤ 2) ∧ (1 ≤ M 9 (n * 4 + 1) ∧ M 9 (n * 4 + 1) ≤ 10) ∧ (0 ≤ M 9 (n * 4 + 2) ∧ M 9 (n * 4 + 2) ≤ 23) ∧ (0 ≤ M 9 (n * 4 + 3) ∧ M 9 (n * 4 + 3) ≤ 1)) ∧ (∀ n : Int, 0 ≤ n → n < M 10 3 → (0 ≤ M 11 (n * 3 + 0) ∧ M 11 (n * 3 + 0) ≤ 2) ∧ (0 ≤ M 11 (n * 3 + 1) ∧ M 11 (n * 3 + 1) ≤ 23) ∧ (0 ≤ M 11 (n * 3 + 2) ∧ M 11 (n * 3 + 2) ≤ 9)) ∧ (∀ n : Int, 0 ≤ n → n < M 12 3 → (0 ≤ M 13 (n * 5 + 0) ∧ M 13 (n * 5 + 0) ≤ 5) ∧ (1 ≤ M 13 (n * 5 + 1) ∧ M 13 (n * 5 + 1) ≤ 4) ∧ (0 ≤ M 13 (n * 5 + 2) ∧ M 13 (n * 5 + 2) ≤ 9) ∧ (0 ≤ M 13 (n * 5 + 3) ∧ M 13 (n * 5 + 3) ≤ 23) ∧ (0 ≤ M 13 (n * 5 + 4) ∧ M 13 (n * 5 + 4) ≤ 9)) ∧ (∀ k : Int, 0 ≤ k → k < M 1 2 → (0 ≤ M 7 (k * 17 + 16) ∧ M 7 (k * 17 + 16) ≤ 9999) ∧ (0 ≤ M 7 (k * 17 + 15) ∧ M 7 (k * 17 + 15) ≤ 9000) ∧ (∀ f : Int, 0 ≤ f → f < M 1 0 → (1 ≤ M 7 (k * 17 + (12 + f)) ∧ M 7 (k * 17 + (12 + f)) ≤ 10)) ∧ (∀ i : Int, 0 ≤ i → i < M 1 1 → (0 ≤ M 7 (k * 17 + i) ∧ M 7 (k * 17 + i) ≤ 11) ∧ (0 ≤ M 7 (k * 17 + (6 + i)) ∧ M 7 (k * 17 + (6 + i)) ≤ 9))) from hI)
  refine Hx.run 3 (pc' := 5) (L' := [some (vr 0), some (vi f), some (vi w)]) (st' := [vi f, vr 1]) (M' := M) rfl ?_
  refine Hx.call (t := 7) (as := [vr 1, vi f]) (pc' := 8) (rest := []) rfl (c_hasFlight_1 f M) ?_
  rintro _ _ (⟨q31, rfl, rfl⟩ | ⟨q31, rfl, rfl⟩)
  · skip
    have fq31 := aF f q31.1 q31.2
    refine Hx.run 2 (pc' := 12) (L' := [some (vr 0), some (vi f), some (vi w)]) (st' := [vi w]) (M' := M) rfl ?_
    refine Hx.br (c := w < 0) (t := 20) (f := 15) rfl (fun h1 => ?_) (fun h1 => ?_)
    · skip
      refine Hx.run 1 (pc' := 21) (L' := [some (vr 0), some (vi f), some (vi w)]) (st' := [vr 0]) (M' := M) rfl ?_
      refine Hx.call (t := 114) (as := [vr 0]) (pc' := 24) (rest := []) rfl (c_bad M (by omega)) ?_
      rintro _ _ ⟨rfl, rfl⟩
      refine Hx.run 0 (pc' := 24) (L' := [some (vr 0), some (vi f), some (vi w)]) (st' := [vi (-2)]) (M' := (up M 0 14 ((M 0 14) + 1))) rfl ?_
      refine Hx.ret rfl ?_
      exact Or.inl ⟨q31, h1, rfl, rfl⟩
    · skip
      refine Hx.run 2 (pc' := 17) (L' := [some (vr 0), some (vi f), some (vi w)]) (st' := [vi 2, vi w]) (M' := M) rfl ?_
      refine Hx.br (c := 2 < w) (t := 20) (f := 25) rfl (fun h2 => ?_) (fun h2 => ?_)
      · skip
        refine Hx.run 1 (pc' := 21) (L' := [some (vr 0), some (vi f), some (vi w)]) (st' := [vr 0]) (M' := M) rfl ?_
        refine Hx.call (t := 114) (as := [vr 0]) (pc' := 24) (rest := []) rfl (c_bad M (by omega)) ?_
        rintro _ _ ⟨rfl, rfl⟩
        refine Hx.run 0 (pc' := 24) (L' := [some (vr 0), some (vi f), some (vi w)]) (st' := [vi (-2)]) (M' := (up M 0 14 ((M 0 14) + 1))) rfl ?_
        refine Hx.ret rfl ?_
        exact Or.inr (Or.inl ⟨q31, h1, h2, rfl, rfl⟩)
      · skip
        refine Hx.run 1 (pc' := 26) (L' := [some (vr 0), some (vi f), some (vi w)]) (st' := [vi w]) (M' := M) rfl ?_
        refine Hx.br (c := w = 0) (t := 29) (f := 40) rfl (fun h3 => ?_) (fun h3 => ?_)
        · skip
          refine Hx.run 3 (pc' := 34) (L' := [some (vr 0), some (vi f), some (vi w)]) (st' := [vi f, vr 1]) (M' := M) rfl ?_
          refine Hx.call (t := 13) (as := [vr 1, vi f]) (pc' := 37) (rest := []) rfl (c_ownerKind_1 f (by omega) M) ?_
          rintro _ _ ⟨rfl, rfl⟩
          refine Hx.run 0 (pc' := 37) (L' := [some (vr 0), some (vi f), some (vi w)]) (st' := [vi (M 2 f)]) (M' := M) rfl ?_
          refine Hx.run 1 (pc' := 71) (L' := [some (vr 0), some (vi f), some (vi w)]) (st' := [vi (M 2 f)]) (M' := M) rfl ?_
          refine Hx.ret rfl ?_
          exact Or.inr (Or.inr (Or.inl ⟨q31, h1, h2, h3, rfl, rfl⟩))
        · skip
          refine Hx.run 2 (pc' := 42) (L' := [some (vr 0), some (vi f), some (vi w)]) (st' := [vi 1, vi w]) (M' := M) rfl ?_
          refine Hx.br (c := w = 1) (t := 45) (f := 56) rfl (fun h4 => ?_) (fun h4 => ?_)
          · skip
            refine Hx.run 3 (pc' := 50) (L' := [some (vr 0), some (vi f), some (vi w)]) (st' := [vi f, vr 1]) (M' := M) rfl ?_
            refine Hx.call (t := 14) (as := [vr 1, vi f]) (pc' := 53) (rest := []) rfl (c_ownerStep_1 f (by omega) M) ?_
            rintro _ _ ⟨rfl, rfl⟩
            refine Hx.run 0 (pc' := 53) (L' := [some (vr 0), some (vi f), some (vi w)]) (st' := [vi (M 6 (12 + f))]) (M' := M) rfl ?_
            refine Hx.run 1 (pc' := 71) (L' := [some (vr 0), some (vi f), some (vi w)]) (st' := [vi (M 6 (12 + f))]) (M' := M) rfl ?_
            refine Hx.ret rfl ?_
            exact Or.inr (Or.inr (Or.inr (Or.inl ⟨q31, h1, h2, h3, h4, rfl, rfl⟩)))
          · skip
            refine Hx.run 5 (pc' := 65) (L' := [some (vr 0), some (vi f), some (vi w)]) (st' := [vr 1, vi f, vr 1]) (M' := M) rfl ?_
            refine Hx.call (t := 24) (as := [vr 1]) (pc' := 68) (rest := [vi f, vr 1]) rfl (c_hourOfDay_1  M (by omega)) ?_
            rintro _ _ ⟨rfl, rfl⟩
            refine Hx.run 0 (pc' := 68) (L' := [some (vr 0), some (vi f), some (vi w)]) (st' := [vi (M 6 16 % 24), vi f, vr 1]) (M' := M) rfl ?_
            refine Hx.call (t := 28) (as := [vr 1, vi f, vi (M 6 16 % 24)]) (pc' := 71) (rest := []) rfl (c_barsAt_1 f (M 6 16 % 24) M (by omega) (by omega)) ?_
            rintro _ _ ⟨rfl, rfl⟩
            refine Hx.run 0 (pc' := 71) (L' := [some (vr 0), some (vi f), some (vi w)]) (st' := [vi (bb (M 6 (12 + f)) (bcF (M 2 f) (M 6 16 % 24)))]) (M' := M) rfl ?_
            refine Hx.ret rfl ?_
            exact Or.inr (Or.inr (Or.inr (Or.inr (Or.inl ⟨q31, h1, h2, h3, h4, rfl, rfl⟩))))
  · skip
    refine Hx.run 2 (pc' := 21) (L' := [some (vr 0), some (vi f), some (vi w)]) (st' := [vr 0]) (M' := M) rfl ?_
    refine Hx.call (t := 114) (as := [vr 0]) (pc' := 24) (rest := []) rfl (c_bad M (by omega)) ?_
    rintro _ _ ⟨rfl, rfl⟩
    refine Hx.run 0 (pc' := 24) (L' := [some (vr 0), some (vi f), some (vi w)]) (st' := [vi (-2)]) (M' := (up M 0 14 ((M 0 14) + 1))) rfl ?_
    refine Hx.ret rfl ?_
    exact Or.inr (Or.inr (Or.inr (Or.inr (Or.inr (⟨q31, rfl, rfl⟩)))))
set_option maxRecDepth 100000 in
theorem c_gain (i a b : Int) (M : Mm) (hi : 0 ≤ i ∧ i < 6) (hl : 0 ≤ M 6 (6 + i) ∧ M 6 (6 + i) ≤ 9) : Ct 98 [vr 0, vi i, vi a, vi b] M (fun q0 M' => q0 = some (vi (if a = 1 then (if b = 1 then -(M 6 (6 + i)) - 2 else 4) else if b = 1 then 1 else 2)) ∧ M = M') := by
  refine Hx.run 2 (pc' := 2) (L' := [some (vr 0), some (vi i), some (vi a), some (vi b)]) (st' := [vi 1, vi a]) (M' := M) rfl ?_
  refine Hx.br (c := a = 1) (t := 5) (f := 22) rfl (fun h1 => ?_) (fun h1 => ?_)
  · skip
    refine Hx.run 2 (pc' := 7) (L' := [some (vr 0), some (vi i), some (vi a), some (vi b)]) (st' := [vi 1, vi b]) (M' := M) rfl ?_
    refine Hx.br (c := b = 1) (t := 10) (f := 22) rfl (fun h2 => ?_) (fun h2 => ?_)
    · skip
      refine Hx.run 3 (pc' := 15) (L' := [some (vr 0), some (vi i), some (vi a), some (vi b)]) (st' := [vi i, vr 1]) (M' := M) rfl ?_
      refine Hx.call (t := 20) (as := [vr 1, vi i]) (pc' := 18) (rest := []) rfl (c_loadOf_1 i (by omega) M) ?_
      rintro _ _ ⟨rfl, rfl⟩
      refine Hx.run 0 (pc' := 18) (L' := [some (vr 0), some (vi i), some (vi a), some (vi b)]) (st' := [vi (M 6 (6 + i))]) (M' := M) rfl ?_
      refine Hx.neg rfl (by omega) ?_
      refine Hx.run 1 (pc' := 20) (L' := [some (vr 0), some (vi i), some (vi a), some (vi b)]) (st' := [vi 2, vi (-(M 6 (6 + i)))]) (M' := M) rfl ?_
      refine Hx.sub rfl (by omega) ?_
      refine Hx.ret rfl ?_
      first | (exfalso; omega) | exact ⟨some_vi (by repeat (first | rw [if_pos (by omega)] | rw [if_neg (by omega)])), rfl⟩
    · skip
      refine Hx.run 2 (pc' := 24) (L' := [some (vr 0), some (vi i), some (vi a), some (vi b)]) (st' := [vi 1, vi a]) (M' := M) rfl ?_
      refine Hx.br (c := a = 1) (t := 27) (f := 29) rfl (fun h3 => ?_) (fun h3 => ?_)
      · skip
        refine Hx.run 1 (pc' := 28) (L' := [some (vr 0), some (vi i), some (vi a), some (vi b)]) (st' := [vi 4]) (M' := M) rfl ?_
        refine Hx.ret rfl ?_
        first | (exfalso; omega) | exact ⟨some_vi (by repeat (first | rw [if_pos (by omega)] | rw [if_neg (by omega)])), rfl⟩
      · skip
        refine Hx.run 2 (pc' := 31) (L' := [some (vr 0), some (vi i), some (vi a), some (vi b)]) (st' := [vi 1, vi b]) (M' := M) rfl ?_
        refine Hx.br (c := b = 1) (t := 34) (f := 38) rfl (fun h4 => ?_) (fun h4 => ?_)
        · skip
          refine Hx.run 2 (pc' := 39) (L' := [some (vr 0), some (vi i), some (vi a), some (vi b)]) (st' := [vi 1]) (M' := M) rfl ?_
          refine Hx.ret rfl ?_
          first | (exfalso; omega) | exact ⟨some_vi (by repeat (first | rw [if_pos (by omega)] | rw [if_neg (by omega)])), rfl⟩
        · skip
          refine Hx.run 1 (pc' := 39) (L' := [some (vr 0), some (vi i), some (vi a), some (vi b)]) (st' := [vi 2]) (M' := M) rfl ?_
          refine Hx.ret rfl ?_
          first | (exfalso; omega) | exact ⟨some_vi (by repeat (first | rw [if_pos (by omega)] | rw [if_neg (by omega)])), rfl⟩
  · skip
    refine Hx.run 2 (pc' := 24) (L' := [some (vr 0), some (vi i), some (vi a), some (vi b)]) (st' := [vi 1, vi a]) (M' := M) rfl ?_
    refine Hx.br (c := a = 1) (t := 27) (f := 29) rfl (fun h5 => ?_) (fun h5 => ?_)
    · skip
      refine Hx.run 1 (pc' := 28) (L' := [some (vr 0), some (vi i), some (vi a), some (vi b)]) (st' := [vi 4]) (M' := M) rfl ?_
      refine Hx.ret rfl ?_
      first | (exfalso; omega) | exact ⟨some_vi (by repeat (first | rw [if_pos (by omega)] | rw [if_neg (by omega)])), rfl⟩
    · skip
      refine Hx.run 2 (pc' := 31) (L' := [some (vr 0), some (vi i), some (vi a), some (vi b)]) (st' := [vi 1, vi b]) (M' := M) rfl ?_
      refine Hx.br (c := b = 1) (t := 34) (f := 38) rfl (fun h6 => ?_) (fun h6 => ?_)
      · skip
        refine Hx.run 2 (pc' := 39) (L' := [some (vr 0), some (vi i), some (vi a), some (vi b)]) (st' := [vi 1]) (M' := M) rfl ?_
        refine Hx.ret rfl ?_
        first | (exfalso; omega) | exact ⟨some_vi (by repeat (first | rw [if_pos (by omega)] | rw [if_neg (by omega)])), rfl⟩
      · skip
        refine Hx.run 1 (pc' := 39) (L' := [some (vr 0), some (vi i), some (vi a), some (vi b)]) (st' := [vi 2]) (M' := M) rfl ?_
        refine Hx.ret rfl ?_
        first | (exfalso; omega) | exact ⟨some_vi (by repeat (first | rw [if_pos (by omega)] | rw [if_neg (by omega)])), rfl⟩
set_option maxRecDepth 100000 in
theorem c_rests (i a b : Int) (M : Mm) (hi : 0 ≤ i ∧ i < 6) (hl : 0 ≤ M 6 (6 + i) ∧ M 6 (6 + i) ≤ 9) (ha : 0 ≤ a ∧ a ≤ 1) (hb : 0 ≤ b ∧ b ≤ 1) : Ct 97 [vr 0, vi i, vi a, vi b] M (fun q0 M' => (((a = 1 ∧ b = 0) ∨ (a = 0 ∧ b = 1)) ∧ q0 = some (vi 1) ∧ M = M') ∨ (¬ ((a = 1 ∧ b = 0) ∨ (a = 0 ∧ b = 1)) ∧ q0 = some (vi 0) ∧ M = M')) := by
  refine Hx.run 4 (pc' := 4) (L' := [some (vr 0), some (vi i), some (vi a), some (vi b)]) (st' := [vi b, vi a, vi i, vr 0]) (M' := M) rfl ?_
  refine Hx.call (t := 98) (as := [vr 0, vi i, vi a, vi b]) (pc' := 7) (rest := []) rfl (c_gain i a b M (by omega) (by omega)) ?_
  rintro _ _ ⟨rfl, rfl⟩
  refine Hx.run 0 (pc' := 7) (L' := [some (vr 0), some (vi i), some (vi a), some (vi b)]) (st' := [vi (if a = 1 then (if b = 1 then -(M 6 (6 + i)) - 2 else 4) else if b = 1 then 1 else 2)]) (M' := M) rfl ?_
  refine Hx.run 4 (pc' := 11) (L' := [some (vr 0), some (vi i), some (vi a), some (vi b)]) (st' := [vi a, vi 1, vi i, vr 0, vi (if a = 1 then (if b = 1 then -(M 6 (6 + i)) - 2 else 4) else if b = 1 then 1 else 2)]) (M' := M) rfl ?_
  refine Hx.sub rfl (by omega) ?_
  refine Hx.run 1 (pc' := 13) (L' := [some (vr 0), some (vi i), some (vi a), some (vi b)]) (st' := [vi b, vi (1 - a), vi i, vr 0, vi (if a = 1 then (if b = 1 then -(M 6 (6 + i)) - 2 else 4) else if b = 1 then 1 else 2)]) (M' := M) rfl ?_
  refine Hx.call (t := 98) (as := [vr 0, vi i, vi (1 - a), vi b]) (pc' := 16) (rest := [vi (if a = 1 then (if b = 1 then -(M 6 (6 + i)) - 2 else 4) else if b = 1 then 1 else 2)]) rfl (c_gain i (1 - a) b M (by omega) (by omega)) ?_
  rintro _ _ ⟨rfl, rfl⟩
  refine Hx.run 0 (pc' := 16) (L' := [some (vr 0), some (vi i), some (vi a), some (vi b)]) (st' := [vi (if (1 - a) = 1 then (if b = 1 then -(M 6 (6 + i)) - 2 else 4) else if b = 1 then 1 else 2), vi (if a = 1 then (if b = 1 then -(M 6 (6 + i)) - 2 else 4) else if b = 1 then 1 else 2)]) (M' := M) rfl ?_
  refine Hx.br (c := (if a = 1 then (if b = 1 then -(M 6 (6 + i)) - 2 else 4) else if b = 1 then 1 else 2) < (if (1 - a) = 1 then (if b = 1 then -(M 6 (6 + i)) - 2 else 4) else if b = 1 then 1 else 2)) (t := 23) (f := 19) rfl (fun h1 => ?_) (fun h1 => ?_)
  · skip
    refine Hx.run 1 (pc' := 24) (L' := [some (vr 0), some (vi i), some (vi a), some (vi b)]) (st' := [vi 0]) (M' := M) rfl ?_
    refine Hx.ret rfl ?_
    rcases (show a = 0 ∨ a = 1 by omega) with rfl | rfl <;> rcases (show b = 0 ∨ b = 1 by omega) with rfl | rfl <;> simp at * <;> omega
  · skip
    refine Hx.run 2 (pc' := 24) (L' := [some (vr 0), some (vi i), some (vi a), some (vi b)]) (st' := [vi 1]) (M' := M) rfl ?_
    refine Hx.ret rfl ?_
    rcases (show a = 0 ∨ a = 1 by omega) with rfl | rfl <;> rcases (show b = 0 ∨ b = 1 by omega) with rfl | rfl <;> simp at * <;> omega
set_option maxRecDepth 100000 in
theorem C_gap (a : Int) (b : Int) (M : Mm) (hI : HI M 1) (hs : (0 ≤ M 0 14 ∧ M 0 14 ≤ 600) ∧ (0 ≤ M 0 15 ∧ M 0 15 ≤ 600) ∧ (0 ≤ M 0 16 ∧ M 0 16 ≤ 600)) : Ct 96 [vr 0, vi a, vi b] M (fun q0 M' => ((0 ≤ a ∧ a < (M 1 1)) ∧ (0 ≤ b ∧ b < (M 1 1)) ∧ (a = b) ∧ q0 = some (vi (-2)) ∧ (up M 0 14 ((M 0 14) + 1)) = M') ∨ ((0 ≤ a ∧ a < (M 1 1)) ∧ (0 ≤ b ∧ b < (M 1 1)) ∧ (¬ (a = b)) ∧ q0 = some (vi 6) ∧ M = M') ∨ ((0 ≤ a ∧ a < (M 1 1)) ∧ (¬ (0 ≤ b ∧ b < (M 1 1))) ∧ q0 = some (vi (-2)) ∧ (up M 0 14 ((M 0 14) + 1)) = M') ∨ ((¬ (0 ≤ a ∧ a < (M 1 1))) ∧ q0 = some (vi (-2)) ∧ (up M 0 14 ((M 0 14) + 1)) = M')) := by
  obtain ⟨iF, iG, iK, iH, iFa, aF, aG, lS, lN, lM, rS, rN, rM, aK⟩ := (show (0 ≤ M 1 0 ∧ M 1 0 ≤ 3) ∧ (0 ≤ M 1 1 ∧ M 1 1 ≤ 6) ∧ (0 ≤ M 1 2 ∧ M 1 2 ≤ 8) ∧ (0 ≤ M 6 16 ∧ M 6 16 ≤ 9999) ∧ (0 ≤ M 6 15 ∧ M 6 15 ≤ 9000) ∧ (∀ f : Int, 0 ≤ f → f < M 1 0 → (0 ≤ M 2 f ∧ M 2 f ≤ 5) ∧ (1 ≤ M 6 (12 + f) ∧ M 6 (12 + f) ≤ 10)) ∧ (∀ i : Int, 0 ≤ i → i < M 1 1 → (0 ≤ M 3 i ∧ M 3 i ≤ 5) ∧ (1 ≤ M 4 i ∧ M 4 i ≤ 4) ∧ (0 ≤ M 5 i ∧ M 5 i < M 1 0) ∧ (0 ≤ M 6 i ∧ M 6 i ≤ 11) ∧ (0 ≤ M 6 (6 + i) ∧ M 6 (6 + i) ≤ 9)) ∧ (M 8 0 = 4 ∧ M 8 1 = 5 ∧ 0 ≤ M 8 3 ∧ M 8 3 ≤ 5) ∧ (M 10 0 = 3 ∧ M 10 1 = 6 ∧ 0 ≤ M 10 3 ∧ M 10 3 ≤ 6) ∧ (M 12 0 = 5 ∧ M 12 1 = 6 ∧ 0 ≤ M 12 3 ∧ M 12 3 ≤ 6) ∧ (∀ n : Int, 0 ≤ n → n < M 8 3 → (0 ≤ M 9 (n * 4 + 0) ∧ M 9 (n * 4 + 0) ≤ 2) ∧ (1 ≤ M 9 (n * 4 + 1) ∧ M 9 (n * 4 + 1) ≤ 10) ∧ (0 ≤ M 9 (n * 4 + 2) ∧ M 9 (n * 4 + 2) ≤ 23) ∧ (0 ≤ M 9 (n * 4 + 3) ∧ M 9 (n * 4 + 3) ≤ 1)) ∧ (∀ n : Int, 0 ≤ n → n < M 10 3 → (0 ≤ M 11 (n * 3 + 0) ∧ M 11 (n * 3 + 0) ≤ 2) ∧ (0 ≤ M 11 (n * 3 + 1) ∧ M 11 (n * 3 + 1) ≤ 23) ∧ (0 ≤ M 11 (n * 3 + 2) ∧ M 11 (n * 3 + 2) ≤ 9)) ∧ (∀ n : Int, 0 ≤ n → n < M 12 3 → (0 ≤ M 13 (n * 5 + 0) ∧ M 13 (n * 5 + 0) ≤ 5) ∧ (1 ≤ M 13 (n * 5 + 1) ∧ M 13 (n * 5 + 1) ≤ 4) ∧ (0 ≤ M 13 (n * 5 + 2) ∧ M 13 (n * 5 + 2) ≤ 9) ∧ (0 ≤ M 13 (n * 5 + 3) ∧ M 13 (n * 5 + 3) ≤ 23) ∧ (0 ≤ M 13 (n * 5 + 4) ∧ M 13 (n * 5 + 4) ≤ 9)) ∧ (∀ k : Int, 0 ≤ k → k < M 1 2 → (0 ≤ M 7 (k * 17 + 16) ∧ M 7 (k * 17 + 16) ≤ 9999) ∧ (0 ≤ M 7 (k * 17 + 15) ∧ M 7 (k * 17 + 15) ≤ 9000) ∧ (∀ f : Int, 0 ≤ f → f < M 1 0 → (1 ≤ M 7 (k * 17 + (12 + f)) ∧ M 7 (k * 17 + (12 + f)) ≤ 10)) ∧ (∀ i : Int, 0 ≤ i → i < M 1 1 → (0 ≤ M 7 (k * 17 + i) ∧ M 7 (k * 17 + i) ≤ 11) ∧ (0 ≤ M 7 (k * 17 + (6 + i)) ∧ M 7 (k * 17 + (6 + i)) ≤ 9))) from hI)
  refine Hx.run 3 (pc' := 5) (L' := [some (vr 0), some (vi a), some (vi b), none, none, none, none]) (st' := [vi a, vr 1]) (M' := M) rfl ?_
  refine Hx.call (t := 8) (as := [vr 1, vi a]) (pc' := 8) (rest := []) rfl (c_hasGoer_1 a M) ?_
  rintro _ _ (⟨q32, rfl, rfl⟩ | ⟨q32, rfl, rfl⟩)
  · skip
    have gq32 := aG a q32.1 q32.2
    have fq32 := aF (M 5 a) (by omega) (by omega)
    refine Hx.run 4 (pc' := 16) (L' := [some (vr 0), some (vi a), some (vi b), none, none, none, none]) (st' := [vi b, vr 1]) (M' := M) rfl ?_
    refine Hx.call (t := 8) (as := [vr 1, vi b]) (pc' := 19) (rest := []) rfl (c_hasGoer_1 b M) ?_
    rintro _ _ (⟨q33, rfl, rfl⟩ | ⟨q33, rfl, rfl⟩)
    · skip
      have gq33 := aG b q33.1 q33.2
      have fq33 := aF (M 5 b) (by omega) (by omega)
      refine Hx.run 3 (pc' := 24) (L' := [some (vr 0), some (vi a), some (vi b), none, none, none, none]) (st' := [vi b, vi a]) (M' := M) rfl ?_
      refine Hx.br (c := a = b) (t := 27) (f := 32) rfl (fun h1 => ?_) (fun h1 => ?_)
      · skip
        refine Hx.run 1 (pc' := 28) (L' := [some (vr 0), some (vi a), some (vi b), none, none, none, none]) (st' := [vr 0]) (M' := M) rfl ?_
        refine Hx.call (t := 114) (as := [vr 0]) (pc' := 31) (rest := []) rfl (c_bad M (by omega)) ?_
        rintro _ _ ⟨rfl, rfl⟩
        refine Hx.run 0 (pc' := 31) (L' := [some (vr 0), some (vi a), some (vi b), none, none, none, none]) (st' := [vi (-2)]) (M' := (up M 0 14 ((M 0 14) + 1))) rfl ?_
        refine Hx.ret rfl ?_
        exact Or.inl ⟨q32, q33, h1, rfl, rfl⟩
      · skip
        refine Hx.run 12 (pc' := 51) (L' := [some (vr 0), some (vi a), some (vi b), some (vi 0), some (vi 0), some (vi 0), none]) (st' := [vi 0]) (M' := M) rfl ?_
        refine Hx.run 7 (pc' := 61) (L' := [some (vr 0), some (vi a), some (vi b), some (vi 0), some (vi 0), some (vi 0), some (vi 0)]) (st' := [vi 0, vi 0, vi a, vr 0]) (M' := M) rfl ?_
        refine Hx.call (t := 97) (as := [vr 0, vi a, vi 0, vi 0]) (pc' := 64) (rest := []) rfl (show Ct 97 [vr 0, vi a, vi 0, vi 0] M (fun q0 M' => q0 = some (vi 0) ∧ M = M') from Ct.imp (c_rests a 0 0 M (by omega) (by omega) (by omega) (by omega)) (fun r M' h => by rcases h with ⟨h, h2, h3⟩ | ⟨h, h2, h3⟩ <;> first | exact ⟨h2, h3⟩ | (exfalso; omega))) ?_
        rintro _ _ ⟨rfl, rfl⟩
        refine Hx.run 0 (pc' := 64) (L' := [some (vr 0), some (vi a), some (vi b), some (vi 0), some (vi 0), some (vi 0), some (vi 0)]) (st' := [vi 0]) (M' := M) rfl ?_
        refine Hx.run 1 (pc' := 86) (L' := [some (vr 0), some (vi a), some (vi b), some (vi 0), some (vi 0), some (vi 0), some (vi 0)]) (st' := []) (M' := M) rfl ?_
        refine Hx.inc rfl rfl (by omega) ?_
        refine Hx.run 0 (pc' := 89) (L' := [some (vr 0), some (vi a), some (vi b), some (vi 0), some (vi 1), some (vi 0), some (vi 0)]) (st' := []) (M' := M) rfl ?_
        refine Hx.run 12 (pc' := 55) (L' := [some (vr 0), some (vi a), some (vi b), some (vi 0), some (vi 1), some (vi 1), some (vi 0)]) (st' := []) (M' := M) rfl ?_
        refine Hx.run 4 (pc' := 61) (L' := [some (vr 0), some (vi a), some (vi b), some (vi 0), some (vi 1), some (vi 1), some (vi 0)]) (st' := [vi 0, vi 1, vi a, vr 0]) (M' := M) rfl ?_
        refine Hx.call (t := 97) (as := [vr 0, vi a, vi 1, vi 0]) (pc' := 64) (rest := []) rfl (show Ct 97 [vr 0, vi a, vi 1, vi 0] M (fun q0 M' => q0 = some (vi 1) ∧ M = M') from Ct.imp (c_rests a 1 0 M (by omega) (by omega) (by omega) (by omega)) (fun r M' h => by rcases h with ⟨h, h2, h3⟩ | ⟨h, h2, h3⟩ <;> first | exact ⟨h2, h3⟩ | (exfalso; omega))) ?_
        rintro _ _ ⟨rfl, rfl⟩
        refine Hx.run 0 (pc' := 64) (L' := [some (vr 0), some (vi a), some (vi b), some (vi 0), some (vi 1), some (vi 1), some (vi 0)]) (st' := [vi 1]) (M' := M) rfl ?_
        refine Hx.run 5 (pc' := 73) (L' := [some (vr 0), some (vi a), some (vi b), some (vi 0), some (vi 1), some (vi 1), some (vi 0)]) (st' := [vi 1, vi 0, vi b, vr 0]) (M' := M) rfl ?_
        refine Hx.call (t := 97) (as := [vr 0, vi b, vi 0, vi 1]) (pc' := 76) (rest := []) rfl (show Ct 97 [vr 0, vi b, vi 0, vi 1] M (fun q0 M' => q0 = some (vi 1) ∧ M = M') from Ct.imp (c_rests b 0 1 M (by omega) (by omega) (by omega) (by omega)) (fun r M' h => by rcases h with ⟨h, h2, h3⟩ | ⟨h, h2, h3⟩ <;> first | exact ⟨h2, h3⟩ | (exfalso; omega))) ?_
        rintro _ _ ⟨rfl, rfl⟩
        refine Hx.run 0 (pc' := 76) (L' := [some (vr 0), some (vi a), some (vi b), some (vi 0), some (vi 1), some (vi 1), some (vi 0)]) (st' := [vi 1]) (M' := M) rfl ?_
        refine Hx.run 7 (pc' := 86) (L' := [some (vr 0), some (vi a), some (vi b), some (vi 2), some (vi 1), some (vi 1), some (vi 0)]) (st' := []) (M' := M) rfl ?_
        refine Hx.inc rfl rfl (by omega) ?_
        refine Hx.run 0 (pc' := 89) (L' := [some (vr 0), some (vi a), some (vi b), some (vi 2), some (vi 2), some (vi 1), some (vi 0)]) (st' := []) (M' := M) rfl ?_
        refine Hx.run 12 (pc' := 55) (L' := [some (vr 0), some (vi a), some (vi b), some (vi 2), some (vi 2), some (vi 0), some (vi 1)]) (st' := []) (M' := M) rfl ?_
        refine Hx.run 4 (pc' := 61) (L' := [some (vr 0), some (vi a), some (vi b), some (vi 2), some (vi 2), some (vi 0), some (vi 1)]) (st' := [vi 1, vi 0, vi a, vr 0]) (M' := M) rfl ?_
        refine Hx.call (t := 97) (as := [vr 0, vi a, vi 0, vi 1]) (pc' := 64) (rest := []) rfl (show Ct 97 [vr 0, vi a, vi 0, vi 1] M (fun q0 M' => q0 = some (vi 1) ∧ M = M') from Ct.imp (c_rests a 0 1 M (by omega) (by omega) (by omega) (by omega)) (fun r M' h => by rcases h with ⟨h, h2, h3⟩ | ⟨h, h2, h3⟩ <;> first | exact ⟨h2, h3⟩ | (exfalso; omega))) ?_
        rintro _ _ ⟨rfl, rfl⟩
        refine Hx.run 0 (pc' := 64) (L' := [some (vr 0), some (vi a), some (vi b), some (vi 2), some (vi 2), some (vi 0), some (vi 1)]) (st' := [vi 1]) (M' := M) rfl ?_
        refine Hx.run 5 (pc' := 73) (L' := [some (vr 0), some (vi a), some (vi b), some (vi 2), some (vi 2), some (vi 0), some (vi 1)]) (st' := [vi 0, vi 1, vi b, vr 0]) (M' := M) rfl ?_
        refine Hx.call (t := 97) (as := [vr 0, vi b, vi 1, vi 0]) (pc' := 76) (rest := []) rfl (show Ct 97 [vr 0, vi b, vi 1, vi 0] M (fun q0 M' => q0 = some (vi 1) ∧ M = M') from Ct.imp (c_rests b 1 0 M (by omega) (by omega) (by omega) (by omega)) (fun r M' h => by rcases h with ⟨h, h2, h3⟩ | ⟨h, h2, h3⟩ <;> first | exact ⟨h2, h3⟩ | (exfalso; omega))) ?_
        rintro _ _ ⟨rfl, rfl⟩
        refine Hx.run 0 (pc' := 76) (L' := [some (vr 0), some (vi a), some (vi b), some (vi 2), some (vi 2), some (vi 0), some (vi 1)]) (st' := [vi 1]) (M' := M) rfl ?_
        refine Hx.run 7 (pc' := 86) (L' := [some (vr 0), some (vi a), some (vi b), some (vi 6), some (vi 2), some (vi 0), some (vi 1)]) (st' := []) (M' := M) rfl ?_
        refine Hx.inc rfl rfl (by omega) ?_
        refine Hx.run 0 (pc' := 89) (L' := [some (vr 0), some (vi a), some (vi b), some (vi 6), some (vi 3), some (vi 0), some (vi 1)]) (st' := []) (M' := M) rfl ?_
        refine Hx.run 12 (pc' := 55) (L' := [some (vr 0), some (vi a), some (vi b), some (vi 6), some (vi 3), some (vi 1), some (vi 1)]) (st' := []) (M' := M) rfl ?_
        refine Hx.run 4 (pc' := 61) (L' := [some (vr 0), some (vi a), some (vi b), some (vi 6), some (vi 3), some (vi 1), some (vi 1)]) (st' := [vi 1, vi 1, vi a, vr 0]) (M' := M) rfl ?_
        refine Hx.call (t := 97) (as := [vr 0, vi a, vi 1, vi 1]) (pc' := 64) (rest := []) rfl (show Ct 97 [vr 0, vi a, vi 1, vi 1] M (fun q0 M' => q0 = some (vi 0) ∧ M = M') from Ct.imp (c_rests a 1 1 M (by omega) (by omega) (by omega) (by omega)) (fun r M' h => by rcases h with ⟨h, h2, h3⟩ | ⟨h, h2, h3⟩ <;> first | exact ⟨h2, h3⟩ | (exfalso; omega))) ?_
        rintro _ _ ⟨rfl, rfl⟩
        refine Hx.run 0 (pc' := 64) (L' := [some (vr 0), some (vi a), some (vi b), some (vi 6), some (vi 3), some (vi 1), some (vi 1)]) (st' := [vi 0]) (M' := M) rfl ?_
        refine Hx.run 1 (pc' := 86) (L' := [some (vr 0), some (vi a), some (vi b), some (vi 6), some (vi 3), some (vi 1), some (vi 1)]) (st' := []) (M' := M) rfl ?_
        refine Hx.inc rfl rfl (by omega) ?_
        refine Hx.run 0 (pc' := 89) (L' := [some (vr 0), some (vi a), some (vi b), some (vi 6), some (vi 4), some (vi 1), some (vi 1)]) (st' := []) (M' := M) rfl ?_
        refine Hx.run 5 (pc' := 93) (L' := [some (vr 0), some (vi a), some (vi b), some (vi 6), some (vi 4), some (vi 1), some (vi 1)]) (st' := [vi 6]) (M' := M) rfl ?_
        refine Hx.ret rfl ?_
        exact Or.inr (Or.inl ⟨q32, q33, h1, rfl, rfl⟩)
    · skip
      refine Hx.run 2 (pc' := 28) (L' := [some (vr 0), some (vi a), some (vi b), none, none, none, none]) (st' := [vr 0]) (M' := M) rfl ?_
      refine Hx.call (t := 114) (as := [vr 0]) (pc' := 31) (rest := []) rfl (c_bad M (by omega)) ?_
      rintro _ _ ⟨rfl, rfl⟩
      refine Hx.run 0 (pc' := 31) (L' := [some (vr 0), some (vi a), some (vi b), none, none, none, none]) (st' := [vi (-2)]) (M' := (up M 0 14 ((M 0 14) + 1))) rfl ?_
      refine Hx.ret rfl ?_
      exact Or.inr (Or.inr (Or.inl ⟨q32, q33, rfl, rfl⟩))
  · skip
    refine Hx.run 2 (pc' := 28) (L' := [some (vr 0), some (vi a), some (vi b), none, none, none, none]) (st' := [vr 0]) (M' := M) rfl ?_
    refine Hx.call (t := 114) (as := [vr 0]) (pc' := 31) (rest := []) rfl (c_bad M (by omega)) ?_
    rintro _ _ ⟨rfl, rfl⟩
    refine Hx.run 0 (pc' := 31) (L' := [some (vr 0), some (vi a), some (vi b), none, none, none, none]) (st' := [vi (-2)]) (M' := (up M 0 14 ((M 0 14) + 1))) rfl ?_
    refine Hx.ret rfl ?_
    exact Or.inr (Or.inr (Or.inr (⟨q32, rfl, rfl⟩)))
end
section
/-! the reference: its small members (written by wip/whole/gen21.py) -/
theorem bf_or : ∀ (s : Fin 11) (j : Fin 3), 1 ≤ s.val → s.val + j.val < 11 → i2 fior (bb (s.val : Int) (j.val : Int)) (i2 fshl 1 ((s.val : Int) + (j.val : Int))) = bb (s.val : Int) ((j.val : Int) + 1) := by decide +kernel
theorem bf_cut : ∀ (s : Fin 11) (j n : Fin 4), 1 ≤ s.val → s.val + j.val = 11 → j.val ≤ n.val → bb (s.val : Int) (j.val : Int) = bb (s.val : Int) (n.val : Int) := by decide +kernel
theorem bb_0 (s : Int) : bb s 0 = 0 := by unfold bb; simp
def cpR (M : Mm) (f t : Int) (n : Int) : Mm := fun a b => if a = 65 ∧ t ≤ b ∧ b < t + n then M 65 (f + (b - t)) else M a b
set_option maxRecDepth 100000 in
theorem r_in (v a b : Int) (M : Mm) : Ct 130 [vl v, vl a, vl b] M (fun q0 M' => ((a ≤ v ∧ v ≤ b) ∧ q0 = some (vi 1) ∧ M = M') ∨ (¬ (a ≤ v ∧ v ≤ b) ∧ q0 = some (vi 0) ∧ M = M')) := by
  refine Hx.run 3 (pc' := 3) (L' := [some (vl v), none, some (vl a), none, some (vl b), none]) (st' := [vi (lc v a)]) (M' := M) rfl ?_
  refine Hx.br (c := (lc v a) < 0) (t := 17) (f := 6) rfl (fun h1 => ?_) (fun h1 => ?_)
  · skip
    rw [lc_lt] at h1
    refine Hx.run 1 (pc' := 18) (L' := [some (vl v), none, some (vl a), none, some (vl b), none]) (st' := [vi 0]) (M' := M) rfl ?_
    refine Hx.ret rfl ?_
    first | exact Or.inl ⟨by omega, rfl, rfl⟩ | exact Or.inr ⟨by omega, rfl, rfl⟩
  · skip
    rw [lc_lt] at h1
    refine Hx.run 3 (pc' := 10) (L' := [some (vl v), none, some (vl a), none, some (vl b), none]) (st' := [vi (lc v b)]) (M' := M) rfl ?_
    refine Hx.br (c := 0 < (lc v b)) (t := 17) (f := 13) rfl (fun h2 => ?_) (fun h2 => ?_)
    · skip
      rw [lc_gt] at h2
      refine Hx.run 1 (pc' := 18) (L' := [some (vl v), none, some (vl a), none, some (vl b), none]) (st' := [vi 0]) (M' := M) rfl ?_
      refine Hx.ret rfl ?_
      first | exact Or.inl ⟨by omega, rfl, rfl⟩ | exact Or.inr ⟨by omega, rfl, rfl⟩
    · skip
      rw [lc_gt] at h2
      refine Hx.run 2 (pc' := 18) (L' := [some (vl v), none, some (vl a), none, some (vl b), none]) (st' := [vi 1]) (M' := M) rfl ?_
      refine Hx.ret rfl ?_
      first | exact Or.inl ⟨by omega, rfl, rfl⟩ | exact Or.inr ⟨by omega, rfl, rfl⟩
set_option maxRecDepth 100000 in
theorem r_has (b p : Int) (M : Mm) (h0 : 0 ≤ b ∧ b < 2147483648) (hp : 0 ≤ p ∧ p < 32) : Ct 131 [vi b, vi p] M (fun q0 M' => ((hb b p) ∧ q0 = some (vi 1) ∧ M = M') ∨ (¬ (hb b p) ∧ q0 = some (vi 0) ∧ M = M')) := by
  refine Hx.run 6 (pc' := 6) (L' := [some (vi b), some (vi p)]) (st' := [vi 1, vi (i2 fand (i2 fshr b p) 1)]) (M' := M) rfl ?_
  refine Hx.br (c := (i2 fand (i2 fshr b p) 1) = 1) (t := 9) (f := 13) rfl (fun h1 => ?_) (fun h1 => ?_)
  · skip
    refine Hx.run 2 (pc' := 14) (L' := [some (vi b), some (vi p)]) (st' := [vi 1]) (M' := M) rfl ?_
    refine Hx.ret rfl ?_
    first | exact Or.inl ⟨by unfold hb; rw [hb_e h0 hp] at h1; omega, rfl, rfl⟩ | exact Or.inr ⟨by unfold hb; rw [hb_e h0 hp] at h1; omega, rfl, rfl⟩
  · skip
    refine Hx.run 1 (pc' := 14) (L' := [some (vi b), some (vi p)]) (st' := [vi 0]) (M' := M) rfl ?_
    refine Hx.ret rfl ?_
    first | exact Or.inl ⟨by unfold hb; rw [hb_e h0 hp] at h1; omega, rfl, rfl⟩ | exact Or.inr ⟨by unfold hb; rw [hb_e h0 hp] at h1; omega, rfl, rfl⟩
set_option maxRecDepth 100000 in
theorem r_bad (x : Int) (M : Mm) (h : 0 ≤ M 68 0 ∧ M 68 0 ≤ 1000) : Ct 132 [vr 64, vi x] M (fun q0 M' => q0 = some (vi x) ∧ up M 68 0 (M 68 0 + 1) = M') := by
  refine Hx.run 6 (pc' := 8) (L' := [some (vr 64), some (vi x)]) (st' := [vi 1, vi (M 68 0), vi 0, vr 68]) (M' := M) rfl ?_
  refine Hx.add rfl (by omega) ?_
  refine Hx.astI (n := 3) rfl rfl (by omega) ?_
  refine Hx.run 1 (pc' := 11) (L' := [some (vr 64), some (vi x)]) (st' := [vi x]) (M' := (up M 68 0 ((M 68 0) + 1))) rfl ?_
  refine Hx.ret rfl ?_
  exact ⟨rfl, rfl⟩
set_option maxRecDepth 100000 in
theorem r_no (M : Mm) (h : 0 ≤ M 68 1 ∧ M 68 1 ≤ 1000) : Ct 133 [vr 64] M (fun q0 M' => q0 = some (vi (-3)) ∧ up M 68 1 (M 68 1 + 1) = M') := by
  refine Hx.run 6 (pc' := 8) (L' := [some (vr 64)]) (st' := [vi 1, vi (M 68 1), vi 1, vr 68]) (M' := M) rfl ?_
  refine Hx.add rfl (by omega) ?_
  refine Hx.astI (n := 3) rfl rfl (by omega) ?_
  refine Hx.run 1 (pc' := 12) (L' := [some (vr 64)]) (st' := [vi (-3)]) (M' := (up M 68 1 ((M 68 1) + 1))) rfl ?_
  refine Hx.ret rfl ?_
  exact ⟨rfl, rfl⟩
set_option maxRecDepth 100000 in
theorem r_full (M : Mm) (h : 0 ≤ M 68 2 ∧ M 68 2 ≤ 1000) : Ct 134 [vr 64] M (fun q0 M' => q0 = some (vi (-4)) ∧ up M 68 2 (M 68 2 + 1) = M') := by
  refine Hx.run 6 (pc' := 8) (L' := [some (vr 64)]) (st' := [vi 1, vi (M 68 2), vi 2, vr 68]) (M' := M) rfl ?_
  refine Hx.add rfl (by omega) ?_
  refine Hx.astI (n := 3) rfl rfl (by omega) ?_
  refine Hx.run 1 (pc' := 12) (L' := [some (vr 64)]) (st' := [vi (-4)]) (M' := (up M 68 2 ((M 68 2) + 1))) rfl ?_
  refine Hx.ret rfl ?_
  exact ⟨rfl, rfl⟩
set_option maxRecDepth 100000 in
theorem r_isGoer (x : Int) (M : Mm) (h : 0 ≤ M 65 1 ∧ M 65 1 ≤ 6) : Ct 137 [vr 64, vi x] M (fun q0 M' => ((0 ≤ x ∧ x < M 65 1) ∧ q0 = some (vi 1) ∧ M = M') ∨ (¬ (0 ≤ x ∧ x < M 65 1) ∧ q0 = some (vi 0) ∧ M = M')) := by
  refine Hx.run 8 (pc' := 10) (L' := [some (vr 64), some (vi x)]) (st' := [vi 1, vi (M 65 1), vl 0, vl x]) (M' := M) rfl ?_
  refine Hx.sub rfl (by omega) ?_
  refine Hx.run 1 (pc' := 12) (L' := [some (vr 64), some (vi x)]) (st' := [vl ((M 65 1) - 1), vl 0, vl x]) (M' := M) rfl ?_
  refine Hx.call (t := 130) (as := [vl x, vl 0, vl ((M 65 1) - 1)]) (pc' := 15) (rest := []) rfl (r_in x 0 ((M 65 1) - 1) M) ?_
  rintro _ _ (⟨q34, rfl, rfl⟩ | ⟨q34, rfl, rfl⟩)
  · skip
    refine Hx.ret rfl ?_
    first | exact Or.inl ⟨by omega, rfl, rfl⟩ | exact Or.inr ⟨by omega, rfl, rfl⟩
  · skip
    refine Hx.ret rfl ?_
    first | exact Or.inl ⟨by omega, rfl, rfl⟩ | exact Or.inr ⟨by omega, rfl, rfl⟩
set_option maxRecDepth 100000 in
theorem r_isFlight (x : Int) (M : Mm) (h : 0 ≤ M 65 0 ∧ M 65 0 ≤ 3) : Ct 138 [vr 64, vi x] M (fun q0 M' => ((0 ≤ x ∧ x < M 65 0) ∧ q0 = some (vi 1) ∧ M = M') ∨ (¬ (0 ≤ x ∧ x < M 65 0) ∧ q0 = some (vi 0) ∧ M = M')) := by
  refine Hx.run 8 (pc' := 10) (L' := [some (vr 64), some (vi x)]) (st' := [vi 1, vi (M 65 0), vl 0, vl x]) (M' := M) rfl ?_
  refine Hx.sub rfl (by omega) ?_
  refine Hx.run 1 (pc' := 12) (L' := [some (vr 64), some (vi x)]) (st' := [vl ((M 65 0) - 1), vl 0, vl x]) (M' := M) rfl ?_
  refine Hx.call (t := 130) (as := [vl x, vl 0, vl ((M 65 0) - 1)]) (pc' := 15) (rest := []) rfl (r_in x 0 ((M 65 0) - 1) M) ?_
  rintro _ _ (⟨q35, rfl, rfl⟩ | ⟨q35, rfl, rfl⟩)
  · skip
    refine Hx.ret rfl ?_
    first | exact Or.inl ⟨by omega, rfl, rfl⟩ | exact Or.inr ⟨by omega, rfl, rfl⟩
  · skip
    refine Hx.ret rfl ?_
    first | exact Or.inl ⟨by omega, rfl, rfl⟩ | exact Or.inr ⟨by omega, rfl, rfl⟩
set_option maxRecDepth 100000 in
theorem r_isHour (x : Int) (M : Mm) : Ct 139 [vi x] M (fun q0 M' => ((0 ≤ x ∧ x < 24) ∧ q0 = some (vi 1) ∧ M = M') ∨ (¬ (0 ≤ x ∧ x < 24) ∧ q0 = some (vi 0) ∧ M = M')) := by
  refine Hx.run 4 (pc' := 6) (L' := [some (vi x)]) (st' := [vl 23, vl 0, vl x]) (M' := M) rfl ?_
  refine Hx.call (t := 130) (as := [vl x, vl 0, vl 23]) (pc' := 9) (rest := []) rfl (r_in x 0 23 M) ?_
  rintro _ _ (⟨q36, rfl, rfl⟩ | ⟨q36, rfl, rfl⟩)
  · skip
    refine Hx.ret rfl ?_
    first | exact Or.inl ⟨by omega, rfl, rfl⟩ | exact Or.inr ⟨by omega, rfl, rfl⟩
  · skip
    refine Hx.ret rfl ?_
    first | exact Or.inl ⟨by omega, rfl, rfl⟩ | exact Or.inr ⟨by omega, rfl, rfl⟩
set_option maxRecDepth 100000 in
theorem r_clerk (t : Int) (M : Mm) : Ct 140 [vi t] M (fun q0 M' => q0 = some (vi (if 18 ≤ t then 2 else 1)) ∧ M = M') := by
  refine Hx.run 2 (pc' := 3) (L' := [some (vi t)]) (st' := [vi 18, vi t]) (M' := M) rfl ?_
  refine Hx.br (c := t < 18) (t := 10) (f := 6) rfl (fun h1 => ?_) (fun h1 => ?_)
  · skip
    refine Hx.run 1 (pc' := 11) (L' := [some (vi t)]) (st' := [vi 1]) (M' := M) rfl ?_
    refine Hx.ret rfl ?_
    exact ⟨some_vi (by repeat (first | rw [if_pos (by omega)] | rw [if_neg (by omega)])), rfl⟩
  · skip
    refine Hx.run 2 (pc' := 11) (L' := [some (vi t)]) (st' := [vi 2]) (M' := M) rfl ?_
    refine Hx.ret rfl ?_
    exact ⟨some_vi (by repeat (first | rw [if_pos (by omega)] | rw [if_neg (by omega)])), rfl⟩
set_option maxRecDepth 100000 in
theorem r_lady (t : Int) (M : Mm) : Ct 141 [vi t] M (fun q0 M' => q0 = some (vi (if 9 ≤ t ∧ t ≤ 16 then 3 else 1)) ∧ M = M') := by
  refine Hx.run 4 (pc' := 8) (L' := [some (vi t)]) (st' := [vl 16, vl 9, vl t]) (M' := M) rfl ?_
  refine Hx.call (t := 130) (as := [vl t, vl 9, vl 16]) (pc' := 11) (rest := []) rfl (r_in t 9 16 M) ?_
  rintro _ _ (⟨q37, rfl, rfl⟩ | ⟨q37, rfl, rfl⟩)
  · skip
    refine Hx.run 3 (pc' := 19) (L' := [some (vi t)]) (st' := [vi 3]) (M' := M) rfl ?_
    refine Hx.ret rfl ?_
    exact ⟨some_vi (by repeat (first | rw [if_pos (by omega)] | rw [if_neg (by omega)])), rfl⟩
  · skip
    refine Hx.run 2 (pc' := 19) (L' := [some (vi t)]) (st' := [vi 1]) (M' := M) rfl ?_
    refine Hx.ret rfl ?_
    exact ⟨some_vi (by repeat (first | rw [if_pos (by omega)] | rw [if_neg (by omega)])), rfl⟩
set_option maxRecDepth 100000 in
set_option maxHeartbeats 4000000 in
theorem r_barsOf (k t : Int) (M : Mm) (hk : 0 ≤ k ∧ k ≤ 5) (ht : 0 ≤ t ∧ t < 24) : Ct 142 [vi k, vi t] M (fun q0 M' => q0 = some (vi (bcF k t)) ∧ M = M') := by
  refine Hx.run 1 (pc' := 1) (L' := [some (vi k), some (vi t)]) (st' := [vi k]) (M' := M) rfl ?_
  rcases (show k = 1 ∨ k = 2 ∨ k = 3 ∨ k = 4 ∨ k = 5 ∨ (k < 1 ∨ 5 < k) by omega) with h1 | h1 | h1 | h1 | h1 | h1
  · refine Hx.tab (tgt := 36) 1 rfl h1 rfl ?_
    refine Hx.run 1 (pc' := 37) (L' := [some (vi k), some (vi t)]) (st' := [vi t]) (M' := M) rfl ?_
    refine Hx.call (t := 140) (as := [vi t]) (pc' := 40) (rest := []) rfl (r_clerk t M) ?_
    rintro _ _ ⟨rfl, rfl⟩
    refine Hx.run 0 (pc' := 40) (L' := [some (vi k), some (vi t)]) (st' := [vi (if 18 ≤ t then 2 else 1)]) (M' := M) rfl ?_
    refine Hx.ret rfl ?_
    exact ⟨some_vi (by unfold bcF; (repeat' split) <;> omega), rfl⟩
  · refine Hx.tab (tgt := 41) 2 rfl h1 rfl ?_
    refine Hx.run 2 (pc' := 44) (L' := [some (vi k), some (vi t)]) (st' := [vi 6, vi t]) (M' := M) rfl ?_
    refine Hx.rem rfl (by (first | omega | (split <;> omega))) ?_
    refine Hx.br (c := (t % 6) = 0) (t := 48) (f := 57) rfl (fun h2 => ?_) (fun h2 => ?_)
    · skip
      refine Hx.run 1 (pc' := 49) (L' := [some (vi k), some (vi t)]) (st' := [vi t]) (M' := M) rfl ?_
      refine Hx.call (t := 140) (as := [vi t]) (pc' := 52) (rest := []) rfl (r_clerk t M) ?_
      rintro _ _ ⟨rfl, rfl⟩
      refine Hx.run 0 (pc' := 52) (L' := [some (vi k), some (vi t)]) (st' := [vi (if 18 ≤ t then 2 else 1)]) (M' := M) rfl ?_
      refine Hx.run 1 (pc' := 53) (L' := [some (vi k), some (vi t)]) (st' := [vi 1, vi (if 18 ≤ t then 2 else 1)]) (M' := M) rfl ?_
      refine Hx.add rfl (by (first | omega | (split <;> omega))) ?_
      refine Hx.run 1 (pc' := 61) (L' := [some (vi k), some (vi t)]) (st' := [vi ((if 18 ≤ t then 2 else 1) + 1)]) (M' := M) rfl ?_
      refine Hx.ret rfl ?_
      exact ⟨some_vi (by unfold bcF; (repeat' split) <;> omega), rfl⟩
    · skip
      refine Hx.run 1 (pc' := 58) (L' := [some (vi k), some (vi t)]) (st' := [vi t]) (M' := M) rfl ?_
      refine Hx.call (t := 140) (as := [vi t]) (pc' := 61) (rest := []) rfl (r_clerk t M) ?_
      rintro _ _ ⟨rfl, rfl⟩
      refine Hx.run 0 (pc' := 61) (L' := [some (vi k), some (vi t)]) (st' := [vi (if 18 ≤ t then 2 else 1)]) (M' := M) rfl ?_
      refine Hx.ret rfl ?_
      exact ⟨some_vi (by unfold bcF; (repeat' split) <;> omega), rfl⟩
  · refine Hx.tab (tgt := 62) 3 rfl h1 rfl ?_
    refine Hx.run 1 (pc' := 63) (L' := [some (vi k), some (vi t)]) (st' := [vi t]) (M' := M) rfl ?_
    refine Hx.call (t := 141) (as := [vi t]) (pc' := 66) (rest := []) rfl (r_lady t M) ?_
    rintro _ _ ⟨rfl, rfl⟩
    refine Hx.run 0 (pc' := 66) (L' := [some (vi k), some (vi t)]) (st' := [vi (if 9 ≤ t ∧ t ≤ 16 then 3 else 1)]) (M' := M) rfl ?_
    refine Hx.ret rfl ?_
    exact ⟨some_vi (by unfold bcF; (repeat' split) <;> omega), rfl⟩
  · refine Hx.tab (tgt := 67) 4 rfl h1 rfl ?_
    refine Hx.run 1 (pc' := 68) (L' := [some (vi k), some (vi t)]) (st' := [vi t]) (M' := M) rfl ?_
    refine Hx.call (t := 141) (as := [vi t]) (pc' := 71) (rest := []) rfl (r_lady t M) ?_
    rintro _ _ ⟨rfl, rfl⟩
    refine Hx.run 0 (pc' := 71) (L' := [some (vi k), some (vi t)]) (st' := [vi (if 9 ≤ t ∧ t ≤ 16 then 3 else 1)]) (M' := M) rfl ?_
    refine Hx.run 1 (pc' := 72) (L' := [some (vi k), some (vi t)]) (st' := [vi 1, vi (if 9 ≤ t ∧ t ≤ 16 then 3 else 1)]) (M' := M) rfl ?_
    refine Hx.br (c := 1 < (if 9 ≤ t ∧ t ≤ 16 then 3 else 1)) (t := 75) (f := 84) rfl (fun h3 => ?_) (fun h3 => ?_)
    · skip
      refine Hx.run 1 (pc' := 76) (L' := [some (vi k), some (vi t)]) (st' := [vi t]) (M' := M) rfl ?_
      refine Hx.call (t := 141) (as := [vi t]) (pc' := 79) (rest := []) rfl (r_lady t M) ?_
      rintro _ _ ⟨rfl, rfl⟩
      refine Hx.run 0 (pc' := 79) (L' := [some (vi k), some (vi t)]) (st' := [vi (if 9 ≤ t ∧ t ≤ 16 then 3 else 1)]) (M' := M) rfl ?_
      refine Hx.run 1 (pc' := 80) (L' := [some (vi k), some (vi t)]) (st' := [vi 1, vi (if 9 ≤ t ∧ t ≤ 16 then 3 else 1)]) (M' := M) rfl ?_
      refine Hx.sub rfl (by (first | omega | (split <;> omega))) ?_
      refine Hx.run 1 (pc' := 85) (L' := [some (vi k), some (vi t)]) (st' := [vi ((if 9 ≤ t ∧ t ≤ 16 then 3 else 1) - 1)]) (M' := M) rfl ?_
      refine Hx.ret rfl ?_
      exact ⟨some_vi (by unfold bcF; (repeat' split) <;> omega), rfl⟩
    · skip
      refine Hx.run 1 (pc' := 85) (L' := [some (vi k), some (vi t)]) (st' := [vi 1]) (M' := M) rfl ?_
      refine Hx.ret rfl ?_
      exact ⟨some_vi (by unfold bcF; (repeat' split) <;> omega), rfl⟩
  · refine Hx.tab (tgt := 86) 5 rfl h1 rfl ?_
    refine Hx.run 2 (pc' := 88) (L' := [some (vi k), some (vi t)]) (st' := [vi 5, vi t]) (M' := M) rfl ?_
    refine Hx.br (c := t < 5) (t := 91) (f := 95) rfl (fun h4 => ?_) (fun h4 => ?_)
    · skip
      refine Hx.run 2 (pc' := 96) (L' := [some (vi k), some (vi t)]) (st' := [vi 0]) (M' := M) rfl ?_
      refine Hx.ret rfl ?_
      exact ⟨some_vi (by unfold bcF; (repeat' split) <;> omega), rfl⟩
    · skip
      refine Hx.run 1 (pc' := 96) (L' := [some (vi k), some (vi t)]) (st' := [vi 1]) (M' := M) rfl ?_
      refine Hx.ret rfl ?_
      exact ⟨some_vi (by unfold bcF; (repeat' split) <;> omega), rfl⟩
  · refine Hx.tabD (tgt := 97) rfl h1 rfl ?_
    refine Hx.run 1 (pc' := 98) (L' := [some (vi k), some (vi t)]) (st' := [vi 1]) (M' := M) rfl ?_
    refine Hx.ret rfl ?_
    exact ⟨some_vi (by unfold bcF; (repeat' split) <;> omega), rfl⟩
set_option maxRecDepth 100000 in
theorem r_porter (l x : Int) (M : Mm) (hl : 1 ≤ l ∧ l ≤ 4) (hx : 0 ≤ x ∧ x ≤ 9) : Ct 143 [vi l, vi x] M (fun q0 M' => q0 = some (vi (if 1 < l - x / 3 then l - x / 3 else 1)) ∧ M = M') := by
  refine Hx.run 3 (pc' := 3) (L' := [some (vi l), some (vi x)]) (st' := [vi 3, vi x, vi l]) (M' := M) rfl ?_
  refine Hx.div rfl (by omega) ?_
  refine Hx.sub rfl (by omega) ?_
  refine Hx.run 1 (pc' := 6) (L' := [some (vi l), some (vi x)]) (st' := [vi 1, vi (l - (x / 3))]) (M' := M) rfl ?_
  refine Hx.br (c := 1 < (l - (x / 3))) (t := 9) (f := 17) rfl (fun h1 => ?_) (fun h1 => ?_)
  · skip
    refine Hx.run 3 (pc' := 12) (L' := [some (vi l), some (vi x)]) (st' := [vi 3, vi x, vi l]) (M' := M) rfl ?_
    refine Hx.div rfl (by omega) ?_
    refine Hx.sub rfl (by omega) ?_
    refine Hx.run 1 (pc' := 18) (L' := [some (vi l), some (vi x)]) (st' := [vi (l - (x / 3))]) (M' := M) rfl ?_
    refine Hx.ret rfl ?_
    exact ⟨some_vi (by repeat (first | rw [if_pos (by omega)] | rw [if_neg (by omega)])), rfl⟩
  · skip
    refine Hx.run 1 (pc' := 18) (L' := [some (vi l), some (vi x)]) (st' := [vi 1]) (M' := M) rfl ?_
    refine Hx.ret rfl ?_
    exact ⟨some_vi (by repeat (first | rw [if_pos (by omega)] | rw [if_neg (by omega)])), rfl⟩
set_option maxRecDepth 100000 in
set_option maxHeartbeats 4000000 in
theorem r_stridesOf (k l x t : Int) (M : Mm) (hk : 0 ≤ k ∧ k ≤ 5) (hl : 1 ≤ l ∧ l ≤ 4) (hx : 0 ≤ x ∧ x ≤ 9) (ht : 0 ≤ t ∧ t < 24) : Ct 144 [vi k, vi l, vi x, vi t] M (fun q0 M' => q0 = some (vi (sfF k l x t)) ∧ M = M') := by
  refine Hx.run 1 (pc' := 1) (L' := [some (vi k), some (vi l), some (vi x), some (vi t)]) (st' := [vi k]) (M' := M) rfl ?_
  rcases (show k = 1 ∨ k = 2 ∨ k = 3 ∨ k = 4 ∨ k = 5 ∨ (k < 1 ∨ 5 < k) by omega) with h1 | h1 | h1 | h1 | h1 | h1
  · refine Hx.tab (tgt := 36) 1 rfl h1 rfl ?_
    refine Hx.run 2 (pc' := 38) (L' := [some (vi k), some (vi l), some (vi x), some (vi t)]) (st' := [vi 1, vi l]) (M' := M) rfl ?_
    refine Hx.add rfl (by omega) ?_
    refine Hx.run 1 (pc' := 40) (L' := [some (vi k), some (vi l), some (vi x), some (vi t)]) (st' := [vi 2, vi (l + 1)]) (M' := M) rfl ?_
    refine Hx.div rfl (by omega) ?_
    refine Hx.ret rfl ?_
    exact ⟨some_vi (by unfold sfF; (repeat' split) <;> omega), rfl⟩
  · refine Hx.tab (tgt := 42) 2 rfl h1 rfl ?_
    refine Hx.run 2 (pc' := 44) (L' := [some (vi k), some (vi l), some (vi x), some (vi t)]) (st' := [vi x, vi l]) (M' := M) rfl ?_
    refine Hx.call (t := 143) (as := [vi l, vi x]) (pc' := 47) (rest := []) rfl (r_porter l x M (by omega) (by omega)) ?_
    rintro _ _ ⟨rfl, rfl⟩
    refine Hx.run 0 (pc' := 47) (L' := [some (vi k), some (vi l), some (vi x), some (vi t)]) (st' := [vi (if 1 < l - x / 3 then l - x / 3 else 1)]) (M' := M) rfl ?_
    refine Hx.ret rfl ?_
    exact ⟨some_vi (by unfold sfF; (repeat' split) <;> omega), rfl⟩
  · refine Hx.tab (tgt := 48) 3 rfl h1 rfl ?_
    refine Hx.run 2 (pc' := 50) (L' := [some (vi k), some (vi l), some (vi x), some (vi t)]) (st' := [vi x, vi l]) (M' := M) rfl ?_
    refine Hx.call (t := 143) (as := [vi l, vi x]) (pc' := 53) (rest := []) rfl (r_porter l x M (by omega) (by omega)) ?_
    rintro _ _ ⟨rfl, rfl⟩
    refine Hx.run 0 (pc' := 53) (L' := [some (vi k), some (vi l), some (vi x), some (vi t)]) (st' := [vi (if 1 < l - x / 3 then l - x / 3 else 1)]) (M' := M) rfl ?_
    refine Hx.run 1 (pc' := 54) (L' := [some (vi k), some (vi l), some (vi x), some (vi t)]) (st' := [vi 2, vi (if 1 < l - x / 3 then l - x / 3 else 1)]) (M' := M) rfl ?_
    refine Hx.br (c := 2 < (if 1 < l - x / 3 then l - x / 3 else 1)) (t := 57) (f := 61) rfl (fun h2 => ?_) (fun h2 => ?_)
    · skip
      refine Hx.run 2 (pc' := 66) (L' := [some (vi k), some (vi l), some (vi x), some (vi t)]) (st' := [vi 2]) (M' := M) rfl ?_
      refine Hx.ret rfl ?_
      exact ⟨some_vi (by unfold sfF; (repeat' split) <;> omega), rfl⟩
    · skip
      refine Hx.run 2 (pc' := 63) (L' := [some (vi k), some (vi l), some (vi x), some (vi t)]) (st' := [vi x, vi l]) (M' := M) rfl ?_
      refine Hx.call (t := 143) (as := [vi l, vi x]) (pc' := 66) (rest := []) rfl (r_porter l x M (by omega) (by omega)) ?_
      rintro _ _ ⟨rfl, rfl⟩
      refine Hx.run 0 (pc' := 66) (L' := [some (vi k), some (vi l), some (vi x), some (vi t)]) (st' := [vi (if 1 < l - x / 3 then l - x / 3 else 1)]) (M' := M) rfl ?_
      refine Hx.ret rfl ?_
      exact ⟨some_vi (by unfold sfF; (repeat' split) <;> omega), rfl⟩
  · refine Hx.tab (tgt := 67) 4 rfl h1 rfl ?_
    refine Hx.run 2 (pc' := 70) (L' := [some (vi k), some (vi l), some (vi x), some (vi t)]) (st' := [vi 18, vi t]) (M' := M) rfl ?_
    refine Hx.br (c := t < 18) (t := 79) (f := 73) rfl (fun h3 => ?_) (fun h3 => ?_)
    · skip
      refine Hx.run 1 (pc' := 80) (L' := [some (vi k), some (vi l), some (vi x), some (vi t)]) (st' := [vi l]) (M' := M) rfl ?_
      refine Hx.ret rfl ?_
      exact ⟨some_vi (by unfold sfF; (repeat' split) <;> omega), rfl⟩
    · skip
      refine Hx.run 2 (pc' := 75) (L' := [some (vi k), some (vi l), some (vi x), some (vi t)]) (st' := [vi 1, vi l]) (M' := M) rfl ?_
      refine Hx.add rfl (by omega) ?_
      refine Hx.run 1 (pc' := 80) (L' := [some (vi k), some (vi l), some (vi x), some (vi t)]) (st' := [vi (l + 1)]) (M' := M) rfl ?_
      refine Hx.ret rfl ?_
      exact ⟨some_vi (by unfold sfF; (repeat' split) <;> omega), rfl⟩
  · refine Hx.tab (tgt := 81) 5 rfl h1 rfl ?_
    refine Hx.run 2 (pc' := 84) (L' := [some (vi k), some (vi l), some (vi x), some (vi t)]) (st' := [vi 8, vi t]) (M' := M) rfl ?_
    refine Hx.br (c := t < 8) (t := 87) (f := 91) rfl (fun h4 => ?_) (fun h4 => ?_)
    · skip
      refine Hx.run 2 (pc' := 96) (L' := [some (vi k), some (vi l), some (vi x), some (vi t)]) (st' := [vi 1]) (M' := M) rfl ?_
      refine Hx.ret rfl ?_
      exact ⟨some_vi (by unfold sfF; (repeat' split) <;> omega), rfl⟩
    · skip
      refine Hx.run 2 (pc' := 93) (L' := [some (vi k), some (vi l), some (vi x), some (vi t)]) (st' := [vi 1, vi l]) (M' := M) rfl ?_
      refine Hx.add rfl (by omega) ?_
      refine Hx.run 1 (pc' := 95) (L' := [some (vi k), some (vi l), some (vi x), some (vi t)]) (st' := [vi 2, vi (l + 1)]) (M' := M) rfl ?_
      refine Hx.div rfl (by omega) ?_
      refine Hx.ret rfl ?_
      exact ⟨some_vi (by unfold sfF; (repeat' split) <;> omega), rfl⟩
  · refine Hx.tabD (tgt := 97) rfl h1 rfl ?_
    refine Hx.run 1 (pc' := 98) (L' := [some (vi k), some (vi l), some (vi x), some (vi t)]) (st' := [vi l]) (M' := M) rfl ?_
    refine Hx.ret rfl ?_
    exact ⟨some_vi (by unfold sfF; (repeat' split) <;> omega), rfl⟩
end
section
/-! the reference: bars, strides, copies (written by wip/whole/gen22.py) -/
theorem bf_or2 {s : Int} {j : Nat} (hs : 1 ≤ s ∧ s ≤ 10) (hj : j < 3) (h : s + j < 11) : i2 fior (bb s (j : Int)) (i2 fshl 1 (s + (j : Int))) = bb s ((j + 1 : Nat) : Int) := by
  obtain ⟨i, rfl⟩ : ∃ i : Nat, s = i := ⟨s.toNat, by omega⟩
  have := bf_or ⟨i, by omega⟩ ⟨j, by omega⟩ (by show 1 ≤ i; omega) (by show i + j < 11; omega)
  simpa using this
theorem bf_cut2 {s n : Int} {j : Nat} (hs : 1 ≤ s ∧ s ≤ 10) (hn : 0 ≤ n ∧ n ≤ 3) (h : s + j = 11) (hj : (j : Int) ≤ n) : bb s (j : Int) = bb s n := by
  obtain ⟨i, rfl⟩ : ∃ i : Nat, s = i := ⟨s.toNat, by omega⟩
  obtain ⟨k, rfl⟩ : ∃ k : Nat, n = k := ⟨n.toNat, by omega⟩
  have := bf_cut ⟨i, by omega⟩ ⟨j, by omega⟩ ⟨k, by omega⟩ (by show 1 ≤ i; omega) (by show i + j = 11; omega) (by show j ≤ k; omega)
  simpa using this
set_option maxRecDepth 100000 in
theorem rl_barsFrom (k s t : Int) (M : Mm) (hk : 0 ≤ k ∧ k ≤ 5) (hs : 1 ≤ s ∧ s ≤ 10) (ht : 0 ≤ t ∧ t < 24) : ∀ (kk : Nat) (j : Nat), (j : Int) ≤ bcF k t ∧ s + (j : Int) ≤ 11 → 11 - s - (j : Int) < (kk : Int) → Hx 145 5 [some (vi k), some (vi s), some (vi t), some (vi (bb s (j : Int))), some (vi (s + (j : Int)))] [] M (fun q0 M' => q0 = some (vi (bb s (bcF k t))) ∧ M = M') := by
  intro kk
  induction kk with
  | zero => intro j _ hkk; exact absurd hkk (by omega)
  | succ kk ih =>
    intro j hj hkk
    have hbc := bcF_rng (k := k) (t := t)
    refine Hx.run 4 (pc' := 10) (L' := [some (vi k), some (vi s), some (vi t), some (vi (bb s (j : Int))), some (vi (s + (j : Int)))]) (st' := [vi t, vi k, vi s, vi (s + (j : Int))]) (M' := M) rfl ?_
    refine Hx.call (t := 142) (as := [vi k, vi t]) (pc' := 13) (rest := [vi s, vi (s + (j : Int))]) rfl (r_barsOf k t M (by omega) (by omega)) ?_
    rintro _ _ ⟨rfl, rfl⟩
    refine Hx.run 0 (pc' := 13) (L' := [some (vi k), some (vi s), some (vi t), some (vi (bb s (j : Int))), some (vi (s + (j : Int)))]) (st' := [vi (bcF k t), vi s, vi (s + (j : Int))]) (M' := M) rfl ?_
    refine Hx.add rfl (by omega) ?_
    refine Hx.br (c := (s + (j : Int)) < (s + (bcF k t))) (t := 17) (f := 37) rfl (fun h1 => ?_) (fun h1 => ?_)
    · skip
      refine Hx.run 2 (pc' := 21) (L' := [some (vi k), some (vi s), some (vi t), some (vi (bb s (j : Int))), some (vi (s + (j : Int)))]) (st' := [vi 11, vi (s + (j : Int))]) (M' := M) rfl ?_
      refine Hx.br (c := (s + (j : Int)) < 11) (t := 24) (f := 37) rfl (fun h2 => ?_) (fun h2 => ?_)
      · skip
        refine Hx.run 6 (pc' := 31) (L' := [some (vi k), some (vi s), some (vi t), some (vi (i2 fior (bb s (j : Int)) (i2 fshl 1 (s + (j : Int))))), some (vi (s + (j : Int)))]) (st' := []) (M' := M) rfl ?_
        refine Hx.inc rfl rfl (by omega) ?_
        refine Hx.run 0 (pc' := 34) (L' := [some (vi k), some (vi s), some (vi t), some (vi (i2 fior (bb s (j : Int)) (i2 fshl 1 (s + (j : Int))))), some (vi ((s + (j : Int)) + 1))]) (st' := []) (M' := M) rfl ?_
        refine Hx.run 1 (pc' := 5) (L' := [some (vi k), some (vi s), some (vi t), some (vi (i2 fior (bb s (j : Int)) (i2 fshl 1 (s + (j : Int))))), some (vi ((s + (j : Int)) + 1))]) (st' := []) (M' := M) rfl ?_
        rw [bf_or2 hs (by omega) (by omega)]
        have h9 := ih (j + 1) (by omega) (by omega)
        rw [show s + ((j + 1 : Nat) : Int) = s + (j : Int) + 1 by omega] at h9
        exact h9
      · skip
        refine Hx.run 1 (pc' := 38) (L' := [some (vi k), some (vi s), some (vi t), some (vi (bb s (j : Int))), some (vi (s + (j : Int)))]) (st' := [vi (bb s (j : Int))]) (M' := M) rfl ?_
        refine Hx.ret rfl ?_
        first | exact ⟨by rw [show (j : Int) = bcF k t by omega], rfl⟩ | exact ⟨some_vi (bf_cut2 hs (by omega) (by omega) (by omega)), rfl⟩
    · skip
      refine Hx.run 1 (pc' := 38) (L' := [some (vi k), some (vi s), some (vi t), some (vi (bb s (j : Int))), some (vi (s + (j : Int)))]) (st' := [vi (bb s (j : Int))]) (M' := M) rfl ?_
      refine Hx.ret rfl ?_
      first | exact ⟨by rw [show (j : Int) = bcF k t by omega], rfl⟩ | exact ⟨some_vi (bf_cut2 hs (by omega) (by omega) (by omega)), rfl⟩
set_option maxRecDepth 100000 in
theorem r_barsFrom (k s t : Int) (M : Mm) (hk : 0 ≤ k ∧ k ≤ 5) (hs : 1 ≤ s ∧ s ≤ 10) (ht : 0 ≤ t ∧ t < 24) : Ct 145 [vi k, vi s, vi t] M (fun q0 M' => q0 = some (vi (bb s (bcF k t))) ∧ M = M') := by
  refine Hx.run 4 (pc' := 5) (L' := [some (vi k), some (vi s), some (vi t), some (vi 0), some (vi s)]) (st' := []) (M' := M) rfl ?_
  have h0 := rl_barsFrom k s t M hk hs ht 20 0 (by have := bcF_rng (k := k) (t := t); omega) (by omega)
  rw [show ((0 : Nat) : Int) = 0 from rfl, bb_0, Int.add_zero] at h0
  exact h0
set_option maxRecDepth 100000 in
theorem r_bars_0 (f : Int) (M : Mm) (hf : (0 ≤ f ∧ f < 3) ∧ (0 ≤ M 65 (4 + f) ∧ M 65 (4 + f) ≤ 5) ∧ (1 ≤ M 65 (7 + f) ∧ M 65 (7 + f) ≤ 10)) (hh : (0 ≤ M 65 2 ∧ M 65 2 ≤ 9999)) : Ct 146 [vr 64, vi 0, vi f] M (fun q0 M' => q0 = some (vi (bb (M 65 (7 + f)) (bcF (M 65 (4 + f)) ((M 65 2) % 24)))) ∧ M = M') := by
  refine Hx.run 4 (pc' := 6) (L' := [some (vr 64), some (vi 0), some (vi f)]) (st' := [vi 4, vi 0, vr 65]) (M' := M) rfl ?_
  refine Hx.add rfl (by omega) ?_
  refine Hx.run 0 (pc' := 7) (L' := [some (vr 64), some (vi 0), some (vi f)]) (st' := [vi 4, vr 65]) (M' := M) rfl ?_
  refine Hx.run 1 (pc' := 8) (L' := [some (vr 64), some (vi 0), some (vi f)]) (st' := [vi f, vi 4, vr 65]) (M' := M) rfl ?_
  refine Hx.add rfl (by omega) ?_
  refine Hx.aldI (n := 1032) rfl rfl (by omega) ?_
  refine Hx.run 4 (pc' := 17) (L' := [some (vr 64), some (vi 0), some (vi f)]) (st' := [vi 7, vi 0, vr 65, vi (M 65 (4 + f))]) (M' := M) rfl ?_
  refine Hx.add rfl (by omega) ?_
  refine Hx.run 0 (pc' := 18) (L' := [some (vr 64), some (vi 0), some (vi f)]) (st' := [vi 7, vr 65, vi (M 65 (4 + f))]) (M' := M) rfl ?_
  refine Hx.run 1 (pc' := 19) (L' := [some (vr 64), some (vi 0), some (vi f)]) (st' := [vi f, vi 7, vr 65, vi (M 65 (4 + f))]) (M' := M) rfl ?_
  refine Hx.add rfl (by omega) ?_
  refine Hx.aldI (n := 1032) rfl rfl (by omega) ?_
  refine Hx.run 4 (pc' := 27) (L' := [some (vr 64), some (vi 0), some (vi f)]) (st' := [vi 2, vi 0, vr 65, vi (M 65 (7 + f)), vi (M 65 (4 + f))]) (M' := M) rfl ?_
  refine Hx.add rfl (by omega) ?_
  refine Hx.run 0 (pc' := 28) (L' := [some (vr 64), some (vi 0), some (vi f)]) (st' := [vi 2, vr 65, vi (M 65 (7 + f)), vi (M 65 (4 + f))]) (M' := M) rfl ?_
  refine Hx.run 2 (pc' := 31) (L' := [some (vr 64), some (vi 0), some (vi f)]) (st' := [vi 24, vi (M 65 2), vi (M 65 (7 + f)), vi (M 65 (4 + f))]) (M' := M) rfl ?_
  refine Hx.rem rfl (by omega) ?_
  refine Hx.call (t := 145) (as := [vi (M 65 (4 + f)), vi (M 65 (7 + f)), vi ((M 65 2) % 24)]) (pc' := 35) (rest := []) rfl (r_barsFrom (M 65 (4 + f)) (M 65 (7 + f)) ((M 65 2) % 24) M (by omega) (by omega) (by omega)) ?_
  rintro _ _ ⟨rfl, rfl⟩
  refine Hx.run 0 (pc' := 35) (L' := [some (vr 64), some (vi 0), some (vi f)]) (st' := [vi (bb (M 65 (7 + f)) (bcF (M 65 (4 + f)) ((M 65 2) % 24)))]) (M' := M) rfl ?_
  refine Hx.ret rfl ?_
  exact ⟨rfl, rfl⟩
set_option maxRecDepth 100000 in
theorem r_stridesIn_0 (i : Int) (M : Mm) (hg : (0 ≤ i ∧ i < 6) ∧ (0 ≤ M 65 (10 + i) ∧ M 65 (10 + i) ≤ 5) ∧ (1 ≤ M 65 (16 + i) ∧ M 65 (16 + i) ≤ 4) ∧ (0 ≤ M 65 (22 + i) ∧ M 65 (22 + i) ≤ 2) ∧ (0 ≤ M 65 (28 + i) ∧ M 65 (28 + i) ≤ 11) ∧ (0 ≤ M 65 (34 + i) ∧ M 65 (34 + i) ≤ 9)) (hh : (0 ≤ M 65 2 ∧ M 65 2 ≤ 9999)) : Ct 147 [vr 64, vi 0, vi i] M (fun q0 M' => q0 = some (vi (sfF (M 65 (10 + i)) (M 65 (16 + i)) (M 65 (34 + i)) ((M 65 2) % 24))) ∧ M = M') := by
  refine Hx.run 4 (pc' := 7) (L' := [some (vr 64), some (vi 0), some (vi i)]) (st' := [vi 10, vi 0, vr 65]) (M' := M) rfl ?_
  refine Hx.add rfl (by omega) ?_
  refine Hx.run 0 (pc' := 8) (L' := [some (vr 64), some (vi 0), some (vi i)]) (st' := [vi 10, vr 65]) (M' := M) rfl ?_
  refine Hx.run 1 (pc' := 9) (L' := [some (vr 64), some (vi 0), some (vi i)]) (st' := [vi i, vi 10, vr 65]) (M' := M) rfl ?_
  refine Hx.add rfl (by omega) ?_
  refine Hx.aldI (n := 1032) rfl rfl (by omega) ?_
  refine Hx.run 4 (pc' := 18) (L' := [some (vr 64), some (vi 0), some (vi i)]) (st' := [vi 16, vi 0, vr 65, vi (M 65 (10 + i))]) (M' := M) rfl ?_
  refine Hx.add rfl (by omega) ?_
  refine Hx.run 0 (pc' := 19) (L' := [some (vr 64), some (vi 0), some (vi i)]) (st' := [vi 16, vr 65, vi (M 65 (10 + i))]) (M' := M) rfl ?_
  refine Hx.run 1 (pc' := 20) (L' := [some (vr 64), some (vi 0), some (vi i)]) (st' := [vi i, vi 16, vr 65, vi (M 65 (10 + i))]) (M' := M) rfl ?_
  refine Hx.add rfl (by omega) ?_
  refine Hx.aldI (n := 1032) rfl rfl (by omega) ?_
  refine Hx.run 4 (pc' := 29) (L' := [some (vr 64), some (vi 0), some (vi i)]) (st' := [vi 34, vi 0, vr 65, vi (M 65 (16 + i)), vi (M 65 (10 + i))]) (M' := M) rfl ?_
  refine Hx.add rfl (by omega) ?_
  refine Hx.run 0 (pc' := 30) (L' := [some (vr 64), some (vi 0), some (vi i)]) (st' := [vi 34, vr 65, vi (M 65 (16 + i)), vi (M 65 (10 + i))]) (M' := M) rfl ?_
  refine Hx.run 1 (pc' := 31) (L' := [some (vr 64), some (vi 0), some (vi i)]) (st' := [vi i, vi 34, vr 65, vi (M 65 (16 + i)), vi (M 65 (10 + i))]) (M' := M) rfl ?_
  refine Hx.add rfl (by omega) ?_
  refine Hx.aldI (n := 1032) rfl rfl (by omega) ?_
  refine Hx.run 4 (pc' := 39) (L' := [some (vr 64), some (vi 0), some (vi i)]) (st' := [vi 2, vi 0, vr 65, vi (M 65 (34 + i)), vi (M 65 (16 + i)), vi (M 65 (10 + i))]) (M' := M) rfl ?_
  refine Hx.add rfl (by omega) ?_
  refine Hx.run 0 (pc' := 40) (L' := [some (vr 64), some (vi 0), some (vi i)]) (st' := [vi 2, vr 65, vi (M 65 (34 + i)), vi (M 65 (16 + i)), vi (M 65 (10 + i))]) (M' := M) rfl ?_
  refine Hx.run 2 (pc' := 43) (L' := [some (vr 64), some (vi 0), some (vi i)]) (st' := [vi 24, vi (M 65 2), vi (M 65 (34 + i)), vi (M 65 (16 + i)), vi (M 65 (10 + i))]) (M' := M) rfl ?_
  refine Hx.rem rfl (by omega) ?_
  refine Hx.call (t := 144) (as := [vi (M 65 (10 + i)), vi (M 65 (16 + i)), vi (M 65 (34 + i)), vi ((M 65 2) % 24)]) (pc' := 47) (rest := []) rfl (r_stridesOf (M 65 (10 + i)) (M 65 (16 + i)) (M 65 (34 + i)) ((M 65 2) % 24) M (by omega) (by omega) (by omega) (by omega)) ?_
  rintro _ _ ⟨rfl, rfl⟩
  refine Hx.run 0 (pc' := 47) (L' := [some (vr 64), some (vi 0), some (vi i)]) (st' := [vi (sfF (M 65 (10 + i)) (M 65 (16 + i)) (M 65 (34 + i)) ((M 65 2) % 24))]) (M' := M) rfl ?_
  refine Hx.ret rfl ?_
  exact ⟨rfl, rfl⟩
set_option maxRecDepth 100000 in
theorem r_bars_744 (f : Int) (M : Mm) (hf : (0 ≤ f ∧ f < 3) ∧ (0 ≤ M 65 (748 + f) ∧ M 65 (748 + f) ≤ 5) ∧ (1 ≤ M 65 (751 + f) ∧ M 65 (751 + f) ≤ 10)) (hh : (0 ≤ M 65 746 ∧ M 65 746 ≤ 9999)) : Ct 146 [vr 64, vi 744, vi f] M (fun q0 M' => q0 = some (vi (bb (M 65 (751 + f)) (bcF (M 65 (748 + f)) ((M 65 746) % 24)))) ∧ M = M') := by
  refine Hx.run 4 (pc' := 6) (L' := [some (vr 64), some (vi 744), some (vi f)]) (st' := [vi 4, vi 744, vr 65]) (M' := M) rfl ?_
  refine Hx.add rfl (by omega) ?_
  refine Hx.run 0 (pc' := 7) (L' := [some (vr 64), some (vi 744), some (vi f)]) (st' := [vi 748, vr 65]) (M' := M) rfl ?_
  refine Hx.run 1 (pc' := 8) (L' := [some (vr 64), some (vi 744), some (vi f)]) (st' := [vi f, vi 748, vr 65]) (M' := M) rfl ?_
  refine Hx.add rfl (by omega) ?_
  refine Hx.aldI (n := 1032) rfl rfl (by omega) ?_
  refine Hx.run 4 (pc' := 17) (L' := [some (vr 64), some (vi 744), some (vi f)]) (st' := [vi 7, vi 744, vr 65, vi (M 65 (748 + f))]) (M' := M) rfl ?_
  refine Hx.add rfl (by omega) ?_
  refine Hx.run 0 (pc' := 18) (L' := [some (vr 64), some (vi 744), some (vi f)]) (st' := [vi 751, vr 65, vi (M 65 (748 + f))]) (M' := M) rfl ?_
  refine Hx.run 1 (pc' := 19) (L' := [some (vr 64), some (vi 744), some (vi f)]) (st' := [vi f, vi 751, vr 65, vi (M 65 (748 + f))]) (M' := M) rfl ?_
  refine Hx.add rfl (by omega) ?_
  refine Hx.aldI (n := 1032) rfl rfl (by omega) ?_
  refine Hx.run 4 (pc' := 27) (L' := [some (vr 64), some (vi 744), some (vi f)]) (st' := [vi 2, vi 744, vr 65, vi (M 65 (751 + f)), vi (M 65 (748 + f))]) (M' := M) rfl ?_
  refine Hx.add rfl (by omega) ?_
  refine Hx.run 0 (pc' := 28) (L' := [some (vr 64), some (vi 744), some (vi f)]) (st' := [vi 746, vr 65, vi (M 65 (751 + f)), vi (M 65 (748 + f))]) (M' := M) rfl ?_
  refine Hx.run 2 (pc' := 31) (L' := [some (vr 64), some (vi 744), some (vi f)]) (st' := [vi 24, vi (M 65 746), vi (M 65 (751 + f)), vi (M 65 (748 + f))]) (M' := M) rfl ?_
  refine Hx.rem rfl (by omega) ?_
  refine Hx.call (t := 145) (as := [vi (M 65 (748 + f)), vi (M 65 (751 + f)), vi ((M 65 746) % 24)]) (pc' := 35) (rest := []) rfl (r_barsFrom (M 65 (748 + f)) (M 65 (751 + f)) ((M 65 746) % 24) M (by omega) (by omega) (by omega)) ?_
  rintro _ _ ⟨rfl, rfl⟩
  refine Hx.run 0 (pc' := 35) (L' := [some (vr 64), some (vi 744), some (vi f)]) (st' := [vi (bb (M 65 (751 + f)) (bcF (M 65 (748 + f)) ((M 65 746) % 24)))]) (M' := M) rfl ?_
  refine Hx.ret rfl ?_
  exact ⟨rfl, rfl⟩
set_option maxRecDepth 100000 in
theorem r_stridesIn_744 (i : Int) (M : Mm) (hg : (0 ≤ i ∧ i < 6) ∧ (0 ≤ M 65 (754 + i) ∧ M 65 (754 + i) ≤ 5) ∧ (1 ≤ M 65 (760 + i) ∧ M 65 (760 + i) ≤ 4) ∧ (0 ≤ M 65 (766 + i) ∧ M 65 (766 + i) ≤ 2) ∧ (0 ≤ M 65 (772 + i) ∧ M 65 (772 + i) ≤ 11) ∧ (0 ≤ M 65 (778 + i) ∧ M 65 (778 + i) ≤ 9)) (hh : (0 ≤ M 65 746 ∧ M 65 746 ≤ 9999)) : Ct 147 [vr 64, vi 744, vi i] M (fun q0 M' => q0 = some (vi (sfF (M 65 (754 + i)) (M 65 (760 + i)) (M 65 (778 + i)) ((M 65 746) % 24))) ∧ M = M') := by
  refine Hx.run 4 (pc' := 7) (L' := [some (vr 64), some (vi 744), some (vi i)]) (st' := [vi 10, vi 744, vr 65]) (M' := M) rfl ?_
  refine Hx.add rfl (by omega) ?_
  refine Hx.run 0 (pc' := 8) (L' := [some (vr 64), some (vi 744), some (vi i)]) (st' := [vi 754, vr 65]) (M' := M) rfl ?_
  refine Hx.run 1 (pc' := 9) (L' := [some (vr 64), some (vi 744), some (vi i)]) (st' := [vi i, vi 754, vr 65]) (M' := M) rfl ?_
  refine Hx.add rfl (by omega) ?_
  refine Hx.aldI (n := 1032) rfl rfl (by omega) ?_
  refine Hx.run 4 (pc' := 18) (L' := [some (vr 64), some (vi 744), some (vi i)]) (st' := [vi 16, vi 744, vr 65, vi (M 65 (754 + i))]) (M' := M) rfl ?_
  refine Hx.add rfl (by omega) ?_
  refine Hx.run 0 (pc' := 19) (L' := [some (vr 64), some (vi 744), some (vi i)]) (st' := [vi 760, vr 65, vi (M 65 (754 + i))]) (M' := M) rfl ?_
  refine Hx.run 1 (pc' := 20) (L' := [some (vr 64), some (vi 744), some (vi i)]) (st' := [vi i, vi 760, vr 65, vi (M 65 (754 + i))]) (M' := M) rfl ?_
  refine Hx.add rfl (by omega) ?_
  refine Hx.aldI (n := 1032) rfl rfl (by omega) ?_
  refine Hx.run 4 (pc' := 29) (L' := [some (vr 64), some (vi 744), some (vi i)]) (st' := [vi 34, vi 744, vr 65, vi (M 65 (760 + i)), vi (M 65 (754 + i))]) (M' := M) rfl ?_
  refine Hx.add rfl (by omega) ?_
  refine Hx.run 0 (pc' := 30) (L' := [some (vr 64), some (vi 744), some (vi i)]) (st' := [vi 778, vr 65, vi (M 65 (760 + i)), vi (M 65 (754 + i))]) (M' := M) rfl ?_
  refine Hx.run 1 (pc' := 31) (L' := [some (vr 64), some (vi 744), some (vi i)]) (st' := [vi i, vi 778, vr 65, vi (M 65 (760 + i)), vi (M 65 (754 + i))]) (M' := M) rfl ?_
  refine Hx.add rfl (by omega) ?_
  refine Hx.aldI (n := 1032) rfl rfl (by omega) ?_
  refine Hx.run 4 (pc' := 39) (L' := [some (vr 64), some (vi 744), some (vi i)]) (st' := [vi 2, vi 744, vr 65, vi (M 65 (778 + i)), vi (M 65 (760 + i)), vi (M 65 (754 + i))]) (M' := M) rfl ?_
  refine Hx.add rfl (by omega) ?_
  refine Hx.run 0 (pc' := 40) (L' := [some (vr 64), some (vi 744), some (vi i)]) (st' := [vi 746, vr 65, vi (M 65 (778 + i)), vi (M 65 (760 + i)), vi (M 65 (754 + i))]) (M' := M) rfl ?_
  refine Hx.run 2 (pc' := 43) (L' := [some (vr 64), some (vi 744), some (vi i)]) (st' := [vi 24, vi (M 65 746), vi (M 65 (778 + i)), vi (M 65 (760 + i)), vi (M 65 (754 + i))]) (M' := M) rfl ?_
  refine Hx.rem rfl (by omega) ?_
  refine Hx.call (t := 144) (as := [vi (M 65 (754 + i)), vi (M 65 (760 + i)), vi (M 65 (778 + i)), vi ((M 65 746) % 24)]) (pc' := 47) (rest := []) rfl (r_stridesOf (M 65 (754 + i)) (M 65 (760 + i)) (M 65 (778 + i)) ((M 65 746) % 24) M (by omega) (by omega) (by omega) (by omega)) ?_
  rintro _ _ ⟨rfl, rfl⟩
  refine Hx.run 0 (pc' := 47) (L' := [some (vr 64), some (vi 744), some (vi i)]) (st' := [vi (sfF (M 65 (754 + i)) (M 65 (760 + i)) (M 65 (778 + i)) ((M 65 746) % 24))]) (M' := M) rfl ?_
  refine Hx.ret rfl ?_
  exact ⟨rfl, rfl⟩
set_option maxRecDepth 100000 in
theorem r_bars_992 (f : Int) (M : Mm) (hf : (0 ≤ f ∧ f < 3) ∧ (0 ≤ M 65 (996 + f) ∧ M 65 (996 + f) ≤ 5) ∧ (1 ≤ M 65 (999 + f) ∧ M 65 (999 + f) ≤ 10)) (hh : (0 ≤ M 65 994 ∧ M 65 994 ≤ 9999)) : Ct 146 [vr 64, vi 992, vi f] M (fun q0 M' => q0 = some (vi (bb (M 65 (999 + f)) (bcF (M 65 (996 + f)) ((M 65 994) % 24)))) ∧ M = M') := by
  refine Hx.run 4 (pc' := 6) (L' := [some (vr 64), some (vi 992), some (vi f)]) (st' := [vi 4, vi 992, vr 65]) (M' := M) rfl ?_
  refine Hx.add rfl (by omega) ?_
  refine Hx.run 0 (pc' := 7) (L' := [some (vr 64), some (vi 992), some (vi f)]) (st' := [vi 996, vr 65]) (M' := M) rfl ?_
  refine Hx.run 1 (pc' := 8) (L' := [some (vr 64), some (vi 992), some (vi f)]) (st' := [vi f, vi 996, vr 65]) (M' := M) rfl ?_
  refine Hx.add rfl (by omega) ?_
  refine Hx.aldI (n := 1032) rfl rfl (by omega) ?_
  refine Hx.run 4 (pc' := 17) (L' := [some (vr 64), some (vi 992), some (vi f)]) (st' := [vi 7, vi 992, vr 65, vi (M 65 (996 + f))]) (M' := M) rfl ?_
  refine Hx.add rfl (by omega) ?_
  refine Hx.run 0 (pc' := 18) (L' := [some (vr 64), some (vi 992), some (vi f)]) (st' := [vi 999, vr 65, vi (M 65 (996 + f))]) (M' := M) rfl ?_
  refine Hx.run 1 (pc' := 19) (L' := [some (vr 64), some (vi 992), some (vi f)]) (st' := [vi f, vi 999, vr 65, vi (M 65 (996 + f))]) (M' := M) rfl ?_
  refine Hx.add rfl (by omega) ?_
  refine Hx.aldI (n := 1032) rfl rfl (by omega) ?_
  refine Hx.run 4 (pc' := 27) (L' := [some (vr 64), some (vi 992), some (vi f)]) (st' := [vi 2, vi 992, vr 65, vi (M 65 (999 + f)), vi (M 65 (996 + f))]) (M' := M) rfl ?_
  refine Hx.add rfl (by omega) ?_
  refine Hx.run 0 (pc' := 28) (L' := [some (vr 64), some (vi 992), some (vi f)]) (st' := [vi 994, vr 65, vi (M 65 (999 + f)), vi (M 65 (996 + f))]) (M' := M) rfl ?_
  refine Hx.run 2 (pc' := 31) (L' := [some (vr 64), some (vi 992), some (vi f)]) (st' := [vi 24, vi (M 65 994), vi (M 65 (999 + f)), vi (M 65 (996 + f))]) (M' := M) rfl ?_
  refine Hx.rem rfl (by omega) ?_
  refine Hx.call (t := 145) (as := [vi (M 65 (996 + f)), vi (M 65 (999 + f)), vi ((M 65 994) % 24)]) (pc' := 35) (rest := []) rfl (r_barsFrom (M 65 (996 + f)) (M 65 (999 + f)) ((M 65 994) % 24) M (by omega) (by omega) (by omega)) ?_
  rintro _ _ ⟨rfl, rfl⟩
  refine Hx.run 0 (pc' := 35) (L' := [some (vr 64), some (vi 992), some (vi f)]) (st' := [vi (bb (M 65 (999 + f)) (bcF (M 65 (996 + f)) ((M 65 994) % 24)))]) (M' := M) rfl ?_
  refine Hx.ret rfl ?_
  exact ⟨rfl, rfl⟩
set_option maxRecDepth 100000 in
theorem r_stridesIn_992 (i : Int) (M : Mm) (hg : (0 ≤ i ∧ i < 6) ∧ (0 ≤ M 65 (1002 + i) ∧ M 65 (1002 + i) ≤ 5) ∧ (1 ≤ M 65 (1008 + i) ∧ M 65 (1008 + i) ≤ 4) ∧ (0 ≤ M 65 (1014 + i) ∧ M 65 (1014 + i) ≤ 2) ∧ (0 ≤ M 65 (1020 + i) ∧ M 65 (1020 + i) ≤ 11) ∧ (0 ≤ M 65 (1026 + i) ∧ M 65 (1026 + i) ≤ 9)) (hh : (0 ≤ M 65 994 ∧ M 65 994 ≤ 9999)) : Ct 147 [vr 64, vi 992, vi i] M (fun q0 M' => q0 = some (vi (sfF (M 65 (1002 + i)) (M 65 (1008 + i)) (M 65 (1026 + i)) ((M 65 994) % 24))) ∧ M = M') := by
  refine Hx.run 4 (pc' := 7) (L' := [some (vr 64), some (vi 992), some (vi i)]) (st' := [vi 10, vi 992, vr 65]) (M' := M) rfl ?_
  refine Hx.add rfl (by omega) ?_
  refine Hx.run 0 (pc' := 8) (L' := [some (vr 64), some (vi 992), some (vi i)]) (st' := [vi 1002, vr 65]) (M' := M) rfl ?_
  refine Hx.run 1 (pc' := 9) (L' := [some (vr 64), some (vi 992), some (vi i)]) (st' := [vi i, vi 1002, vr 65]) (M' := M) rfl ?_
  refine Hx.add rfl (by omega) ?_
  refine Hx.aldI (n := 1032) rfl rfl (by omega) ?_
  refine Hx.run 4 (pc' := 18) (L' := [some (vr 64), some (vi 992), some (vi i)]) (st' := [vi 16, vi 992, vr 65, vi (M 65 (1002 + i))]) (M' := M) rfl ?_
  refine Hx.add rfl (by omega) ?_
  refine Hx.run 0 (pc' := 19) (L' := [some (vr 64), some (vi 992), some (vi i)]) (st' := [vi 1008, vr 65, vi (M 65 (1002 + i))]) (M' := M) rfl ?_
  refine Hx.run 1 (pc' := 20) (L' := [some (vr 64), some (vi 992), some (vi i)]) (st' := [vi i, vi 1008, vr 65, vi (M 65 (1002 + i))]) (M' := M) rfl ?_
  refine Hx.add rfl (by omega) ?_
  refine Hx.aldI (n := 1032) rfl rfl (by omega) ?_
  refine Hx.run 4 (pc' := 29) (L' := [some (vr 64), some (vi 992), some (vi i)]) (st' := [vi 34, vi 992, vr 65, vi (M 65 (1008 + i)), vi (M 65 (1002 + i))]) (M' := M) rfl ?_
  refine Hx.add rfl (by omega) ?_
  refine Hx.run 0 (pc' := 30) (L' := [some (vr 64), some (vi 992), some (vi i)]) (st' := [vi 1026, vr 65, vi (M 65 (1008 + i)), vi (M 65 (1002 + i))]) (M' := M) rfl ?_
  refine Hx.run 1 (pc' := 31) (L' := [some (vr 64), some (vi 992), some (vi i)]) (st' := [vi i, vi 1026, vr 65, vi (M 65 (1008 + i)), vi (M 65 (1002 + i))]) (M' := M) rfl ?_
  refine Hx.add rfl (by omega) ?_
  refine Hx.aldI (n := 1032) rfl rfl (by omega) ?_
  refine Hx.run 4 (pc' := 39) (L' := [some (vr 64), some (vi 992), some (vi i)]) (st' := [vi 2, vi 992, vr 65, vi (M 65 (1026 + i)), vi (M 65 (1008 + i)), vi (M 65 (1002 + i))]) (M' := M) rfl ?_
  refine Hx.add rfl (by omega) ?_
  refine Hx.run 0 (pc' := 40) (L' := [some (vr 64), some (vi 992), some (vi i)]) (st' := [vi 994, vr 65, vi (M 65 (1026 + i)), vi (M 65 (1008 + i)), vi (M 65 (1002 + i))]) (M' := M) rfl ?_
  refine Hx.run 2 (pc' := 43) (L' := [some (vr 64), some (vi 992), some (vi i)]) (st' := [vi 24, vi (M 65 994), vi (M 65 (1026 + i)), vi (M 65 (1008 + i)), vi (M 65 (1002 + i))]) (M' := M) rfl ?_
  refine Hx.rem rfl (by omega) ?_
  refine Hx.call (t := 144) (as := [vi (M 65 (1002 + i)), vi (M 65 (1008 + i)), vi (M 65 (1026 + i)), vi ((M 65 994) % 24)]) (pc' := 47) (rest := []) rfl (r_stridesOf (M 65 (1002 + i)) (M 65 (1008 + i)) (M 65 (1026 + i)) ((M 65 994) % 24) M (by omega) (by omega) (by omega) (by omega)) ?_
  rintro _ _ ⟨rfl, rfl⟩
  refine Hx.run 0 (pc' := 47) (L' := [some (vr 64), some (vi 992), some (vi i)]) (st' := [vi (sfF (M 65 (1002 + i)) (M 65 (1008 + i)) (M 65 (1026 + i)) ((M 65 994) % 24))]) (M' := M) rfl ?_
  refine Hx.ret rfl ?_
  exact ⟨rfl, rfl⟩
set_option maxRecDepth 100000 in
theorem r_passes_0 (d : Int) (M : Mm) (hd : 0 ≤ d ∧ d ≤ 99) (hh : (0 ≤ M 65 2 ∧ M 65 2 ≤ 9999)) : Ct 171 [vr 64, vi 0, vi d] M (fun q0 M' => q0 = none ∧ up M 65 2 (min 9999 (M 65 2 + d)) = M') := by
  refine Hx.run 4 (pc' := 6) (L' := [some (vr 64), some (vi 0), some (vi d)]) (st' := [vi 2, vi 0, vr 65]) (M' := M) rfl ?_
  refine Hx.add rfl (by omega) ?_
  refine Hx.run 0 (pc' := 7) (L' := [some (vr 64), some (vi 0), some (vi d)]) (st' := [vi 2, vr 65]) (M' := M) rfl ?_
  refine Hx.run 4 (pc' := 13) (L' := [some (vr 64), some (vi 0), some (vi d)]) (st' := [vi 2, vi 0, vr 65, vi 2, vr 65]) (M' := M) rfl ?_
  refine Hx.add rfl (by omega) ?_
  refine Hx.run 0 (pc' := 14) (L' := [some (vr 64), some (vi 0), some (vi d)]) (st' := [vi 2, vr 65, vi 2, vr 65]) (M' := M) rfl ?_
  refine Hx.run 2 (pc' := 16) (L' := [some (vr 64), some (vi 0), some (vi d)]) (st' := [vi d, vi (M 65 2), vi 2, vr 65]) (M' := M) rfl ?_
  refine Hx.add rfl (by omega) ?_
  refine Hx.run 1 (pc' := 20) (L' := [some (vr 64), some (vi 0), some (vi d)]) (st' := [vi 9999, vi ((M 65 2) + d), vi 2, vr 65]) (M' := M) rfl ?_
  refine Hx.br (c := 9999 < ((M 65 2) + d)) (t := 23) (f := 29) rfl (fun h1 => ?_) (fun h1 => ?_)
  · skip
    refine Hx.run 2 (pc' := 39) (L' := [some (vr 64), some (vi 0), some (vi d)]) (st' := [vi 9999, vi 2, vr 65]) (M' := M) rfl ?_
    refine Hx.astI (n := 1032) rfl rfl (by omega) ?_
    refine Hx.ret rfl ?_
    first | exact ⟨rfl, by rw [show min 9999 (M 65 2 + d) = 9999 by omega]⟩ | exact ⟨rfl, by rw [show min 9999 (M 65 2 + d) = M 65 2 + d by omega]⟩
  · skip
    refine Hx.run 4 (pc' := 35) (L' := [some (vr 64), some (vi 0), some (vi d)]) (st' := [vi 2, vi 0, vr 65, vi 2, vr 65]) (M' := M) rfl ?_
    refine Hx.add rfl (by omega) ?_
    refine Hx.run 0 (pc' := 36) (L' := [some (vr 64), some (vi 0), some (vi d)]) (st' := [vi 2, vr 65, vi 2, vr 65]) (M' := M) rfl ?_
    refine Hx.run 2 (pc' := 38) (L' := [some (vr 64), some (vi 0), some (vi d)]) (st' := [vi d, vi (M 65 2), vi 2, vr 65]) (M' := M) rfl ?_
    refine Hx.add rfl (by omega) ?_
    refine Hx.astI (n := 1032) rfl rfl (by omega) ?_
    refine Hx.ret rfl ?_
    first | exact ⟨rfl, by rw [show min 9999 (M 65 2 + d) = 9999 by omega]⟩ | exact ⟨rfl, by rw [show min 9999 (M 65 2 + d) = M 65 2 + d by omega]⟩
set_option maxRecDepth 100000 in
theorem r_passes_744 (d : Int) (M : Mm) (hd : 0 ≤ d ∧ d ≤ 99) (hh : (0 ≤ M 65 746 ∧ M 65 746 ≤ 9999)) : Ct 171 [vr 64, vi 744, vi d] M (fun q0 M' => q0 = none ∧ up M 65 746 (min 9999 (M 65 746 + d)) = M') := by
  refine Hx.run 4 (pc' := 6) (L' := [some (vr 64), some (vi 744), some (vi d)]) (st' := [vi 2, vi 744, vr 65]) (M' := M) rfl ?_
  refine Hx.add rfl (by omega) ?_
  refine Hx.run 0 (pc' := 7) (L' := [some (vr 64), some (vi 744), some (vi d)]) (st' := [vi 746, vr 65]) (M' := M) rfl ?_
  refine Hx.run 4 (pc' := 13) (L' := [some (vr 64), some (vi 744), some (vi d)]) (st' := [vi 2, vi 744, vr 65, vi 746, vr 65]) (M' := M) rfl ?_
  refine Hx.add rfl (by omega) ?_
  refine Hx.run 0 (pc' := 14) (L' := [some (vr 64), some (vi 744), some (vi d)]) (st' := [vi 746, vr 65, vi 746, vr 65]) (M' := M) rfl ?_
  refine Hx.run 2 (pc' := 16) (L' := [some (vr 64), some (vi 744), some (vi d)]) (st' := [vi d, vi (M 65 746), vi 746, vr 65]) (M' := M) rfl ?_
  refine Hx.add rfl (by omega) ?_
  refine Hx.run 1 (pc' := 20) (L' := [some (vr 64), some (vi 744), some (vi d)]) (st' := [vi 9999, vi ((M 65 746) + d), vi 746, vr 65]) (M' := M) rfl ?_
  refine Hx.br (c := 9999 < ((M 65 746) + d)) (t := 23) (f := 29) rfl (fun h1 => ?_) (fun h1 => ?_)
  · skip
    refine Hx.run 2 (pc' := 39) (L' := [some (vr 64), some (vi 744), some (vi d)]) (st' := [vi 9999, vi 746, vr 65]) (M' := M) rfl ?_
    refine Hx.astI (n := 1032) rfl rfl (by omega) ?_
    refine Hx.ret rfl ?_
    first | exact ⟨rfl, by rw [show min 9999 (M 65 746 + d) = 9999 by omega]⟩ | exact ⟨rfl, by rw [show min 9999 (M 65 746 + d) = M 65 746 + d by omega]⟩
  · skip
    refine Hx.run 4 (pc' := 35) (L' := [some (vr 64), some (vi 744), some (vi d)]) (st' := [vi 2, vi 744, vr 65, vi 746, vr 65]) (M' := M) rfl ?_
    refine Hx.add rfl (by omega) ?_
    refine Hx.run 0 (pc' := 36) (L' := [some (vr 64), some (vi 744), some (vi d)]) (st' := [vi 746, vr 65, vi 746, vr 65]) (M' := M) rfl ?_
    refine Hx.run 2 (pc' := 38) (L' := [some (vr 64), some (vi 744), some (vi d)]) (st' := [vi d, vi (M 65 746), vi 746, vr 65]) (M' := M) rfl ?_
    refine Hx.add rfl (by omega) ?_
    refine Hx.astI (n := 1032) rfl rfl (by omega) ?_
    refine Hx.ret rfl ?_
    first | exact ⟨rfl, by rw [show min 9999 (M 65 746 + d) = 9999 by omega]⟩ | exact ⟨rfl, by rw [show min 9999 (M 65 746 + d) = M 65 746 + d by omega]⟩
set_option maxRecDepth 100000 in
theorem r_passes_992 (d : Int) (M : Mm) (hd : 0 ≤ d ∧ d ≤ 99) (hh : (0 ≤ M 65 994 ∧ M 65 994 ≤ 9999)) : Ct 171 [vr 64, vi 992, vi d] M (fun q0 M' => q0 = none ∧ up M 65 994 (min 9999 (M 65 994 + d)) = M') := by
  refine Hx.run 4 (pc' := 6) (L' := [some (vr 64), some (vi 992), some (vi d)]) (st' := [vi 2, vi 992, vr 65]) (M' := M) rfl ?_
  refine Hx.add rfl (by omega) ?_
  refine Hx.run 0 (pc' := 7) (L' := [some (vr 64), some (vi 992), some (vi d)]) (st' := [vi 994, vr 65]) (M' := M) rfl ?_
  refine Hx.run 4 (pc' := 13) (L' := [some (vr 64), some (vi 992), some (vi d)]) (st' := [vi 2, vi 992, vr 65, vi 994, vr 65]) (M' := M) rfl ?_
  refine Hx.add rfl (by omega) ?_
  refine Hx.run 0 (pc' := 14) (L' := [some (vr 64), some (vi 992), some (vi d)]) (st' := [vi 994, vr 65, vi 994, vr 65]) (M' := M) rfl ?_
  refine Hx.run 2 (pc' := 16) (L' := [some (vr 64), some (vi 992), some (vi d)]) (st' := [vi d, vi (M 65 994), vi 994, vr 65]) (M' := M) rfl ?_
  refine Hx.add rfl (by omega) ?_
  refine Hx.run 1 (pc' := 20) (L' := [some (vr 64), some (vi 992), some (vi d)]) (st' := [vi 9999, vi ((M 65 994) + d), vi 994, vr 65]) (M' := M) rfl ?_
  refine Hx.br (c := 9999 < ((M 65 994) + d)) (t := 23) (f := 29) rfl (fun h1 => ?_) (fun h1 => ?_)
  · skip
    refine Hx.run 2 (pc' := 39) (L' := [some (vr 64), some (vi 992), some (vi d)]) (st' := [vi 9999, vi 994, vr 65]) (M' := M) rfl ?_
    refine Hx.astI (n := 1032) rfl rfl (by omega) ?_
    refine Hx.ret rfl ?_
    first | exact ⟨rfl, by rw [show min 9999 (M 65 994 + d) = 9999 by omega]⟩ | exact ⟨rfl, by rw [show min 9999 (M 65 994 + d) = M 65 994 + d by omega]⟩
  · skip
    refine Hx.run 4 (pc' := 35) (L' := [some (vr 64), some (vi 992), some (vi d)]) (st' := [vi 2, vi 992, vr 65, vi 994, vr 65]) (M' := M) rfl ?_
    refine Hx.add rfl (by omega) ?_
    refine Hx.run 0 (pc' := 36) (L' := [some (vr 64), some (vi 992), some (vi d)]) (st' := [vi 994, vr 65, vi 994, vr 65]) (M' := M) rfl ?_
    refine Hx.run 2 (pc' := 38) (L' := [some (vr 64), some (vi 992), some (vi d)]) (st' := [vi d, vi (M 65 994), vi 994, vr 65]) (M' := M) rfl ?_
    refine Hx.add rfl (by omega) ?_
    refine Hx.astI (n := 1032) rfl rfl (by omega) ?_
    refine Hx.ret rfl ?_
    first | exact ⟨rfl, by rw [show min 9999 (M 65 994 + d) = 9999 by omega]⟩ | exact ⟨rfl, by rw [show min 9999 (M 65 994 + d) = M 65 994 + d by omega]⟩
/-- 248 numbers from place f on come to place t on -/
def cpW (M : Mm) (f t n : Int) : Mm := cp M 65 f 65 t n
theorem cpW_up {M : Mm} {f t i : Int} (hi : 0 ≤ i) (hd : f + 248 ≤ t ∨ t + 248 ≤ f) (hi2 : i < 248) : up (cpW M f t i) 65 (t + i) (cpW M f t i 65 (f + i)) = cpW M f t (i + 1) := by
  funext a b
  have e : cpW M f t i 65 (f + i) = M 65 (f + i) := if_neg (fun q => by omega)
  rw [e]
  simp only [up, cpW, cp]
  by_cases ha : a = 65
  · by_cases hb : b = t + i
    · rw [if_pos ⟨ha, hb⟩, if_pos ⟨ha, by omega, by omega⟩, hb]
      rw [show f + (t + i - t) = f + i by omega]
    · rw [if_neg (fun q => hb q.2)]
      by_cases hc : t ≤ b ∧ b < t + i
      · rw [if_pos ⟨ha, hc⟩, if_pos ⟨ha, by omega, by omega⟩]
      · rw [if_neg (fun q => hc q.2), if_neg (fun q => hc ⟨by omega, by omega⟩)]
  · rw [if_neg (fun q => ha q.1), if_neg (fun q => ha q.1), if_neg (fun q => ha q.1)]
theorem cpW_0 {M : Mm} {f t : Int} : cpW M f t 0 = M := by
  funext a b
  simp only [cpW, cp]
  rw [if_neg (fun q => by omega)]
set_option maxRecDepth 100000 in
theorem rl_copy (f t : Int) (M : Mm) (hf : 0 ≤ f ∧ f + 248 ≤ 1032) (ht : 0 ≤ t ∧ t + 248 ≤ 1032) (hd : f + 248 ≤ t ∨ t + 248 ≤ f) : ∀ (kk : Nat) (i : Int), 0 ≤ i ∧ i ≤ 248 → 248 - i < (kk : Int) → Hx 135 2 [some (vr 64), some (vi f), some (vi t), some (vi i)] [] (cpW M f t i) (fun q0 M' => q0 = none ∧ cpW M f t 248 = M') := by
  intro kk
  induction kk with
  | zero => intro i _ hkk; exact absurd hkk (by omega)
  | succ kk ih =>
    intro i hi hkk
    refine Hx.run 2 (pc' := 6) (L' := [some (vr 64), some (vi f), some (vi t), some (vi i)]) (st' := [vi 248, vi i]) (M' := (cpW M f t i)) rfl ?_
    refine Hx.br (c := i < 248) (t := 9) (f := 31) rfl (fun h1 => ?_) (fun h1 => ?_)
    · skip
      refine Hx.run 4 (pc' := 15) (L' := [some (vr 64), some (vi f), some (vi t), some (vi i)]) (st' := [vi i, vi t, vr 65]) (M' := (cpW M f t i)) rfl ?_
      refine Hx.add rfl (by omega) ?_
      refine Hx.run 4 (pc' := 22) (L' := [some (vr 64), some (vi f), some (vi t), some (vi i)]) (st' := [vi i, vi f, vr 65, vi (t + i), vr 65]) (M' := (cpW M f t i)) rfl ?_
      refine Hx.add rfl (by omega) ?_
      refine Hx.aldI (n := 1032) rfl rfl (by omega) ?_
      refine Hx.astI (n := 1032) rfl rfl (by omega) ?_
      refine Hx.inc rfl rfl (by omega) ?_
      refine Hx.run 0 (pc' := 28) (L' := [some (vr 64), some (vi f), some (vi t), some (vi (i + 1))]) (st' := []) (M' := (up (cpW M f t i) 65 (t + i) ((cpW M f t i) 65 (f + i)))) rfl ?_
      refine Hx.run 1 (pc' := 2) (L' := [some (vr 64), some (vi f), some (vi t), some (vi (i + 1))]) (st' := []) (M' := (up (cpW M f t i) 65 (t + i) ((cpW M f t i) 65 (f + i)))) rfl ?_
      rw [cpW_up (by omega) hd (by omega)]
      exact ih (i + 1) (by omega) (by omega)
    · skip
      refine Hx.ret rfl ?_
      have e : i = 248 := by omega
      subst e
      exact ⟨rfl, rfl⟩
set_option maxRecDepth 100000 in
theorem r_copy (f t : Int) (M : Mm) (hf : 0 ≤ f ∧ f + 248 ≤ 1032) (ht : 0 ≤ t ∧ t + 248 ≤ 1032) (hd : f + 248 ≤ t ∨ t + 248 ≤ f) : Ct 135 [vr 64, vi f, vi t] M (fun q0 M' => q0 = none ∧ cpW M f t 248 = M') := by
  refine Hx.run 2 (pc' := 2) (L' := [some (vr 64), some (vi f), some (vi t), some (vi 0)]) (st' := []) (M' := M) rfl ?_
  have h0 := rl_copy f t M hf ht hd 300 0 (by omega) (by omega)
  rw [cpW_0] at h0
  exact h0
theorem fl_up2 {M : Mm} {q i v : Int} (hi : 0 ≤ i) : up (fl M 65 q (q + i) v) 65 (q + i) v = fl M 65 q (q + (i + 1)) v := by
  rw [fl_up (by omega), show q + i + 1 = q + (i + 1) by omega]
set_option maxRecDepth 100000 in
theorem rl_empties (q : Int) (M : Mm) (hq : 0 ≤ q ∧ q + 248 ≤ 1032) : ∀ (kk : Nat) (i : Int), 0 ≤ i ∧ i ≤ 248 → 248 - i < (kk : Int) → Hx 136 2 [some (vr 64), some (vi q), some (vi i)] [] (fl M 65 q (q + i) 0) (fun q0 M' => q0 = none ∧ fl M 65 q (q + 248) 0 = M') := by
  intro kk
  induction kk with
  | zero => intro i _ hkk; exact absurd hkk (by omega)
  | succ kk ih =>
    intro i hi hkk
    refine Hx.run 2 (pc' := 6) (L' := [some (vr 64), some (vi q), some (vi i)]) (st' := [vi 248, vi i]) (M' := (fl M 65 q (q + i) 0)) rfl ?_
    refine Hx.br (c := i < 248) (t := 9) (f := 24) rfl (fun h1 => ?_) (fun h1 => ?_)
    · skip
      refine Hx.run 4 (pc' := 15) (L' := [some (vr 64), some (vi q), some (vi i)]) (st' := [vi i, vi q, vr 65]) (M' := (fl M 65 q (q + i) 0)) rfl ?_
      refine Hx.add rfl (by omega) ?_
      refine Hx.run 1 (pc' := 17) (L' := [some (vr 64), some (vi q), some (vi i)]) (st' := [vi 0, vi (q + i), vr 65]) (M' := (fl M 65 q (q + i) 0)) rfl ?_
      refine Hx.astI (n := 1032) rfl rfl (by omega) ?_
      refine Hx.inc rfl rfl (by omega) ?_
      refine Hx.run 0 (pc' := 21) (L' := [some (vr 64), some (vi q), some (vi (i + 1))]) (st' := []) (M' := (up (fl M 65 q (q + i) 0) 65 (q + i) 0)) rfl ?_
      refine Hx.run 1 (pc' := 2) (L' := [some (vr 64), some (vi q), some (vi (i + 1))]) (st' := []) (M' := (up (fl M 65 q (q + i) 0) 65 (q + i) 0)) rfl ?_
      rw [fl_up2 (by omega)]
      exact ih (i + 1) (by omega) (by omega)
    · skip
      refine Hx.ret rfl ?_
      have e : i = 248 := by omega
      subst e
      exact ⟨rfl, rfl⟩
set_option maxRecDepth 100000 in
theorem r_empties (q : Int) (M : Mm) (hq : 0 ≤ q ∧ q + 248 ≤ 1032) : Ct 136 [vr 64, vi q] M (fun q0 M' => q0 = none ∧ fl M 65 q (q + 248) 0 = M') := by
  refine Hx.run 2 (pc' := 2) (L' := [some (vr 64), some (vi q), some (vi 0)]) (st' := []) (M' := M) rfl ?_
  have h0 := rl_empties q M hq 300 0 (by omega) (by omega)
  rw [Int.add_zero, fl_0] at h0
  exact h0
end
section
/-! the reference: it grows, strides, minds (written by wip/whole/gen23.py) -/
theorem Hx.eqS {y pc : Nat} {L : Lc} {st st' : List PV} {M : Mm} {P : Option PV → Mm → Prop} (e : st = st') (h : Hx y pc L st' M P) : Hx y pc L st M P := by subst e; exact h
set_option maxRecDepth 100000 in
theorem r_addsFlight_0 (a b : Int) (M : Mm) (h : 0 ≤ M 65 0 ∧ M 65 0 < 3) : Ct 149 [vr 64, vi 0, vi a, vi b] M (fun q0 M' => q0 = none ∧ (up (up (up M 65 (4 + (M 65 0)) a) 65 (7 + (M 65 0)) b) 65 0 ((M 65 0) + 1)) = M') := by
  refine Hx.run 4 (pc' := 6) (L' := [some (vr 64), some (vi 0), some (vi a), some (vi b)]) (st' := [vi 4, vi 0, vr 65]) (M' := M) rfl ?_
  refine Hx.add rfl (by omega) ?_
  refine Hx.run 0 (pc' := 7) (L' := [some (vr 64), some (vi 0), some (vi a), some (vi b)]) (st' := [vi 4, vr 65]) (M' := M) rfl ?_
  refine Hx.run 4 (pc' := 13) (L' := [some (vr 64), some (vi 0), some (vi a), some (vi b)]) (st' := [vi 0, vi 0, vr 65, vi 4, vr 65]) (M' := M) rfl ?_
  refine Hx.add rfl (by omega) ?_
  refine Hx.run 0 (pc' := 14) (L' := [some (vr 64), some (vi 0), some (vi a), some (vi b)]) (st' := [vi 0, vr 65, vi 4, vr 65]) (M' := M) rfl ?_
  refine Hx.run 1 (pc' := 15) (L' := [some (vr 64), some (vi 0), some (vi a), some (vi b)]) (st' := [vi (M 65 0), vi 4, vr 65]) (M' := M) rfl ?_
  refine Hx.add rfl (by omega) ?_
  refine Hx.run 1 (pc' := 17) (L' := [some (vr 64), some (vi 0), some (vi a), some (vi b)]) (st' := [vi a, vi (4 + (M 65 0)), vr 65]) (M' := M) rfl ?_
  refine Hx.astI (n := 1032) rfl rfl (by omega) ?_
  refine Hx.run 4 (pc' := 25) (L' := [some (vr 64), some (vi 0), some (vi a), some (vi b)]) (st' := [vi 7, vi 0, vr 65]) (M' := (up M 65 (4 + (M 65 0)) a)) rfl ?_
  refine Hx.add rfl (by omega) ?_
  refine Hx.run 0 (pc' := 26) (L' := [some (vr 64), some (vi 0), some (vi a), some (vi b)]) (st' := [vi 7, vr 65]) (M' := (up M 65 (4 + (M 65 0)) a)) rfl ?_
  refine Hx.run 4 (pc' := 32) (L' := [some (vr 64), some (vi 0), some (vi a), some (vi b)]) (st' := [vi 0, vi 0, vr 65, vi 7, vr 65]) (M' := (up M 65 (4 + (M 65 0)) a)) rfl ?_
  refine Hx.add rfl (by omega) ?_
  refine Hx.run 0 (pc' := 33) (L' := [some (vr 64), some (vi 0), some (vi a), some (vi b)]) (st' := [vi 0, vr 65, vi 7, vr 65]) (M' := (up M 65 (4 + (M 65 0)) a)) rfl ?_
  refine Hx.aldI (n := 1032) rfl rfl (by omega) ?_
  refine Hx.eqS (st' := [vi (M 65 0), vi 7, vr 65]) (by rw [show ((up M 65 (4 + (M 65 0)) a) 65 0) = (M 65 0) from by rw [up_off (by omega)]]) ?_
  refine Hx.add rfl (by omega) ?_
  refine Hx.run 1 (pc' := 36) (L' := [some (vr 64), some (vi 0), some (vi a), some (vi b)]) (st' := [vi b, vi (7 + (M 65 0)), vr 65]) (M' := (up M 65 (4 + (M 65 0)) a)) rfl ?_
  refine Hx.astI (n := 1032) rfl rfl (by omega) ?_
  refine Hx.run 4 (pc' := 43) (L' := [some (vr 64), some (vi 0), some (vi a), some (vi b)]) (st' := [vi 0, vi 0, vr 65]) (M' := (up (up M 65 (4 + (M 65 0)) a) 65 (7 + (M 65 0)) b)) rfl ?_
  refine Hx.add rfl (by omega) ?_
  refine Hx.run 0 (pc' := 44) (L' := [some (vr 64), some (vi 0), some (vi a), some (vi b)]) (st' := [vi 0, vr 65]) (M' := (up (up M 65 (4 + (M 65 0)) a) 65 (7 + (M 65 0)) b)) rfl ?_
  refine Hx.run 1 (pc' := 45) (L' := [some (vr 64), some (vi 0), some (vi a), some (vi b)]) (st' := [vi 0, vr 65, vi 0, vr 65]) (M' := (up (up M 65 (4 + (M 65 0)) a) 65 (7 + (M 65 0)) b)) rfl ?_
  refine Hx.aldI (n := 1032) rfl rfl (by omega) ?_
  refine Hx.eqS (st' := [vi (M 65 0), vi 0, vr 65]) (by rw [show ((up (up M 65 (4 + (M 65 0)) a) 65 (7 + (M 65 0)) b) 65 0) = (M 65 0) from by rw [up_off (by omega), up_off (by omega)]]) ?_
  refine Hx.run 1 (pc' := 47) (L' := [some (vr 64), some (vi 0), some (vi a), some (vi b)]) (st' := [vi 1, vi (M 65 0), vi 0, vr 65]) (M' := (up (up M 65 (4 + (M 65 0)) a) 65 (7 + (M 65 0)) b)) rfl ?_
  refine Hx.add rfl (by omega) ?_
  refine Hx.astI (n := 1032) rfl rfl (by omega) ?_
  refine Hx.ret rfl ?_
  exact ⟨rfl, rfl⟩
set_option maxRecDepth 100000 in
theorem r_addsGoer_0 (a b c : Int) (M : Mm) (h : 0 ≤ M 65 1 ∧ M 65 1 < 6) : Ct 151 [vr 64, vi 0, vi a, vi b, vi c] M (fun q0 M' => q0 = none ∧ (up (up (up (up (up (up M 65 (10 + (M 65 1)) a) 65 (16 + (M 65 1)) b) 65 (22 + (M 65 1)) c) 65 (28 + (M 65 1)) 0) 65 (34 + (M 65 1)) 0) 65 1 ((M 65 1) + 1)) = M') := by
  refine Hx.run 4 (pc' := 6) (L' := [some (vr 64), some (vi 0), some (vi a), some (vi b), some (vi c), none]) (st' := [vi 1, vi 0, vr 65]) (M' := M) rfl ?_
  refine Hx.add rfl (by omega) ?_
  refine Hx.run 0 (pc' := 7) (L' := [some (vr 64), some (vi 0), some (vi a), some (vi b), some (vi c), none]) (st' := [vi 1, vr 65]) (M' := M) rfl ?_
  refine Hx.run 6 (pc' := 17) (L' := [some (vr 64), some (vi 0), some (vi a), some (vi b), some (vi c), some (vi (M 65 1))]) (st' := [vi 10, vi 0, vr 65]) (M' := M) rfl ?_
  refine Hx.add rfl (by omega) ?_
  refine Hx.run 0 (pc' := 18) (L' := [some (vr 64), some (vi 0), some (vi a), some (vi b), some (vi c), some (vi (M 65 1))]) (st' := [vi 10, vr 65]) (M' := M) rfl ?_
  refine Hx.run 1 (pc' := 20) (L' := [some (vr 64), some (vi 0), some (vi a), some (vi b), some (vi c), some (vi (M 65 1))]) (st' := [vi (M 65 1), vi 10, vr 65]) (M' := M) rfl ?_
  refine Hx.add rfl (by omega) ?_
  refine Hx.run 1 (pc' := 22) (L' := [some (vr 64), some (vi 0), some (vi a), some (vi b), some (vi c), some (vi (M 65 1))]) (st' := [vi a, vi (10 + (M 65 1)), vr 65]) (M' := M) rfl ?_
  refine Hx.astI (n := 1032) rfl rfl (by omega) ?_
  refine Hx.run 4 (pc' := 30) (L' := [some (vr 64), some (vi 0), some (vi a), some (vi b), some (vi c), some (vi (M 65 1))]) (st' := [vi 16, vi 0, vr 65]) (M' := (up M 65 (10 + (M 65 1)) a)) rfl ?_
  refine Hx.add rfl (by omega) ?_
  refine Hx.run 0 (pc' := 31) (L' := [some (vr 64), some (vi 0), some (vi a), some (vi b), some (vi c), some (vi (M 65 1))]) (st' := [vi 16, vr 65]) (M' := (up M 65 (10 + (M 65 1)) a)) rfl ?_
  refine Hx.run 1 (pc' := 33) (L' := [some (vr 64), some (vi 0), some (vi a), some (vi b), some (vi c), some (vi (M 65 1))]) (st' := [vi (M 65 1), vi 16, vr 65]) (M' := (up M 65 (10 + (M 65 1)) a)) rfl ?_
  refine Hx.add rfl (by omega) ?_
  refine Hx.run 1 (pc' := 35) (L' := [some (vr 64), some (vi 0), some (vi a), some (vi b), some (vi c), some (vi (M 65 1))]) (st' := [vi b, vi (16 + (M 65 1)), vr 65]) (M' := (up M 65 (10 + (M 65 1)) a)) rfl ?_
  refine Hx.astI (n := 1032) rfl rfl (by omega) ?_
  refine Hx.run 4 (pc' := 43) (L' := [some (vr 64), some (vi 0), some (vi a), some (vi b), some (vi c), some (vi (M 65 1))]) (st' := [vi 22, vi 0, vr 65]) (M' := (up (up M 65 (10 + (M 65 1)) a) 65 (16 + (M 65 1)) b)) rfl ?_
  refine Hx.add rfl (by omega) ?_
  refine Hx.run 0 (pc' := 44) (L' := [some (vr 64), some (vi 0), some (vi a), some (vi b), some (vi c), some (vi (M 65 1))]) (st' := [vi 22, vr 65]) (M' := (up (up M 65 (10 + (M 65 1)) a) 65 (16 + (M 65 1)) b)) rfl ?_
  refine Hx.run 1 (pc' := 46) (L' := [some (vr 64), some (vi 0), some (vi a), some (vi b), some (vi c), some (vi (M 65 1))]) (st' := [vi (M 65 1), vi 22, vr 65]) (M' := (up (up M 65 (10 + (M 65 1)) a) 65 (16 + (M 65 1)) b)) rfl ?_
  refine Hx.add rfl (by omega) ?_
  refine Hx.run 1 (pc' := 49) (L' := [some (vr 64), some (vi 0), some (vi a), some (vi b), some (vi c), some (vi (M 65 1))]) (st' := [vi c, vi (22 + (M 65 1)), vr 65]) (M' := (up (up M 65 (10 + (M 65 1)) a) 65 (16 + (M 65 1)) b)) rfl ?_
  refine Hx.astI (n := 1032) rfl rfl (by omega) ?_
  refine Hx.run 4 (pc' := 57) (L' := [some (vr 64), some (vi 0), some (vi a), some (vi b), some (vi c), some (vi (M 65 1))]) (st' := [vi 28, vi 0, vr 65]) (M' := (up (up (up M 65 (10 + (M 65 1)) a) 65 (16 + (M 65 1)) b) 65 (22 + (M 65 1)) c)) rfl ?_
  refine Hx.add rfl (by omega) ?_
  refine Hx.run 0 (pc' := 58) (L' := [some (vr 64), some (vi 0), some (vi a), some (vi b), some (vi c), some (vi (M 65 1))]) (st' := [vi 28, vr 65]) (M' := (up (up (up M 65 (10 + (M 65 1)) a) 65 (16 + (M 65 1)) b) 65 (22 + (M 65 1)) c)) rfl ?_
  refine Hx.run 1 (pc' := 60) (L' := [some (vr 64), some (vi 0), some (vi a), some (vi b), some (vi c), some (vi (M 65 1))]) (st' := [vi (M 65 1), vi 28, vr 65]) (M' := (up (up (up M 65 (10 + (M 65 1)) a) 65 (16 + (M 65 1)) b) 65 (22 + (M 65 1)) c)) rfl ?_
  refine Hx.add rfl (by omega) ?_
  refine Hx.run 1 (pc' := 62) (L' := [some (vr 64), some (vi 0), some (vi a), some (vi b), some (vi c), some (vi (M 65 1))]) (st' := [vi 0, vi (28 + (M 65 1)), vr 65]) (M' := (up (up (up M 65 (10 + (M 65 1)) a) 65 (16 + (M 65 1)) b) 65 (22 + (M 65 1)) c)) rfl ?_
  refine Hx.astI (n := 1032) rfl rfl (by omega) ?_
  refine Hx.run 4 (pc' := 70) (L' := [some (vr 64), some (vi 0), some (vi a), some (vi b), some (vi c), some (vi (M 65 1))]) (st' := [vi 34, vi 0, vr 65]) (M' := (up (up (up (up M 65 (10 + (M 65 1)) a) 65 (16 + (M 65 1)) b) 65 (22 + (M 65 1)) c) 65 (28 + (M 65 1)) 0)) rfl ?_
  refine Hx.add rfl (by omega) ?_
  refine Hx.run 0 (pc' := 71) (L' := [some (vr 64), some (vi 0), some (vi a), some (vi b), some (vi c), some (vi (M 65 1))]) (st' := [vi 34, vr 65]) (M' := (up (up (up (up M 65 (10 + (M 65 1)) a) 65 (16 + (M 65 1)) b) 65 (22 + (M 65 1)) c) 65 (28 + (M 65 1)) 0)) rfl ?_
  refine Hx.run 1 (pc' := 73) (L' := [some (vr 64), some (vi 0), some (vi a), some (vi b), some (vi c), some (vi (M 65 1))]) (st' := [vi (M 65 1), vi 34, vr 65]) (M' := (up (up (up (up M 65 (10 + (M 65 1)) a) 65 (16 + (M 65 1)) b) 65 (22 + (M 65 1)) c) 65 (28 + (M 65 1)) 0)) rfl ?_
  refine Hx.add rfl (by omega) ?_
  refine Hx.run 1 (pc' := 75) (L' := [some (vr 64), some (vi 0), some (vi a), some (vi b), some (vi c), some (vi (M 65 1))]) (st' := [vi 0, vi (34 + (M 65 1)), vr 65]) (M' := (up (up (up (up M 65 (10 + (M 65 1)) a) 65 (16 + (M 65 1)) b) 65 (22 + (M 65 1)) c) 65 (28 + (M 65 1)) 0)) rfl ?_
  refine Hx.astI (n := 1032) rfl rfl (by omega) ?_
  refine Hx.run 4 (pc' := 82) (L' := [some (vr 64), some (vi 0), some (vi a), some (vi b), some (vi c), some (vi (M 65 1))]) (st' := [vi 1, vi 0, vr 65]) (M' := (up (up (up (up (up M 65 (10 + (M 65 1)) a) 65 (16 + (M 65 1)) b) 65 (22 + (M 65 1)) c) 65 (28 + (M 65 1)) 0) 65 (34 + (M 65 1)) 0)) rfl ?_
  refine Hx.add rfl (by omega) ?_
  refine Hx.run 0 (pc' := 83) (L' := [some (vr 64), some (vi 0), some (vi a), some (vi b), some (vi c), some (vi (M 65 1))]) (st' := [vi 1, vr 65]) (M' := (up (up (up (up (up M 65 (10 + (M 65 1)) a) 65 (16 + (M 65 1)) b) 65 (22 + (M 65 1)) c) 65 (28 + (M 65 1)) 0) 65 (34 + (M 65 1)) 0)) rfl ?_
  refine Hx.run 1 (pc' := 84) (L' := [some (vr 64), some (vi 0), some (vi a), some (vi b), some (vi c), some (vi (M 65 1))]) (st' := [vi 1, vr 65, vi 1, vr 65]) (M' := (up (up (up (up (up M 65 (10 + (M 65 1)) a) 65 (16 + (M 65 1)) b) 65 (22 + (M 65 1)) c) 65 (28 + (M 65 1)) 0) 65 (34 + (M 65 1)) 0)) rfl ?_
  refine Hx.aldI (n := 1032) rfl rfl (by omega) ?_
  refine Hx.eqS (st' := [vi (M 65 1), vi 1, vr 65]) (by rw [show ((up (up (up (up (up M 65 (10 + (M 65 1)) a) 65 (16 + (M 65 1)) b) 65 (22 + (M 65 1)) c) 65 (28 + (M 65 1)) 0) 65 (34 + (M 65 1)) 0) 65 1) = (M 65 1) from by rw [up_off (by omega), up_off (by omega), up_off (by omega), up_off (by omega), up_off (by omega)]]) ?_
  refine Hx.run 1 (pc' := 86) (L' := [some (vr 64), some (vi 0), some (vi a), some (vi b), some (vi c), some (vi (M 65 1))]) (st' := [vi 1, vi (M 65 1), vi 1, vr 65]) (M' := (up (up (up (up (up M 65 (10 + (M 65 1)) a) 65 (16 + (M 65 1)) b) 65 (22 + (M 65 1)) c) 65 (28 + (M 65 1)) 0) 65 (34 + (M 65 1)) 0)) rfl ?_
  refine Hx.add rfl (by omega) ?_
  refine Hx.astI (n := 1032) rfl rfl (by omega) ?_
  refine Hx.ret rfl ?_
  exact ⟨rfl, rfl⟩
set_option maxRecDepth 100000 in
theorem r_addsFlight_744 (a b : Int) (M : Mm) (h : 0 ≤ M 65 744 ∧ M 65 744 < 3) : Ct 149 [vr 64, vi 744, vi a, vi b] M (fun q0 M' => q0 = none ∧ (up (up (up M 65 (748 + (M 65 744)) a) 65 (751 + (M 65 744)) b) 65 744 ((M 65 744) + 1)) = M') := by
  refine Hx.run 4 (pc' := 6) (L' := [some (vr 64), some (vi 744), some (vi a), some (vi b)]) (st' := [vi 4, vi 744, vr 65]) (M' := M) rfl ?_
  refine Hx.add rfl (by omega) ?_
  refine Hx.run 0 (pc' := 7) (L' := [some (vr 64), some (vi 744), some (vi a), some (vi b)]) (st' := [vi 748, vr 65]) (M' := M) rfl ?_
  refine Hx.run 4 (pc' := 13) (L' := [some (vr 64), some (vi 744), some (vi a), some (vi b)]) (st' := [vi 0, vi 744, vr 65, vi 748, vr 65]) (M' := M) rfl ?_
  refine Hx.add rfl (by omega) ?_
  refine Hx.run 0 (pc' := 14) (L' := [some (vr 64), some (vi 744), some (vi a), some (vi b)]) (st' := [vi 744, vr 65, vi 748, vr 65]) (M' := M) rfl ?_
  refine Hx.run 1 (pc' := 15) (L' := [some (vr 64), some (vi 744), some (vi a), some (vi b)]) (st' := [vi (M 65 744), vi 748, vr 65]) (M' := M) rfl ?_
  refine Hx.add rfl (by omega) ?_
  refine Hx.run 1 (pc' := 17) (L' := [some (vr 64), some (vi 744), some (vi a), some (vi b)]) (st' := [vi a, vi (748 + (M 65 744)), vr 65]) (M' := M) rfl ?_
  refine Hx.astI (n := 1032) rfl rfl (by omega) ?_
  refine Hx.run 4 (pc' := 25) (L' := [some (vr 64), some (vi 744), some (vi a), some (vi b)]) (st' := [vi 7, vi 744, vr 65]) (M' := (up M 65 (748 + (M 65 744)) a)) rfl ?_
  refine Hx.add rfl (by omega) ?_
  refine Hx.run 0 (pc' := 26) (L' := [some (vr 64), some (vi 744), some (vi a), some (vi b)]) (st' := [vi 751, vr 65]) (M' := (up M 65 (748 + (M 65 744)) a)) rfl ?_
  refine Hx.run 4 (pc' := 32) (L' := [some (vr 64), some (vi 744), some (vi a), some (vi b)]) (st' := [vi 0, vi 744, vr 65, vi 751, vr 65]) (M' := (up M 65 (748 + (M 65 744)) a)) rfl ?_
  refine Hx.add rfl (by omega) ?_
  refine Hx.run 0 (pc' := 33) (L' := [some (vr 64), some (vi 744), some (vi a), some (vi b)]) (st' := [vi 744, vr 65, vi 751, vr 65]) (M' := (up M 65 (748 + (M 65 744)) a)) rfl ?_
  refine Hx.aldI (n := 1032) rfl rfl (by omega) ?_
  refine Hx.eqS (st' := [vi (M 65 744), vi 751, vr 65]) (by rw [show ((up M 65 (748 + (M 65 744)) a) 65 744) = (M 65 744) from by rw [up_off (by omega)]]) ?_
  refine Hx.add rfl (by omega) ?_
  refine Hx.run 1 (pc' := 36) (L' := [some (vr 64), some (vi 744), some (vi a), some (vi b)]) (st' := [vi b, vi (751 + (M 65 744)), vr 65]) (M' := (up M 65 (748 + (M 65 744)) a)) rfl ?_
  refine Hx.astI (n := 1032) rfl rfl (by omega) ?_
  refine Hx.run 4 (pc' := 43) (L' := [some (vr 64), some (vi 744), some (vi a), some (vi b)]) (st' := [vi 0, vi 744, vr 65]) (M' := (up (up M 65 (748 + (M 65 744)) a) 65 (751 + (M 65 744)) b)) rfl ?_
  refine Hx.add rfl (by omega) ?_
  refine Hx.run 0 (pc' := 44) (L' := [some (vr 64), some (vi 744), some (vi a), some (vi b)]) (st' := [vi 744, vr 65]) (M' := (up (up M 65 (748 + (M 65 744)) a) 65 (751 + (M 65 744)) b)) rfl ?_
  refine Hx.run 1 (pc' := 45) (L' := [some (vr 64), some (vi 744), some (vi a), some (vi b)]) (st' := [vi 744, vr 65, vi 744, vr 65]) (M' := (up (up M 65 (748 + (M 65 744)) a) 65 (751 + (M 65 744)) b)) rfl ?_
  refine Hx.aldI (n := 1032) rfl rfl (by omega) ?_
  refine Hx.eqS (st' := [vi (M 65 744), vi 744, vr 65]) (by rw [show ((up (up M 65 (748 + (M 65 744)) a) 65 (751 + (M 65 744)) b) 65 744) = (M 65 744) from by rw [up_off (by omega), up_off (by omega)]]) ?_
  refine Hx.run 1 (pc' := 47) (L' := [some (vr 64), some (vi 744), some (vi a), some (vi b)]) (st' := [vi 1, vi (M 65 744), vi 744, vr 65]) (M' := (up (up M 65 (748 + (M 65 744)) a) 65 (751 + (M 65 744)) b)) rfl ?_
  refine Hx.add rfl (by omega) ?_
  refine Hx.astI (n := 1032) rfl rfl (by omega) ?_
  refine Hx.ret rfl ?_
  exact ⟨rfl, rfl⟩
set_option maxRecDepth 100000 in
theorem r_addsGoer_744 (a b c : Int) (M : Mm) (h : 0 ≤ M 65 745 ∧ M 65 745 < 6) : Ct 151 [vr 64, vi 744, vi a, vi b, vi c] M (fun q0 M' => q0 = none ∧ (up (up (up (up (up (up M 65 (754 + (M 65 745)) a) 65 (760 + (M 65 745)) b) 65 (766 + (M 65 745)) c) 65 (772 + (M 65 745)) 0) 65 (778 + (M 65 745)) 0) 65 745 ((M 65 745) + 1)) = M') := by
  refine Hx.run 4 (pc' := 6) (L' := [some (vr 64), some (vi 744), some (vi a), some (vi b), some (vi c), none]) (st' := [vi 1, vi 744, vr 65]) (M' := M) rfl ?_
  refine Hx.add rfl (by omega) ?_
  refine Hx.run 0 (pc' := 7) (L' := [some (vr 64), some (vi 744), some (vi a), some (vi b), some (vi c), none]) (st' := [vi 745, vr 65]) (M' := M) rfl ?_
  refine Hx.run 6 (pc' := 17) (L' := [some (vr 64), some (vi 744), some (vi a), some (vi b), some (vi c), some (vi (M 65 745))]) (st' := [vi 10, vi 744, vr 65]) (M' := M) rfl ?_
  refine Hx.add rfl (by omega) ?_
  refine Hx.run 0 (pc' := 18) (L' := [some (vr 64), some (vi 744), some (vi a), some (vi b), some (vi c), some (vi (M 65 745))]) (st' := [vi 754, vr 65]) (M' := M) rfl ?_
  refine Hx.run 1 (pc' := 20) (L' := [some (vr 64), some (vi 744), some (vi a), some (vi b), some (vi c), some (vi (M 65 745))]) (st' := [vi (M 65 745), vi 754, vr 65]) (M' := M) rfl ?_
  refine Hx.add rfl (by omega) ?_
  refine Hx.run 1 (pc' := 22) (L' := [some (vr 64), some (vi 744), some (vi a), some (vi b), some (vi c), some (vi (M 65 745))]) (st' := [vi a, vi (754 + (M 65 745)), vr 65]) (M' := M) rfl ?_
  refine Hx.astI (n := 1032) rfl rfl (by omega) ?_
  refine Hx.run 4 (pc' := 30) (L' := [some (vr 64), some (vi 744), some (vi a), some (vi b), some (vi c), some (vi (M 65 745))]) (st' := [vi 16, vi 744, vr 65]) (M' := (up M 65 (754 + (M 65 745)) a)) rfl ?_
  refine Hx.add rfl (by omega) ?_
  refine Hx.run 0 (pc' := 31) (L' := [some (vr 64), some (vi 744), some (vi a), some (vi b), some (vi c), some (vi (M 65 745))]) (st' := [vi 760, vr 65]) (M' := (up M 65 (754 + (M 65 745)) a)) rfl ?_
  refine Hx.run 1 (pc' := 33) (L' := [some (vr 64), some (vi 744), some (vi a), some (vi b), some (vi c), some (vi (M 65 745))]) (st' := [vi (M 65 745), vi 760, vr 65]) (M' := (up M 65 (754 + (M 65 745)) a)) rfl ?_
  refine Hx.add rfl (by omega) ?_
  refine Hx.run 1 (pc' := 35) (L' := [some (vr 64), some (vi 744), some (vi a), some (vi b), some (vi c), some (vi (M 65 745))]) (st' := [vi b, vi (760 + (M 65 745)), vr 65]) (M' := (up M 65 (754 + (M 65 745)) a)) rfl ?_
  refine Hx.astI (n := 1032) rfl rfl (by omega) ?_
  refine Hx.run 4 (pc' := 43) (L' := [some (vr 64), some (vi 744), some (vi a), some (vi b), some (vi c), some (vi (M 65 745))]) (st' := [vi 22, vi 744, vr 65]) (M' := (up (up M 65 (754 + (M 65 745)) a) 65 (760 + (M 65 745)) b)) rfl ?_
  refine Hx.add rfl (by omega) ?_
  refine Hx.run 0 (pc' := 44) (L' := [some (vr 64), some (vi 744), some (vi a), some (vi b), some (vi c), some (vi (M 65 745))]) (st' := [vi 766, vr 65]) (M' := (up (up M 65 (754 + (M 65 745)) a) 65 (760 + (M 65 745)) b)) rfl ?_
  refine Hx.run 1 (pc' := 46) (L' := [some (vr 64), some (vi 744), some (vi a), some (vi b), some (vi c), some (vi (M 65 745))]) (st' := [vi (M 65 745), vi 766, vr 65]) (M' := (up (up M 65 (754 + (M 65 745)) a) 65 (760 + (M 65 745)) b)) rfl ?_
  refine Hx.add rfl (by omega) ?_
  refine Hx.run 1 (pc' := 49) (L' := [some (vr 64), some (vi 744), some (vi a), some (vi b), some (vi c), some (vi (M 65 745))]) (st' := [vi c, vi (766 + (M 65 745)), vr 65]) (M' := (up (up M 65 (754 + (M 65 745)) a) 65 (760 + (M 65 745)) b)) rfl ?_
  refine Hx.astI (n := 1032) rfl rfl (by omega) ?_
  refine Hx.run 4 (pc' := 57) (L' := [some (vr 64), some (vi 744), some (vi a), some (vi b), some (vi c), some (vi (M 65 745))]) (st' := [vi 28, vi 744, vr 65]) (M' := (up (up (up M 65 (754 + (M 65 745)) a) 65 (760 + (M 65 745)) b) 65 (766 + (M 65 745)) c)) rfl ?_
  refine Hx.add rfl (by omega) ?_
  refine Hx.run 0 (pc' := 58) (L' := [some (vr 64), some (vi 744), some (vi a), some (vi b), some (vi c), some (vi (M 65 745))]) (st' := [vi 772, vr 65]) (M' := (up (up (up M 65 (754 + (M 65 745)) a) 65 (760 + (M 65 745)) b) 65 (766 + (M 65 745)) c)) rfl ?_
  refine Hx.run 1 (pc' := 60) (L' := [some (vr 64), some (vi 744), some (vi a), some (vi b), some (vi c), some (vi (M 65 745))]) (st' := [vi (M 65 745), vi 772, vr 65]) (M' := (up (up (up M 65 (754 + (M 65 745)) a) 65 (760 + (M 65 745)) b) 65 (766 + (M 65 745)) c)) rfl ?_
  refine Hx.add rfl (by omega) ?_
  refine Hx.run 1 (pc' := 62) (L' := [some (vr 64), some (vi 744), some (vi a), some (vi b), some (vi c), some (vi (M 65 745))]) (st' := [vi 0, vi (772 + (M 65 745)), vr 65]) (M' := (up (up (up M 65 (754 + (M 65 745)) a) 65 (760 + (M 65 745)) b) 65 (766 + (M 65 745)) c)) rfl ?_
  refine Hx.astI (n := 1032) rfl rfl (by omega) ?_
  refine Hx.run 4 (pc' := 70) (L' := [some (vr 64), some (vi 744), some (vi a), some (vi b), some (vi c), some (vi (M 65 745))]) (st' := [vi 34, vi 744, vr 65]) (M' := (up (up (up (up M 65 (754 + (M 65 745)) a) 65 (760 + (M 65 745)) b) 65 (766 + (M 65 745)) c) 65 (772 + (M 65 745)) 0)) rfl ?_
  refine Hx.add rfl (by omega) ?_
  refine Hx.run 0 (pc' := 71) (L' := [some (vr 64), some (vi 744), some (vi a), some (vi b), some (vi c), some (vi (M 65 745))]) (st' := [vi 778, vr 65]) (M' := (up (up (up (up M 65 (754 + (M 65 745)) a) 65 (760 + (M 65 745)) b) 65 (766 + (M 65 745)) c) 65 (772 + (M 65 745)) 0)) rfl ?_
  refine Hx.run 1 (pc' := 73) (L' := [some (vr 64), some (vi 744), some (vi a), some (vi b), some (vi c), some (vi (M 65 745))]) (st' := [vi (M 65 745), vi 778, vr 65]) (M' := (up (up (up (up M 65 (754 + (M 65 745)) a) 65 (760 + (M 65 745)) b) 65 (766 + (M 65 745)) c) 65 (772 + (M 65 745)) 0)) rfl ?_
  refine Hx.add rfl (by omega) ?_
  refine Hx.run 1 (pc' := 75) (L' := [some (vr 64), some (vi 744), some (vi a), some (vi b), some (vi c), some (vi (M 65 745))]) (st' := [vi 0, vi (778 + (M 65 745)), vr 65]) (M' := (up (up (up (up M 65 (754 + (M 65 745)) a) 65 (760 + (M 65 745)) b) 65 (766 + (M 65 745)) c) 65 (772 + (M 65 745)) 0)) rfl ?_
  refine Hx.astI (n := 1032) rfl rfl (by omega) ?_
  refine Hx.run 4 (pc' := 82) (L' := [some (vr 64), some (vi 744), some (vi a), some (vi b), some (vi c), some (vi (M 65 745))]) (st' := [vi 1, vi 744, vr 65]) (M' := (up (up (up (up (up M 65 (754 + (M 65 745)) a) 65 (760 + (M 65 745)) b) 65 (766 + (M 65 745)) c) 65 (772 + (M 65 745)) 0) 65 (778 + (M 65 745)) 0)) rfl ?_
  refine Hx.add rfl (by omega) ?_
  refine Hx.run 0 (pc' := 83) (L' := [some (vr 64), some (vi 744), some (vi a), some (vi b), some (vi c), some (vi (M 65 745))]) (st' := [vi 745, vr 65]) (M' := (up (up (up (up (up M 65 (754 + (M 65 745)) a) 65 (760 + (M 65 745)) b) 65 (766 + (M 65 745)) c) 65 (772 + (M 65 745)) 0) 65 (778 + (M 65 745)) 0)) rfl ?_
  refine Hx.run 1 (pc' := 84) (L' := [some (vr 64), some (vi 744), some (vi a), some (vi b), some (vi c), some (vi (M 65 745))]) (st' := [vi 745, vr 65, vi 745, vr 65]) (M' := (up (up (up (up (up M 65 (754 + (M 65 745)) a) 65 (760 + (M 65 745)) b) 65 (766 + (M 65 745)) c) 65 (772 + (M 65 745)) 0) 65 (778 + (M 65 745)) 0)) rfl ?_
  refine Hx.aldI (n := 1032) rfl rfl (by omega) ?_
  refine Hx.eqS (st' := [vi (M 65 745), vi 745, vr 65]) (by rw [show ((up (up (up (up (up M 65 (754 + (M 65 745)) a) 65 (760 + (M 65 745)) b) 65 (766 + (M 65 745)) c) 65 (772 + (M 65 745)) 0) 65 (778 + (M 65 745)) 0) 65 745) = (M 65 745) from by rw [up_off (by omega), up_off (by omega), up_off (by omega), up_off (by omega), up_off (by omega)]]) ?_
  refine Hx.run 1 (pc' := 86) (L' := [some (vr 64), some (vi 744), some (vi a), some (vi b), some (vi c), some (vi (M 65 745))]) (st' := [vi 1, vi (M 65 745), vi 745, vr 65]) (M' := (up (up (up (up (up M 65 (754 + (M 65 745)) a) 65 (760 + (M 65 745)) b) 65 (766 + (M 65 745)) c) 65 (772 + (M 65 745)) 0) 65 (778 + (M 65 745)) 0)) rfl ?_
  refine Hx.add rfl (by omega) ?_
  refine Hx.astI (n := 1032) rfl rfl (by omega) ?_
  refine Hx.ret rfl ?_
  exact ⟨rfl, rfl⟩
end
section
/-! the reference: a stride; what may be undone (written by wip/whole/gen24.py) -/
theorem up_eq {M : Mm} {r : Nat} {i v j : Int} (h : j = i) : up M r i v r j = v := by rw [h, up_at]
set_option maxRecDepth 100000 in
set_option maxHeartbeats 4000000 in
theorem r_goes_0 (i d : Int) (M : Mm) (hg : (0 ≤ i ∧ i < 6) ∧ (0 ≤ M 65 (10 + i) ∧ M 65 (10 + i) ≤ 5) ∧ (1 ≤ M 65 (16 + i) ∧ M 65 (16 + i) ≤ 4) ∧ (0 ≤ M 65 (22 + i) ∧ M 65 (22 + i) ≤ 2) ∧ (0 ≤ M 65 (28 + i) ∧ M 65 (28 + i) ≤ 11) ∧ (0 ≤ M 65 (34 + i) ∧ M 65 (34 + i) ≤ 9)) (hf : (0 ≤ (M 65 (22 + i)) ∧ (M 65 (22 + i)) < 3) ∧ (0 ≤ M 65 (4 + (M 65 (22 + i))) ∧ M 65 (4 + (M 65 (22 + i))) ≤ 5) ∧ (1 ≤ M 65 (7 + (M 65 (22 + i))) ∧ M 65 (7 + (M 65 (22 + i))) ≤ 10)) (hh : (0 ≤ M 65 2 ∧ M 65 2 ≤ 9999)) (hd : 1 ≤ d ∧ d ≤ 9) (hfa : 0 ≤ M 65 3 ∧ M 65 3 ≤ 9999) : Ct 170 [vr 64, vi 0, vi i, vi d] M (fun q0 M' => (hb (bb (M 65 (7 + (M 65 (22 + i)))) (bcF (M 65 (4 + (M 65 (22 + i)))) ((M 65 2) % 24))) (min 11 ((M 65 (28 + i)) + d)) ∧ q0 = none ∧ up (up M 65 (28 + i) 0) 65 3 (min 9999 ((M 65 3) + 1)) = M') ∨ (¬ hb (bb (M 65 (7 + (M 65 (22 + i)))) (bcF (M 65 (4 + (M 65 (22 + i)))) ((M 65 2) % 24))) (min 11 ((M 65 (28 + i)) + d)) ∧ q0 = none ∧ up (up M 65 (28 + i) (min 11 ((M 65 (28 + i)) + d))) 65 3 (M 65 3) = M')) := by
  have hbb := bb_rng (M 65 (7 + (M 65 (22 + i)))) (bcF (M 65 (4 + (M 65 (22 + i)))) (M 65 2 % 24))
  refine Hx.run 4 (pc' := 7) (L' := [some (vr 64), some (vi 0), some (vi i), some (vi d), none, none]) (st' := [vi 28, vi 0, vr 65]) (M' := M) rfl ?_
  refine Hx.add rfl (by omega) ?_
  refine Hx.run 0 (pc' := 8) (L' := [some (vr 64), some (vi 0), some (vi i), some (vi d), none, none]) (st' := [vi 28, vr 65]) (M' := M) rfl ?_
  refine Hx.run 1 (pc' := 9) (L' := [some (vr 64), some (vi 0), some (vi i), some (vi d), none, none]) (st' := [vi i, vi 28, vr 65]) (M' := M) rfl ?_
  refine Hx.add rfl (by omega) ?_
  refine Hx.aldI (n := 1032) rfl rfl (by omega) ?_
  refine Hx.run 1 (pc' := 12) (L' := [some (vr 64), some (vi 0), some (vi i), some (vi d), none, none]) (st' := [vi d, vi (M 65 (28 + i))]) (M' := M) rfl ?_
  refine Hx.add rfl (by omega) ?_
  refine Hx.run 3 (pc' := 19) (L' := [some (vr 64), some (vi 0), some (vi i), some (vi d), some (vi ((M 65 (28 + i)) + d)), none]) (st' := [vi 11, vi ((M 65 (28 + i)) + d)]) (M' := M) rfl ?_
  refine Hx.br (c := 11 < ((M 65 (28 + i)) + d)) (t := 22) (f := 27) rfl (fun h1 => ?_) (fun h1 => ?_)
  · skip
    refine Hx.run 9 (pc' := 40) (L' := [some (vr 64), some (vi 0), some (vi i), some (vi d), some (vi 11), none]) (st' := [vi 22, vi 0, vr 65, vi 0, vr 64]) (M' := M) rfl ?_
    refine Hx.add rfl (by omega) ?_
    refine Hx.run 0 (pc' := 41) (L' := [some (vr 64), some (vi 0), some (vi i), some (vi d), some (vi 11), none]) (st' := [vi 22, vr 65, vi 0, vr 64]) (M' := M) rfl ?_
    refine Hx.run 1 (pc' := 42) (L' := [some (vr 64), some (vi 0), some (vi i), some (vi d), some (vi 11), none]) (st' := [vi i, vi 22, vr 65, vi 0, vr 64]) (M' := M) rfl ?_
    refine Hx.add rfl (by omega) ?_
    refine Hx.aldI (n := 1032) rfl rfl (by omega) ?_
    refine Hx.call (t := 146) (as := [vr 64, vi 0, vi (M 65 (22 + i))]) (pc' := 47) (rest := []) rfl (r_bars_0 (M 65 (22 + i)) M (by omega) (by omega)) ?_
    rintro _ _ ⟨rfl, rfl⟩
    refine Hx.run 0 (pc' := 47) (L' := [some (vr 64), some (vi 0), some (vi i), some (vi d), some (vi 11), none]) (st' := [vi (bb (M 65 (7 + (M 65 (22 + i)))) (bcF (M 65 (4 + (M 65 (22 + i)))) ((M 65 2) % 24)))]) (M' := M) rfl ?_
    refine Hx.run 1 (pc' := 49) (L' := [some (vr 64), some (vi 0), some (vi i), some (vi d), some (vi 11), none]) (st' := [vi 11, vi (bb (M 65 (7 + (M 65 (22 + i)))) (bcF (M 65 (4 + (M 65 (22 + i)))) ((M 65 2) % 24)))]) (M' := M) rfl ?_
    refine Hx.call (t := 131) (as := [vi (bb (M 65 (7 + (M 65 (22 + i)))) (bcF (M 65 (4 + (M 65 (22 + i)))) ((M 65 2) % 24))), vi 11]) (pc' := 52) (rest := []) rfl (r_has (bb (M 65 (7 + (M 65 (22 + i)))) (bcF (M 65 (4 + (M 65 (22 + i)))) ((M 65 2) % 24))) 11 M (by omega) (by omega)) ?_
    rintro _ _ (⟨q38, rfl, rfl⟩ | ⟨q38, rfl, rfl⟩)
    · skip
      refine Hx.run 5 (pc' := 61) (L' := [some (vr 64), some (vi 0), some (vi i), some (vi d), some (vi 11), some (vi 1)]) (st' := [vi 28, vi 0, vr 65]) (M' := M) rfl ?_
      refine Hx.add rfl (by omega) ?_
      refine Hx.run 0 (pc' := 62) (L' := [some (vr 64), some (vi 0), some (vi i), some (vi d), some (vi 11), some (vi 1)]) (st' := [vi 28, vr 65]) (M' := M) rfl ?_
      refine Hx.run 1 (pc' := 63) (L' := [some (vr 64), some (vi 0), some (vi i), some (vi d), some (vi 11), some (vi 1)]) (st' := [vi i, vi 28, vr 65]) (M' := M) rfl ?_
      refine Hx.add rfl (by omega) ?_
      refine Hx.run 4 (pc' := 75) (L' := [some (vr 64), some (vi 0), some (vi i), some (vi d), some (vi 11), some (vi 1)]) (st' := [vi 0, vi (28 + i), vr 65]) (M' := M) rfl ?_
      refine Hx.astI (n := 1032) rfl rfl (by omega) ?_
      refine Hx.run 4 (pc' := 82) (L' := [some (vr 64), some (vi 0), some (vi i), some (vi d), some (vi 11), some (vi 1)]) (st' := [vi 3, vi 0, vr 65]) (M' := (up M 65 (28 + i) 0)) rfl ?_
      refine Hx.add rfl (by omega) ?_
      refine Hx.run 0 (pc' := 83) (L' := [some (vr 64), some (vi 0), some (vi i), some (vi d), some (vi 11), some (vi 1)]) (st' := [vi 3, vr 65]) (M' := (up M 65 (28 + i) 0)) rfl ?_
      refine Hx.run 1 (pc' := 84) (L' := [some (vr 64), some (vi 0), some (vi i), some (vi d), some (vi 11), some (vi 1)]) (st' := [vi 3, vr 65, vi 3, vr 65]) (M' := (up M 65 (28 + i) 0)) rfl ?_
      refine Hx.aldI (n := 1032) rfl rfl (by omega) ?_
      refine Hx.eqS (st' := [vi (M 65 3), vi 3, vr 65]) (by rw [show ((up M 65 (28 + i) 0) 65 3) = (M 65 3) from by rw [up_off (by omega)]]) ?_
      refine Hx.run 6 (pc' := 96) (L' := [some (vr 64), some (vi 0), some (vi i), some (vi d), some (vi 11), some (vi 1)]) (st' := [vi 3, vi 0, vr 65, vi (M 65 3), vi 3, vr 65]) (M' := (up M 65 (28 + i) 0)) rfl ?_
      refine Hx.add rfl (by omega) ?_
      refine Hx.run 0 (pc' := 97) (L' := [some (vr 64), some (vi 0), some (vi i), some (vi d), some (vi 11), some (vi 1)]) (st' := [vi 3, vr 65, vi (M 65 3), vi 3, vr 65]) (M' := (up M 65 (28 + i) 0)) rfl ?_
      refine Hx.aldI (n := 1032) rfl rfl (by omega) ?_
      refine Hx.eqS (st' := [vi (M 65 3), vi (M 65 3), vi 3, vr 65]) (by rw [show ((up M 65 (28 + i) 0) 65 3) = (M 65 3) from by rw [up_off (by omega)]]) ?_
      refine Hx.run 1 (pc' := 101) (L' := [some (vr 64), some (vi 0), some (vi i), some (vi d), some (vi 11), some (vi 1)]) (st' := [vi 9999, vi (M 65 3), vi (M 65 3), vi 3, vr 65]) (M' := (up M 65 (28 + i) 0)) rfl ?_
      refine Hx.br (c := (M 65 3) < 9999) (t := 104) (f := 108) rfl (fun h2 => ?_) (fun h2 => ?_)
      · skip
        refine Hx.run 2 (pc' := 109) (L' := [some (vr 64), some (vi 0), some (vi i), some (vi d), some (vi 11), some (vi 1)]) (st' := [vi 1, vi (M 65 3), vi 3, vr 65]) (M' := (up M 65 (28 + i) 0)) rfl ?_
        refine Hx.add rfl (by omega) ?_
        refine Hx.astI (n := 1032) rfl rfl (by omega) ?_
        refine Hx.ret rfl ?_
        exact Or.inl ⟨(by rw [show (min 11 ((M 65 (28 + i)) + d)) = 11 by omega]; exact q38), rfl, by rw [show min 9999 ((M 65 3) + 1) = ((M 65 3) + 1) by omega]⟩
      · skip
        refine Hx.run 1 (pc' := 109) (L' := [some (vr 64), some (vi 0), some (vi i), some (vi d), some (vi 11), some (vi 1)]) (st' := [vi 0, vi (M 65 3), vi 3, vr 65]) (M' := (up M 65 (28 + i) 0)) rfl ?_
        refine Hx.add rfl (by omega) ?_
        refine Hx.astI (n := 1032) rfl rfl (by omega) ?_
        refine Hx.ret rfl ?_
        exact Or.inl ⟨(by rw [show (min 11 ((M 65 (28 + i)) + d)) = 11 by omega]; exact q38), rfl, by rw [show min 9999 ((M 65 3) + 1) = ((M 65 3) + 0) by omega]⟩
    · skip
      refine Hx.run 5 (pc' := 61) (L' := [some (vr 64), some (vi 0), some (vi i), some (vi d), some (vi 11), some (vi 0)]) (st' := [vi 28, vi 0, vr 65]) (M' := M) rfl ?_
      refine Hx.add rfl (by omega) ?_
      refine Hx.run 0 (pc' := 62) (L' := [some (vr 64), some (vi 0), some (vi i), some (vi d), some (vi 11), some (vi 0)]) (st' := [vi 28, vr 65]) (M' := M) rfl ?_
      refine Hx.run 1 (pc' := 63) (L' := [some (vr 64), some (vi 0), some (vi i), some (vi d), some (vi 11), some (vi 0)]) (st' := [vi i, vi 28, vr 65]) (M' := M) rfl ?_
      refine Hx.add rfl (by omega) ?_
      refine Hx.run 3 (pc' := 75) (L' := [some (vr 64), some (vi 0), some (vi i), some (vi d), some (vi 11), some (vi 0)]) (st' := [vi 11, vi (28 + i), vr 65]) (M' := M) rfl ?_
      refine Hx.astI (n := 1032) rfl rfl (by omega) ?_
      refine Hx.run 4 (pc' := 82) (L' := [some (vr 64), some (vi 0), some (vi i), some (vi d), some (vi 11), some (vi 0)]) (st' := [vi 3, vi 0, vr 65]) (M' := (up M 65 (28 + i) 11)) rfl ?_
      refine Hx.add rfl (by omega) ?_
      refine Hx.run 0 (pc' := 83) (L' := [some (vr 64), some (vi 0), some (vi i), some (vi d), some (vi 11), some (vi 0)]) (st' := [vi 3, vr 65]) (M' := (up M 65 (28 + i) 11)) rfl ?_
      refine Hx.run 1 (pc' := 84) (L' := [some (vr 64), some (vi 0), some (vi i), some (vi d), some (vi 11), some (vi 0)]) (st' := [vi 3, vr 65, vi 3, vr 65]) (M' := (up M 65 (28 + i) 11)) rfl ?_
      refine Hx.aldI (n := 1032) rfl rfl (by omega) ?_
      refine Hx.eqS (st' := [vi (M 65 3), vi 3, vr 65]) (by rw [show ((up M 65 (28 + i) 11) 65 3) = (M 65 3) from by rw [up_off (by omega)]]) ?_
      refine Hx.run 3 (pc' := 109) (L' := [some (vr 64), some (vi 0), some (vi i), some (vi d), some (vi 11), some (vi 0)]) (st' := [vi 0, vi (M 65 3), vi 3, vr 65]) (M' := (up M 65 (28 + i) 11)) rfl ?_
      refine Hx.add rfl (by omega) ?_
      refine Hx.astI (n := 1032) rfl rfl (by omega) ?_
      refine Hx.ret rfl ?_
      exact Or.inr ⟨(by rw [show (min 11 ((M 65 (28 + i)) + d)) = 11 by omega]; exact q38), rfl, by rw [show (min 11 ((M 65 (28 + i)) + d)) = 11 by omega, show ((M 65 3) + 0) = M 65 3 by omega]⟩
  · skip
    refine Hx.run 8 (pc' := 40) (L' := [some (vr 64), some (vi 0), some (vi i), some (vi d), some (vi ((M 65 (28 + i)) + d)), none]) (st' := [vi 22, vi 0, vr 65, vi 0, vr 64]) (M' := M) rfl ?_
    refine Hx.add rfl (by omega) ?_
    refine Hx.run 0 (pc' := 41) (L' := [some (vr 64), some (vi 0), some (vi i), some (vi d), some (vi ((M 65 (28 + i)) + d)), none]) (st' := [vi 22, vr 65, vi 0, vr 64]) (M' := M) rfl ?_
    refine Hx.run 1 (pc' := 42) (L' := [some (vr 64), some (vi 0), some (vi i), some (vi d), some (vi ((M 65 (28 + i)) + d)), none]) (st' := [vi i, vi 22, vr 65, vi 0, vr 64]) (M' := M) rfl ?_
    refine Hx.add rfl (by omega) ?_
    refine Hx.aldI (n := 1032) rfl rfl (by omega) ?_
    refine Hx.call (t := 146) (as := [vr 64, vi 0, vi (M 65 (22 + i))]) (pc' := 47) (rest := []) rfl (r_bars_0 (M 65 (22 + i)) M (by omega) (by omega)) ?_
    rintro _ _ ⟨rfl, rfl⟩
    refine Hx.run 0 (pc' := 47) (L' := [some (vr 64), some (vi 0), some (vi i), some (vi d), some (vi ((M 65 (28 + i)) + d)), none]) (st' := [vi (bb (M 65 (7 + (M 65 (22 + i)))) (bcF (M 65 (4 + (M 65 (22 + i)))) ((M 65 2) % 24)))]) (M' := M) rfl ?_
    refine Hx.run 1 (pc' := 49) (L' := [some (vr 64), some (vi 0), some (vi i), some (vi d), some (vi ((M 65 (28 + i)) + d)), none]) (st' := [vi ((M 65 (28 + i)) + d), vi (bb (M 65 (7 + (M 65 (22 + i)))) (bcF (M 65 (4 + (M 65 (22 + i)))) ((M 65 2) % 24)))]) (M' := M) rfl ?_
    refine Hx.call (t := 131) (as := [vi (bb (M 65 (7 + (M 65 (22 + i)))) (bcF (M 65 (4 + (M 65 (22 + i)))) ((M 65 2) % 24))), vi ((M 65 (28 + i)) + d)]) (pc' := 52) (rest := []) rfl (r_has (bb (M 65 (7 + (M 65 (22 + i)))) (bcF (M 65 (4 + (M 65 (22 + i)))) ((M 65 2) % 24))) ((M 65 (28 + i)) + d) M (by omega) (by omega)) ?_
    rintro _ _ (⟨q39, rfl, rfl⟩ | ⟨q39, rfl, rfl⟩)
    · skip
      refine Hx.run 5 (pc' := 61) (L' := [some (vr 64), some (vi 0), some (vi i), some (vi d), some (vi ((M 65 (28 + i)) + d)), some (vi 1)]) (st' := [vi 28, vi 0, vr 65]) (M' := M) rfl ?_
      refine Hx.add rfl (by omega) ?_
      refine Hx.run 0 (pc' := 62) (L' := [some (vr 64), some (vi 0), some (vi i), some (vi d), some (vi ((M 65 (28 + i)) + d)), some (vi 1)]) (st' := [vi 28, vr 65]) (M' := M) rfl ?_
      refine Hx.run 1 (pc' := 63) (L' := [some (vr 64), some (vi 0), some (vi i), some (vi d), some (vi ((M 65 (28 + i)) + d)), some (vi 1)]) (st' := [vi i, vi 28, vr 65]) (M' := M) rfl ?_
      refine Hx.add rfl (by omega) ?_
      refine Hx.run 4 (pc' := 75) (L' := [some (vr 64), some (vi 0), some (vi i), some (vi d), some (vi ((M 65 (28 + i)) + d)), some (vi 1)]) (st' := [vi 0, vi (28 + i), vr 65]) (M' := M) rfl ?_
      refine Hx.astI (n := 1032) rfl rfl (by omega) ?_
      refine Hx.run 4 (pc' := 82) (L' := [some (vr 64), some (vi 0), some (vi i), some (vi d), some (vi ((M 65 (28 + i)) + d)), some (vi 1)]) (st' := [vi 3, vi 0, vr 65]) (M' := (up M 65 (28 + i) 0)) rfl ?_
      refine Hx.add rfl (by omega) ?_
      refine Hx.run 0 (pc' := 83) (L' := [some (vr 64), some (vi 0), some (vi i), some (vi d), some (vi ((M 65 (28 + i)) + d)), some (vi 1)]) (st' := [vi 3, vr 65]) (M' := (up M 65 (28 + i) 0)) rfl ?_
      refine Hx.run 1 (pc' := 84) (L' := [some (vr 64), some (vi 0), some (vi i), some (vi d), some (vi ((M 65 (28 + i)) + d)), some (vi 1)]) (st' := [vi 3, vr 65, vi 3, vr 65]) (M' := (up M 65 (28 + i) 0)) rfl ?_
      refine Hx.aldI (n := 1032) rfl rfl (by omega) ?_
      refine Hx.eqS (st' := [vi (M 65 3), vi 3, vr 65]) (by rw [show ((up M 65 (28 + i) 0) 65 3) = (M 65 3) from by rw [up_off (by omega)]]) ?_
      refine Hx.run 6 (pc' := 96) (L' := [some (vr 64), some (vi 0), some (vi i), some (vi d), some (vi ((M 65 (28 + i)) + d)), some (vi 1)]) (st' := [vi 3, vi 0, vr 65, vi (M 65 3), vi 3, vr 65]) (M' := (up M 65 (28 + i) 0)) rfl ?_
      refine Hx.add rfl (by omega) ?_
      refine Hx.run 0 (pc' := 97) (L' := [some (vr 64), some (vi 0), some (vi i), some (vi d), some (vi ((M 65 (28 + i)) + d)), some (vi 1)]) (st' := [vi 3, vr 65, vi (M 65 3), vi 3, vr 65]) (M' := (up M 65 (28 + i) 0)) rfl ?_
      refine Hx.aldI (n := 1032) rfl rfl (by omega) ?_
      refine Hx.eqS (st' := [vi (M 65 3), vi (M 65 3), vi 3, vr 65]) (by rw [show ((up M 65 (28 + i) 0) 65 3) = (M 65 3) from by rw [up_off (by omega)]]) ?_
      refine Hx.run 1 (pc' := 101) (L' := [some (vr 64), some (vi 0), some (vi i), some (vi d), some (vi ((M 65 (28 + i)) + d)), some (vi 1)]) (st' := [vi 9999, vi (M 65 3), vi (M 65 3), vi 3, vr 65]) (M' := (up M 65 (28 + i) 0)) rfl ?_
      refine Hx.br (c := (M 65 3) < 9999) (t := 104) (f := 108) rfl (fun h3 => ?_) (fun h3 => ?_)
      · skip
        refine Hx.run 2 (pc' := 109) (L' := [some (vr 64), some (vi 0), some (vi i), some (vi d), some (vi ((M 65 (28 + i)) + d)), some (vi 1)]) (st' := [vi 1, vi (M 65 3), vi 3, vr 65]) (M' := (up M 65 (28 + i) 0)) rfl ?_
        refine Hx.add rfl (by omega) ?_
        refine Hx.astI (n := 1032) rfl rfl (by omega) ?_
        refine Hx.ret rfl ?_
        exact Or.inl ⟨(by rw [show (min 11 ((M 65 (28 + i)) + d)) = ((M 65 (28 + i)) + d) by omega]; exact q39), rfl, by rw [show min 9999 ((M 65 3) + 1) = ((M 65 3) + 1) by omega]⟩
      · skip
        refine Hx.run 1 (pc' := 109) (L' := [some (vr 64), some (vi 0), some (vi i), some (vi d), some (vi ((M 65 (28 + i)) + d)), some (vi 1)]) (st' := [vi 0, vi (M 65 3), vi 3, vr 65]) (M' := (up M 65 (28 + i) 0)) rfl ?_
        refine Hx.add rfl (by omega) ?_
        refine Hx.astI (n := 1032) rfl rfl (by omega) ?_
        refine Hx.ret rfl ?_
        exact Or.inl ⟨(by rw [show (min 11 ((M 65 (28 + i)) + d)) = ((M 65 (28 + i)) + d) by omega]; exact q39), rfl, by rw [show min 9999 ((M 65 3) + 1) = ((M 65 3) + 0) by omega]⟩
    · skip
      refine Hx.run 5 (pc' := 61) (L' := [some (vr 64), some (vi 0), some (vi i), some (vi d), some (vi ((M 65 (28 + i)) + d)), some (vi 0)]) (st' := [vi 28, vi 0, vr 65]) (M' := M) rfl ?_
      refine Hx.add rfl (by omega) ?_
      refine Hx.run 0 (pc' := 62) (L' := [some (vr 64), some (vi 0), some (vi i), some (vi d), some (vi ((M 65 (28 + i)) + d)), some (vi 0)]) (st' := [vi 28, vr 65]) (M' := M) rfl ?_
      refine Hx.run 1 (pc' := 63) (L' := [some (vr 64), some (vi 0), some (vi i), some (vi d), some (vi ((M 65 (28 + i)) + d)), some (vi 0)]) (st' := [vi i, vi 28, vr 65]) (M' := M) rfl ?_
      refine Hx.add rfl (by omega) ?_
      refine Hx.run 3 (pc' := 75) (L' := [some (vr 64), some (vi 0), some (vi i), some (vi d), some (vi ((M 65 (28 + i)) + d)), some (vi 0)]) (st' := [vi ((M 65 (28 + i)) + d), vi (28 + i), vr 65]) (M' := M) rfl ?_
      refine Hx.astI (n := 1032) rfl rfl (by omega) ?_
      refine Hx.run 4 (pc' := 82) (L' := [some (vr 64), some (vi 0), some (vi i), some (vi d), some (vi ((M 65 (28 + i)) + d)), some (vi 0)]) (st' := [vi 3, vi 0, vr 65]) (M' := (up M 65 (28 + i) ((M 65 (28 + i)) + d))) rfl ?_
      refine Hx.add rfl (by omega) ?_
      refine Hx.run 0 (pc' := 83) (L' := [some (vr 64), some (vi 0), some (vi i), some (vi d), some (vi ((M 65 (28 + i)) + d)), some (vi 0)]) (st' := [vi 3, vr 65]) (M' := (up M 65 (28 + i) ((M 65 (28 + i)) + d))) rfl ?_
      refine Hx.run 1 (pc' := 84) (L' := [some (vr 64), some (vi 0), some (vi i), some (vi d), some (vi ((M 65 (28 + i)) + d)), some (vi 0)]) (st' := [vi 3, vr 65, vi 3, vr 65]) (M' := (up M 65 (28 + i) ((M 65 (28 + i)) + d))) rfl ?_
      refine Hx.aldI (n := 1032) rfl rfl (by omega) ?_
      refine Hx.eqS (st' := [vi (M 65 3), vi 3, vr 65]) (by rw [show ((up M 65 (28 + i) ((M 65 (28 + i)) + d)) 65 3) = (M 65 3) from by rw [up_off (by omega)]]) ?_
      refine Hx.run 3 (pc' := 109) (L' := [some (vr 64), some (vi 0), some (vi i), some (vi d), some (vi ((M 65 (28 + i)) + d)), some (vi 0)]) (st' := [vi 0, vi (M 65 3), vi 3, vr 65]) (M' := (up M 65 (28 + i) ((M 65 (28 + i)) + d))) rfl ?_
      refine Hx.add rfl (by omega) ?_
      refine Hx.astI (n := 1032) rfl rfl (by omega) ?_
      refine Hx.ret rfl ?_
      exact Or.inr ⟨(by rw [show (min 11 ((M 65 (28 + i)) + d)) = ((M 65 (28 + i)) + d) by omega]; exact q39), rfl, by rw [show (min 11 ((M 65 (28 + i)) + d)) = ((M 65 (28 + i)) + d) by omega, show ((M 65 3) + 0) = M 65 3 by omega]⟩
set_option maxRecDepth 100000 in
set_option maxHeartbeats 4000000 in
theorem r_goes_744 (i d : Int) (M : Mm) (hg : (0 ≤ i ∧ i < 6) ∧ (0 ≤ M 65 (754 + i) ∧ M 65 (754 + i) ≤ 5) ∧ (1 ≤ M 65 (760 + i) ∧ M 65 (760 + i) ≤ 4) ∧ (0 ≤ M 65 (766 + i) ∧ M 65 (766 + i) ≤ 2) ∧ (0 ≤ M 65 (772 + i) ∧ M 65 (772 + i) ≤ 11) ∧ (0 ≤ M 65 (778 + i) ∧ M 65 (778 + i) ≤ 9)) (hf : (0 ≤ (M 65 (766 + i)) ∧ (M 65 (766 + i)) < 3) ∧ (0 ≤ M 65 (748 + (M 65 (766 + i))) ∧ M 65 (748 + (M 65 (766 + i))) ≤ 5) ∧ (1 ≤ M 65 (751 + (M 65 (766 + i))) ∧ M 65 (751 + (M 65 (766 + i))) ≤ 10)) (hh : (0 ≤ M 65 746 ∧ M 65 746 ≤ 9999)) (hd : 1 ≤ d ∧ d ≤ 9) (hfa : 0 ≤ M 65 747 ∧ M 65 747 ≤ 9999) : Ct 170 [vr 64, vi 744, vi i, vi d] M (fun q0 M' => (hb (bb (M 65 (751 + (M 65 (766 + i)))) (bcF (M 65 (748 + (M 65 (766 + i)))) ((M 65 746) % 24))) (min 11 ((M 65 (772 + i)) + d)) ∧ q0 = none ∧ up (up M 65 (772 + i) 0) 65 747 (min 9999 ((M 65 747) + 1)) = M') ∨ (¬ hb (bb (M 65 (751 + (M 65 (766 + i)))) (bcF (M 65 (748 + (M 65 (766 + i)))) ((M 65 746) % 24))) (min 11 ((M 65 (772 + i)) + d)) ∧ q0 = none ∧ up (up M 65 (772 + i) (min 11 ((M 65 (772 + i)) + d))) 65 747 (M 65 747) = M')) := by
  have hbb := bb_rng (M 65 (751 + (M 65 (766 + i)))) (bcF (M 65 (748 + (M 65 (766 + i)))) (M 65 746 % 24))
  refine Hx.run 4 (pc' := 7) (L' := [some (vr 64), some (vi 744), some (vi i), some (vi d), none, none]) (st' := [vi 28, vi 744, vr 65]) (M' := M) rfl ?_
  refine Hx.add rfl (by omega) ?_
  refine Hx.run 0 (pc' := 8) (L' := [some (vr 64), some (vi 744), some (vi i), some (vi d), none, none]) (st' := [vi 772, vr 65]) (M' := M) rfl ?_
  refine Hx.run 1 (pc' := 9) (L' := [some (vr 64), some (vi 744), some (vi i), some (vi d), none, none]) (st' := [vi i, vi 772, vr 65]) (M' := M) rfl ?_
  refine Hx.add rfl (by omega) ?_
  refine Hx.aldI (n := 1032) rfl rfl (by omega) ?_
  refine Hx.run 1 (pc' := 12) (L' := [some (vr 64), some (vi 744), some (vi i), some (vi d), none, none]) (st' := [vi d, vi (M 65 (772 + i))]) (M' := M) rfl ?_
  refine Hx.add rfl (by omega) ?_
  refine Hx.run 3 (pc' := 19) (L' := [some (vr 64), some (vi 744), some (vi i), some (vi d), some (vi ((M 65 (772 + i)) + d)), none]) (st' := [vi 11, vi ((M 65 (772 + i)) + d)]) (M' := M) rfl ?_
  refine Hx.br (c := 11 < ((M 65 (772 + i)) + d)) (t := 22) (f := 27) rfl (fun h1 => ?_) (fun h1 => ?_)
  · skip
    refine Hx.run 9 (pc' := 40) (L' := [some (vr 64), some (vi 744), some (vi i), some (vi d), some (vi 11), none]) (st' := [vi 22, vi 744, vr 65, vi 744, vr 64]) (M' := M) rfl ?_
    refine Hx.add rfl (by omega) ?_
    refine Hx.run 0 (pc' := 41) (L' := [some (vr 64), some (vi 744), some (vi i), some (vi d), some (vi 11), none]) (st' := [vi 766, vr 65, vi 744, vr 64]) (M' := M) rfl ?_
    refine Hx.run 1 (pc' := 42) (L' := [some (vr 64), some (vi 744), some (vi i), some (vi d), some (vi 11), none]) (st' := [vi i, vi 766, vr 65, vi 744, vr 64]) (M' := M) rfl ?_
    refine Hx.add rfl (by omega) ?_
    refine Hx.aldI (n := 1032) rfl rfl (by omega) ?_
    refine Hx.call (t := 146) (as := [vr 64, vi 744, vi (M 65 (766 + i))]) (pc' := 47) (rest := []) rfl (r_bars_744 (M 65 (766 + i)) M (by omega) (by omega)) ?_
    rintro _ _ ⟨rfl, rfl⟩
    refine Hx.run 0 (pc' := 47) (L' := [some (vr 64), some (vi 744), some (vi i), some (vi d), some (vi 11), none]) (st' := [vi (bb (M 65 (751 + (M 65 (766 + i)))) (bcF (M 65 (748 + (M 65 (766 + i)))) ((M 65 746) % 24)))]) (M' := M) rfl ?_
    refine Hx.run 1 (pc' := 49) (L' := [some (vr 64), some (vi 744), some (vi i), some (vi d), some (vi 11), none]) (st' := [vi 11, vi (bb (M 65 (751 + (M 65 (766 + i)))) (bcF (M 65 (748 + (M 65 (766 + i)))) ((M 65 746) % 24)))]) (M' := M) rfl ?_
    refine Hx.call (t := 131) (as := [vi (bb (M 65 (751 + (M 65 (766 + i)))) (bcF (M 65 (748 + (M 65 (766 + i)))) ((M 65 746) % 24))), vi 11]) (pc' := 52) (rest := []) rfl (r_has (bb (M 65 (751 + (M 65 (766 + i)))) (bcF (M 65 (748 + (M 65 (766 + i)))) ((M 65 746) % 24))) 11 M (by omega) (by omega)) ?_
    rintro _ _ (⟨q40, rfl, rfl⟩ | ⟨q40, rfl, rfl⟩)
    · skip
      refine Hx.run 5 (pc' := 61) (L' := [some (vr 64), some (vi 744), some (vi i), some (vi d), some (vi 11), some (vi 1)]) (st' := [vi 28, vi 744, vr 65]) (M' := M) rfl ?_
      refine Hx.add rfl (by omega) ?_
      refine Hx.run 0 (pc' := 62) (L' := [some (vr 64), some (vi 744), some (vi i), some (vi d), some (vi 11), some (vi 1)]) (st' := [vi 772, vr 65]) (M' := M) rfl ?_
      refine Hx.run 1 (pc' := 63) (L' := [some (vr 64), some (vi 744), some (vi i), some (vi d), some (vi 11), some (vi 1)]) (st' := [vi i, vi 772, vr 65]) (M' := M) rfl ?_
      refine Hx.add rfl (by omega) ?_
      refine Hx.run 4 (pc' := 75) (L' := [some (vr 64), some (vi 744), some (vi i), some (vi d), some (vi 11), some (vi 1)]) (st' := [vi 0, vi (772 + i), vr 65]) (M' := M) rfl ?_
      refine Hx.astI (n := 1032) rfl rfl (by omega) ?_
      refine Hx.run 4 (pc' := 82) (L' := [some (vr 64), some (vi 744), some (vi i), some (vi d), some (vi 11), some (vi 1)]) (st' := [vi 3, vi 744, vr 65]) (M' := (up M 65 (772 + i) 0)) rfl ?_
      refine Hx.add rfl (by omega) ?_
      refine Hx.run 0 (pc' := 83) (L' := [some (vr 64), some (vi 744), some (vi i), some (vi d), some (vi 11), some (vi 1)]) (st' := [vi 747, vr 65]) (M' := (up M 65 (772 + i) 0)) rfl ?_
      refine Hx.run 1 (pc' := 84) (L' := [some (vr 64), some (vi 744), some (vi i), some (vi d), some (vi 11), some (vi 1)]) (st' := [vi 747, vr 65, vi 747, vr 65]) (M' := (up M 65 (772 + i) 0)) rfl ?_
      refine Hx.aldI (n := 1032) rfl rfl (by omega) ?_
      refine Hx.eqS (st' := [vi (M 65 747), vi 747, vr 65]) (by rw [show ((up M 65 (772 + i) 0) 65 747) = (M 65 747) from by rw [up_off (by omega)]]) ?_
      refine Hx.run 6 (pc' := 96) (L' := [some (vr 64), some (vi 744), some (vi i), some (vi d), some (vi 11), some (vi 1)]) (st' := [vi 3, vi 744, vr 65, vi (M 65 747), vi 747, vr 65]) (M' := (up M 65 (772 + i) 0)) rfl ?_
      refine Hx.add rfl (by omega) ?_
      refine Hx.run 0 (pc' := 97) (L' := [some (vr 64), some (vi 744), some (vi i), some (vi d), some (vi 11), some (vi 1)]) (st' := [vi 747, vr 65, vi (M 65 747), vi 747, vr 65]) (M' := (up M 65 (772 + i) 0)) rfl ?_
      refine Hx.aldI (n := 1032) rfl rfl (by omega) ?_
      refine Hx.eqS (st' := [vi (M 65 747), vi (M 65 747), vi 747, vr 65]) (by rw [show ((up M 65 (772 + i) 0) 65 747) = (M 65 747) from by rw [up_off (by omega)]]) ?_
      refine Hx.run 1 (pc' := 101) (L' := [some (vr 64), some (vi 744), some (vi i), some (vi d), some (vi 11), some (vi 1)]) (st' := [vi 9999, vi (M 65 747), vi (M 65 747), vi 747, vr 65]) (M' := (up M 65 (772 + i) 0)) rfl ?_
      refine Hx.br (c := (M 65 747) < 9999) (t := 104) (f := 108) rfl (fun h2 => ?_) (fun h2 => ?_)
      · skip
        refine Hx.run 2 (pc' := 109) (L' := [some (vr 64), some (vi 744), some (vi i), some (vi d), some (vi 11), some (vi 1)]) (st' := [vi 1, vi (M 65 747), vi 747, vr 65]) (M' := (up M 65 (772 + i) 0)) rfl ?_
        refine Hx.add rfl (by omega) ?_
        refine Hx.astI (n := 1032) rfl rfl (by omega) ?_
        refine Hx.ret rfl ?_
        exact Or.inl ⟨(by rw [show (min 11 ((M 65 (772 + i)) + d)) = 11 by omega]; exact q40), rfl, by rw [show min 9999 ((M 65 747) + 1) = ((M 65 747) + 1) by omega]⟩
      · skip
        refine Hx.run 1 (pc' := 109) (L' := [some (vr 64), some (vi 744), some (vi i), some (vi d), some (vi 11), some (vi 1)]) (st' := [vi 0, vi (M 65 747), vi 747, vr 65]) (M' := (up M 65 (772 + i) 0)) rfl ?_
        refine Hx.add rfl (by omega) ?_
        refine Hx.astI (n := 1032) rfl rfl (by omega) ?_
        refine Hx.ret rfl ?_
        exact Or.inl ⟨(by rw [show (min 11 ((M 65 (772 + i)) + d)) = 11 by omega]; exact q40), rfl, by rw [show min 9999 ((M 65 747) + 1) = ((M 65 747) + 0) by omega]⟩
    · skip
      refine Hx.run 5 (pc' := 61) (L' := [some (vr 64), some (vi 744), some (vi i), some (vi d), some (vi 11), some (vi 0)]) (st' := [vi 28, vi 744, vr 65]) (M' := M) rfl ?_
      refine Hx.add rfl (by omega) ?_
      refine Hx.run 0 (pc' := 62) (L' := [some (vr 64), some (vi 744), some (vi i), some (vi d), some (vi 11), some (vi 0)]) (st' := [vi 772, vr 65]) (M' := M) rfl ?_
      refine Hx.run 1 (pc' := 63) (L' := [some (vr 64), some (vi 744), some (vi i), some (vi d), some (vi 11), some (vi 0)]) (st' := [vi i, vi 772, vr 65]) (M' := M) rfl ?_
      refine Hx.add rfl (by omega) ?_
      refine Hx.run 3 (pc' := 75) (L' := [some (vr 64), some (vi 744), some (vi i), some (vi d), some (vi 11), some (vi 0)]) (st' := [vi 11, vi (772 + i), vr 65]) (M' := M) rfl ?_
      refine Hx.astI (n := 1032) rfl rfl (by omega) ?_
      refine Hx.run 4 (pc' := 82) (L' := [some (vr 64), some (vi 744), some (vi i), some (vi d), some (vi 11), some (vi 0)]) (st' := [vi 3, vi 744, vr 65]) (M' := (up M 65 (772 + i) 11)) rfl ?_
      refine Hx.add rfl (by omega) ?_
      refine Hx.run 0 (pc' := 83) (L' := [some (vr 64), some (vi 744), some (vi i), some (vi d), some (vi 11), some (vi 0)]) (st' := [vi 747, vr 65]) (M' := (up M 65 (772 + i) 11)) rfl ?_
      refine Hx.run 1 (pc' := 84) (L' := [some (vr 64), some (vi 744), some (vi i), some (vi d), some (vi 11), some (vi 0)]) (st' := [vi 747, vr 65, vi 747, vr 65]) (M' := (up M 65 (772 + i) 11)) rfl ?_
      refine Hx.aldI (n := 1032) rfl rfl (by omega) ?_
      refine Hx.eqS (st' := [vi (M 65 747), vi 747, vr 65]) (by rw [show ((up M 65 (772 + i) 11) 65 747) = (M 65 747) from by rw [up_off (by omega)]]) ?_
      refine Hx.run 3 (pc' := 109) (L' := [some (vr 64), some (vi 744), some (vi i), some (vi d), some (vi 11), some (vi 0)]) (st' := [vi 0, vi (M 65 747), vi 747, vr 65]) (M' := (up M 65 (772 + i) 11)) rfl ?_
      refine Hx.add rfl (by omega) ?_
      refine Hx.astI (n := 1032) rfl rfl (by omega) ?_
      refine Hx.ret rfl ?_
      exact Or.inr ⟨(by rw [show (min 11 ((M 65 (772 + i)) + d)) = 11 by omega]; exact q40), rfl, by rw [show (min 11 ((M 65 (772 + i)) + d)) = 11 by omega, show ((M 65 747) + 0) = M 65 747 by omega]⟩
  · skip
    refine Hx.run 8 (pc' := 40) (L' := [some (vr 64), some (vi 744), some (vi i), some (vi d), some (vi ((M 65 (772 + i)) + d)), none]) (st' := [vi 22, vi 744, vr 65, vi 744, vr 64]) (M' := M) rfl ?_
    refine Hx.add rfl (by omega) ?_
    refine Hx.run 0 (pc' := 41) (L' := [some (vr 64), some (vi 744), some (vi i), some (vi d), some (vi ((M 65 (772 + i)) + d)), none]) (st' := [vi 766, vr 65, vi 744, vr 64]) (M' := M) rfl ?_
    refine Hx.run 1 (pc' := 42) (L' := [some (vr 64), some (vi 744), some (vi i), some (vi d), some (vi ((M 65 (772 + i)) + d)), none]) (st' := [vi i, vi 766, vr 65, vi 744, vr 64]) (M' := M) rfl ?_
    refine Hx.add rfl (by omega) ?_
    refine Hx.aldI (n := 1032) rfl rfl (by omega) ?_
    refine Hx.call (t := 146) (as := [vr 64, vi 744, vi (M 65 (766 + i))]) (pc' := 47) (rest := []) rfl (r_bars_744 (M 65 (766 + i)) M (by omega) (by omega)) ?_
    rintro _ _ ⟨rfl, rfl⟩
    refine Hx.run 0 (pc' := 47) (L' := [some (vr 64), some (vi 744), some (vi i), some (vi d), some (vi ((M 65 (772 + i)) + d)), none]) (st' := [vi (bb (M 65 (751 + (M 65 (766 + i)))) (bcF (M 65 (748 + (M 65 (766 + i)))) ((M 65 746) % 24)))]) (M' := M) rfl ?_
    refine Hx.run 1 (pc' := 49) (L' := [some (vr 64), some (vi 744), some (vi i), some (vi d), some (vi ((M 65 (772 + i)) + d)), none]) (st' := [vi ((M 65 (772 + i)) + d), vi (bb (M 65 (751 + (M 65 (766 + i)))) (bcF (M 65 (748 + (M 65 (766 + i)))) ((M 65 746) % 24)))]) (M' := M) rfl ?_
    refine Hx.call (t := 131) (as := [vi (bb (M 65 (751 + (M 65 (766 + i)))) (bcF (M 65 (748 + (M 65 (766 + i)))) ((M 65 746) % 24))), vi ((M 65 (772 + i)) + d)]) (pc' := 52) (rest := []) rfl (r_has (bb (M 65 (751 + (M 65 (766 + i)))) (bcF (M 65 (748 + (M 65 (766 + i)))) ((M 65 746) % 24))) ((M 65 (772 + i)) + d) M (by omega) (by omega)) ?_
    rintro _ _ (⟨q41, rfl, rfl⟩ | ⟨q41, rfl, rfl⟩)
    · skip
      refine Hx.run 5 (pc' := 61) (L' := [some (vr 64), some (vi 744), some (vi i), some (vi d), some (vi ((M 65 (772 + i)) + d)), some (vi 1)]) (st' := [vi 28, vi 744, vr 65]) (M' := M) rfl ?_
      refine Hx.add rfl (by omega) ?_
      refine Hx.run 0 (pc' := 62) (L' := [some (vr 64), some (vi 744), some (vi i), some (vi d), some (vi ((M 65 (772 + i)) + d)), some (vi 1)]) (st' := [vi 772, vr 65]) (M' := M) rfl ?_
      refine Hx.run 1 (pc' := 63) (L' := [some (vr 64), some (vi 744), some (vi i), some (vi d), some (vi ((M 65 (772 + i)) + d)), some (vi 1)]) (st' := [vi i, vi 772, vr 65]) (M' := M) rfl ?_
      refine Hx.add rfl (by omega) ?_
      refine Hx.run 4 (pc' := 75) (L' := [some (vr 64), some (vi 744), some (vi i), some (vi d), some (vi ((M 65 (772 + i)) + d)), some (vi 1)]) (st' := [vi 0, vi (772 + i), vr 65]) (M' := M) rfl ?_
      refine Hx.astI (n := 1032) rfl rfl (by omega) ?_
      refine Hx.run 4 (pc' := 82) (L' := [some (vr 64), some (vi 744), some (vi i), some (vi d), some (vi ((M 65 (772 + i)) + d)), some (vi 1)]) (st' := [vi 3, vi 744, vr 65]) (M' := (up M 65 (772 + i) 0)) rfl ?_
      refine Hx.add rfl (by omega) ?_
      refine Hx.run 0 (pc' := 83) (L' := [some (vr 64), some (vi 744), some (vi i), some (vi d), some (vi ((M 65 (772 + i)) + d)), some (vi 1)]) (st' := [vi 747, vr 65]) (M' := (up M 65 (772 + i) 0)) rfl ?_
      refine Hx.run 1 (pc' := 84) (L' := [some (vr 64), some (vi 744), some (vi i), some (vi d), some (vi ((M 65 (772 + i)) + d)), some (vi 1)]) (st' := [vi 747, vr 65, vi 747, vr 65]) (M' := (up M 65 (772 + i) 0)) rfl ?_
      refine Hx.aldI (n := 1032) rfl rfl (by omega) ?_
      refine Hx.eqS (st' := [vi (M 65 747), vi 747, vr 65]) (by rw [show ((up M 65 (772 + i) 0) 65 747) = (M 65 747) from by rw [up_off (by omega)]]) ?_
      refine Hx.run 6 (pc' := 96) (L' := [some (vr 64), some (vi 744), some (vi i), some (vi d), some (vi ((M 65 (772 + i)) + d)), some (vi 1)]) (st' := [vi 3, vi 744, vr 65, vi (M 65 747), vi 747, vr 65]) (M' := (up M 65 (772 + i) 0)) rfl ?_
      refine Hx.add rfl (by omega) ?_
      refine Hx.run 0 (pc' := 97) (L' := [some (vr 64), some (vi 744), some (vi i), some (vi d), some (vi ((M 65 (772 + i)) + d)), some (vi 1)]) (st' := [vi 747, vr 65, vi (M 65 747), vi 747, vr 65]) (M' := (up M 65 (772 + i) 0)) rfl ?_
      refine Hx.aldI (n := 1032) rfl rfl (by omega) ?_
      refine Hx.eqS (st' := [vi (M 65 747), vi (M 65 747), vi 747, vr 65]) (by rw [show ((up M 65 (772 + i) 0) 65 747) = (M 65 747) from by rw [up_off (by omega)]]) ?_
      refine Hx.run 1 (pc' := 101) (L' := [some (vr 64), some (vi 744), some (vi i), some (vi d), some (vi ((M 65 (772 + i)) + d)), some (vi 1)]) (st' := [vi 9999, vi (M 65 747), vi (M 65 747), vi 747, vr 65]) (M' := (up M 65 (772 + i) 0)) rfl ?_
      refine Hx.br (c := (M 65 747) < 9999) (t := 104) (f := 108) rfl (fun h3 => ?_) (fun h3 => ?_)
      · skip
        refine Hx.run 2 (pc' := 109) (L' := [some (vr 64), some (vi 744), some (vi i), some (vi d), some (vi ((M 65 (772 + i)) + d)), some (vi 1)]) (st' := [vi 1, vi (M 65 747), vi 747, vr 65]) (M' := (up M 65 (772 + i) 0)) rfl ?_
        refine Hx.add rfl (by omega) ?_
        refine Hx.astI (n := 1032) rfl rfl (by omega) ?_
        refine Hx.ret rfl ?_
        exact Or.inl ⟨(by rw [show (min 11 ((M 65 (772 + i)) + d)) = ((M 65 (772 + i)) + d) by omega]; exact q41), rfl, by rw [show min 9999 ((M 65 747) + 1) = ((M 65 747) + 1) by omega]⟩
      · skip
        refine Hx.run 1 (pc' := 109) (L' := [some (vr 64), some (vi 744), some (vi i), some (vi d), some (vi ((M 65 (772 + i)) + d)), some (vi 1)]) (st' := [vi 0, vi (M 65 747), vi 747, vr 65]) (M' := (up M 65 (772 + i) 0)) rfl ?_
        refine Hx.add rfl (by omega) ?_
        refine Hx.astI (n := 1032) rfl rfl (by omega) ?_
        refine Hx.ret rfl ?_
        exact Or.inl ⟨(by rw [show (min 11 ((M 65 (772 + i)) + d)) = ((M 65 (772 + i)) + d) by omega]; exact q41), rfl, by rw [show min 9999 ((M 65 747) + 1) = ((M 65 747) + 0) by omega]⟩
    · skip
      refine Hx.run 5 (pc' := 61) (L' := [some (vr 64), some (vi 744), some (vi i), some (vi d), some (vi ((M 65 (772 + i)) + d)), some (vi 0)]) (st' := [vi 28, vi 744, vr 65]) (M' := M) rfl ?_
      refine Hx.add rfl (by omega) ?_
      refine Hx.run 0 (pc' := 62) (L' := [some (vr 64), some (vi 744), some (vi i), some (vi d), some (vi ((M 65 (772 + i)) + d)), some (vi 0)]) (st' := [vi 772, vr 65]) (M' := M) rfl ?_
      refine Hx.run 1 (pc' := 63) (L' := [some (vr 64), some (vi 744), some (vi i), some (vi d), some (vi ((M 65 (772 + i)) + d)), some (vi 0)]) (st' := [vi i, vi 772, vr 65]) (M' := M) rfl ?_
      refine Hx.add rfl (by omega) ?_
      refine Hx.run 3 (pc' := 75) (L' := [some (vr 64), some (vi 744), some (vi i), some (vi d), some (vi ((M 65 (772 + i)) + d)), some (vi 0)]) (st' := [vi ((M 65 (772 + i)) + d), vi (772 + i), vr 65]) (M' := M) rfl ?_
      refine Hx.astI (n := 1032) rfl rfl (by omega) ?_
      refine Hx.run 4 (pc' := 82) (L' := [some (vr 64), some (vi 744), some (vi i), some (vi d), some (vi ((M 65 (772 + i)) + d)), some (vi 0)]) (st' := [vi 3, vi 744, vr 65]) (M' := (up M 65 (772 + i) ((M 65 (772 + i)) + d))) rfl ?_
      refine Hx.add rfl (by omega) ?_
      refine Hx.run 0 (pc' := 83) (L' := [some (vr 64), some (vi 744), some (vi i), some (vi d), some (vi ((M 65 (772 + i)) + d)), some (vi 0)]) (st' := [vi 747, vr 65]) (M' := (up M 65 (772 + i) ((M 65 (772 + i)) + d))) rfl ?_
      refine Hx.run 1 (pc' := 84) (L' := [some (vr 64), some (vi 744), some (vi i), some (vi d), some (vi ((M 65 (772 + i)) + d)), some (vi 0)]) (st' := [vi 747, vr 65, vi 747, vr 65]) (M' := (up M 65 (772 + i) ((M 65 (772 + i)) + d))) rfl ?_
      refine Hx.aldI (n := 1032) rfl rfl (by omega) ?_
      refine Hx.eqS (st' := [vi (M 65 747), vi 747, vr 65]) (by rw [show ((up M 65 (772 + i) ((M 65 (772 + i)) + d)) 65 747) = (M 65 747) from by rw [up_off (by omega)]]) ?_
      refine Hx.run 3 (pc' := 109) (L' := [some (vr 64), some (vi 744), some (vi i), some (vi d), some (vi ((M 65 (772 + i)) + d)), some (vi 0)]) (st' := [vi 0, vi (M 65 747), vi 747, vr 65]) (M' := (up M 65 (772 + i) ((M 65 (772 + i)) + d))) rfl ?_
      refine Hx.add rfl (by omega) ?_
      refine Hx.astI (n := 1032) rfl rfl (by omega) ?_
      refine Hx.ret rfl ?_
      exact Or.inr ⟨(by rw [show (min 11 ((M 65 (772 + i)) + d)) = ((M 65 (772 + i)) + d) by omega]; exact q41), rfl, by rw [show (min 11 ((M 65 (772 + i)) + d)) = ((M 65 (772 + i)) + d) by omega, show ((M 65 747) + 0) = M 65 747 by omega]⟩
set_option maxRecDepth 100000 in
set_option maxHeartbeats 4000000 in
theorem r_goes_992 (i d : Int) (M : Mm) (hg : (0 ≤ i ∧ i < 6) ∧ (0 ≤ M 65 (1002 + i) ∧ M 65 (1002 + i) ≤ 5) ∧ (1 ≤ M 65 (1008 + i) ∧ M 65 (1008 + i) ≤ 4) ∧ (0 ≤ M 65 (1014 + i) ∧ M 65 (1014 + i) ≤ 2) ∧ (0 ≤ M 65 (1020 + i) ∧ M 65 (1020 + i) ≤ 11) ∧ (0 ≤ M 65 (1026 + i) ∧ M 65 (1026 + i) ≤ 9)) (hf : (0 ≤ (M 65 (1014 + i)) ∧ (M 65 (1014 + i)) < 3) ∧ (0 ≤ M 65 (996 + (M 65 (1014 + i))) ∧ M 65 (996 + (M 65 (1014 + i))) ≤ 5) ∧ (1 ≤ M 65 (999 + (M 65 (1014 + i))) ∧ M 65 (999 + (M 65 (1014 + i))) ≤ 10)) (hh : (0 ≤ M 65 994 ∧ M 65 994 ≤ 9999)) (hd : 1 ≤ d ∧ d ≤ 9) (hfa : 0 ≤ M 65 995 ∧ M 65 995 ≤ 9999) : Ct 170 [vr 64, vi 992, vi i, vi d] M (fun q0 M' => (hb (bb (M 65 (999 + (M 65 (1014 + i)))) (bcF (M 65 (996 + (M 65 (1014 + i)))) ((M 65 994) % 24))) (min 11 ((M 65 (1020 + i)) + d)) ∧ q0 = none ∧ up (up M 65 (1020 + i) 0) 65 995 (min 9999 ((M 65 995) + 1)) = M') ∨ (¬ hb (bb (M 65 (999 + (M 65 (1014 + i)))) (bcF (M 65 (996 + (M 65 (1014 + i)))) ((M 65 994) % 24))) (min 11 ((M 65 (1020 + i)) + d)) ∧ q0 = none ∧ up (up M 65 (1020 + i) (min 11 ((M 65 (1020 + i)) + d))) 65 995 (M 65 995) = M')) := by
  have hbb := bb_rng (M 65 (999 + (M 65 (1014 + i)))) (bcF (M 65 (996 + (M 65 (1014 + i)))) (M 65 994 % 24))
  refine Hx.run 4 (pc' := 7) (L' := [some (vr 64), some (vi 992), some (vi i), some (vi d), none, none]) (st' := [vi 28, vi 992, vr 65]) (M' := M) rfl ?_
  refine Hx.add rfl (by omega) ?_
  refine Hx.run 0 (pc' := 8) (L' := [some (vr 64), some (vi 992), some (vi i), some (vi d), none, none]) (st' := [vi 1020, vr 65]) (M' := M) rfl ?_
  refine Hx.run 1 (pc' := 9) (L' := [some (vr 64), some (vi 992), some (vi i), some (vi d), none, none]) (st' := [vi i, vi 1020, vr 65]) (M' := M) rfl ?_
  refine Hx.add rfl (by omega) ?_
  refine Hx.aldI (n := 1032) rfl rfl (by omega) ?_
  refine Hx.run 1 (pc' := 12) (L' := [some (vr 64), some (vi 992), some (vi i), some (vi d), none, none]) (st' := [vi d, vi (M 65 (1020 + i))]) (M' := M) rfl ?_
  refine Hx.add rfl (by omega) ?_
  refine Hx.run 3 (pc' := 19) (L' := [some (vr 64), some (vi 992), some (vi i), some (vi d), some (vi ((M 65 (1020 + i)) + d)), none]) (st' := [vi 11, vi ((M 65 (1020 + i)) + d)]) (M' := M) rfl ?_
  refine Hx.br (c := 11 < ((M 65 (1020 + i)) + d)) (t := 22) (f := 27) rfl (fun h1 => ?_) (fun h1 => ?_)
  · skip
    refine Hx.run 9 (pc' := 40) (L' := [some (vr 64), some (vi 992), some (vi i), some (vi d), some (vi 11), none]) (st' := [vi 22, vi 992, vr 65, vi 992, vr 64]) (M' := M) rfl ?_
    refine Hx.add rfl (by omega) ?_
    refine Hx.run 0 (pc' := 41) (L' := [some (vr 64), some (vi 992), some (vi i), some (vi d), some (vi 11), none]) (st' := [vi 1014, vr 65, vi 992, vr 64]) (M' := M) rfl ?_
    refine Hx.run 1 (pc' := 42) (L' := [some (vr 64), some (vi 992), some (vi i), some (vi d), some (vi 11), none]) (st' := [vi i, vi 1014, vr 65, vi 992, vr 64]) (M' := M) rfl ?_
    refine Hx.add rfl (by omega) ?_
    refine Hx.aldI (n := 1032) rfl rfl (by omega) ?_
    refine Hx.call (t := 146) (as := [vr 64, vi 992, vi (M 65 (1014 + i))]) (pc' := 47) (rest := []) rfl (r_bars_992 (M 65 (1014 + i)) M (by omega) (by omega)) ?_
    rintro _ _ ⟨rfl, rfl⟩
    refine Hx.run 0 (pc' := 47) (L' := [some (vr 64), some (vi 992), some (vi i), some (vi d), some (vi 11), none]) (st' := [vi (bb (M 65 (999 + (M 65 (1014 + i)))) (bcF (M 65 (996 + (M 65 (1014 + i)))) ((M 65 994) % 24)))]) (M' := M) rfl ?_
    refine Hx.run 1 (pc' := 49) (L' := [some (vr 64), some (vi 992), some (vi i), some (vi d), some (vi 11), none]) (st' := [vi 11, vi (bb (M 65 (999 + (M 65 (1014 + i)))) (bcF (M 65 (996 + (M 65 (1014 + i)))) ((M 65 994) % 24)))]) (M' := M) rfl ?_
    refine Hx.call (t := 131) (as := [vi (bb (M 65 (999 + (M 65 (1014 + i)))) (bcF (M 65 (996 + (M 65 (1014 + i)))) ((M 65 994) % 24))), vi 11]) (pc' := 52) (rest := []) rfl (r_has (bb (M 65 (999 + (M 65 (1014 + i)))) (bcF (M 65 (996 + (M 65 (1014 + i)))) ((M 65 994) % 24))) 11 M (by omega) (by omega)) ?_
    rintro _ _ (⟨q42, rfl, rfl⟩ | ⟨q42, rfl, rfl⟩)
    · skip
      refine Hx.run 5 (pc' := 61) (L' := [some (vr 64), some (vi 992), some (vi i), some (vi d), some (vi 11), some (vi 1)]) (st' := [vi 28, vi 992, vr 65]) (M' := M) rfl ?_
      refine Hx.add rfl (by omega) ?_
      refine Hx.run 0 (pc' := 62) (L' := [some (vr 64), some (vi 992), some (vi i), some (vi d), some (vi 11), some (vi 1)]) (st' := [vi 1020, vr 65]) (M' := M) rfl ?_
      refine Hx.run 1 (pc' := 63) (L' := [some (vr 64), some (vi 992), some (vi i), some (vi d), some (vi 11), some (vi 1)]) (st' := [vi i, vi 1020, vr 65]) (M' := M) rfl ?_
      refine Hx.add rfl (by omega) ?_
      refine Hx.run 4 (pc' := 75) (L' := [some (vr 64), some (vi 992), some (vi i), some (vi d), some (vi 11), some (vi 1)]) (st' := [vi 0, vi (1020 + i), vr 65]) (M' := M) rfl ?_
      refine Hx.astI (n := 1032) rfl rfl (by omega) ?_
      refine Hx.run 4 (pc' := 82) (L' := [some (vr 64), some (vi 992), some (vi i), some (vi d), some (vi 11), some (vi 1)]) (st' := [vi 3, vi 992, vr 65]) (M' := (up M 65 (1020 + i) 0)) rfl ?_
      refine Hx.add rfl (by omega) ?_
      refine Hx.run 0 (pc' := 83) (L' := [some (vr 64), some (vi 992), some (vi i), some (vi d), some (vi 11), some (vi 1)]) (st' := [vi 995, vr 65]) (M' := (up M 65 (1020 + i) 0)) rfl ?_
      refine Hx.run 1 (pc' := 84) (L' := [some (vr 64), some (vi 992), some (vi i), some (vi d), some (vi 11), some (vi 1)]) (st' := [vi 995, vr 65, vi 995, vr 65]) (M' := (up M 65 (1020 + i) 0)) rfl ?_
      refine Hx.aldI (n := 1032) rfl rfl (by omega) ?_
      refine Hx.eqS (st' := [vi (M 65 995), vi 995, vr 65]) (by rw [show ((up M 65 (1020 + i) 0) 65 995) = (M 65 995) from by rw [up_off (by omega)]]) ?_
      refine Hx.run 6 (pc' := 96) (L' := [some (vr 64), some (vi 992), some (vi i), some (vi d), some (vi 11), some (vi 1)]) (st' := [vi 3, vi 992, vr 65, vi (M 65 995), vi 995, vr 65]) (M' := (up M 65 (1020 + i) 0)) rfl ?_
      refine Hx.add rfl (by omega) ?_
      refine Hx.run 0 (pc' := 97) (L' := [some (vr 64), some (vi 992), some (vi i), some (vi d), some (vi 11), some (vi 1)]) (st' := [vi 995, vr 65, vi (M 65 995), vi 995, vr 65]) (M' := (up M 65 (1020 + i) 0)) rfl ?_
      refine Hx.aldI (n := 1032) rfl rfl (by omega) ?_
      refine Hx.eqS (st' := [vi (M 65 995), vi (M 65 995), vi 995, vr 65]) (by rw [show ((up M 65 (1020 + i) 0) 65 995) = (M 65 995) from by rw [up_off (by omega)]]) ?_
      refine Hx.run 1 (pc' := 101) (L' := [some (vr 64), some (vi 992), some (vi i), some (vi d), some (vi 11), some (vi 1)]) (st' := [vi 9999, vi (M 65 995), vi (M 65 995), vi 995, vr 65]) (M' := (up M 65 (1020 + i) 0)) rfl ?_
      refine Hx.br (c := (M 65 995) < 9999) (t := 104) (f := 108) rfl (fun h2 => ?_) (fun h2 => ?_)
      · skip
        refine Hx.run 2 (pc' := 109) (L' := [some (vr 64), some (vi 992), some (vi i), some (vi d), some (vi 11), some (vi 1)]) (st' := [vi 1, vi (M 65 995), vi 995, vr 65]) (M' := (up M 65 (1020 + i) 0)) rfl ?_
        refine Hx.add rfl (by omega) ?_
        refine Hx.astI (n := 1032) rfl rfl (by omega) ?_
        refine Hx.ret rfl ?_
        exact Or.inl ⟨(by rw [show (min 11 ((M 65 (1020 + i)) + d)) = 11 by omega]; exact q42), rfl, by rw [show min 9999 ((M 65 995) + 1) = ((M 65 995) + 1) by omega]⟩
      · skip
        refine Hx.run 1 (pc' := 109) (L' := [some (vr 64), some (vi 992), some (vi i), some (vi d), some (vi 11), some (vi 1)]) (st' := [vi 0, vi (M 65 995), vi 995, vr 65]) (M' := (up M 65 (1020 + i) 0)) rfl ?_
        refine Hx.add rfl (by omega) ?_
        refine Hx.astI (n := 1032) rfl rfl (by omega) ?_
        refine Hx.ret rfl ?_
        exact Or.inl ⟨(by rw [show (min 11 ((M 65 (1020 + i)) + d)) = 11 by omega]; exact q42), rfl, by rw [show min 9999 ((M 65 995) + 1) = ((M 65 995) + 0) by omega]⟩
    · skip
      refine Hx.run 5 (pc' := 61) (L' := [some (vr 64), some (vi 992), some (vi i), some (vi d), some (vi 11), some (vi 0)]) (st' := [vi 28, vi 992, vr 65]) (M' := M) rfl ?_
      refine Hx.add rfl (by omega) ?_
      refine Hx.run 0 (pc' := 62) (L' := [some (vr 64), some (vi 992), some (vi i), some (vi d), some (vi 11), some (vi 0)]) (st' := [vi 1020, vr 65]) (M' := M) rfl ?_
      refine Hx.run 1 (pc' := 63) (L' := [some (vr 64), some (vi 992), some (vi i), some (vi d), some (vi 11), some (vi 0)]) (st' := [vi i, vi 1020, vr 65]) (M' := M) rfl ?_
      refine Hx.add rfl (by omega) ?_
      refine Hx.run 3 (pc' := 75) (L' := [some (vr 64), some (vi 992), some (vi i), some (vi d), some (vi 11), some (vi 0)]) (st' := [vi 11, vi (1020 + i), vr 65]) (M' := M) rfl ?_
      refine Hx.astI (n := 1032) rfl rfl (by omega) ?_
      refine Hx.run 4 (pc' := 82) (L' := [some (vr 64), some (vi 992), some (vi i), some (vi d), some (vi 11), some (vi 0)]) (st' := [vi 3, vi 992, vr 65]) (M' := (up M 65 (1020 + i) 11)) rfl ?_
      refine Hx.add rfl (by omega) ?_
      refine Hx.run 0 (pc' := 83) (L' := [some (vr 64), some (vi 992), some (vi i), some (vi d), some (vi 11), some (vi 0)]) (st' := [vi 995, vr 65]) (M' := (up M 65 (1020 + i) 11)) rfl ?_
      refine Hx.run 1 (pc' := 84) (L' := [some (vr 64), some (vi 992), some (vi i), some (vi d), some (vi 11), some (vi 0)]) (st' := [vi 995, vr 65, vi 995, vr 65]) (M' := (up M 65 (1020 + i) 11)) rfl ?_
      refine Hx.aldI (n := 1032) rfl rfl (by omega) ?_
      refine Hx.eqS (st' := [vi (M 65 995), vi 995, vr 65]) (by rw [show ((up M 65 (1020 + i) 11) 65 995) = (M 65 995) from by rw [up_off (by omega)]]) ?_
      refine Hx.run 3 (pc' := 109) (L' := [some (vr 64), some (vi 992), some (vi i), some (vi d), some (vi 11), some (vi 0)]) (st' := [vi 0, vi (M 65 995), vi 995, vr 65]) (M' := (up M 65 (1020 + i) 11)) rfl ?_
      refine Hx.add rfl (by omega) ?_
      refine Hx.astI (n := 1032) rfl rfl (by omega) ?_
      refine Hx.ret rfl ?_
      exact Or.inr ⟨(by rw [show (min 11 ((M 65 (1020 + i)) + d)) = 11 by omega]; exact q42), rfl, by rw [show (min 11 ((M 65 (1020 + i)) + d)) = 11 by omega, show ((M 65 995) + 0) = M 65 995 by omega]⟩
  · skip
    refine Hx.run 8 (pc' := 40) (L' := [some (vr 64), some (vi 992), some (vi i), some (vi d), some (vi ((M 65 (1020 + i)) + d)), none]) (st' := [vi 22, vi 992, vr 65, vi 992, vr 64]) (M' := M) rfl ?_
    refine Hx.add rfl (by omega) ?_
    refine Hx.run 0 (pc' := 41) (L' := [some (vr 64), some (vi 992), some (vi i), some (vi d), some (vi ((M 65 (1020 + i)) + d)), none]) (st' := [vi 1014, vr 65, vi 992, vr 64]) (M' := M) rfl ?_
    refine Hx.run 1 (pc' := 42) (L' := [some (vr 64), some (vi 992), some (vi i), some (vi d), some (vi ((M 65 (1020 + i)) + d)), none]) (st' := [vi i, vi 1014, vr 65, vi 992, vr 64]) (M' := M) rfl ?_
    refine Hx.add rfl (by omega) ?_
    refine Hx.aldI (n := 1032) rfl rfl (by omega) ?_
    refine Hx.call (t := 146) (as := [vr 64, vi 992, vi (M 65 (1014 + i))]) (pc' := 47) (rest := []) rfl (r_bars_992 (M 65 (1014 + i)) M (by omega) (by omega)) ?_
    rintro _ _ ⟨rfl, rfl⟩
    refine Hx.run 0 (pc' := 47) (L' := [some (vr 64), some (vi 992), some (vi i), some (vi d), some (vi ((M 65 (1020 + i)) + d)), none]) (st' := [vi (bb (M 65 (999 + (M 65 (1014 + i)))) (bcF (M 65 (996 + (M 65 (1014 + i)))) ((M 65 994) % 24)))]) (M' := M) rfl ?_
    refine Hx.run 1 (pc' := 49) (L' := [some (vr 64), some (vi 992), some (vi i), some (vi d), some (vi ((M 65 (1020 + i)) + d)), none]) (st' := [vi ((M 65 (1020 + i)) + d), vi (bb (M 65 (999 + (M 65 (1014 + i)))) (bcF (M 65 (996 + (M 65 (1014 + i)))) ((M 65 994) % 24)))]) (M' := M) rfl ?_
    refine Hx.call (t := 131) (as := [vi (bb (M 65 (999 + (M 65 (1014 + i)))) (bcF (M 65 (996 + (M 65 (1014 + i)))) ((M 65 994) % 24))), vi ((M 65 (1020 + i)) + d)]) (pc' := 52) (rest := []) rfl (r_has (bb (M 65 (999 + (M 65 (1014 + i)))) (bcF (M 65 (996 + (M 65 (1014 + i)))) ((M 65 994) % 24))) ((M 65 (1020 + i)) + d) M (by omega) (by omega)) ?_
    rintro _ _ (⟨q43, rfl, rfl⟩ | ⟨q43, rfl, rfl⟩)
    · skip
      refine Hx.run 5 (pc' := 61) (L' := [some (vr 64), some (vi 992), some (vi i), some (vi d), some (vi ((M 65 (1020 + i)) + d)), some (vi 1)]) (st' := [vi 28, vi 992, vr 65]) (M' := M) rfl ?_
      refine Hx.add rfl (by omega) ?_
      refine Hx.run 0 (pc' := 62) (L' := [some (vr 64), some (vi 992), some (vi i), some (vi d), some (vi ((M 65 (1020 + i)) + d)), some (vi 1)]) (st' := [vi 1020, vr 65]) (M' := M) rfl ?_
      refine Hx.run 1 (pc' := 63) (L' := [some (vr 64), some (vi 992), some (vi i), some (vi d), some (vi ((M 65 (1020 + i)) + d)), some (vi 1)]) (st' := [vi i, vi 1020, vr 65]) (M' := M) rfl ?_
      refine Hx.add rfl (by omega) ?_
      refine Hx.run 4 (pc' := 75) (L' := [some (vr 64), some (vi 992), some (vi i), some (vi d), some (vi ((M 65 (1020 + i)) + d)), some (vi 1)]) (st' := [vi 0, vi (1020 + i), vr 65]) (M' := M) rfl ?_
      refine Hx.astI (n := 1032) rfl rfl (by omega) ?_
      refine Hx.run 4 (pc' := 82) (L' := [some (vr 64), some (vi 992), some (vi i), some (vi d), some (vi ((M 65 (1020 + i)) + d)), some (vi 1)]) (st' := [vi 3, vi 992, vr 65]) (M' := (up M 65 (1020 + i) 0)) rfl ?_
      refine Hx.add rfl (by omega) ?_
      refine Hx.run 0 (pc' := 83) (L' := [some (vr 64), some (vi 992), some (vi i), some (vi d), some (vi ((M 65 (1020 + i)) + d)), some (vi 1)]) (st' := [vi 995, vr 65]) (M' := (up M 65 (1020 + i) 0)) rfl ?_
      refine Hx.run 1 (pc' := 84) (L' := [some (vr 64), some (vi 992), some (vi i), some (vi d), some (vi ((M 65 (1020 + i)) + d)), some (vi 1)]) (st' := [vi 995, vr 65, vi 995, vr 65]) (M' := (up M 65 (1020 + i) 0)) rfl ?_
      refine Hx.aldI (n := 1032) rfl rfl (by omega) ?_
      refine Hx.eqS (st' := [vi (M 65 995), vi 995, vr 65]) (by rw [show ((up M 65 (1020 + i) 0) 65 995) = (M 65 995) from by rw [up_off (by omega)]]) ?_
      refine Hx.run 6 (pc' := 96) (L' := [some (vr 64), some (vi 992), some (vi i), some (vi d), some (vi ((M 65 (1020 + i)) + d)), some (vi 1)]) (st' := [vi 3, vi 992, vr 65, vi (M 65 995), vi 995, vr 65]) (M' := (up M 65 (1020 + i) 0)) rfl ?_
      refine Hx.add rfl (by omega) ?_
      refine Hx.run 0 (pc' := 97) (L' := [some (vr 64), some (vi 992), some (vi i), some (vi d), some (vi ((M 65 (1020 + i)) + d)), some (vi 1)]) (st' := [vi 995, vr 65, vi (M 65 995), vi 995, vr 65]) (M' := (up M 65 (1020 + i) 0)) rfl ?_
      refine Hx.aldI (n := 1032) rfl rfl (by omega) ?_
      refine Hx.eqS (st' := [vi (M 65 995), vi (M 65 995), vi 995, vr 65]) (by rw [show ((up M 65 (1020 + i) 0) 65 995) = (M 65 995) from by rw [up_off (by omega)]]) ?_
      refine Hx.run 1 (pc' := 101) (L' := [some (vr 64), some (vi 992), some (vi i), some (vi d), some (vi ((M 65 (1020 + i)) + d)), some (vi 1)]) (st' := [vi 9999, vi (M 65 995), vi (M 65 995), vi 995, vr 65]) (M' := (up M 65 (1020 + i) 0)) rfl ?_
      refine Hx.br (c := (M 65 995) < 9999) (t := 104) (f := 108) rfl (fun h3 => ?_) (fun h3 => ?_)
      · skip
        refine Hx.run 2 (pc' := 109) (L' := [some (vr 64), some (vi 992), some (vi i), some (vi d), some (vi ((M 65 (1020 + i)) + d)), some (vi 1)]) (st' := [vi 1, vi (M 65 995), vi 995, vr 65]) (M' := (up M 65 (1020 + i) 0)) rfl ?_
        refine Hx.add rfl (by omega) ?_
        refine Hx.astI (n := 1032) rfl rfl (by omega) ?_
        refine Hx.ret rfl ?_
        exact Or.inl ⟨(by rw [show (min 11 ((M 65 (1020 + i)) + d)) = ((M 65 (1020 + i)) + d) by omega]; exact q43), rfl, by rw [show min 9999 ((M 65 995) + 1) = ((M 65 995) + 1) by omega]⟩
      · skip
        refine Hx.run 1 (pc' := 109) (L' := [some (vr 64), some (vi 992), some (vi i), some (vi d), some (vi ((M 65 (1020 + i)) + d)), some (vi 1)]) (st' := [vi 0, vi (M 65 995), vi 995, vr 65]) (M' := (up M 65 (1020 + i) 0)) rfl ?_
        refine Hx.add rfl (by omega) ?_
        refine Hx.astI (n := 1032) rfl rfl (by omega) ?_
        refine Hx.ret rfl ?_
        exact Or.inl ⟨(by rw [show (min 11 ((M 65 (1020 + i)) + d)) = ((M 65 (1020 + i)) + d) by omega]; exact q43), rfl, by rw [show min 9999 ((M 65 995) + 1) = ((M 65 995) + 0) by omega]⟩
    · skip
      refine Hx.run 5 (pc' := 61) (L' := [some (vr 64), some (vi 992), some (vi i), some (vi d), some (vi ((M 65 (1020 + i)) + d)), some (vi 0)]) (st' := [vi 28, vi 992, vr 65]) (M' := M) rfl ?_
      refine Hx.add rfl (by omega) ?_
      refine Hx.run 0 (pc' := 62) (L' := [some (vr 64), some (vi 992), some (vi i), some (vi d), some (vi ((M 65 (1020 + i)) + d)), some (vi 0)]) (st' := [vi 1020, vr 65]) (M' := M) rfl ?_
      refine Hx.run 1 (pc' := 63) (L' := [some (vr 64), some (vi 992), some (vi i), some (vi d), some (vi ((M 65 (1020 + i)) + d)), some (vi 0)]) (st' := [vi i, vi 1020, vr 65]) (M' := M) rfl ?_
      refine Hx.add rfl (by omega) ?_
      refine Hx.run 3 (pc' := 75) (L' := [some (vr 64), some (vi 992), some (vi i), some (vi d), some (vi ((M 65 (1020 + i)) + d)), some (vi 0)]) (st' := [vi ((M 65 (1020 + i)) + d), vi (1020 + i), vr 65]) (M' := M) rfl ?_
      refine Hx.astI (n := 1032) rfl rfl (by omega) ?_
      refine Hx.run 4 (pc' := 82) (L' := [some (vr 64), some (vi 992), some (vi i), some (vi d), some (vi ((M 65 (1020 + i)) + d)), some (vi 0)]) (st' := [vi 3, vi 992, vr 65]) (M' := (up M 65 (1020 + i) ((M 65 (1020 + i)) + d))) rfl ?_
      refine Hx.add rfl (by omega) ?_
      refine Hx.run 0 (pc' := 83) (L' := [some (vr 64), some (vi 992), some (vi i), some (vi d), some (vi ((M 65 (1020 + i)) + d)), some (vi 0)]) (st' := [vi 995, vr 65]) (M' := (up M 65 (1020 + i) ((M 65 (1020 + i)) + d))) rfl ?_
      refine Hx.run 1 (pc' := 84) (L' := [some (vr 64), some (vi 992), some (vi i), some (vi d), some (vi ((M 65 (1020 + i)) + d)), some (vi 0)]) (st' := [vi 995, vr 65, vi 995, vr 65]) (M' := (up M 65 (1020 + i) ((M 65 (1020 + i)) + d))) rfl ?_
      refine Hx.aldI (n := 1032) rfl rfl (by omega) ?_
      refine Hx.eqS (st' := [vi (M 65 995), vi 995, vr 65]) (by rw [show ((up M 65 (1020 + i) ((M 65 (1020 + i)) + d)) 65 995) = (M 65 995) from by rw [up_off (by omega)]]) ?_
      refine Hx.run 3 (pc' := 109) (L' := [some (vr 64), some (vi 992), some (vi i), some (vi d), some (vi ((M 65 (1020 + i)) + d)), some (vi 0)]) (st' := [vi 0, vi (M 65 995), vi 995, vr 65]) (M' := (up M 65 (1020 + i) ((M 65 (1020 + i)) + d))) rfl ?_
      refine Hx.add rfl (by omega) ?_
      refine Hx.astI (n := 1032) rfl rfl (by omega) ?_
      refine Hx.ret rfl ?_
      exact Or.inr ⟨(by rw [show (min 11 ((M 65 (1020 + i)) + d)) = ((M 65 (1020 + i)) + d) by omega]; exact q43), rfl, by rw [show (min 11 ((M 65 (1020 + i)) + d)) = ((M 65 (1020 + i)) + d) by omega, show ((M 65 995) + 0) = M 65 995 by omega]⟩
end
