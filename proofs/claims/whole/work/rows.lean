section
/-- a private method of a class that the tables say can be made, by its rows of tables_1 -/
def lw_okq (q : MethodName × Nat) : Prop := (q.1.cls ≠ "java/lang/invoke/MethodHandle" ∧ q.1.cls ≠ "java/lang/invoke/VarHandle") ∧ Cond.instantiable q.1.cls q.2 ∈ tables_1 ∧ Cond.privateMethod q.1 ∈ tables_1 ∧ Cond.instanceMethod q.1 ∈ tables_1
theorem lw_p0 : lw_okq (⟨"NearBook$Distances", "remember", "(III)V"⟩, 4) := ⟨⟨by decide +kernel, by decide +kernel⟩, List.mem_of_getElem? (i := 64) (by decide +kernel), List.mem_of_getElem? (i := 272) (by decide +kernel), List.mem_of_getElem? (i := 273) (by decide +kernel)⟩
theorem lw_p1 : lw_okq (⟨"NearBook$Distances", "measure", "(II)I"⟩, 4) := ⟨⟨by decide +kernel, by decide +kernel⟩, List.mem_of_getElem? (i := 64) (by decide +kernel), List.mem_of_getElem? (i := 305) (by decide +kernel), List.mem_of_getElem? (i := 306) (by decide +kernel)⟩
theorem lw_p2 : lw_okq (⟨"NearBook$Rows", "difference", "(III)I"⟩, 4) := ⟨⟨by decide +kernel, by decide +kernel⟩, List.mem_of_getElem? (i := 25) (by decide +kernel), List.mem_of_getElem? (i := 320) (by decide +kernel), List.mem_of_getElem? (i := 321) (by decide +kernel)⟩
theorem lw_p3 : lw_okq (⟨"NearBook$Rows", "hasBefore", "(III)Z"⟩, 4) := ⟨⟨by decide +kernel, by decide +kernel⟩, List.mem_of_getElem? (i := 25) (by decide +kernel), List.mem_of_getElem? (i := 338) (by decide +kernel), List.mem_of_getElem? (i := 339) (by decide +kernel)⟩
theorem lw_p4 : lw_okq (⟨"NearBook$Table", "findBreakers", "(I)Z"⟩, 4) := ⟨⟨by decide +kernel, by decide +kernel⟩, List.mem_of_getElem? (i := 45) (by decide +kernel), List.mem_of_getElem? (i := 363) (by decide +kernel), List.mem_of_getElem? (i := 364) (by decide +kernel)⟩
theorem lw_p5 : lw_okq (⟨"NearBook$Table", "endBeyond", "(III)I"⟩, 4) := ⟨⟨by decide +kernel, by decide +kernel⟩, List.mem_of_getElem? (i := 45) (by decide +kernel), List.mem_of_getElem? (i := 367) (by decide +kernel), List.mem_of_getElem? (i := 368) (by decide +kernel)⟩
theorem lw_p6 : lw_okq (⟨"NearBook$Members", "spotOf", "(I)I"⟩, 2) := ⟨⟨by decide +kernel, by decide +kernel⟩, List.mem_of_getElem? (i := 86) (by decide +kernel), List.mem_of_getElem? (i := 387) (by decide +kernel), List.mem_of_getElem? (i := 388) (by decide +kernel)⟩
theorem lw_p7 : lw_okq (⟨"NearBook", "rankNearFirst", "(II)V"⟩, 10) := ⟨⟨by decide +kernel, by decide +kernel⟩, List.mem_of_getElem? (i := 17) (by decide +kernel), List.mem_of_getElem? (i := 414) (by decide +kernel), List.mem_of_getElem? (i := 415) (by decide +kernel)⟩
theorem lw_p8 : lw_okq (⟨"NearBook", "takeRanked", "(II)I"⟩, 10) := ⟨⟨by decide +kernel, by decide +kernel⟩, List.mem_of_getElem? (i := 17) (by decide +kernel), List.mem_of_getElem? (i := 434) (by decide +kernel), List.mem_of_getElem? (i := 435) (by decide +kernel)⟩
theorem lw_p9 : lw_okq (⟨"NearBook", "rankFarFirst", "(I)V"⟩, 10) := ⟨⟨by decide +kernel, by decide +kernel⟩, List.mem_of_getElem? (i := 17) (by decide +kernel), List.mem_of_getElem? (i := 463) (by decide +kernel), List.mem_of_getElem? (i := 464) (by decide +kernel)⟩
theorem lw_p10 : lw_okq (⟨"NearBook", "openBook", "()Z"⟩, 10) := ⟨⟨by decide +kernel, by decide +kernel⟩, List.mem_of_getElem? (i := 17) (by decide +kernel), List.mem_of_getElem? (i := 487) (by decide +kernel), List.mem_of_getElem? (i := 488) (by decide +kernel)⟩
theorem lw_p11 : lw_okq (⟨"NearBook", "closestKey", "()I"⟩, 10) := ⟨⟨by decide +kernel, by decide +kernel⟩, List.mem_of_getElem? (i := 17) (by decide +kernel), List.mem_of_getElem? (i := 491) (by decide +kernel), List.mem_of_getElem? (i := 492) (by decide +kernel)⟩
theorem lw_p12 : lw_okq (⟨"NearBook$Centres", "closeGaps", "(I)V"⟩, 3) := ⟨⟨by decide +kernel, by decide +kernel⟩, List.mem_of_getElem? (i := 165) (by decide +kernel), List.mem_of_getElem? (i := 522) (by decide +kernel), List.mem_of_getElem? (i := 523) (by decide +kernel)⟩
theorem lw_p13 : lw_okq (⟨"NearBook$Centres", "farthestLoose", "()I"⟩, 3) := ⟨⟨by decide +kernel, by decide +kernel⟩, List.mem_of_getElem? (i := 165) (by decide +kernel), List.mem_of_getElem? (i := 529) (by decide +kernel), List.mem_of_getElem? (i := 530) (by decide +kernel)⟩
theorem lw_p14 : lw_okq (⟨"NearBook$BestCentres", "tryLast", "(II)V"⟩, 7) := ⟨⟨by decide +kernel, by decide +kernel⟩, List.mem_of_getElem? (i := 181) (by decide +kernel), List.mem_of_getElem? (i := 545) (by decide +kernel), List.mem_of_getElem? (i := 546) (by decide +kernel)⟩
theorem lw_p15 : lw_okq (⟨"NearBook$BestCentres", "reachOf", "(I)I"⟩, 7) := ⟨⟨by decide +kernel, by decide +kernel⟩, List.mem_of_getElem? (i := 181) (by decide +kernel), List.mem_of_getElem? (i := 551) (by decide +kernel), List.mem_of_getElem? (i := 552) (by decide +kernel)⟩
def lw_privs_1 : List (MethodName × Nat) := [(⟨"NearBook$Distances", "remember", "(III)V"⟩, 4), (⟨"NearBook$Distances", "measure", "(II)I"⟩, 4), (⟨"NearBook$Rows", "difference", "(III)I"⟩, 4), (⟨"NearBook$Rows", "hasBefore", "(III)Z"⟩, 4), (⟨"NearBook$Table", "findBreakers", "(I)Z"⟩, 4), (⟨"NearBook$Table", "endBeyond", "(III)I"⟩, 4), (⟨"NearBook$Members", "spotOf", "(I)I"⟩, 2), (⟨"NearBook", "rankNearFirst", "(II)V"⟩, 10), (⟨"NearBook", "takeRanked", "(II)I"⟩, 10), (⟨"NearBook", "rankFarFirst", "(I)V"⟩, 10), (⟨"NearBook", "openBook", "()Z"⟩, 10), (⟨"NearBook", "closestKey", "()I"⟩, 10), (⟨"NearBook$Centres", "closeGaps", "(I)V"⟩, 3), (⟨"NearBook$Centres", "farthestLoose", "()I"⟩, 3), (⟨"NearBook$BestCentres", "tryLast", "(II)V"⟩, 7), (⟨"NearBook$BestCentres", "reachOf", "(I)I"⟩, 7)]
theorem lw_r1 : ∀ q ∈ lw_privs_1, lw_okq q := List.forall_mem_cons.mpr ⟨lw_p0, List.forall_mem_cons.mpr ⟨lw_p1, List.forall_mem_cons.mpr ⟨lw_p2, List.forall_mem_cons.mpr ⟨lw_p3, List.forall_mem_cons.mpr ⟨lw_p4, List.forall_mem_cons.mpr ⟨lw_p5, List.forall_mem_cons.mpr ⟨lw_p6, List.forall_mem_cons.mpr ⟨lw_p7, List.forall_mem_cons.mpr ⟨lw_p8, List.forall_mem_cons.mpr ⟨lw_p9, List.forall_mem_cons.mpr ⟨lw_p10, List.forall_mem_cons.mpr ⟨lw_p11, List.forall_mem_cons.mpr ⟨lw_p12, List.forall_mem_cons.mpr ⟨lw_p13, List.forall_mem_cons.mpr ⟨lw_p14, List.forall_mem_cons.mpr ⟨lw_p15, fun _ h => absurd h List.not_mem_nil⟩⟩⟩⟩⟩⟩⟩⟩⟩⟩⟩⟩⟩⟩⟩⟩
theorem lw_p16 : lw_okq (⟨"NearBook$BestCentres", "gapWith", "(II)I"⟩, 7) := ⟨⟨by decide +kernel, by decide +kernel⟩, List.mem_of_getElem? (i := 181) (by decide +kernel), List.mem_of_getElem? (i := 555) (by decide +kernel), List.mem_of_getElem? (i := 556) (by decide +kernel)⟩
theorem lw_p17 : lw_okq (⟨"NearBook$BestCentres", "tryTwos", "()V"⟩, 7) := ⟨⟨by decide +kernel, by decide +kernel⟩, List.mem_of_getElem? (i := 181) (by decide +kernel), List.mem_of_getElem? (i := 563) (by decide +kernel), List.mem_of_getElem? (i := 564) (by decide +kernel)⟩
theorem lw_p18 : lw_okq (⟨"NearBook$BestCentres", "pick", "(II)V"⟩, 7) := ⟨⟨by decide +kernel, by decide +kernel⟩, List.mem_of_getElem? (i := 181) (by decide +kernel), List.mem_of_getElem? (i := 567) (by decide +kernel), List.mem_of_getElem? (i := 568) (by decide +kernel)⟩
theorem lw_p19 : lw_okq (⟨"NearBook$BestCentres", "tryThrees", "()V"⟩, 7) := ⟨⟨by decide +kernel, by decide +kernel⟩, List.mem_of_getElem? (i := 181) (by decide +kernel), List.mem_of_getElem? (i := 571) (by decide +kernel), List.mem_of_getElem? (i := 572) (by decide +kernel)⟩
theorem lw_p20 : lw_okq (⟨"NearBook$Chain", "reachFrom", "(I)V"⟩, 4) := ⟨⟨by decide +kernel, by decide +kernel⟩, List.mem_of_getElem? (i := 128) (by decide +kernel), List.mem_of_getElem? (i := 591) (by decide +kernel), List.mem_of_getElem? (i := 592) (by decide +kernel)⟩
theorem lw_p21 : lw_okq (⟨"NearBook$Chain", "leastLoose", "()I"⟩, 4) := ⟨⟨by decide +kernel, by decide +kernel⟩, List.mem_of_getElem? (i := 128) (by decide +kernel), List.mem_of_getElem? (i := 598) (by decide +kernel), List.mem_of_getElem? (i := 599) (by decide +kernel)⟩
theorem lw_p22 : lw_okq (⟨"NearBook$Pieces", "join", "(II)V"⟩, 3) := ⟨⟨by decide +kernel, by decide +kernel⟩, List.mem_of_getElem? (i := 149) (by decide +kernel), List.mem_of_getElem? (i := 621) (by decide +kernel), List.mem_of_getElem? (i := 622) (by decide +kernel)⟩
theorem lw_p23 : lw_okq (⟨"NearBook", "isBeyondResults", "(II)Z"⟩, 10) := ⟨⟨by decide +kernel, by decide +kernel⟩, List.mem_of_getElem? (i := 17) (by decide +kernel), List.mem_of_getElem? (i := 643) (by decide +kernel), List.mem_of_getElem? (i := 644) (by decide +kernel)⟩
theorem lw_p24 : lw_okq (⟨"NearBook", "sumFrom", "(I)I"⟩, 10) := ⟨⟨by decide +kernel, by decide +kernel⟩, List.mem_of_getElem? (i := 17) (by decide +kernel), List.mem_of_getElem? (i := 652) (by decide +kernel), List.mem_of_getElem? (i := 653) (by decide +kernel)⟩
theorem lw_p25 : lw_okq (⟨"NearBook", "greatestInBook", "()I"⟩, 10) := ⟨⟨by decide +kernel, by decide +kernel⟩, List.mem_of_getElem? (i := 17) (by decide +kernel), List.mem_of_getElem? (i := 664) (by decide +kernel), List.mem_of_getElem? (i := 665) (by decide +kernel)⟩
theorem lw_p26 : lw_okq (⟨"NearBook", "lengthAsked", "(I)I"⟩, 10) := ⟨⟨by decide +kernel, by decide +kernel⟩, List.mem_of_getElem? (i := 17) (by decide +kernel), List.mem_of_getElem? (i := 669) (by decide +kernel), List.mem_of_getElem? (i := 670) (by decide +kernel)⟩
theorem lw_p27 : lw_okq (⟨"NearBookModel", "isThing", "(I)Z"⟩, 17) := ⟨⟨by decide +kernel, by decide +kernel⟩, List.mem_of_getElem? (i := 673) (by decide +kernel), List.mem_of_getElem? (i := 743) (by decide +kernel), List.mem_of_getElem? (i := 744) (by decide +kernel)⟩
theorem lw_p28 : lw_okq (⟨"NearBookModel", "far", "(II)I"⟩, 17) := ⟨⟨by decide +kernel, by decide +kernel⟩, List.mem_of_getElem? (i := 673) (by decide +kernel), List.mem_of_getElem? (i := 760) (by decide +kernel), List.mem_of_getElem? (i := 761) (by decide +kernel)⟩
theorem lw_p29 : lw_okq (⟨"NearBookModel", "unlike", "(II)I"⟩, 17) := ⟨⟨by decide +kernel, by decide +kernel⟩, List.mem_of_getElem? (i := 673) (by decide +kernel), List.mem_of_getElem? (i := 767) (by decide +kernel), List.mem_of_getElem? (i := 768) (by decide +kernel)⟩
theorem lw_p30 : lw_okq (⟨"NearBookModel", "edits", "(II)I"⟩, 17) := ⟨⟨by decide +kernel, by decide +kernel⟩, List.mem_of_getElem? (i := 673) (by decide +kernel), List.mem_of_getElem? (i := 771) (by decide +kernel), List.mem_of_getElem? (i := 772) (by decide +kernel)⟩
theorem lw_p31 : lw_okq (⟨"NearBookModel", "alone", "(II)I"⟩, 17) := ⟨⟨by decide +kernel, by decide +kernel⟩, List.mem_of_getElem? (i := 673) (by decide +kernel), List.mem_of_getElem? (i := 778) (by decide +kernel), List.mem_of_getElem? (i := 779) (by decide +kernel)⟩
def lw_privs_2 : List (MethodName × Nat) := [(⟨"NearBook$BestCentres", "gapWith", "(II)I"⟩, 7), (⟨"NearBook$BestCentres", "tryTwos", "()V"⟩, 7), (⟨"NearBook$BestCentres", "pick", "(II)V"⟩, 7), (⟨"NearBook$BestCentres", "tryThrees", "()V"⟩, 7), (⟨"NearBook$Chain", "reachFrom", "(I)V"⟩, 4), (⟨"NearBook$Chain", "leastLoose", "()I"⟩, 4), (⟨"NearBook$Pieces", "join", "(II)V"⟩, 3), (⟨"NearBook", "isBeyondResults", "(II)Z"⟩, 10), (⟨"NearBook", "sumFrom", "(I)I"⟩, 10), (⟨"NearBook", "greatestInBook", "()I"⟩, 10), (⟨"NearBook", "lengthAsked", "(I)I"⟩, 10), (⟨"NearBookModel", "isThing", "(I)Z"⟩, 17), (⟨"NearBookModel", "far", "(II)I"⟩, 17), (⟨"NearBookModel", "unlike", "(II)I"⟩, 17), (⟨"NearBookModel", "edits", "(II)I"⟩, 17), (⟨"NearBookModel", "alone", "(II)I"⟩, 17)]
theorem lw_r2 : ∀ q ∈ lw_privs_2, lw_okq q := List.forall_mem_cons.mpr ⟨lw_p16, List.forall_mem_cons.mpr ⟨lw_p17, List.forall_mem_cons.mpr ⟨lw_p18, List.forall_mem_cons.mpr ⟨lw_p19, List.forall_mem_cons.mpr ⟨lw_p20, List.forall_mem_cons.mpr ⟨lw_p21, List.forall_mem_cons.mpr ⟨lw_p22, List.forall_mem_cons.mpr ⟨lw_p23, List.forall_mem_cons.mpr ⟨lw_p24, List.forall_mem_cons.mpr ⟨lw_p25, List.forall_mem_cons.mpr ⟨lw_p26, List.forall_mem_cons.mpr ⟨lw_p27, List.forall_mem_cons.mpr ⟨lw_p28, List.forall_mem_cons.mpr ⟨lw_p29, List.forall_mem_cons.mpr ⟨lw_p30, List.forall_mem_cons.mpr ⟨lw_p31, fun _ h => absurd h List.not_mem_nil⟩⟩⟩⟩⟩⟩⟩⟩⟩⟩⟩⟩⟩⟩⟩⟩
theorem lw_p32 : lw_okq (⟨"NearBookModel", "has", "(III)Z"⟩, 17) := ⟨⟨by decide +kernel, by decide +kernel⟩, List.mem_of_getElem? (i := 673) (by decide +kernel), List.mem_of_getElem? (i := 782) (by decide +kernel), List.mem_of_getElem? (i := 783) (by decide +kernel)⟩
theorem lw_p33 : lw_okq (⟨"NearBookModel", "holds", "()Z"⟩, 17) := ⟨⟨by decide +kernel, by decide +kernel⟩, List.mem_of_getElem? (i := 673) (by decide +kernel), List.mem_of_getElem? (i := 790) (by decide +kernel), List.mem_of_getElem? (i := 791) (by decide +kernel)⟩
theorem lw_p34 : lw_okq (⟨"NearBookModel", "those", "(IIZI)I"⟩, 17) := ⟨⟨by decide +kernel, by decide +kernel⟩, List.mem_of_getElem? (i := 673) (by decide +kernel), List.mem_of_getElem? (i := 815) (by decide +kernel), List.mem_of_getElem? (i := 816) (by decide +kernel)⟩
theorem lw_p35 : lw_okq (⟨"NearBookModel", "takesNone", "()V"⟩, 17) := ⟨⟨by decide +kernel, by decide +kernel⟩, List.mem_of_getElem? (i := 673) (by decide +kernel), List.mem_of_getElem? (i := 819) (by decide +kernel), List.mem_of_getElem? (i := 820) (by decide +kernel)⟩
theorem lw_p36 : lw_okq (⟨"NearBookModel", "next", "(IZ)I"⟩, 17) := ⟨⟨by decide +kernel, by decide +kernel⟩, List.mem_of_getElem? (i := 673) (by decide +kernel), List.mem_of_getElem? (i := 823) (by decide +kernel), List.mem_of_getElem? (i := 824) (by decide +kernel)⟩
theorem lw_p37 : lw_okq (⟨"NearBookModel", "gives", "(II)V"⟩, 17) := ⟨⟨by decide +kernel, by decide +kernel⟩, List.mem_of_getElem? (i := 673) (by decide +kernel), List.mem_of_getElem? (i := 827) (by decide +kernel), List.mem_of_getElem? (i := 828) (by decide +kernel)⟩
theorem lw_p38 : lw_okq (⟨"NearBookModel", "inBook", "()I"⟩, 17) := ⟨⟨by decide +kernel, by decide +kernel⟩, List.mem_of_getElem? (i := 673) (by decide +kernel), List.mem_of_getElem? (i := 847) (by decide +kernel), List.mem_of_getElem? (i := 848) (by decide +kernel)⟩
theorem lw_p39 : lw_okq (⟨"NearBookModel", "fromResults", "(I)I"⟩, 17) := ⟨⟨by decide +kernel, by decide +kernel⟩, List.mem_of_getElem? (i := 673) (by decide +kernel), List.mem_of_getElem? (i := 855) (by decide +kernel), List.mem_of_getElem? (i := 856) (by decide +kernel)⟩
theorem lw_p40 : lw_okq (⟨"NearBookModel", "radius", "()I"⟩, 17) := ⟨⟨by decide +kernel, by decide +kernel⟩, List.mem_of_getElem? (i := 673) (by decide +kernel), List.mem_of_getElem? (i := 859) (by decide +kernel), List.mem_of_getElem? (i := 860) (by decide +kernel)⟩
theorem lw_p41 : lw_okq (⟨"NearBookModel", "radiusOf", "(III)I"⟩, 17) := ⟨⟨by decide +kernel, by decide +kernel⟩, List.mem_of_getElem? (i := 673) (by decide +kernel), List.mem_of_getElem? (i := 867) (by decide +kernel), List.mem_of_getElem? (i := 868) (by decide +kernel)⟩
theorem lw_p42 : lw_okq (⟨"NearBookModel", "chains", "()V"⟩, 17) := ⟨⟨by decide +kernel, by decide +kernel⟩, List.mem_of_getElem? (i := 673) (by decide +kernel), List.mem_of_getElem? (i := 876) (by decide +kernel), List.mem_of_getElem? (i := 877) (by decide +kernel)⟩
theorem lw_p43 : lw_okq (⟨"NearBookModel", "alonePieces", "()V"⟩, 17) := ⟨⟨by decide +kernel, by decide +kernel⟩, List.mem_of_getElem? (i := 673) (by decide +kernel), List.mem_of_getElem? (i := 880) (by decide +kernel), List.mem_of_getElem? (i := 881) (by decide +kernel)⟩
theorem lw_p44 : lw_okq (⟨"NearBookModel", "joins", "(II)V"⟩, 17) := ⟨⟨by decide +kernel, by decide +kernel⟩, List.mem_of_getElem? (i := 673) (by decide +kernel), List.mem_of_getElem? (i := 884) (by decide +kernel), List.mem_of_getElem? (i := 885) (by decide +kernel)⟩
theorem lw_p45 : lw_okq (⟨"NearBookModel", "pieces", "(I)V"⟩, 17) := ⟨⟨by decide +kernel, by decide +kernel⟩, List.mem_of_getElem? (i := 673) (by decide +kernel), List.mem_of_getElem? (i := 896) (by decide +kernel), List.mem_of_getElem? (i := 897) (by decide +kernel)⟩
def lw_privs_3 : List (MethodName × Nat) := [(⟨"NearBookModel", "has", "(III)Z"⟩, 17), (⟨"NearBookModel", "holds", "()Z"⟩, 17), (⟨"NearBookModel", "those", "(IIZI)I"⟩, 17), (⟨"NearBookModel", "takesNone", "()V"⟩, 17), (⟨"NearBookModel", "next", "(IZ)I"⟩, 17), (⟨"NearBookModel", "gives", "(II)V"⟩, 17), (⟨"NearBookModel", "inBook", "()I"⟩, 17), (⟨"NearBookModel", "fromResults", "(I)I"⟩, 17), (⟨"NearBookModel", "radius", "()I"⟩, 17), (⟨"NearBookModel", "radiusOf", "(III)I"⟩, 17), (⟨"NearBookModel", "chains", "()V"⟩, 17), (⟨"NearBookModel", "alonePieces", "()V"⟩, 17), (⟨"NearBookModel", "joins", "(II)V"⟩, 17), (⟨"NearBookModel", "pieces", "(I)V"⟩, 17)]
theorem lw_r3 : ∀ q ∈ lw_privs_3, lw_okq q := List.forall_mem_cons.mpr ⟨lw_p32, List.forall_mem_cons.mpr ⟨lw_p33, List.forall_mem_cons.mpr ⟨lw_p34, List.forall_mem_cons.mpr ⟨lw_p35, List.forall_mem_cons.mpr ⟨lw_p36, List.forall_mem_cons.mpr ⟨lw_p37, List.forall_mem_cons.mpr ⟨lw_p38, List.forall_mem_cons.mpr ⟨lw_p39, List.forall_mem_cons.mpr ⟨lw_p40, List.forall_mem_cons.mpr ⟨lw_p41, List.forall_mem_cons.mpr ⟨lw_p42, List.forall_mem_cons.mpr ⟨lw_p43, List.forall_mem_cons.mpr ⟨lw_p44, List.forall_mem_cons.mpr ⟨lw_p45, fun _ h => absurd h List.not_mem_nil⟩⟩⟩⟩⟩⟩⟩⟩⟩⟩⟩⟩⟩⟩
def lw_privs : List (MethodName × Nat) := lw_privs_1 ++ (lw_privs_2 ++ (lw_privs_3))
def lw_tbl : List Cond := k2_sels lw_privs ++ tables_1
theorem lw_privs_ok : ∀ q ∈ lw_privs, lw_okq q := by
  show ∀ q ∈ lw_privs_1 ++ (lw_privs_2 ++ (lw_privs_3)), lw_okq q
  exact List.forall_mem_append.mpr ⟨lw_r1, List.forall_mem_append.mpr ⟨lw_r2, lw_r3⟩⟩

theorem goodIn_r {big : List Cond} (ws : List Cond) (ps : List Nat) (hp : ws = ps.filterMap (fun i => big[i]?)) (h : ws.all goodWord = true) : GoodIn big ws := by
  intro w hw
  have h1 := List.all_eq_true.mp h w hw
  rw [hp] at hw
  obtain ⟨i, -, hi⟩ := List.mem_filterMap.mp hw
  have hm : w ∈ big := by first | exact List.mem_of_getElem? hi | exact List.getElem?_mem hi
  exact ⟨hm, good_of_word h1⟩
theorem goodIn_app {big a b : List Cond} (ha : GoodIn big a) (hb : GoodIn big b) : GoodIn big (a ++ b) := fun w h => (List.mem_append.mp h).elim (ha w) (hb w)
theorem goodIn_ca {big a b : List Cond} {c : Cond} (ha : GoodIn big (c :: a)) (hb : GoodIn big b) : GoodIn big (c :: (a ++ b)) := fun w h => (List.mem_cons.mp h).elim (fun e => ha w (List.mem_cons.mpr (Or.inl e))) (fun h => (List.mem_append.mp h).elim (fun h => ha w (List.mem_cons.mpr (Or.inr h))) (hb w))
theorem goodIn_sub {big ws : List Cond} (hm : ∀ w ∈ ws, w ∈ big) (h : ws.all goodWord = true) : GoodIn big ws := fun w hw => ⟨hm w hw, good_of_word (List.all_eq_true.mp h w hw)⟩

def RX0 : String := "NearBook$BestCentres"
def TX0 : u_T := fun k => match k with
  | 0 => ("NearBook$BestCentres", "members", "LNearBook$Members;", true)
  | 1 => ("NearBook$BestCentres", "distances", "LNearBook$Distances;", true)
  | 2 => ("NearBook$BestCentres", "gaps", "[I", true)
  | 3 => ("NearBook$BestCentres", "picked", "[I", true)
  | 4 => ("NearBook$BestCentres", "best", "[I", true)
  | 5 => ("NearBook$BestCentres", "radius", "I", false)
  | _ => ("NearBook$BestCentres", "suspect", "I", false)
def tyX0 : Nat → FieldType := fun k => match k with
  | 0 => .object "NearBook$Members"
  | 1 => .object "NearBook$Distances"
  | 2 => .array .int
  | 3 => .array .int
  | 4 => .array .int
  | 5 => .int
  | _ => .int
abbrev wsX00 : List Cond := u_ws RX0 TX0 7
theorem nmX0 : ∀ a, a < 7 → ∀ b, b < 7 → a ≠ b → (TX0 a).2.1 ≠ (TX0 b).2.1 := by decide +kernel
theorem tyX0_ok : ∀ k, k < 7 → parseFieldDescriptor (TX0 k).2.2.1 = some (tyX0 k) := by decide +kernel
abbrev cX0_init : ByteArray := prog_2_method_1_code
def yX0_init : MethodName := ⟨RX0, "<init>", "(LNearBook$Members;LNearBook$Distances;)V"⟩
abbrev cX0_take : ByteArray := prog_2_method_2_code
def yX0_take : MethodName := ⟨RX0, "take", "(ILNearBook$Results;)I"⟩
abbrev cX0_tryTwos : ByteArray := prog_2_method_3_code
def yX0_tryTwos : MethodName := ⟨RX0, "tryTwos", "()V"⟩
abbrev cX0_tryThrees : ByteArray := prog_2_method_4_code
def yX0_tryThrees : MethodName := ⟨RX0, "tryThrees", "()V"⟩
abbrev cX0_tryLast : ByteArray := prog_2_method_5_code
def yX0_tryLast : MethodName := ⟨RX0, "tryLast", "(II)V"⟩
abbrev cX0_pick : ByteArray := prog_2_method_6_code
def yX0_pick : MethodName := ⟨RX0, "pick", "(II)V"⟩
abbrev cX0_reachOf : ByteArray := prog_2_method_7_code
def yX0_reachOf : MethodName := ⟨RX0, "reachOf", "(I)I"⟩
abbrev cX0_gapWith : ByteArray := prog_2_method_8_code
def yX0_gapWith : MethodName := ⟨RX0, "gapWith", "(II)I"⟩
def RX1 : String := "NearBook$Centres"
def TX1 : u_T := fun k => match k with
  | 0 => ("NearBook$Centres", "members", "LNearBook$Members;", true)
  | 1 => ("NearBook$Centres", "distances", "LNearBook$Distances;", true)
  | _ => ("NearBook$Centres", "gaps", "[I", true)
def tyX1 : Nat → FieldType := fun k => match k with
  | 0 => .object "NearBook$Members"
  | 1 => .object "NearBook$Distances"
  | _ => .array .int
abbrev wsX10 : List Cond := u_ws RX1 TX1 3
theorem nmX1 : ∀ a, a < 3 → ∀ b, b < 3 → a ≠ b → (TX1 a).2.1 ≠ (TX1 b).2.1 := by decide +kernel
theorem tyX1_ok : ∀ k, k < 3 → parseFieldDescriptor (TX1 k).2.2.1 = some (tyX1 k) := by decide +kernel
abbrev cX1_init : ByteArray := prog_3_method_1_code
def yX1_init : MethodName := ⟨RX1, "<init>", "(LNearBook$Members;LNearBook$Distances;)V"⟩
abbrev cX1_take : ByteArray := prog_3_method_2_code
def yX1_take : MethodName := ⟨RX1, "take", "(ILNearBook$Results;)I"⟩
abbrev cX1_closeGaps : ByteArray := prog_3_method_3_code
def yX1_closeGaps : MethodName := ⟨RX1, "closeGaps", "(I)V"⟩
abbrev cX1_farthestLoose : ByteArray := prog_3_method_4_code
def yX1_farthestLoose : MethodName := ⟨RX1, "farthestLoose", "()I"⟩
def RX2 : String := "NearBook$Chain"
def TX2 : u_T := fun k => match k with
  | 0 => ("NearBook$Chain", "members", "LNearBook$Members;", true)
  | 1 => ("NearBook$Chain", "distances", "LNearBook$Distances;", true)
  | 2 => ("NearBook$Chain", "taken", "LNearBook$Keys;", true)
  | _ => ("NearBook$Chain", "nearestLink", "[I", true)
def tyX2 : Nat → FieldType := fun k => match k with
  | 0 => .object "NearBook$Members"
  | 1 => .object "NearBook$Distances"
  | 2 => .object "NearBook$Keys"
  | _ => .array .int
abbrev wsX20 : List Cond := u_ws RX2 TX2 4
theorem nmX2 : ∀ a, a < 4 → ∀ b, b < 4 → a ≠ b → (TX2 a).2.1 ≠ (TX2 b).2.1 := by decide +kernel
theorem tyX2_ok : ∀ k, k < 4 → parseFieldDescriptor (TX2 k).2.2.1 = some (tyX2 k) := by decide +kernel
abbrev cX2_init : ByteArray := prog_4_method_1_code
def yX2_init : MethodName := ⟨RX2, "<init>", "(LNearBook$Members;LNearBook$Distances;)V"⟩
abbrev cX2_hangTogether : ByteArray := prog_4_method_2_code
def yX2_hangTogether : MethodName := ⟨RX2, "hangTogether", "()LNearBook$Keys;"⟩
abbrev cX2_reachFrom : ByteArray := prog_4_method_3_code
def yX2_reachFrom : MethodName := ⟨RX2, "reachFrom", "(I)V"⟩
abbrev cX2_leastLoose : ByteArray := prog_4_method_4_code
def yX2_leastLoose : MethodName := ⟨RX2, "leastLoose", "()I"⟩
def RX3 : String := "NearBook$Distances"
def TX3 : u_T := fun k => match k with
  | 0 => ("NearBook$Distances", "rows", "LNearBook$Rows;", true)
  | 1 => ("NearBook$Distances", "table", "LNearBook$Table;", true)
  | 2 => ("NearBook$Distances", "known", "[I", true)
  | _ => ("NearBook$Distances", "kind", "I", false)
def tyX3 : Nat → FieldType := fun k => match k with
  | 0 => .object "NearBook$Rows"
  | 1 => .object "NearBook$Table"
  | 2 => .array .int
  | _ => .int
abbrev wsX30 : List Cond := u_ws RX3 TX3 4
theorem nmX3 : ∀ a, a < 4 → ∀ b, b < 4 → a ≠ b → (TX3 a).2.1 ≠ (TX3 b).2.1 := by decide +kernel
theorem tyX3_ok : ∀ k, k < 4 → parseFieldDescriptor (TX3 k).2.2.1 = some (tyX3 k) := by decide +kernel
abbrev cX3_init : ByteArray := prog_5_method_1_code
def yX3_init : MethodName := ⟨RX3, "<init>", "(LNearBook$Rows;LNearBook$Table;)V"⟩
abbrev cX3_kindAtHand : ByteArray := prog_5_method_2_code
def yX3_kindAtHand : MethodName := ⟨RX3, "kindAtHand", "()I"⟩
abbrev cX3_useKind : ByteArray := prog_5_method_3_code
def yX3_useKind : MethodName := ⟨RX3, "useKind", "(I)V"⟩
abbrev cX3_forgetAllOf : ByteArray := prog_5_method_4_code
def yX3_forgetAllOf : MethodName := ⟨RX3, "forgetAllOf", "(I)V"⟩
abbrev cX3_forgetPair : ByteArray := prog_5_method_5_code
def yX3_forgetPair : MethodName := ⟨RX3, "forgetPair", "(II)V"⟩
abbrev cX3_lawHolds : ByteArray := prog_5_method_6_code
def yX3_lawHolds : MethodName := ⟨RX3, "lawHolds", "()Z"⟩
abbrev cX3_between : ByteArray := prog_5_method_7_code
def yX3_between : MethodName := ⟨RX3, "between", "(II)I"⟩
abbrev cX3_at : ByteArray := prog_5_method_8_code
def yX3_at : MethodName := ⟨RX3, "at", "(II)I"⟩
abbrev cX3_pairKey : ByteArray := prog_5_method_9_code
def yX3_pairKey : MethodName := ⟨RX3, "pairKey", "(II)I"⟩
abbrev cX3_remember : ByteArray := prog_5_method_10_code
def yX3_remember : MethodName := ⟨RX3, "remember", "(III)V"⟩
abbrev cX3_measure : ByteArray := prog_5_method_11_code
def yX3_measure : MethodName := ⟨RX3, "measure", "(II)I"⟩
def RX4 : String := "NearBook$Keys"
def TX4 : u_T := fun k => match k with
  | 0 => ("NearBook$Keys", "keys", "[I", true)
  | _ => ("NearBook$Keys", "size", "I", false)
def tyX4 : Nat → FieldType := fun k => match k with
  | 0 => .array .int
  | _ => .int
abbrev wsX40 : List Cond := u_ws RX4 TX4 2
theorem nmX4 : ∀ a, a < 2 → ∀ b, b < 2 → a ≠ b → (TX4 a).2.1 ≠ (TX4 b).2.1 := by decide +kernel
theorem tyX4_ok : ∀ k, k < 2 → parseFieldDescriptor (TX4 k).2.2.1 = some (tyX4 k) := by decide +kernel
abbrev cX4_init : ByteArray := prog_6_method_1_code
def yX4_init : MethodName := ⟨RX4, "<init>", "()V"⟩
abbrev cX4_size : ByteArray := prog_6_method_2_code
def yX4_size : MethodName := ⟨RX4, "size", "()I"⟩
abbrev cX4_at : ByteArray := prog_6_method_3_code
def yX4_at : MethodName := ⟨RX4, "at", "(I)I"⟩
abbrev cX4_clear : ByteArray := prog_6_method_4_code
def yX4_clear : MethodName := ⟨RX4, "clear", "()V"⟩
abbrev cX4_insert : ByteArray := prog_6_method_5_code
def yX4_insert : MethodName := ⟨RX4, "insert", "(I)V"⟩
def RX5 : String := "NearBook$Members"
def TX5 : u_T := fun k => match k with
  | 0 => ("NearBook$Members", "numbers", "[I", true)
  | _ => ("NearBook$Members", "size", "I", false)
def tyX5 : Nat → FieldType := fun k => match k with
  | 0 => .array .int
  | _ => .int
abbrev wsX50 : List Cond := u_ws RX5 TX5 2
theorem nmX5 : ∀ a, a < 2 → ∀ b, b < 2 → a ≠ b → (TX5 a).2.1 ≠ (TX5 b).2.1 := by decide +kernel
theorem tyX5_ok : ∀ k, k < 2 → parseFieldDescriptor (TX5 k).2.2.1 = some (tyX5 k) := by decide +kernel
abbrev cX5_init : ByteArray := prog_7_method_1_code
def yX5_init : MethodName := ⟨RX5, "<init>", "()V"⟩
abbrev cX5_size : ByteArray := prog_7_method_2_code
def yX5_size : MethodName := ⟨RX5, "size", "()I"⟩
abbrev cX5_at : ByteArray := prog_7_method_3_code
def yX5_at : MethodName := ⟨RX5, "at", "(I)I"⟩
abbrev cX5_holds : ByteArray := prog_7_method_4_code
def yX5_holds : MethodName := ⟨RX5, "holds", "(I)Z"⟩
abbrev cX5_insert : ByteArray := prog_7_method_5_code
def yX5_insert : MethodName := ⟨RX5, "insert", "(I)V"⟩
abbrev cX5_remove : ByteArray := prog_7_method_6_code
def yX5_remove : MethodName := ⟨RX5, "remove", "(I)V"⟩
abbrev cX5_spotOf : ByteArray := prog_7_method_7_code
def yX5_spotOf : MethodName := ⟨RX5, "spotOf", "(I)I"⟩
def RX6 : String := "NearBook$Pieces"
def TX6 : u_T := fun k => match k with
  | 0 => ("NearBook$Pieces", "members", "LNearBook$Members;", true)
  | 1 => ("NearBook$Pieces", "distances", "LNearBook$Distances;", true)
  | _ => ("NearBook$Pieces", "lowest", "[I", true)
def tyX6 : Nat → FieldType := fun k => match k with
  | 0 => .object "NearBook$Members"
  | 1 => .object "NearBook$Distances"
  | _ => .array .int
abbrev wsX60 : List Cond := u_ws RX6 TX6 3
theorem nmX6 : ∀ a, a < 3 → ∀ b, b < 3 → a ≠ b → (TX6 a).2.1 ≠ (TX6 b).2.1 := by decide +kernel
theorem tyX6_ok : ∀ k, k < 3 → parseFieldDescriptor (TX6 k).2.2.1 = some (tyX6 k) := by decide +kernel
abbrev cX6_init : ByteArray := prog_8_method_1_code
def yX6_init : MethodName := ⟨RX6, "<init>", "(LNearBook$Members;LNearBook$Distances;)V"⟩
abbrev cX6_gather : ByteArray := prog_8_method_2_code
def yX6_gather : MethodName := ⟨RX6, "gather", "(I)V"⟩
abbrev cX6_howMany : ByteArray := prog_8_method_3_code
def yX6_howMany : MethodName := ⟨RX6, "howMany", "()I"⟩
abbrev cX6_lowestWith : ByteArray := prog_8_method_4_code
def yX6_lowestWith : MethodName := ⟨RX6, "lowestWith", "(I)I"⟩
abbrev cX6_join : ByteArray := prog_8_method_5_code
def yX6_join : MethodName := ⟨RX6, "join", "(II)V"⟩
def RX7 : String := "NearBook$Results"
def TX7 : u_T := fun k => match k with
  | 0 => ("NearBook$Results", "things", "[I", true)
  | 1 => ("NearBook$Results", "apart", "[I", true)
  | _ => ("NearBook$Results", "size", "I", false)
def tyX7 : Nat → FieldType := fun k => match k with
  | 0 => .array .int
  | 1 => .array .int
  | _ => .int
abbrev wsX70 : List Cond := u_ws RX7 TX7 3
theorem nmX7 : ∀ a, a < 3 → ∀ b, b < 3 → a ≠ b → (TX7 a).2.1 ≠ (TX7 b).2.1 := by decide +kernel
theorem tyX7_ok : ∀ k, k < 3 → parseFieldDescriptor (TX7 k).2.2.1 = some (tyX7 k) := by decide +kernel
abbrev cX7_init : ByteArray := prog_9_method_1_code
def yX7_init : MethodName := ⟨RX7, "<init>", "()V"⟩
abbrev cX7_size : ByteArray := prog_9_method_2_code
def yX7_size : MethodName := ⟨RX7, "size", "()I"⟩
abbrev cX7_thingAt : ByteArray := prog_9_method_3_code
def yX7_thingAt : MethodName := ⟨RX7, "thingAt", "(I)I"⟩
abbrev cX7_distanceAt : ByteArray := prog_9_method_4_code
def yX7_distanceAt : MethodName := ⟨RX7, "distanceAt", "(I)I"⟩
abbrev cX7_clear : ByteArray := prog_9_method_5_code
def yX7_clear : MethodName := ⟨RX7, "clear", "()V"⟩
abbrev cX7_append : ByteArray := prog_9_method_6_code
def yX7_append : MethodName := ⟨RX7, "append", "(II)V"⟩
def RX8 : String := "NearBook$Rows"
def TX8 : u_T := fun k => match k with
  | 0 => ("NearBook$Rows", "lengths", "[I", true)
  | 1 => ("NearBook$Rows", "places", "[I", true)
  | 2 => ("NearBook$Rows", "line", "[I", true)
  | _ => ("NearBook$Rows", "size", "I", false)
def tyX8 : Nat → FieldType := fun k => match k with
  | 0 => .array .int
  | 1 => .array .int
  | 2 => .array .int
  | _ => .int
abbrev wsX80 : List Cond := u_ws RX8 TX8 4
theorem nmX8 : ∀ a, a < 4 → ∀ b, b < 4 → a ≠ b → (TX8 a).2.1 ≠ (TX8 b).2.1 := by decide +kernel
theorem tyX8_ok : ∀ k, k < 4 → parseFieldDescriptor (TX8 k).2.2.1 = some (tyX8 k) := by decide +kernel
abbrev cX8_init : ByteArray := prog_10_method_1_code
def yX8_init : MethodName := ⟨RX8, "<init>", "()V"⟩
abbrev cX8_size : ByteArray := prog_10_method_2_code
def yX8_size : MethodName := ⟨RX8, "size", "()I"⟩
abbrev cX8_holds : ByteArray := prog_10_method_3_code
def yX8_holds : MethodName := ⟨RX8, "holds", "(I)Z"⟩
abbrev cX8_lengthOf : ByteArray := prog_10_method_4_code
def yX8_lengthOf : MethodName := ⟨RX8, "lengthOf", "(I)I"⟩
abbrev cX8_append : ByteArray := prog_10_method_5_code
def yX8_append : MethodName := ⟨RX8, "append", "(I)I"⟩
abbrev cX8_change : ByteArray := prog_10_method_6_code
def yX8_change : MethodName := ⟨RX8, "change", "(III)V"⟩
abbrev cX8_unlikePlaces : ByteArray := prog_10_method_7_code
def yX8_unlikePlaces : MethodName := ⟨RX8, "unlikePlaces", "(II)I"⟩
abbrev cX8_sumOfDifferences : ByteArray := prog_10_method_8_code
def yX8_sumOfDifferences : MethodName := ⟨RX8, "sumOfDifferences", "(II)I"⟩
abbrev cX8_greatestDifference : ByteArray := prog_10_method_9_code
def yX8_greatestDifference : MethodName := ⟨RX8, "greatestDifference", "(II)I"⟩
abbrev cX8_fewestEdits : ByteArray := prog_10_method_10_code
def yX8_fewestEdits : MethodName := ⟨RX8, "fewestEdits", "(II)I"⟩
abbrev cX8_valuesMissing : ByteArray := prog_10_method_11_code
def yX8_valuesMissing : MethodName := ⟨RX8, "valuesMissing", "(II)I"⟩
abbrev cX8_hasBefore : ByteArray := prog_10_method_12_code
def yX8_hasBefore : MethodName := ⟨RX8, "hasBefore", "(III)Z"⟩
abbrev cX8_difference : ByteArray := prog_10_method_13_code
def yX8_difference : MethodName := ⟨RX8, "difference", "(III)I"⟩
def RX9 : String := "NearBook$Table"
def TX9 : u_T := fun k => match k with
  | 0 => ("NearBook$Table", "told", "[I", true)
  | 1 => ("NearBook$Table", "breakers", "[I", true)
  | 2 => ("NearBook$Table", "broken", "Z", false)
  | _ => ("NearBook$Table", "checkedThings", "I", false)
def tyX9 : Nat → FieldType := fun k => match k with
  | 0 => .array .int
  | 1 => .array .int
  | 2 => .boolean
  | _ => .int
abbrev wsX90 : List Cond := u_ws RX9 TX9 4
theorem nmX9 : ∀ a, a < 4 → ∀ b, b < 4 → a ≠ b → (TX9 a).2.1 ≠ (TX9 b).2.1 := by decide +kernel
theorem tyX9_ok : ∀ k, k < 4 → parseFieldDescriptor (TX9 k).2.2.1 = some (tyX9 k) := by decide +kernel
abbrev cX9_init : ByteArray := prog_11_method_1_code
def yX9_init : MethodName := ⟨RX9, "<init>", "()V"⟩
abbrev cX9_read : ByteArray := prog_11_method_2_code
def yX9_read : MethodName := ⟨RX9, "read", "(II)I"⟩
abbrev cX9_write : ByteArray := prog_11_method_3_code
def yX9_write : MethodName := ⟨RX9, "write", "(III)V"⟩
abbrev cX9_breaker : ByteArray := prog_11_method_4_code
def yX9_breaker : MethodName := ⟨RX9, "breaker", "(I)I"⟩
abbrev cX9_lawHolds : ByteArray := prog_11_method_5_code
def yX9_lawHolds : MethodName := ⟨RX9, "lawHolds", "(I)Z"⟩
abbrev cX9_findBreakers : ByteArray := prog_11_method_6_code
def yX9_findBreakers : MethodName := ⟨RX9, "findBreakers", "(I)Z"⟩
abbrev cX9_endBeyond : ByteArray := prog_11_method_7_code
def yX9_endBeyond : MethodName := ⟨RX9, "endBeyond", "(III)I"⟩
def RX10 : String := "NearBook"
def TX10 : u_T := fun k => match k with
  | 0 => ("NearBook", "rows", "LNearBook$Rows;", true)
  | 1 => ("NearBook", "table", "LNearBook$Table;", true)
  | 2 => ("NearBook", "distances", "LNearBook$Distances;", true)
  | 3 => ("NearBook", "members", "LNearBook$Members;", true)
  | 4 => ("NearBook", "results", "LNearBook$Results;", true)
  | 5 => ("NearBook", "ranked", "LNearBook$Keys;", true)
  | 6 => ("NearBook", "links", "LNearBook$Chain;", true)
  | 7 => ("NearBook", "pieces", "LNearBook$Pieces;", true)
  | 8 => ("NearBook", "spread", "LNearBook$Centres;", true)
  | _ => ("NearBook", "search", "LNearBook$BestCentres;", true)
def tyX10 : Nat → FieldType := fun k => match k with
  | 0 => .object "NearBook$Rows"
  | 1 => .object "NearBook$Table"
  | 2 => .object "NearBook$Distances"
  | 3 => .object "NearBook$Members"
  | 4 => .object "NearBook$Results"
  | 5 => .object "NearBook$Keys"
  | 6 => .object "NearBook$Chain"
  | 7 => .object "NearBook$Pieces"
  | 8 => .object "NearBook$Centres"
  | _ => .object "NearBook$BestCentres"
abbrev wsX100 : List Cond := u_ws RX10 TX10 10
theorem nmX10 : ∀ a, a < 10 → ∀ b, b < 10 → a ≠ b → (TX10 a).2.1 ≠ (TX10 b).2.1 := by decide +kernel
theorem tyX10_ok : ∀ k, k < 10 → parseFieldDescriptor (TX10 k).2.2.1 = some (tyX10 k) := by decide +kernel
abbrev cX10_init : ByteArray := prog_1_method_1_code
def yX10_init : MethodName := ⟨RX10, "<init>", "()V"⟩
abbrev cX10_thing : ByteArray := prog_1_method_2_code
def yX10_thing : MethodName := ⟨RX10, "thing", "(I)I"⟩
abbrev cX10_value : ByteArray := prog_1_method_3_code
def yX10_value : MethodName := ⟨RX10, "value", "(III)Z"⟩
abbrev cX10_tell : ByteArray := prog_1_method_4_code
def yX10_tell : MethodName := ⟨RX10, "tell", "(III)Z"⟩
abbrev cX10_kind : ByteArray := prog_1_method_5_code
def yX10_kind : MethodName := ⟨RX10, "kind", "(I)Z"⟩
abbrev cX10_distance : ByteArray := prog_1_method_6_code
def yX10_distance : MethodName := ⟨RX10, "distance", "(II)I"⟩
abbrev cX10_law : ByteArray := prog_1_method_7_code
def yX10_law : MethodName := ⟨RX10, "law", "()I"⟩
abbrev cX10_three : ByteArray := prog_1_method_8_code
def yX10_three : MethodName := ⟨RX10, "three", "(I)I"⟩
abbrev cX10_put : ByteArray := prog_1_method_9_code
def yX10_put : MethodName := ⟨RX10, "put", "(I)Z"⟩
abbrev cX10_drop : ByteArray := prog_1_method_10_code
def yX10_drop : MethodName := ⟨RX10, "drop", "(I)Z"⟩
abbrev cX10_has : ByteArray := prog_1_method_11_code
def yX10_has : MethodName := ⟨RX10, "has", "(I)I"⟩
abbrev cX10_nearest : ByteArray := prog_1_method_12_code
def yX10_nearest : MethodName := ⟨RX10, "nearest", "(II)I"⟩
abbrev cX10_within : ByteArray := prog_1_method_13_code
def yX10_within : MethodName := ⟨RX10, "within", "(II)I"⟩
abbrev cX10_farthest : ByteArray := prog_1_method_14_code
def yX10_farthest : MethodName := ⟨RX10, "farthest", "(II)I"⟩
abbrev cX10_result : ByteArray := prog_1_method_15_code
def yX10_result : MethodName := ⟨RX10, "result", "(II)I"⟩
abbrev cX10_closest : ByteArray := prog_1_method_16_code
def yX10_closest : MethodName := ⟨RX10, "closest", "(I)I"⟩
abbrev cX10_centres : ByteArray := prog_1_method_17_code
def yX10_centres : MethodName := ⟨RX10, "centres", "(I)I"⟩
abbrev cX10_best : ByteArray := prog_1_method_18_code
def yX10_best : MethodName := ⟨RX10, "best", "(I)I"⟩
abbrev cX10_chain : ByteArray := prog_1_method_19_code
def yX10_chain : MethodName := ⟨RX10, "chain", "(I)J"⟩
abbrev cX10_pair : ByteArray := prog_1_method_20_code
def yX10_pair : MethodName := ⟨RX10, "pair", "(II)I"⟩
abbrev cX10_clusters : ByteArray := prog_1_method_21_code
def yX10_clusters : MethodName := ⟨RX10, "clusters", "(I)I"⟩
abbrev cX10_cluster : ByteArray := prog_1_method_22_code
def yX10_cluster : MethodName := ⟨RX10, "cluster", "(II)I"⟩
abbrev cX10_net : ByteArray := prog_1_method_23_code
def yX10_net : MethodName := ⟨RX10, "net", "(I)I"⟩
abbrev cX10_middle : ByteArray := prog_1_method_24_code
def yX10_middle : MethodName := ⟨RX10, "middle", "(I)J"⟩
abbrev cX10_count : ByteArray := prog_1_method_25_code
def yX10_count : MethodName := ⟨RX10, "count", "(I)I"⟩
abbrev cX10_openBook : ByteArray := prog_1_method_26_code
def yX10_openBook : MethodName := ⟨RX10, "openBook", "()Z"⟩
abbrev cX10_lengthAsked : ByteArray := prog_1_method_27_code
def yX10_lengthAsked : MethodName := ⟨RX10, "lengthAsked", "(I)I"⟩
abbrev cX10_greatestInBook : ByteArray := prog_1_method_28_code
def yX10_greatestInBook : MethodName := ⟨RX10, "greatestInBook", "()I"⟩
abbrev cX10_closestKey : ByteArray := prog_1_method_29_code
def yX10_closestKey : MethodName := ⟨RX10, "closestKey", "()I"⟩
abbrev cX10_sumFrom : ByteArray := prog_1_method_30_code
def yX10_sumFrom : MethodName := ⟨RX10, "sumFrom", "(I)I"⟩
abbrev cX10_isBeyondResults : ByteArray := prog_1_method_31_code
def yX10_isBeyondResults : MethodName := ⟨RX10, "isBeyondResults", "(II)Z"⟩
abbrev cX10_rankNearFirst : ByteArray := prog_1_method_32_code
def yX10_rankNearFirst : MethodName := ⟨RX10, "rankNearFirst", "(II)V"⟩
abbrev cX10_rankFarFirst : ByteArray := prog_1_method_33_code
def yX10_rankFarFirst : MethodName := ⟨RX10, "rankFarFirst", "(I)V"⟩
abbrev cX10_takeRanked : ByteArray := prog_1_method_34_code
def yX10_takeRanked : MethodName := ⟨RX10, "takeRanked", "(II)I"⟩
abbrev cX10_isHowMany : ByteArray := prog_1_method_35_code
def yX10_isHowMany : MethodName := ⟨RX10, "isHowMany", "(I)Z"⟩
abbrev cX10_sumOfPairs : ByteArray := prog_1_method_36_code
def yX10_sumOfPairs : MethodName := ⟨RX10, "sumOfPairs", "(LNearBook$Keys;)J"⟩
abbrev cX10_partOfPair : ByteArray := prog_1_method_37_code
def yX10_partOfPair : MethodName := ⟨RX10, "partOfPair", "(II)I"⟩
def RX11 : String := "NearBookModel"
def TX11 : u_T := fun k => match k with
  | 0 => ("NearBookModel", "things", "I", false)
  | 1 => ("NearBookModel", "kind", "I", false)
  | 2 => ("NearBookModel", "long8", "[I", true)
  | 3 => ("NearBookModel", "value", "[I", true)
  | 4 => ("NearBookModel", "told", "[I", true)
  | 5 => ("NearBookModel", "isIn", "[Z", true)
  | 6 => ("NearBookModel", "results", "I", false)
  | 7 => ("NearBookModel", "result", "[I", true)
  | 8 => ("NearBookModel", "away", "[I", true)
  | 9 => ("NearBookModel", "cost", "[I", true)
  | 10 => ("NearBookModel", "breaks", "[I", true)
  | 11 => ("NearBookModel", "isTaken", "[Z", true)
  | 12 => ("NearBookModel", "all", "[I", true)
  | 13 => ("NearBookModel", "piece", "[I", true)
  | 14 => ("NearBookModel", "pairs", "I", false)
  | 15 => ("NearBookModel", "pairLow", "[I", true)
  | _ => ("NearBookModel", "pairHigh", "[I", true)
def tyX11 : Nat → FieldType := fun k => match k with
  | 0 => .int
  | 1 => .int
  | 2 => .array .int
  | 3 => .array .int
  | 4 => .array .int
  | 5 => .array .boolean
  | 6 => .int
  | 7 => .array .int
  | 8 => .array .int
  | 9 => .array .int
  | 10 => .array .int
  | 11 => .array .boolean
  | 12 => .array .int
  | 13 => .array .int
  | 14 => .int
  | 15 => .array .int
  | _ => .array .int
abbrev wsX110 : List Cond := u_ws RX11 TX11 17
theorem nmX11 : ∀ a, a < 17 → ∀ b, b < 17 → a ≠ b → (TX11 a).2.1 ≠ (TX11 b).2.1 := by decide +kernel
theorem tyX11_ok : ∀ k, k < 17 → parseFieldDescriptor (TX11 k).2.2.1 = some (tyX11 k) := by decide +kernel
abbrev cX11_init : ByteArray := prog_13_method_1_code
def yX11_init : MethodName := ⟨RX11, "<init>", "()V"⟩
abbrev cX11_lies : ByteArray := prog_13_method_2_code
def yX11_lies : MethodName := ⟨RX11, "lies", "(III)Z"⟩
abbrev cX11_isThing : ByteArray := prog_13_method_3_code
def yX11_isThing : MethodName := ⟨RX11, "isThing", "(I)Z"⟩
abbrev cX11_thing : ByteArray := prog_13_method_4_code
def yX11_thing : MethodName := ⟨RX11, "thing", "(I)I"⟩
abbrev cX11_value : ByteArray := prog_13_method_5_code
def yX11_value : MethodName := ⟨RX11, "value", "(III)Z"⟩
abbrev cX11_tell : ByteArray := prog_13_method_6_code
def yX11_tell : MethodName := ⟨RX11, "tell", "(III)Z"⟩
abbrev cX11_kind : ByteArray := prog_13_method_7_code
def yX11_kind : MethodName := ⟨RX11, "kind", "(I)Z"⟩
abbrev cX11_size : ByteArray := prog_13_method_8_code
def yX11_size : MethodName := ⟨RX11, "size", "(I)I"⟩
abbrev cX11_unlike : ByteArray := prog_13_method_9_code
def yX11_unlike : MethodName := ⟨RX11, "unlike", "(II)I"⟩
abbrev cX11_least : ByteArray := prog_13_method_10_code
def yX11_least : MethodName := ⟨RX11, "least", "(II)I"⟩
abbrev cX11_edits : ByteArray := prog_13_method_11_code
def yX11_edits : MethodName := ⟨RX11, "edits", "(II)I"⟩
abbrev cX11_has : ByteArray := prog_13_method_12_code
def yX11_has : MethodName := ⟨RX11, "has", "(III)Z"⟩
abbrev cX11_alone : ByteArray := prog_13_method_13_code
def yX11_alone : MethodName := ⟨RX11, "alone", "(II)I"⟩
abbrev cX11_far : ByteArray := prog_13_method_14_code
def yX11_far : MethodName := ⟨RX11, "far", "(II)I"⟩
abbrev cX11_distance : ByteArray := prog_13_method_15_code
def yX11_distance : MethodName := ⟨RX11, "distance", "(II)I"⟩
abbrev cX11_holds : ByteArray := prog_13_method_16_code
def yX11_holds : MethodName := ⟨RX11, "holds", "()Z"⟩
abbrev cX11_law : ByteArray := prog_13_method_17_code
def yX11_law : MethodName := ⟨RX11, "law", "()I"⟩
abbrev cX11_three : ByteArray := prog_13_method_18_code
def yX11_three : MethodName := ⟨RX11, "three", "(I)I"⟩
abbrev cX11_put : ByteArray := prog_13_method_19_code
def yX11_put : MethodName := ⟨RX11, "put", "(I)Z"⟩
abbrev cX11_drop : ByteArray := prog_13_method_20_code
def yX11_drop : MethodName := ⟨RX11, "drop", "(I)Z"⟩
abbrev cX11_has_ : ByteArray := prog_13_method_21_code
def yX11_has_ : MethodName := ⟨RX11, "has", "(I)I"⟩
abbrev cX11_inBook : ByteArray := prog_13_method_22_code
def yX11_inBook : MethodName := ⟨RX11, "inBook", "()I"⟩
abbrev cX11_takesNone : ByteArray := prog_13_method_23_code
def yX11_takesNone : MethodName := ⟨RX11, "takesNone", "()V"⟩
abbrev cX11_gives : ByteArray := prog_13_method_24_code
def yX11_gives : MethodName := ⟨RX11, "gives", "(II)V"⟩
abbrev cX11_next : ByteArray := prog_13_method_25_code
def yX11_next : MethodName := ⟨RX11, "next", "(IZ)I"⟩
abbrev cX11_those : ByteArray := prog_13_method_26_code
def yX11_those : MethodName := ⟨RX11, "those", "(IIZI)I"⟩
abbrev cX11_nearest : ByteArray := prog_13_method_27_code
def yX11_nearest : MethodName := ⟨RX11, "nearest", "(II)I"⟩
abbrev cX11_within : ByteArray := prog_13_method_28_code
def yX11_within : MethodName := ⟨RX11, "within", "(II)I"⟩
abbrev cX11_farthest : ByteArray := prog_13_method_29_code
def yX11_farthest : MethodName := ⟨RX11, "farthest", "(II)I"⟩
abbrev cX11_result : ByteArray := prog_13_method_30_code
def yX11_result : MethodName := ⟨RX11, "result", "(II)I"⟩
abbrev cX11_closest : ByteArray := prog_13_method_31_code
def yX11_closest : MethodName := ⟨RX11, "closest", "(I)I"⟩
abbrev cX11_fromResults : ByteArray := prog_13_method_32_code
def yX11_fromResults : MethodName := ⟨RX11, "fromResults", "(I)I"⟩
abbrev cX11_radius : ByteArray := prog_13_method_33_code
def yX11_radius : MethodName := ⟨RX11, "radius", "()I"⟩
abbrev cX11_centres : ByteArray := prog_13_method_34_code
def yX11_centres : MethodName := ⟨RX11, "centres", "(I)I"⟩
abbrev cX11_radiusOf : ByteArray := prog_13_method_35_code
def yX11_radiusOf : MethodName := ⟨RX11, "radiusOf", "(III)I"⟩
abbrev cX11_best : ByteArray := prog_13_method_36_code
def yX11_best : MethodName := ⟨RX11, "best", "(I)I"⟩
abbrev cX11_joins : ByteArray := prog_13_method_37_code
def yX11_joins : MethodName := ⟨RX11, "joins", "(II)V"⟩
abbrev cX11_alonePieces : ByteArray := prog_13_method_38_code
def yX11_alonePieces : MethodName := ⟨RX11, "alonePieces", "()V"⟩
abbrev cX11_chains : ByteArray := prog_13_method_39_code
def yX11_chains : MethodName := ⟨RX11, "chains", "()V"⟩
abbrev cX11_chain : ByteArray := prog_13_method_40_code
def yX11_chain : MethodName := ⟨RX11, "chain", "(I)J"⟩
abbrev cX11_pair : ByteArray := prog_13_method_41_code
def yX11_pair : MethodName := ⟨RX11, "pair", "(II)I"⟩
abbrev cX11_pieces : ByteArray := prog_13_method_42_code
def yX11_pieces : MethodName := ⟨RX11, "pieces", "(I)V"⟩
abbrev cX11_clusters : ByteArray := prog_13_method_43_code
def yX11_clusters : MethodName := ⟨RX11, "clusters", "(I)I"⟩
abbrev cX11_cluster : ByteArray := prog_13_method_44_code
def yX11_cluster : MethodName := ⟨RX11, "cluster", "(II)I"⟩
abbrev cX11_net : ByteArray := prog_13_method_45_code
def yX11_net : MethodName := ⟨RX11, "net", "(I)I"⟩
abbrev cX11_middle : ByteArray := prog_13_method_46_code
def yX11_middle : MethodName := ⟨RX11, "middle", "(I)J"⟩
abbrev cX11_count : ByteArray := prog_13_method_47_code
def yX11_count : MethodName := ⟨RX11, "count", "(I)I"⟩
def RJ9 : String := "java/lang/Math"
def TJ9 : u_T := fun k => match k with
  | _ => ("", "", "", false)
def tyJ9 : Nat → FieldType := fun k => match k with
  | _ => .int
abbrev wsJ90 : List Cond := u_ws RJ9 TJ9 0
theorem nmJ9 : ∀ a, a < 0 → ∀ b, b < 0 → a ≠ b → (TJ9 a).2.1 ≠ (TJ9 b).2.1 := by decide +kernel
theorem tyJ9_ok : ∀ k, k < 0 → parseFieldDescriptor (TJ9 k).2.2.1 = some (tyJ9 k) := by decide +kernel
abbrev cJ9_abs_0f7a4 : ByteArray := prog_14_method_59_code
def yJ9_abs_0f7a4 : MethodName := ⟨RJ9, "abs", "(I)I"⟩
abbrev cJ9_max_7cf53 : ByteArray := prog_14_method_65_code
def yJ9_max_7cf53 : MethodName := ⟨RJ9, "max", "(II)I"⟩
abbrev cJ9_min_7cf53 : ByteArray := prog_14_method_69_code
def yJ9_min_7cf53 : MethodName := ⟨RJ9, "min", "(II)I"⟩
def RJ10 : String := "java/lang/System"
def TJ10 : u_T := fun k => match k with
  | _ => ("", "", "", false)
def tyJ10 : Nat → FieldType := fun k => match k with
  | _ => .int
abbrev wsJ100 : List Cond := u_ws RJ10 TJ10 0
theorem nmJ10 : ∀ a, a < 0 → ∀ b, b < 0 → a ≠ b → (TJ10 a).2.1 ≠ (TJ10 b).2.1 := by decide +kernel
theorem tyJ10_ok : ∀ k, k < 0 → parseFieldDescriptor (TJ10 k).2.2.1 = some (tyJ10 k) := by decide +kernel
def RJ7 : String := "java/util/Arrays"
def TJ7 : u_T := fun k => match k with
  | _ => ("", "", "", false)
def tyJ7 : Nat → FieldType := fun k => match k with
  | _ => .int
abbrev wsJ70 : List Cond := u_ws RJ7 TJ7 0
theorem nmJ7 : ∀ a, a < 0 → ∀ b, b < 0 → a ≠ b → (TJ7 a).2.1 ≠ (TJ7 b).2.1 := by decide +kernel
theorem tyJ7_ok : ∀ k, k < 0 → parseFieldDescriptor (TJ7 k).2.2.1 = some (tyJ7 k) := by decide +kernel
abbrev cJ7_fill_53178 : ByteArray := prog_16_method_103_code
def yJ7_fill_53178 : MethodName := ⟨RJ7, "fill", "([II)V"⟩
def RL : String := "NearBookLaw"
abbrev cL_law : ByteArray := code
abbrev vwCl : List vw_C := [(RX0, TX0, 7), (RX1, TX1, 3), (RX2, TX2, 4), (RX3, TX3, 4), (RX4, TX4, 2), (RX5, TX5, 2), (RX6, TX6, 3), (RX7, TX7, 3), (RX8, TX8, 4), (RX9, TX9, 4), (RX10, TX10, 10), (RX11, TX11, 17)]
end
section
theorem dX0_init_0 : decode cX0_init 0 = .ok (.aload_n 0, 1) := by decide +kernel
theorem dX0_init_1 : decode cX0_init 1 = .ok (.invokespecial 3, 3) := by decide +kernel
theorem dX0_init_4 : decode cX0_init 4 = .ok (.aload_n 0, 1) := by decide +kernel
theorem dX0_init_5 : decode cX0_init 5 = .ok (.sipush 180, 3) := by decide +kernel
theorem dX0_init_8 : decode cX0_init 8 = .ok (.newarray .int, 2) := by decide +kernel
theorem dX0_init_10 : decode cX0_init 10 = .ok (.putfield 9, 3) := by decide +kernel
theorem dX0_init_13 : decode cX0_init 13 = .ok (.aload_n 0, 1) := by decide +kernel
theorem dX0_init_14 : decode cX0_init 14 = .ok (.iconst 3, 1) := by decide +kernel
theorem dX0_init_15 : decode cX0_init 15 = .ok (.newarray .int, 2) := by decide +kernel
theorem dX0_init_17 : decode cX0_init 17 = .ok (.putfield 15, 3) := by decide +kernel
theorem dX0_init_20 : decode cX0_init 20 = .ok (.aload_n 0, 1) := by decide +kernel
theorem dX0_init_21 : decode cX0_init 21 = .ok (.iconst 3, 1) := by decide +kernel
theorem dX0_init_22 : decode cX0_init 22 = .ok (.newarray .int, 2) := by decide +kernel
theorem dX0_init_24 : decode cX0_init 24 = .ok (.putfield 18, 3) := by decide +kernel
theorem dX0_init_27 : decode cX0_init 27 = .ok (.aload_n 0, 1) := by decide +kernel
theorem dX0_init_28 : decode cX0_init 28 = .ok (.iconst 0, 1) := by decide +kernel
theorem dX0_init_29 : decode cX0_init 29 = .ok (.putfield 21, 3) := by decide +kernel
theorem dX0_init_32 : decode cX0_init 32 = .ok (.aload_n 0, 1) := by decide +kernel
theorem dX0_init_33 : decode cX0_init 33 = .ok (.iconst 0, 1) := by decide +kernel
theorem dX0_init_34 : decode cX0_init 34 = .ok (.putfield 25, 3) := by decide +kernel
theorem dX0_init_37 : decode cX0_init 37 = .ok (.aload_n 0, 1) := by decide +kernel
theorem dX0_init_38 : decode cX0_init 38 = .ok (.aload_n 1, 1) := by decide +kernel
theorem dX0_init_39 : decode cX0_init 39 = .ok (.putfield 28, 3) := by decide +kernel
theorem dX0_init_42 : decode cX0_init 42 = .ok (.aload_n 0, 1) := by decide +kernel
theorem dX0_init_43 : decode cX0_init 43 = .ok (.aload_n 2, 1) := by decide +kernel
theorem dX0_init_44 : decode cX0_init 44 = .ok (.putfield 32, 3) := by decide +kernel
theorem dX0_init_47 : decode cX0_init 47 = .ok (.return_, 1) := by decide +kernel
theorem dX0_take_0 : decode cX0_take 0 = .ok (.aload_n 0, 1) := by decide +kernel
theorem dX0_take_1 : decode cX0_take 1 = .ok (.getfield 9, 3) := by decide +kernel
theorem dX0_take_4 : decode cX0_take 4 = .ok (.ldc 36, 2) := by decide +kernel
theorem dX0_take_6 : decode cX0_take 6 = .ok (.invokestatic 37, 3) := by decide +kernel
theorem dX0_take_9 : decode cX0_take 9 = .ok (.aload_n 0, 1) := by decide +kernel
theorem dX0_take_10 : decode cX0_take 10 = .ok (.ldc 43, 2) := by decide +kernel
theorem dX0_take_12 : decode cX0_take 12 = .ok (.putfield 21, 3) := by decide +kernel
theorem dX0_take_15 : decode cX0_take 15 = .ok (.aload_n 0, 1) := by decide +kernel
theorem dX0_take_16 : decode cX0_take 16 = .ok (.iconst 0, 1) := by decide +kernel
theorem dX0_take_17 : decode cX0_take 17 = .ok (.putfield 25, 3) := by decide +kernel
theorem dX0_take_20 : decode cX0_take 20 = .ok (.iload_n 1, 1) := by decide +kernel
theorem dX0_take_21 : decode cX0_take 21 = .ok (.iconst 1, 1) := by decide +kernel
theorem dX0_take_22 : decode cX0_take 22 = .ok (.if_icmp .ne 12, 3) := by decide +kernel
theorem dX0_take_25 : decode cX0_take 25 = .ok (.aload_n 0, 1) := by decide +kernel
theorem dX0_take_26 : decode cX0_take 26 = .ok (.iconst 0, 1) := by decide +kernel
theorem dX0_take_27 : decode cX0_take 27 = .ok (.iconst 0, 1) := by decide +kernel
theorem dX0_take_28 : decode cX0_take 28 = .ok (.invokevirtual 44, 3) := by decide +kernel
theorem dX0_take_31 : decode cX0_take 31 = .ok (.goto 19, 3) := by decide +kernel
theorem dX0_take_34 : decode cX0_take 34 = .ok (.iload_n 1, 1) := by decide +kernel
theorem dX0_take_35 : decode cX0_take 35 = .ok (.iconst 2, 1) := by decide +kernel
theorem dX0_take_36 : decode cX0_take 36 = .ok (.if_icmp .ne 10, 3) := by decide +kernel
theorem dX0_take_39 : decode cX0_take 39 = .ok (.aload_n 0, 1) := by decide +kernel
theorem dX0_take_40 : decode cX0_take 40 = .ok (.invokevirtual 48, 3) := by decide +kernel
theorem dX0_take_43 : decode cX0_take 43 = .ok (.goto 7, 3) := by decide +kernel
theorem dX0_take_46 : decode cX0_take 46 = .ok (.aload_n 0, 1) := by decide +kernel
theorem dX0_take_47 : decode cX0_take 47 = .ok (.invokevirtual 51, 3) := by decide +kernel
theorem dX0_take_50 : decode cX0_take 50 = .ok (.aload_n 2, 1) := by decide +kernel
theorem dX0_take_51 : decode cX0_take 51 = .ok (.invokevirtual 54, 3) := by decide +kernel
theorem dX0_take_54 : decode cX0_take 54 = .ok (.iconst 0, 1) := by decide +kernel
theorem dX0_take_55 : decode cX0_take 55 = .ok (.istore_n 3, 1) := by decide +kernel
theorem dX0_take_56 : decode cX0_take 56 = .ok (.iload_n 3, 1) := by decide +kernel
theorem dX0_take_57 : decode cX0_take 57 = .ok (.iload_n 1, 1) := by decide +kernel
theorem dX0_take_58 : decode cX0_take 58 = .ok (.if_icmp .ge 20, 3) := by decide +kernel
theorem dX0_take_61 : decode cX0_take 61 = .ok (.aload_n 2, 1) := by decide +kernel
theorem dX0_take_62 : decode cX0_take 62 = .ok (.aload_n 0, 1) := by decide +kernel
theorem dX0_take_63 : decode cX0_take 63 = .ok (.getfield 18, 3) := by decide +kernel
theorem dX0_take_66 : decode cX0_take 66 = .ok (.iload_n 3, 1) := by decide +kernel
theorem dX0_take_67 : decode cX0_take 67 = .ok (.iaload, 1) := by decide +kernel
theorem dX0_take_68 : decode cX0_take 68 = .ok (.iconst 0, 1) := by decide +kernel
theorem dX0_take_69 : decode cX0_take 69 = .ok (.invokevirtual 59, 3) := by decide +kernel
theorem dX0_take_72 : decode cX0_take 72 = .ok (.iinc 3 1, 3) := by decide +kernel
theorem dX0_take_75 : decode cX0_take 75 = .ok (.goto (-19), 3) := by decide +kernel
theorem dX0_take_78 : decode cX0_take 78 = .ok (.aload_n 0, 1) := by decide +kernel
theorem dX0_take_79 : decode cX0_take 79 = .ok (.getfield 21, 3) := by decide +kernel
theorem dX0_take_82 : decode cX0_take 82 = .ok (.ireturn, 1) := by decide +kernel
theorem dX0_tryTwos_0 : decode cX0_tryTwos 0 = .ok (.iconst 0, 1) := by decide +kernel
theorem dX0_tryTwos_1 : decode cX0_tryTwos 1 = .ok (.istore_n 1, 1) := by decide +kernel
theorem dX0_tryTwos_2 : decode cX0_tryTwos 2 = .ok (.iload_n 1, 1) := by decide +kernel
theorem dX0_tryTwos_3 : decode cX0_tryTwos 3 = .ok (.aload_n 0, 1) := by decide +kernel
theorem dX0_tryTwos_4 : decode cX0_tryTwos 4 = .ok (.getfield 28, 3) := by decide +kernel
theorem dX0_tryTwos_7 : decode cX0_tryTwos 7 = .ok (.invokevirtual 62, 3) := by decide +kernel
theorem dX0_tryTwos_10 : decode cX0_tryTwos 10 = .ok (.if_icmp .ge 23, 3) := by decide +kernel
theorem dX0_tryTwos_13 : decode cX0_tryTwos 13 = .ok (.aload_n 0, 1) := by decide +kernel
theorem dX0_tryTwos_14 : decode cX0_tryTwos 14 = .ok (.iconst 0, 1) := by decide +kernel
theorem dX0_tryTwos_15 : decode cX0_tryTwos 15 = .ok (.iload_n 1, 1) := by decide +kernel
theorem dX0_tryTwos_16 : decode cX0_tryTwos 16 = .ok (.invokevirtual 68, 3) := by decide +kernel
theorem dX0_tryTwos_19 : decode cX0_tryTwos 19 = .ok (.aload_n 0, 1) := by decide +kernel
theorem dX0_tryTwos_20 : decode cX0_tryTwos 20 = .ok (.iconst 1, 1) := by decide +kernel
theorem dX0_tryTwos_21 : decode cX0_tryTwos 21 = .ok (.iload_n 1, 1) := by decide +kernel
theorem dX0_tryTwos_22 : decode cX0_tryTwos 22 = .ok (.iconst 1, 1) := by decide +kernel
theorem dX0_tryTwos_23 : decode cX0_tryTwos 23 = .ok (.iadd, 1) := by decide +kernel
theorem dX0_tryTwos_24 : decode cX0_tryTwos 24 = .ok (.invokevirtual 44, 3) := by decide +kernel
theorem dX0_tryTwos_27 : decode cX0_tryTwos 27 = .ok (.iinc 1 1, 3) := by decide +kernel
theorem dX0_tryTwos_30 : decode cX0_tryTwos 30 = .ok (.goto (-28), 3) := by decide +kernel
theorem dX0_tryTwos_33 : decode cX0_tryTwos 33 = .ok (.return_, 1) := by decide +kernel
theorem dX0_tryThrees_0 : decode cX0_tryThrees 0 = .ok (.iconst 0, 1) := by decide +kernel
theorem dX0_tryThrees_1 : decode cX0_tryThrees 1 = .ok (.istore_n 1, 1) := by decide +kernel
theorem dX0_tryThrees_2 : decode cX0_tryThrees 2 = .ok (.iload_n 1, 1) := by decide +kernel
theorem dX0_tryThrees_3 : decode cX0_tryThrees 3 = .ok (.aload_n 0, 1) := by decide +kernel
theorem dX0_tryThrees_4 : decode cX0_tryThrees 4 = .ok (.getfield 28, 3) := by decide +kernel
theorem dX0_tryThrees_7 : decode cX0_tryThrees 7 = .ok (.invokevirtual 62, 3) := by decide +kernel
theorem dX0_tryThrees_10 : decode cX0_tryThrees 10 = .ok (.if_icmp .ge 50, 3) := by decide +kernel
theorem dX0_tryThrees_13 : decode cX0_tryThrees 13 = .ok (.aload_n 0, 1) := by decide +kernel
theorem dX0_tryThrees_14 : decode cX0_tryThrees 14 = .ok (.iconst 0, 1) := by decide +kernel
theorem dX0_tryThrees_15 : decode cX0_tryThrees 15 = .ok (.iload_n 1, 1) := by decide +kernel
theorem dX0_tryThrees_16 : decode cX0_tryThrees 16 = .ok (.invokevirtual 68, 3) := by decide +kernel
theorem dX0_tryThrees_19 : decode cX0_tryThrees 19 = .ok (.iload_n 1, 1) := by decide +kernel
theorem dX0_tryThrees_20 : decode cX0_tryThrees 20 = .ok (.iconst 1, 1) := by decide +kernel
theorem dX0_tryThrees_21 : decode cX0_tryThrees 21 = .ok (.iadd, 1) := by decide +kernel
theorem dX0_tryThrees_22 : decode cX0_tryThrees 22 = .ok (.istore_n 2, 1) := by decide +kernel
theorem dX0_tryThrees_23 : decode cX0_tryThrees 23 = .ok (.iload_n 2, 1) := by decide +kernel
theorem dX0_tryThrees_24 : decode cX0_tryThrees 24 = .ok (.aload_n 0, 1) := by decide +kernel
theorem dX0_tryThrees_25 : decode cX0_tryThrees 25 = .ok (.getfield 28, 3) := by decide +kernel
theorem dX0_tryThrees_28 : decode cX0_tryThrees 28 = .ok (.invokevirtual 62, 3) := by decide +kernel
theorem dX0_tryThrees_31 : decode cX0_tryThrees 31 = .ok (.if_icmp .ge 23, 3) := by decide +kernel
theorem dX0_tryThrees_34 : decode cX0_tryThrees 34 = .ok (.aload_n 0, 1) := by decide +kernel
theorem dX0_tryThrees_35 : decode cX0_tryThrees 35 = .ok (.iconst 1, 1) := by decide +kernel
theorem dX0_tryThrees_36 : decode cX0_tryThrees 36 = .ok (.iload_n 2, 1) := by decide +kernel
theorem dX0_tryThrees_37 : decode cX0_tryThrees 37 = .ok (.invokevirtual 68, 3) := by decide +kernel
theorem dX0_tryThrees_40 : decode cX0_tryThrees 40 = .ok (.aload_n 0, 1) := by decide +kernel
theorem dX0_tryThrees_41 : decode cX0_tryThrees 41 = .ok (.iconst 2, 1) := by decide +kernel
theorem dX0_tryThrees_42 : decode cX0_tryThrees 42 = .ok (.iload_n 2, 1) := by decide +kernel
theorem dX0_tryThrees_43 : decode cX0_tryThrees 43 = .ok (.iconst 1, 1) := by decide +kernel
theorem dX0_tryThrees_44 : decode cX0_tryThrees 44 = .ok (.iadd, 1) := by decide +kernel
theorem dX0_tryThrees_45 : decode cX0_tryThrees 45 = .ok (.invokevirtual 44, 3) := by decide +kernel
theorem dX0_tryThrees_48 : decode cX0_tryThrees 48 = .ok (.iinc 2 1, 3) := by decide +kernel
theorem dX0_tryThrees_51 : decode cX0_tryThrees 51 = .ok (.goto (-28), 3) := by decide +kernel
theorem dX0_tryThrees_54 : decode cX0_tryThrees 54 = .ok (.iinc 1 1, 3) := by decide +kernel
theorem dX0_tryThrees_57 : decode cX0_tryThrees 57 = .ok (.goto (-55), 3) := by decide +kernel
theorem dX0_tryThrees_60 : decode cX0_tryThrees 60 = .ok (.return_, 1) := by decide +kernel
theorem dX0_tryLast_0 : decode cX0_tryLast 0 = .ok (.iload_n 2, 1) := by decide +kernel
theorem dX0_tryLast_1 : decode cX0_tryLast 1 = .ok (.istore_n 3, 1) := by decide +kernel
theorem dX0_tryLast_2 : decode cX0_tryLast 2 = .ok (.iload_n 3, 1) := by decide +kernel
theorem dX0_tryLast_3 : decode cX0_tryLast 3 = .ok (.aload_n 0, 1) := by decide +kernel
theorem dX0_tryLast_4 : decode cX0_tryLast 4 = .ok (.getfield 28, 3) := by decide +kernel
theorem dX0_tryLast_7 : decode cX0_tryLast 7 = .ok (.invokevirtual 62, 3) := by decide +kernel
theorem dX0_tryLast_10 : decode cX0_tryLast 10 = .ok (.if_icmp .ge 59, 3) := by decide +kernel
theorem dX0_tryLast_13 : decode cX0_tryLast 13 = .ok (.aload_n 0, 1) := by decide +kernel
theorem dX0_tryLast_14 : decode cX0_tryLast 14 = .ok (.getfield 15, 3) := by decide +kernel
theorem dX0_tryLast_17 : decode cX0_tryLast 17 = .ok (.iload_n 1, 1) := by decide +kernel
theorem dX0_tryLast_18 : decode cX0_tryLast 18 = .ok (.aload_n 0, 1) := by decide +kernel
theorem dX0_tryLast_19 : decode cX0_tryLast 19 = .ok (.getfield 28, 3) := by decide +kernel
theorem dX0_tryLast_22 : decode cX0_tryLast 22 = .ok (.iload_n 3, 1) := by decide +kernel
theorem dX0_tryLast_23 : decode cX0_tryLast 23 = .ok (.invokevirtual 71, 3) := by decide +kernel
theorem dX0_tryLast_26 : decode cX0_tryLast 26 = .ok (.iastore, 1) := by decide +kernel
theorem dX0_tryLast_27 : decode cX0_tryLast 27 = .ok (.aload_n 0, 1) := by decide +kernel
theorem dX0_tryLast_28 : decode cX0_tryLast 28 = .ok (.iload_n 1, 1) := by decide +kernel
theorem dX0_tryLast_29 : decode cX0_tryLast 29 = .ok (.invokevirtual 75, 3) := by decide +kernel
theorem dX0_tryLast_32 : decode cX0_tryLast 32 = .ok (.istore 4, 2) := by decide +kernel
theorem dX0_tryLast_34 : decode cX0_tryLast 34 = .ok (.iload 4, 2) := by decide +kernel
theorem dX0_tryLast_36 : decode cX0_tryLast 36 = .ok (.aload_n 0, 1) := by decide +kernel
theorem dX0_tryLast_37 : decode cX0_tryLast 37 = .ok (.getfield 21, 3) := by decide +kernel
theorem dX0_tryLast_40 : decode cX0_tryLast 40 = .ok (.if_icmp .ge 23, 3) := by decide +kernel
theorem dX0_tryLast_43 : decode cX0_tryLast 43 = .ok (.aload_n 0, 1) := by decide +kernel
theorem dX0_tryLast_44 : decode cX0_tryLast 44 = .ok (.iload 4, 2) := by decide +kernel
theorem dX0_tryLast_46 : decode cX0_tryLast 46 = .ok (.putfield 21, 3) := by decide +kernel
theorem dX0_tryLast_49 : decode cX0_tryLast 49 = .ok (.aload_n 0, 1) := by decide +kernel
theorem dX0_tryLast_50 : decode cX0_tryLast 50 = .ok (.getfield 15, 3) := by decide +kernel
theorem dX0_tryLast_53 : decode cX0_tryLast 53 = .ok (.iconst 0, 1) := by decide +kernel
theorem dX0_tryLast_54 : decode cX0_tryLast 54 = .ok (.aload_n 0, 1) := by decide +kernel
theorem dX0_tryLast_55 : decode cX0_tryLast 55 = .ok (.getfield 18, 3) := by decide +kernel
theorem dX0_tryLast_58 : decode cX0_tryLast 58 = .ok (.iconst 0, 1) := by decide +kernel
theorem dX0_tryLast_59 : decode cX0_tryLast 59 = .ok (.iconst 3, 1) := by decide +kernel
theorem dX0_tryLast_60 : decode cX0_tryLast 60 = .ok (.invokestatic 78, 3) := by decide +kernel
theorem dX0_tryLast_63 : decode cX0_tryLast 63 = .ok (.iinc 3 1, 3) := by decide +kernel
theorem dX0_tryLast_66 : decode cX0_tryLast 66 = .ok (.goto (-64), 3) := by decide +kernel
theorem dX0_tryLast_69 : decode cX0_tryLast 69 = .ok (.return_, 1) := by decide +kernel
theorem dX0_pick_0 : decode cX0_pick 0 = .ok (.aload_n 0, 1) := by decide +kernel
theorem dX0_pick_1 : decode cX0_pick 1 = .ok (.getfield 15, 3) := by decide +kernel
theorem dX0_pick_4 : decode cX0_pick 4 = .ok (.iload_n 1, 1) := by decide +kernel
theorem dX0_pick_5 : decode cX0_pick 5 = .ok (.aload_n 0, 1) := by decide +kernel
theorem dX0_pick_6 : decode cX0_pick 6 = .ok (.getfield 28, 3) := by decide +kernel
theorem dX0_pick_9 : decode cX0_pick 9 = .ok (.iload_n 2, 1) := by decide +kernel
theorem dX0_pick_10 : decode cX0_pick 10 = .ok (.invokevirtual 71, 3) := by decide +kernel
theorem dX0_pick_13 : decode cX0_pick 13 = .ok (.iastore, 1) := by decide +kernel
theorem dX0_pick_14 : decode cX0_pick 14 = .ok (.iload_n 1, 1) := by decide +kernel
theorem dX0_pick_15 : decode cX0_pick 15 = .ok (.iconst 1, 1) := by decide +kernel
theorem dX0_pick_16 : decode cX0_pick 16 = .ok (.iadd, 1) := by decide +kernel
theorem dX0_pick_17 : decode cX0_pick 17 = .ok (.bipush 60, 2) := by decide +kernel
theorem dX0_pick_19 : decode cX0_pick 19 = .ok (.imul, 1) := by decide +kernel
theorem dX0_pick_20 : decode cX0_pick 20 = .ok (.istore_n 3, 1) := by decide +kernel
theorem dX0_pick_21 : decode cX0_pick 21 = .ok (.iconst 0, 1) := by decide +kernel
theorem dX0_pick_22 : decode cX0_pick 22 = .ok (.istore 4, 2) := by decide +kernel
theorem dX0_pick_24 : decode cX0_pick 24 = .ok (.iload 4, 2) := by decide +kernel
theorem dX0_pick_26 : decode cX0_pick 26 = .ok (.aload_n 0, 1) := by decide +kernel
theorem dX0_pick_27 : decode cX0_pick 27 = .ok (.getfield 28, 3) := by decide +kernel
theorem dX0_pick_30 : decode cX0_pick 30 = .ok (.invokevirtual 62, 3) := by decide +kernel
theorem dX0_pick_33 : decode cX0_pick 33 = .ok (.if_icmp .ge 25, 3) := by decide +kernel
theorem dX0_pick_36 : decode cX0_pick 36 = .ok (.aload_n 0, 1) := by decide +kernel
theorem dX0_pick_37 : decode cX0_pick 37 = .ok (.getfield 9, 3) := by decide +kernel
theorem dX0_pick_40 : decode cX0_pick 40 = .ok (.iload_n 3, 1) := by decide +kernel
theorem dX0_pick_41 : decode cX0_pick 41 = .ok (.iload 4, 2) := by decide +kernel
theorem dX0_pick_43 : decode cX0_pick 43 = .ok (.iadd, 1) := by decide +kernel
theorem dX0_pick_44 : decode cX0_pick 44 = .ok (.aload_n 0, 1) := by decide +kernel
theorem dX0_pick_45 : decode cX0_pick 45 = .ok (.iload_n 1, 1) := by decide +kernel
theorem dX0_pick_46 : decode cX0_pick 46 = .ok (.iload 4, 2) := by decide +kernel
theorem dX0_pick_48 : decode cX0_pick 48 = .ok (.invokevirtual 84, 3) := by decide +kernel
theorem dX0_pick_51 : decode cX0_pick 51 = .ok (.iastore, 1) := by decide +kernel
theorem dX0_pick_52 : decode cX0_pick 52 = .ok (.iinc 4 1, 3) := by decide +kernel
theorem dX0_pick_55 : decode cX0_pick 55 = .ok (.goto (-31), 3) := by decide +kernel
theorem dX0_pick_58 : decode cX0_pick 58 = .ok (.return_, 1) := by decide +kernel
theorem dX0_reachOf_0 : decode cX0_reachOf 0 = .ok (.aload_n 0, 1) := by decide +kernel
theorem dX0_reachOf_1 : decode cX0_reachOf 1 = .ok (.iload_n 1, 1) := by decide +kernel
theorem dX0_reachOf_2 : decode cX0_reachOf 2 = .ok (.aload_n 0, 1) := by decide +kernel
theorem dX0_reachOf_3 : decode cX0_reachOf 3 = .ok (.getfield 25, 3) := by decide +kernel
theorem dX0_reachOf_6 : decode cX0_reachOf 6 = .ok (.invokevirtual 84, 3) := by decide +kernel
theorem dX0_reachOf_9 : decode cX0_reachOf 9 = .ok (.istore_n 2, 1) := by decide +kernel
theorem dX0_reachOf_10 : decode cX0_reachOf 10 = .ok (.iconst 0, 1) := by decide +kernel
theorem dX0_reachOf_11 : decode cX0_reachOf 11 = .ok (.istore_n 3, 1) := by decide +kernel
theorem dX0_reachOf_12 : decode cX0_reachOf 12 = .ok (.iload_n 3, 1) := by decide +kernel
theorem dX0_reachOf_13 : decode cX0_reachOf 13 = .ok (.aload_n 0, 1) := by decide +kernel
theorem dX0_reachOf_14 : decode cX0_reachOf 14 = .ok (.getfield 28, 3) := by decide +kernel
theorem dX0_reachOf_17 : decode cX0_reachOf 17 = .ok (.invokevirtual 62, 3) := by decide +kernel
theorem dX0_reachOf_20 : decode cX0_reachOf 20 = .ok (.if_icmp .ge 39, 3) := by decide +kernel
theorem dX0_reachOf_23 : decode cX0_reachOf 23 = .ok (.iload_n 2, 1) := by decide +kernel
theorem dX0_reachOf_24 : decode cX0_reachOf 24 = .ok (.aload_n 0, 1) := by decide +kernel
theorem dX0_reachOf_25 : decode cX0_reachOf 25 = .ok (.getfield 21, 3) := by decide +kernel
theorem dX0_reachOf_28 : decode cX0_reachOf 28 = .ok (.if_icmp .ge 31, 3) := by decide +kernel
theorem dX0_reachOf_31 : decode cX0_reachOf 31 = .ok (.aload_n 0, 1) := by decide +kernel
theorem dX0_reachOf_32 : decode cX0_reachOf 32 = .ok (.iload_n 1, 1) := by decide +kernel
theorem dX0_reachOf_33 : decode cX0_reachOf 33 = .ok (.iload_n 3, 1) := by decide +kernel
theorem dX0_reachOf_34 : decode cX0_reachOf 34 = .ok (.invokevirtual 84, 3) := by decide +kernel
theorem dX0_reachOf_37 : decode cX0_reachOf 37 = .ok (.istore 4, 2) := by decide +kernel
theorem dX0_reachOf_39 : decode cX0_reachOf 39 = .ok (.iload 4, 2) := by decide +kernel
theorem dX0_reachOf_41 : decode cX0_reachOf 41 = .ok (.iload_n 2, 1) := by decide +kernel
theorem dX0_reachOf_42 : decode cX0_reachOf 42 = .ok (.if_icmp .le 11, 3) := by decide +kernel
theorem dX0_reachOf_45 : decode cX0_reachOf 45 = .ok (.iload 4, 2) := by decide +kernel
theorem dX0_reachOf_47 : decode cX0_reachOf 47 = .ok (.istore_n 2, 1) := by decide +kernel
theorem dX0_reachOf_48 : decode cX0_reachOf 48 = .ok (.aload_n 0, 1) := by decide +kernel
theorem dX0_reachOf_49 : decode cX0_reachOf 49 = .ok (.iload_n 3, 1) := by decide +kernel
theorem dX0_reachOf_50 : decode cX0_reachOf 50 = .ok (.putfield 25, 3) := by decide +kernel
theorem dX0_reachOf_53 : decode cX0_reachOf 53 = .ok (.iinc 3 1, 3) := by decide +kernel
theorem dX0_reachOf_56 : decode cX0_reachOf 56 = .ok (.goto (-44), 3) := by decide +kernel
theorem dX0_reachOf_59 : decode cX0_reachOf 59 = .ok (.iload_n 2, 1) := by decide +kernel
theorem dX0_reachOf_60 : decode cX0_reachOf 60 = .ok (.ireturn, 1) := by decide +kernel
theorem dX0_gapWith_0 : decode cX0_gapWith 0 = .ok (.aload_n 0, 1) := by decide +kernel
theorem dX0_gapWith_1 : decode cX0_gapWith 1 = .ok (.getfield 9, 3) := by decide +kernel
theorem dX0_gapWith_4 : decode cX0_gapWith 4 = .ok (.iload_n 1, 1) := by decide +kernel
theorem dX0_gapWith_5 : decode cX0_gapWith 5 = .ok (.bipush 60, 2) := by decide +kernel
theorem dX0_gapWith_7 : decode cX0_gapWith 7 = .ok (.imul, 1) := by decide +kernel
theorem dX0_gapWith_8 : decode cX0_gapWith 8 = .ok (.iload_n 2, 1) := by decide +kernel
theorem dX0_gapWith_9 : decode cX0_gapWith 9 = .ok (.iadd, 1) := by decide +kernel
theorem dX0_gapWith_10 : decode cX0_gapWith 10 = .ok (.iaload, 1) := by decide +kernel
theorem dX0_gapWith_11 : decode cX0_gapWith 11 = .ok (.istore_n 3, 1) := by decide +kernel
theorem dX0_gapWith_12 : decode cX0_gapWith 12 = .ok (.aload_n 0, 1) := by decide +kernel
theorem dX0_gapWith_13 : decode cX0_gapWith 13 = .ok (.getfield 32, 3) := by decide +kernel
theorem dX0_gapWith_16 : decode cX0_gapWith 16 = .ok (.aload_n 0, 1) := by decide +kernel
theorem dX0_gapWith_17 : decode cX0_gapWith 17 = .ok (.getfield 15, 3) := by decide +kernel
theorem dX0_gapWith_20 : decode cX0_gapWith 20 = .ok (.iload_n 1, 1) := by decide +kernel
theorem dX0_gapWith_21 : decode cX0_gapWith 21 = .ok (.iaload, 1) := by decide +kernel
theorem dX0_gapWith_22 : decode cX0_gapWith 22 = .ok (.aload_n 0, 1) := by decide +kernel
theorem dX0_gapWith_23 : decode cX0_gapWith 23 = .ok (.getfield 28, 3) := by decide +kernel
theorem dX0_gapWith_26 : decode cX0_gapWith 26 = .ok (.iload_n 2, 1) := by decide +kernel
theorem dX0_gapWith_27 : decode cX0_gapWith 27 = .ok (.invokevirtual 71, 3) := by decide +kernel
theorem dX0_gapWith_30 : decode cX0_gapWith 30 = .ok (.invokevirtual 88, 3) := by decide +kernel
theorem dX0_gapWith_33 : decode cX0_gapWith 33 = .ok (.istore 4, 2) := by decide +kernel
theorem dX0_gapWith_35 : decode cX0_gapWith 35 = .ok (.iload 4, 2) := by decide +kernel
theorem dX0_gapWith_37 : decode cX0_gapWith 37 = .ok (.iload_n 3, 1) := by decide +kernel
theorem dX0_gapWith_38 : decode cX0_gapWith 38 = .ok (.if_icmp .ge 8, 3) := by decide +kernel
theorem dX0_gapWith_41 : decode cX0_gapWith 41 = .ok (.iload 4, 2) := by decide +kernel
theorem dX0_gapWith_43 : decode cX0_gapWith 43 = .ok (.goto 4, 3) := by decide +kernel
theorem dX0_gapWith_46 : decode cX0_gapWith 46 = .ok (.iload_n 3, 1) := by decide +kernel
theorem dX0_gapWith_47 : decode cX0_gapWith 47 = .ok (.ireturn, 1) := by decide +kernel
theorem dX1_init_0 : decode cX1_init 0 = .ok (.aload_n 0, 1) := by decide +kernel
theorem dX1_init_1 : decode cX1_init 1 = .ok (.invokespecial 3, 3) := by decide +kernel
theorem dX1_init_4 : decode cX1_init 4 = .ok (.aload_n 0, 1) := by decide +kernel
theorem dX1_init_5 : decode cX1_init 5 = .ok (.bipush 60, 2) := by decide +kernel
theorem dX1_init_7 : decode cX1_init 7 = .ok (.newarray .int, 2) := by decide +kernel
theorem dX1_init_9 : decode cX1_init 9 = .ok (.putfield 9, 3) := by decide +kernel
theorem dX1_init_12 : decode cX1_init 12 = .ok (.aload_n 0, 1) := by decide +kernel
theorem dX1_init_13 : decode cX1_init 13 = .ok (.aload_n 1, 1) := by decide +kernel
theorem dX1_init_14 : decode cX1_init 14 = .ok (.putfield 15, 3) := by decide +kernel
theorem dX1_init_17 : decode cX1_init 17 = .ok (.aload_n 0, 1) := by decide +kernel
theorem dX1_init_18 : decode cX1_init 18 = .ok (.aload_n 2, 1) := by decide +kernel
theorem dX1_init_19 : decode cX1_init 19 = .ok (.putfield 19, 3) := by decide +kernel
theorem dX1_init_22 : decode cX1_init 22 = .ok (.return_, 1) := by decide +kernel
theorem dX1_take_0 : decode cX1_take 0 = .ok (.aload_n 2, 1) := by decide +kernel
theorem dX1_take_1 : decode cX1_take 1 = .ok (.invokevirtual 23, 3) := by decide +kernel
theorem dX1_take_4 : decode cX1_take 4 = .ok (.aload_n 0, 1) := by decide +kernel
theorem dX1_take_5 : decode cX1_take 5 = .ok (.getfield 9, 3) := by decide +kernel
theorem dX1_take_8 : decode cX1_take 8 = .ok (.ldc 28, 2) := by decide +kernel
theorem dX1_take_10 : decode cX1_take 10 = .ok (.invokestatic 29, 3) := by decide +kernel
theorem dX1_take_13 : decode cX1_take 13 = .ok (.iconst 0, 1) := by decide +kernel
theorem dX1_take_14 : decode cX1_take 14 = .ok (.istore_n 3, 1) := by decide +kernel
theorem dX1_take_15 : decode cX1_take 15 = .ok (.iconst 0, 1) := by decide +kernel
theorem dX1_take_16 : decode cX1_take 16 = .ok (.istore 4, 2) := by decide +kernel
theorem dX1_take_18 : decode cX1_take 18 = .ok (.iconst 0, 1) := by decide +kernel
theorem dX1_take_19 : decode cX1_take 19 = .ok (.istore 5, 2) := by decide +kernel
theorem dX1_take_21 : decode cX1_take 21 = .ok (.iload 5, 2) := by decide +kernel
theorem dX1_take_23 : decode cX1_take 23 = .ok (.iload_n 1, 1) := by decide +kernel
theorem dX1_take_24 : decode cX1_take 24 = .ok (.if_icmp .ge 59, 3) := by decide +kernel
theorem dX1_take_27 : decode cX1_take 27 = .ok (.aload_n 2, 1) := by decide +kernel
theorem dX1_take_28 : decode cX1_take 28 = .ok (.aload_n 0, 1) := by decide +kernel
theorem dX1_take_29 : decode cX1_take 29 = .ok (.getfield 15, 3) := by decide +kernel
theorem dX1_take_32 : decode cX1_take 32 = .ok (.iload_n 3, 1) := by decide +kernel
theorem dX1_take_33 : decode cX1_take 33 = .ok (.invokevirtual 35, 3) := by decide +kernel
theorem dX1_take_36 : decode cX1_take 36 = .ok (.iload 4, 2) := by decide +kernel
theorem dX1_take_38 : decode cX1_take 38 = .ok (.invokevirtual 41, 3) := by decide +kernel
theorem dX1_take_41 : decode cX1_take 41 = .ok (.aload_n 0, 1) := by decide +kernel
theorem dX1_take_42 : decode cX1_take 42 = .ok (.getfield 9, 3) := by decide +kernel
theorem dX1_take_45 : decode cX1_take 45 = .ok (.iload_n 3, 1) := by decide +kernel
theorem dX1_take_46 : decode cX1_take 46 = .ok (.iconst (-1), 1) := by decide +kernel
theorem dX1_take_47 : decode cX1_take 47 = .ok (.iastore, 1) := by decide +kernel
theorem dX1_take_48 : decode cX1_take 48 = .ok (.aload_n 0, 1) := by decide +kernel
theorem dX1_take_49 : decode cX1_take 49 = .ok (.aload_n 0, 1) := by decide +kernel
theorem dX1_take_50 : decode cX1_take 50 = .ok (.getfield 15, 3) := by decide +kernel
theorem dX1_take_53 : decode cX1_take 53 = .ok (.iload_n 3, 1) := by decide +kernel
theorem dX1_take_54 : decode cX1_take 54 = .ok (.invokevirtual 35, 3) := by decide +kernel
theorem dX1_take_57 : decode cX1_take 57 = .ok (.invokevirtual 45, 3) := by decide +kernel
theorem dX1_take_60 : decode cX1_take 60 = .ok (.aload_n 0, 1) := by decide +kernel
theorem dX1_take_61 : decode cX1_take 61 = .ok (.invokevirtual 49, 3) := by decide +kernel
theorem dX1_take_64 : decode cX1_take 64 = .ok (.istore_n 3, 1) := by decide +kernel
theorem dX1_take_65 : decode cX1_take 65 = .ok (.aload_n 0, 1) := by decide +kernel
theorem dX1_take_66 : decode cX1_take 66 = .ok (.getfield 9, 3) := by decide +kernel
theorem dX1_take_69 : decode cX1_take 69 = .ok (.iload_n 3, 1) := by decide +kernel
theorem dX1_take_70 : decode cX1_take 70 = .ok (.iaload, 1) := by decide +kernel
theorem dX1_take_71 : decode cX1_take 71 = .ok (.iconst 0, 1) := by decide +kernel
theorem dX1_take_72 : decode cX1_take 72 = .ok (.invokestatic 53, 3) := by decide +kernel
theorem dX1_take_75 : decode cX1_take 75 = .ok (.istore 4, 2) := by decide +kernel
theorem dX1_take_77 : decode cX1_take 77 = .ok (.iinc 5 1, 3) := by decide +kernel
theorem dX1_take_80 : decode cX1_take 80 = .ok (.goto (-59), 3) := by decide +kernel
theorem dX1_take_83 : decode cX1_take 83 = .ok (.iload 4, 2) := by decide +kernel
theorem dX1_take_85 : decode cX1_take 85 = .ok (.ireturn, 1) := by decide +kernel
theorem dX1_closeGaps_0 : decode cX1_closeGaps 0 = .ok (.iconst 0, 1) := by decide +kernel
theorem dX1_closeGaps_1 : decode cX1_closeGaps 1 = .ok (.istore_n 2, 1) := by decide +kernel
theorem dX1_closeGaps_2 : decode cX1_closeGaps 2 = .ok (.iload_n 2, 1) := by decide +kernel
theorem dX1_closeGaps_3 : decode cX1_closeGaps 3 = .ok (.aload_n 0, 1) := by decide +kernel
theorem dX1_closeGaps_4 : decode cX1_closeGaps 4 = .ok (.getfield 15, 3) := by decide +kernel
theorem dX1_closeGaps_7 : decode cX1_closeGaps 7 = .ok (.invokevirtual 59, 3) := by decide +kernel
theorem dX1_closeGaps_10 : decode cX1_closeGaps 10 = .ok (.if_icmp .ge 50, 3) := by decide +kernel
theorem dX1_closeGaps_13 : decode cX1_closeGaps 13 = .ok (.aload_n 0, 1) := by decide +kernel
theorem dX1_closeGaps_14 : decode cX1_closeGaps 14 = .ok (.getfield 9, 3) := by decide +kernel
theorem dX1_closeGaps_17 : decode cX1_closeGaps 17 = .ok (.iload_n 2, 1) := by decide +kernel
theorem dX1_closeGaps_18 : decode cX1_closeGaps 18 = .ok (.iaload, 1) := by decide +kernel
theorem dX1_closeGaps_19 : decode cX1_closeGaps 19 = .ok (.iconst (-1), 1) := by decide +kernel
theorem dX1_closeGaps_20 : decode cX1_closeGaps 20 = .ok (.if_icmp .eq 34, 3) := by decide +kernel
theorem dX1_closeGaps_23 : decode cX1_closeGaps 23 = .ok (.aload_n 0, 1) := by decide +kernel
theorem dX1_closeGaps_24 : decode cX1_closeGaps 24 = .ok (.getfield 9, 3) := by decide +kernel
theorem dX1_closeGaps_27 : decode cX1_closeGaps 27 = .ok (.iload_n 2, 1) := by decide +kernel
theorem dX1_closeGaps_28 : decode cX1_closeGaps 28 = .ok (.aload_n 0, 1) := by decide +kernel
theorem dX1_closeGaps_29 : decode cX1_closeGaps 29 = .ok (.getfield 9, 3) := by decide +kernel
theorem dX1_closeGaps_32 : decode cX1_closeGaps 32 = .ok (.iload_n 2, 1) := by decide +kernel
theorem dX1_closeGaps_33 : decode cX1_closeGaps 33 = .ok (.iaload, 1) := by decide +kernel
theorem dX1_closeGaps_34 : decode cX1_closeGaps 34 = .ok (.aload_n 0, 1) := by decide +kernel
theorem dX1_closeGaps_35 : decode cX1_closeGaps 35 = .ok (.getfield 19, 3) := by decide +kernel
theorem dX1_closeGaps_38 : decode cX1_closeGaps 38 = .ok (.iload_n 1, 1) := by decide +kernel
theorem dX1_closeGaps_39 : decode cX1_closeGaps 39 = .ok (.aload_n 0, 1) := by decide +kernel
theorem dX1_closeGaps_40 : decode cX1_closeGaps 40 = .ok (.getfield 15, 3) := by decide +kernel
theorem dX1_closeGaps_43 : decode cX1_closeGaps 43 = .ok (.iload_n 2, 1) := by decide +kernel
theorem dX1_closeGaps_44 : decode cX1_closeGaps 44 = .ok (.invokevirtual 35, 3) := by decide +kernel
theorem dX1_closeGaps_47 : decode cX1_closeGaps 47 = .ok (.invokevirtual 62, 3) := by decide +kernel
theorem dX1_closeGaps_50 : decode cX1_closeGaps 50 = .ok (.invokestatic 66, 3) := by decide +kernel
theorem dX1_closeGaps_53 : decode cX1_closeGaps 53 = .ok (.iastore, 1) := by decide +kernel
theorem dX1_closeGaps_54 : decode cX1_closeGaps 54 = .ok (.iinc 2 1, 3) := by decide +kernel
theorem dX1_closeGaps_57 : decode cX1_closeGaps 57 = .ok (.goto (-55), 3) := by decide +kernel
theorem dX1_closeGaps_60 : decode cX1_closeGaps 60 = .ok (.return_, 1) := by decide +kernel
theorem dX1_farthestLoose_0 : decode cX1_farthestLoose 0 = .ok (.iconst 0, 1) := by decide +kernel
theorem dX1_farthestLoose_1 : decode cX1_farthestLoose 1 = .ok (.istore_n 1, 1) := by decide +kernel
theorem dX1_farthestLoose_2 : decode cX1_farthestLoose 2 = .ok (.iconst 1, 1) := by decide +kernel
theorem dX1_farthestLoose_3 : decode cX1_farthestLoose 3 = .ok (.istore_n 2, 1) := by decide +kernel
theorem dX1_farthestLoose_4 : decode cX1_farthestLoose 4 = .ok (.iload_n 2, 1) := by decide +kernel
theorem dX1_farthestLoose_5 : decode cX1_farthestLoose 5 = .ok (.aload_n 0, 1) := by decide +kernel
theorem dX1_farthestLoose_6 : decode cX1_farthestLoose 6 = .ok (.getfield 15, 3) := by decide +kernel
theorem dX1_farthestLoose_9 : decode cX1_farthestLoose 9 = .ok (.invokevirtual 59, 3) := by decide +kernel
theorem dX1_farthestLoose_12 : decode cX1_farthestLoose 12 = .ok (.if_icmp .ge 26, 3) := by decide +kernel
theorem dX1_farthestLoose_15 : decode cX1_farthestLoose 15 = .ok (.aload_n 0, 1) := by decide +kernel
theorem dX1_farthestLoose_16 : decode cX1_farthestLoose 16 = .ok (.getfield 9, 3) := by decide +kernel
theorem dX1_farthestLoose_19 : decode cX1_farthestLoose 19 = .ok (.iload_n 2, 1) := by decide +kernel
theorem dX1_farthestLoose_20 : decode cX1_farthestLoose 20 = .ok (.iaload, 1) := by decide +kernel
theorem dX1_farthestLoose_21 : decode cX1_farthestLoose 21 = .ok (.aload_n 0, 1) := by decide +kernel
theorem dX1_farthestLoose_22 : decode cX1_farthestLoose 22 = .ok (.getfield 9, 3) := by decide +kernel
theorem dX1_farthestLoose_25 : decode cX1_farthestLoose 25 = .ok (.iload_n 1, 1) := by decide +kernel
theorem dX1_farthestLoose_26 : decode cX1_farthestLoose 26 = .ok (.iaload, 1) := by decide +kernel
theorem dX1_farthestLoose_27 : decode cX1_farthestLoose 27 = .ok (.if_icmp .le 5, 3) := by decide +kernel
theorem dX1_farthestLoose_30 : decode cX1_farthestLoose 30 = .ok (.iload_n 2, 1) := by decide +kernel
theorem dX1_farthestLoose_31 : decode cX1_farthestLoose 31 = .ok (.istore_n 1, 1) := by decide +kernel
theorem dX1_farthestLoose_32 : decode cX1_farthestLoose 32 = .ok (.iinc 2 1, 3) := by decide +kernel
theorem dX1_farthestLoose_35 : decode cX1_farthestLoose 35 = .ok (.goto (-31), 3) := by decide +kernel
theorem dX1_farthestLoose_38 : decode cX1_farthestLoose 38 = .ok (.iload_n 1, 1) := by decide +kernel
theorem dX1_farthestLoose_39 : decode cX1_farthestLoose 39 = .ok (.ireturn, 1) := by decide +kernel
theorem dX2_init_0 : decode cX2_init 0 = .ok (.aload_n 0, 1) := by decide +kernel
theorem dX2_init_1 : decode cX2_init 1 = .ok (.invokespecial 5, 3) := by decide +kernel
theorem dX2_init_4 : decode cX2_init 4 = .ok (.aload_n 0, 1) := by decide +kernel
theorem dX2_init_5 : decode cX2_init 5 = .ok (.new 11, 3) := by decide +kernel
theorem dX2_init_8 : decode cX2_init 8 = .ok (.dup, 1) := by decide +kernel
theorem dX2_init_9 : decode cX2_init 9 = .ok (.invokespecial 13, 3) := by decide +kernel
theorem dX2_init_12 : decode cX2_init 12 = .ok (.putfield 14, 3) := by decide +kernel
theorem dX2_init_15 : decode cX2_init 15 = .ok (.aload_n 0, 1) := by decide +kernel
theorem dX2_init_16 : decode cX2_init 16 = .ok (.bipush 60, 2) := by decide +kernel
theorem dX2_init_18 : decode cX2_init 18 = .ok (.newarray .int, 2) := by decide +kernel
theorem dX2_init_20 : decode cX2_init 20 = .ok (.putfield 20, 3) := by decide +kernel
theorem dX2_init_23 : decode cX2_init 23 = .ok (.aload_n 0, 1) := by decide +kernel
theorem dX2_init_24 : decode cX2_init 24 = .ok (.aload_n 1, 1) := by decide +kernel
theorem dX2_init_25 : decode cX2_init 25 = .ok (.putfield 24, 3) := by decide +kernel
theorem dX2_init_28 : decode cX2_init 28 = .ok (.aload_n 0, 1) := by decide +kernel
theorem dX2_init_29 : decode cX2_init 29 = .ok (.aload_n 2, 1) := by decide +kernel
theorem dX2_init_30 : decode cX2_init 30 = .ok (.putfield 28, 3) := by decide +kernel
theorem dX2_init_33 : decode cX2_init 33 = .ok (.return_, 1) := by decide +kernel
theorem dX2_hangTogether_0 : decode cX2_hangTogether 0 = .ok (.aload_n 0, 1) := by decide +kernel
theorem dX2_hangTogether_1 : decode cX2_hangTogether 1 = .ok (.getfield 14, 3) := by decide +kernel
theorem dX2_hangTogether_4 : decode cX2_hangTogether 4 = .ok (.invokevirtual 32, 3) := by decide +kernel
theorem dX2_hangTogether_7 : decode cX2_hangTogether 7 = .ok (.aload_n 0, 1) := by decide +kernel
theorem dX2_hangTogether_8 : decode cX2_hangTogether 8 = .ok (.getfield 20, 3) := by decide +kernel
theorem dX2_hangTogether_11 : decode cX2_hangTogether 11 = .ok (.ldc 35, 2) := by decide +kernel
theorem dX2_hangTogether_13 : decode cX2_hangTogether 13 = .ok (.invokestatic 36, 3) := by decide +kernel
theorem dX2_hangTogether_16 : decode cX2_hangTogether 16 = .ok (.iconst 0, 1) := by decide +kernel
theorem dX2_hangTogether_17 : decode cX2_hangTogether 17 = .ok (.istore_n 1, 1) := by decide +kernel
theorem dX2_hangTogether_18 : decode cX2_hangTogether 18 = .ok (.iconst 1, 1) := by decide +kernel
theorem dX2_hangTogether_19 : decode cX2_hangTogether 19 = .ok (.istore_n 2, 1) := by decide +kernel
theorem dX2_hangTogether_20 : decode cX2_hangTogether 20 = .ok (.iload_n 2, 1) := by decide +kernel
theorem dX2_hangTogether_21 : decode cX2_hangTogether 21 = .ok (.aload_n 0, 1) := by decide +kernel
theorem dX2_hangTogether_22 : decode cX2_hangTogether 22 = .ok (.getfield 24, 3) := by decide +kernel
theorem dX2_hangTogether_25 : decode cX2_hangTogether 25 = .ok (.invokevirtual 42, 3) := by decide +kernel
theorem dX2_hangTogether_28 : decode cX2_hangTogether 28 = .ok (.if_icmp .ge 40, 3) := by decide +kernel
theorem dX2_hangTogether_31 : decode cX2_hangTogether 31 = .ok (.aload_n 0, 1) := by decide +kernel
theorem dX2_hangTogether_32 : decode cX2_hangTogether 32 = .ok (.getfield 20, 3) := by decide +kernel
theorem dX2_hangTogether_35 : decode cX2_hangTogether 35 = .ok (.iload_n 1, 1) := by decide +kernel
theorem dX2_hangTogether_36 : decode cX2_hangTogether 36 = .ok (.ldc 48, 2) := by decide +kernel
theorem dX2_hangTogether_38 : decode cX2_hangTogether 38 = .ok (.iastore, 1) := by decide +kernel
theorem dX2_hangTogether_39 : decode cX2_hangTogether 39 = .ok (.aload_n 0, 1) := by decide +kernel
theorem dX2_hangTogether_40 : decode cX2_hangTogether 40 = .ok (.iload_n 1, 1) := by decide +kernel
theorem dX2_hangTogether_41 : decode cX2_hangTogether 41 = .ok (.invokevirtual 49, 3) := by decide +kernel
theorem dX2_hangTogether_44 : decode cX2_hangTogether 44 = .ok (.aload_n 0, 1) := by decide +kernel
theorem dX2_hangTogether_45 : decode cX2_hangTogether 45 = .ok (.invokevirtual 53, 3) := by decide +kernel
theorem dX2_hangTogether_48 : decode cX2_hangTogether 48 = .ok (.istore_n 1, 1) := by decide +kernel
theorem dX2_hangTogether_49 : decode cX2_hangTogether 49 = .ok (.aload_n 0, 1) := by decide +kernel
theorem dX2_hangTogether_50 : decode cX2_hangTogether 50 = .ok (.getfield 14, 3) := by decide +kernel
theorem dX2_hangTogether_53 : decode cX2_hangTogether 53 = .ok (.aload_n 0, 1) := by decide +kernel
theorem dX2_hangTogether_54 : decode cX2_hangTogether 54 = .ok (.getfield 20, 3) := by decide +kernel
theorem dX2_hangTogether_57 : decode cX2_hangTogether 57 = .ok (.iload_n 1, 1) := by decide +kernel
theorem dX2_hangTogether_58 : decode cX2_hangTogether 58 = .ok (.iaload, 1) := by decide +kernel
theorem dX2_hangTogether_59 : decode cX2_hangTogether 59 = .ok (.invokevirtual 56, 3) := by decide +kernel
theorem dX2_hangTogether_62 : decode cX2_hangTogether 62 = .ok (.iinc 2 1, 3) := by decide +kernel
theorem dX2_hangTogether_65 : decode cX2_hangTogether 65 = .ok (.goto (-45), 3) := by decide +kernel
theorem dX2_hangTogether_68 : decode cX2_hangTogether 68 = .ok (.aload_n 0, 1) := by decide +kernel
theorem dX2_hangTogether_69 : decode cX2_hangTogether 69 = .ok (.getfield 14, 3) := by decide +kernel
theorem dX2_hangTogether_72 : decode cX2_hangTogether 72 = .ok (.areturn, 1) := by decide +kernel
theorem dX2_reachFrom_0 : decode cX2_reachFrom 0 = .ok (.iconst 0, 1) := by decide +kernel
theorem dX2_reachFrom_1 : decode cX2_reachFrom 1 = .ok (.istore_n 2, 1) := by decide +kernel
theorem dX2_reachFrom_2 : decode cX2_reachFrom 2 = .ok (.iload_n 2, 1) := by decide +kernel
theorem dX2_reachFrom_3 : decode cX2_reachFrom 3 = .ok (.aload_n 0, 1) := by decide +kernel
theorem dX2_reachFrom_4 : decode cX2_reachFrom 4 = .ok (.getfield 24, 3) := by decide +kernel
theorem dX2_reachFrom_7 : decode cX2_reachFrom 7 = .ok (.invokevirtual 42, 3) := by decide +kernel
theorem dX2_reachFrom_10 : decode cX2_reachFrom 10 = .ok (.if_icmp .ge 60, 3) := by decide +kernel
theorem dX2_reachFrom_13 : decode cX2_reachFrom 13 = .ok (.aload_n 0, 1) := by decide +kernel
theorem dX2_reachFrom_14 : decode cX2_reachFrom 14 = .ok (.getfield 20, 3) := by decide +kernel
theorem dX2_reachFrom_17 : decode cX2_reachFrom 17 = .ok (.iload_n 2, 1) := by decide +kernel
theorem dX2_reachFrom_18 : decode cX2_reachFrom 18 = .ok (.iaload, 1) := by decide +kernel
theorem dX2_reachFrom_19 : decode cX2_reachFrom 19 = .ok (.ldc 48, 2) := by decide +kernel
theorem dX2_reachFrom_21 : decode cX2_reachFrom 21 = .ok (.if_icmp .eq 43, 3) := by decide +kernel
theorem dX2_reachFrom_24 : decode cX2_reachFrom 24 = .ok (.aload_n 0, 1) := by decide +kernel
theorem dX2_reachFrom_25 : decode cX2_reachFrom 25 = .ok (.getfield 28, 3) := by decide +kernel
theorem dX2_reachFrom_28 : decode cX2_reachFrom 28 = .ok (.aload_n 0, 1) := by decide +kernel
theorem dX2_reachFrom_29 : decode cX2_reachFrom 29 = .ok (.getfield 24, 3) := by decide +kernel
theorem dX2_reachFrom_32 : decode cX2_reachFrom 32 = .ok (.iload_n 1, 1) := by decide +kernel
theorem dX2_reachFrom_33 : decode cX2_reachFrom 33 = .ok (.invokevirtual 59, 3) := by decide +kernel
theorem dX2_reachFrom_36 : decode cX2_reachFrom 36 = .ok (.aload_n 0, 1) := by decide +kernel
theorem dX2_reachFrom_37 : decode cX2_reachFrom 37 = .ok (.getfield 24, 3) := by decide +kernel
theorem dX2_reachFrom_40 : decode cX2_reachFrom 40 = .ok (.iload_n 2, 1) := by decide +kernel
theorem dX2_reachFrom_41 : decode cX2_reachFrom 41 = .ok (.invokevirtual 59, 3) := by decide +kernel
theorem dX2_reachFrom_44 : decode cX2_reachFrom 44 = .ok (.invokevirtual 63, 3) := by decide +kernel
theorem dX2_reachFrom_47 : decode cX2_reachFrom 47 = .ok (.istore_n 3, 1) := by decide +kernel
theorem dX2_reachFrom_48 : decode cX2_reachFrom 48 = .ok (.aload_n 0, 1) := by decide +kernel
theorem dX2_reachFrom_49 : decode cX2_reachFrom 49 = .ok (.getfield 20, 3) := by decide +kernel
theorem dX2_reachFrom_52 : decode cX2_reachFrom 52 = .ok (.iload_n 2, 1) := by decide +kernel
theorem dX2_reachFrom_53 : decode cX2_reachFrom 53 = .ok (.aload_n 0, 1) := by decide +kernel
theorem dX2_reachFrom_54 : decode cX2_reachFrom 54 = .ok (.getfield 20, 3) := by decide +kernel
theorem dX2_reachFrom_57 : decode cX2_reachFrom 57 = .ok (.iload_n 2, 1) := by decide +kernel
theorem dX2_reachFrom_58 : decode cX2_reachFrom 58 = .ok (.iaload, 1) := by decide +kernel
theorem dX2_reachFrom_59 : decode cX2_reachFrom 59 = .ok (.iload_n 3, 1) := by decide +kernel
theorem dX2_reachFrom_60 : decode cX2_reachFrom 60 = .ok (.invokestatic 69, 3) := by decide +kernel
theorem dX2_reachFrom_63 : decode cX2_reachFrom 63 = .ok (.iastore, 1) := by decide +kernel
theorem dX2_reachFrom_64 : decode cX2_reachFrom 64 = .ok (.iinc 2 1, 3) := by decide +kernel
theorem dX2_reachFrom_67 : decode cX2_reachFrom 67 = .ok (.goto (-65), 3) := by decide +kernel
theorem dX2_reachFrom_70 : decode cX2_reachFrom 70 = .ok (.return_, 1) := by decide +kernel
theorem dX2_leastLoose_0 : decode cX2_leastLoose 0 = .ok (.iconst 0, 1) := by decide +kernel
theorem dX2_leastLoose_1 : decode cX2_leastLoose 1 = .ok (.istore_n 1, 1) := by decide +kernel
theorem dX2_leastLoose_2 : decode cX2_leastLoose 2 = .ok (.iconst 1, 1) := by decide +kernel
theorem dX2_leastLoose_3 : decode cX2_leastLoose 3 = .ok (.istore_n 2, 1) := by decide +kernel
theorem dX2_leastLoose_4 : decode cX2_leastLoose 4 = .ok (.iload_n 2, 1) := by decide +kernel
theorem dX2_leastLoose_5 : decode cX2_leastLoose 5 = .ok (.aload_n 0, 1) := by decide +kernel
theorem dX2_leastLoose_6 : decode cX2_leastLoose 6 = .ok (.getfield 24, 3) := by decide +kernel
theorem dX2_leastLoose_9 : decode cX2_leastLoose 9 = .ok (.invokevirtual 42, 3) := by decide +kernel
theorem dX2_leastLoose_12 : decode cX2_leastLoose 12 = .ok (.if_icmp .ge 26, 3) := by decide +kernel
theorem dX2_leastLoose_15 : decode cX2_leastLoose 15 = .ok (.aload_n 0, 1) := by decide +kernel
theorem dX2_leastLoose_16 : decode cX2_leastLoose 16 = .ok (.getfield 20, 3) := by decide +kernel
theorem dX2_leastLoose_19 : decode cX2_leastLoose 19 = .ok (.iload_n 2, 1) := by decide +kernel
theorem dX2_leastLoose_20 : decode cX2_leastLoose 20 = .ok (.iaload, 1) := by decide +kernel
theorem dX2_leastLoose_21 : decode cX2_leastLoose 21 = .ok (.aload_n 0, 1) := by decide +kernel
theorem dX2_leastLoose_22 : decode cX2_leastLoose 22 = .ok (.getfield 20, 3) := by decide +kernel
theorem dX2_leastLoose_25 : decode cX2_leastLoose 25 = .ok (.iload_n 1, 1) := by decide +kernel
theorem dX2_leastLoose_26 : decode cX2_leastLoose 26 = .ok (.iaload, 1) := by decide +kernel
theorem dX2_leastLoose_27 : decode cX2_leastLoose 27 = .ok (.if_icmp .ge 5, 3) := by decide +kernel
theorem dX2_leastLoose_30 : decode cX2_leastLoose 30 = .ok (.iload_n 2, 1) := by decide +kernel
theorem dX2_leastLoose_31 : decode cX2_leastLoose 31 = .ok (.istore_n 1, 1) := by decide +kernel
theorem dX2_leastLoose_32 : decode cX2_leastLoose 32 = .ok (.iinc 2 1, 3) := by decide +kernel
theorem dX2_leastLoose_35 : decode cX2_leastLoose 35 = .ok (.goto (-31), 3) := by decide +kernel
theorem dX2_leastLoose_38 : decode cX2_leastLoose 38 = .ok (.iload_n 1, 1) := by decide +kernel
theorem dX2_leastLoose_39 : decode cX2_leastLoose 39 = .ok (.ireturn, 1) := by decide +kernel
theorem dX3_init_0 : decode cX3_init 0 = .ok (.aload_n 0, 1) := by decide +kernel
theorem dX3_init_1 : decode cX3_init 1 = .ok (.invokespecial 3, 3) := by decide +kernel
theorem dX3_init_4 : decode cX3_init 4 = .ok (.aload_n 0, 1) := by decide +kernel
theorem dX3_init_5 : decode cX3_init 5 = .ok (.sipush 3600, 3) := by decide +kernel
theorem dX3_init_8 : decode cX3_init 8 = .ok (.newarray .int, 2) := by decide +kernel
theorem dX3_init_10 : decode cX3_init 10 = .ok (.putfield 9, 3) := by decide +kernel
theorem dX3_init_13 : decode cX3_init 13 = .ok (.aload_n 0, 1) := by decide +kernel
theorem dX3_init_14 : decode cX3_init 14 = .ok (.iconst 0, 1) := by decide +kernel
theorem dX3_init_15 : decode cX3_init 15 = .ok (.putfield 15, 3) := by decide +kernel
theorem dX3_init_18 : decode cX3_init 18 = .ok (.aload_n 0, 1) := by decide +kernel
theorem dX3_init_19 : decode cX3_init 19 = .ok (.aload_n 1, 1) := by decide +kernel
theorem dX3_init_20 : decode cX3_init 20 = .ok (.putfield 19, 3) := by decide +kernel
theorem dX3_init_23 : decode cX3_init 23 = .ok (.aload_n 0, 1) := by decide +kernel
theorem dX3_init_24 : decode cX3_init 24 = .ok (.aload_n 2, 1) := by decide +kernel
theorem dX3_init_25 : decode cX3_init 25 = .ok (.putfield 23, 3) := by decide +kernel
theorem dX3_init_28 : decode cX3_init 28 = .ok (.aload_n 0, 1) := by decide +kernel
theorem dX3_init_29 : decode cX3_init 29 = .ok (.getfield 9, 3) := by decide +kernel
theorem dX3_init_32 : decode cX3_init 32 = .ok (.iconst (-1), 1) := by decide +kernel
theorem dX3_init_33 : decode cX3_init 33 = .ok (.invokestatic 27, 3) := by decide +kernel
theorem dX3_init_36 : decode cX3_init 36 = .ok (.return_, 1) := by decide +kernel
theorem dX3_kindAtHand_0 : decode cX3_kindAtHand 0 = .ok (.aload_n 0, 1) := by decide +kernel
theorem dX3_kindAtHand_1 : decode cX3_kindAtHand 1 = .ok (.getfield 15, 3) := by decide +kernel
theorem dX3_kindAtHand_4 : decode cX3_kindAtHand 4 = .ok (.ireturn, 1) := by decide +kernel
theorem dX3_useKind_0 : decode cX3_useKind 0 = .ok (.iload_n 1, 1) := by decide +kernel
theorem dX3_useKind_1 : decode cX3_useKind 1 = .ok (.aload_n 0, 1) := by decide +kernel
theorem dX3_useKind_2 : decode cX3_useKind 2 = .ok (.getfield 15, 3) := by decide +kernel
theorem dX3_useKind_5 : decode cX3_useKind 5 = .ok (.if_icmp .eq 16, 3) := by decide +kernel
theorem dX3_useKind_8 : decode cX3_useKind 8 = .ok (.aload_n 0, 1) := by decide +kernel
theorem dX3_useKind_9 : decode cX3_useKind 9 = .ok (.iload_n 1, 1) := by decide +kernel
theorem dX3_useKind_10 : decode cX3_useKind 10 = .ok (.putfield 15, 3) := by decide +kernel
theorem dX3_useKind_13 : decode cX3_useKind 13 = .ok (.aload_n 0, 1) := by decide +kernel
theorem dX3_useKind_14 : decode cX3_useKind 14 = .ok (.getfield 9, 3) := by decide +kernel
theorem dX3_useKind_17 : decode cX3_useKind 17 = .ok (.iconst (-1), 1) := by decide +kernel
theorem dX3_useKind_18 : decode cX3_useKind 18 = .ok (.invokestatic 27, 3) := by decide +kernel
theorem dX3_useKind_21 : decode cX3_useKind 21 = .ok (.return_, 1) := by decide +kernel
theorem dX3_forgetAllOf_0 : decode cX3_forgetAllOf 0 = .ok (.iconst 0, 1) := by decide +kernel
theorem dX3_forgetAllOf_1 : decode cX3_forgetAllOf 1 = .ok (.istore_n 2, 1) := by decide +kernel
theorem dX3_forgetAllOf_2 : decode cX3_forgetAllOf 2 = .ok (.iload_n 2, 1) := by decide +kernel
theorem dX3_forgetAllOf_3 : decode cX3_forgetAllOf 3 = .ok (.bipush 60, 2) := by decide +kernel
theorem dX3_forgetAllOf_5 : decode cX3_forgetAllOf 5 = .ok (.if_icmp .ge 16, 3) := by decide +kernel
theorem dX3_forgetAllOf_8 : decode cX3_forgetAllOf 8 = .ok (.aload_n 0, 1) := by decide +kernel
theorem dX3_forgetAllOf_9 : decode cX3_forgetAllOf 9 = .ok (.iload_n 1, 1) := by decide +kernel
theorem dX3_forgetAllOf_10 : decode cX3_forgetAllOf 10 = .ok (.iload_n 2, 1) := by decide +kernel
theorem dX3_forgetAllOf_11 : decode cX3_forgetAllOf 11 = .ok (.iconst (-1), 1) := by decide +kernel
theorem dX3_forgetAllOf_12 : decode cX3_forgetAllOf 12 = .ok (.invokevirtual 33, 3) := by decide +kernel
theorem dX3_forgetAllOf_15 : decode cX3_forgetAllOf 15 = .ok (.iinc 2 1, 3) := by decide +kernel
theorem dX3_forgetAllOf_18 : decode cX3_forgetAllOf 18 = .ok (.goto (-16), 3) := by decide +kernel
theorem dX3_forgetAllOf_21 : decode cX3_forgetAllOf 21 = .ok (.return_, 1) := by decide +kernel
theorem dX3_forgetPair_0 : decode cX3_forgetPair 0 = .ok (.aload_n 0, 1) := by decide +kernel
theorem dX3_forgetPair_1 : decode cX3_forgetPair 1 = .ok (.iload_n 1, 1) := by decide +kernel
theorem dX3_forgetPair_2 : decode cX3_forgetPair 2 = .ok (.iload_n 2, 1) := by decide +kernel
theorem dX3_forgetPair_3 : decode cX3_forgetPair 3 = .ok (.iconst (-1), 1) := by decide +kernel
theorem dX3_forgetPair_4 : decode cX3_forgetPair 4 = .ok (.invokevirtual 33, 3) := by decide +kernel
theorem dX3_forgetPair_7 : decode cX3_forgetPair 7 = .ok (.return_, 1) := by decide +kernel
theorem dX3_lawHolds_0 : decode cX3_lawHolds 0 = .ok (.aload_n 0, 1) := by decide +kernel
theorem dX3_lawHolds_1 : decode cX3_lawHolds 1 = .ok (.getfield 15, 3) := by decide +kernel
theorem dX3_lawHolds_4 : decode cX3_lawHolds 4 = .ok (.iconst 5, 1) := by decide +kernel
theorem dX3_lawHolds_5 : decode cX3_lawHolds 5 = .ok (.if_icmp .ne 20, 3) := by decide +kernel
theorem dX3_lawHolds_8 : decode cX3_lawHolds 8 = .ok (.aload_n 0, 1) := by decide +kernel
theorem dX3_lawHolds_9 : decode cX3_lawHolds 9 = .ok (.getfield 23, 3) := by decide +kernel
theorem dX3_lawHolds_12 : decode cX3_lawHolds 12 = .ok (.aload_n 0, 1) := by decide +kernel
theorem dX3_lawHolds_13 : decode cX3_lawHolds 13 = .ok (.getfield 19, 3) := by decide +kernel
theorem dX3_lawHolds_16 : decode cX3_lawHolds 16 = .ok (.invokevirtual 37, 3) := by decide +kernel
theorem dX3_lawHolds_19 : decode cX3_lawHolds 19 = .ok (.invokevirtual 43, 3) := by decide +kernel
theorem dX3_lawHolds_22 : decode cX3_lawHolds 22 = .ok (.ifCond .eq 7, 3) := by decide +kernel
theorem dX3_lawHolds_25 : decode cX3_lawHolds 25 = .ok (.iconst 1, 1) := by decide +kernel
theorem dX3_lawHolds_26 : decode cX3_lawHolds 26 = .ok (.goto 4, 3) := by decide +kernel
theorem dX3_lawHolds_29 : decode cX3_lawHolds 29 = .ok (.iconst 0, 1) := by decide +kernel
theorem dX3_lawHolds_30 : decode cX3_lawHolds 30 = .ok (.ireturn, 1) := by decide +kernel
theorem dX3_between_0 : decode cX3_between 0 = .ok (.aload_n 0, 1) := by decide +kernel
theorem dX3_between_1 : decode cX3_between 1 = .ok (.getfield 9, 3) := by decide +kernel
theorem dX3_between_4 : decode cX3_between 4 = .ok (.iload_n 1, 1) := by decide +kernel
theorem dX3_between_5 : decode cX3_between 5 = .ok (.bipush 60, 2) := by decide +kernel
theorem dX3_between_7 : decode cX3_between 7 = .ok (.imul, 1) := by decide +kernel
theorem dX3_between_8 : decode cX3_between 8 = .ok (.iload_n 2, 1) := by decide +kernel
theorem dX3_between_9 : decode cX3_between 9 = .ok (.iadd, 1) := by decide +kernel
theorem dX3_between_10 : decode cX3_between 10 = .ok (.iaload, 1) := by decide +kernel
theorem dX3_between_11 : decode cX3_between 11 = .ok (.istore_n 3, 1) := by decide +kernel
theorem dX3_between_12 : decode cX3_between 12 = .ok (.iload_n 3, 1) := by decide +kernel
theorem dX3_between_13 : decode cX3_between 13 = .ok (.iconst (-1), 1) := by decide +kernel
theorem dX3_between_14 : decode cX3_between 14 = .ok (.if_icmp .ne 17, 3) := by decide +kernel
theorem dX3_between_17 : decode cX3_between 17 = .ok (.aload_n 0, 1) := by decide +kernel
theorem dX3_between_18 : decode cX3_between 18 = .ok (.iload_n 1, 1) := by decide +kernel
theorem dX3_between_19 : decode cX3_between 19 = .ok (.iload_n 2, 1) := by decide +kernel
theorem dX3_between_20 : decode cX3_between 20 = .ok (.invokevirtual 49, 3) := by decide +kernel
theorem dX3_between_23 : decode cX3_between 23 = .ok (.istore_n 3, 1) := by decide +kernel
theorem dX3_between_24 : decode cX3_between 24 = .ok (.aload_n 0, 1) := by decide +kernel
theorem dX3_between_25 : decode cX3_between 25 = .ok (.iload_n 1, 1) := by decide +kernel
theorem dX3_between_26 : decode cX3_between 26 = .ok (.iload_n 2, 1) := by decide +kernel
theorem dX3_between_27 : decode cX3_between 27 = .ok (.iload_n 3, 1) := by decide +kernel
theorem dX3_between_28 : decode cX3_between 28 = .ok (.invokevirtual 33, 3) := by decide +kernel
theorem dX3_between_31 : decode cX3_between 31 = .ok (.iload_n 3, 1) := by decide +kernel
theorem dX3_between_32 : decode cX3_between 32 = .ok (.ireturn, 1) := by decide +kernel
theorem dX3_at_0 : decode cX3_at 0 = .ok (.aload_n 0, 1) := by decide +kernel
theorem dX3_at_1 : decode cX3_at 1 = .ok (.getfield 9, 3) := by decide +kernel
theorem dX3_at_4 : decode cX3_at 4 = .ok (.iload_n 1, 1) := by decide +kernel
theorem dX3_at_5 : decode cX3_at 5 = .ok (.bipush 60, 2) := by decide +kernel
theorem dX3_at_7 : decode cX3_at 7 = .ok (.imul, 1) := by decide +kernel
theorem dX3_at_8 : decode cX3_at 8 = .ok (.iload_n 2, 1) := by decide +kernel
theorem dX3_at_9 : decode cX3_at 9 = .ok (.iadd, 1) := by decide +kernel
theorem dX3_at_10 : decode cX3_at 10 = .ok (.iaload, 1) := by decide +kernel
theorem dX3_at_11 : decode cX3_at 11 = .ok (.ireturn, 1) := by decide +kernel
theorem dX3_pairKey_0 : decode cX3_pairKey 0 = .ok (.iload_n 1, 1) := by decide +kernel
theorem dX3_pairKey_1 : decode cX3_pairKey 1 = .ok (.iload_n 2, 1) := by decide +kernel
theorem dX3_pairKey_2 : decode cX3_pairKey 2 = .ok (.invokestatic 53, 3) := by decide +kernel
theorem dX3_pairKey_5 : decode cX3_pairKey 5 = .ok (.bipush 60, 2) := by decide +kernel
theorem dX3_pairKey_7 : decode cX3_pairKey 7 = .ok (.imul, 1) := by decide +kernel
theorem dX3_pairKey_8 : decode cX3_pairKey 8 = .ok (.iload_n 1, 1) := by decide +kernel
theorem dX3_pairKey_9 : decode cX3_pairKey 9 = .ok (.iload_n 2, 1) := by decide +kernel
theorem dX3_pairKey_10 : decode cX3_pairKey 10 = .ok (.invokestatic 58, 3) := by decide +kernel
theorem dX3_pairKey_13 : decode cX3_pairKey 13 = .ok (.iadd, 1) := by decide +kernel
theorem dX3_pairKey_14 : decode cX3_pairKey 14 = .ok (.istore_n 3, 1) := by decide +kernel
theorem dX3_pairKey_15 : decode cX3_pairKey 15 = .ok (.aload_n 0, 1) := by decide +kernel
theorem dX3_pairKey_16 : decode cX3_pairKey 16 = .ok (.iload_n 1, 1) := by decide +kernel
theorem dX3_pairKey_17 : decode cX3_pairKey 17 = .ok (.iload_n 2, 1) := by decide +kernel
theorem dX3_pairKey_18 : decode cX3_pairKey 18 = .ok (.invokevirtual 61, 3) := by decide +kernel
theorem dX3_pairKey_21 : decode cX3_pairKey 21 = .ok (.sipush 3600, 3) := by decide +kernel
theorem dX3_pairKey_24 : decode cX3_pairKey 24 = .ok (.imul, 1) := by decide +kernel
theorem dX3_pairKey_25 : decode cX3_pairKey 25 = .ok (.iload_n 3, 1) := by decide +kernel
theorem dX3_pairKey_26 : decode cX3_pairKey 26 = .ok (.iadd, 1) := by decide +kernel
theorem dX3_pairKey_27 : decode cX3_pairKey 27 = .ok (.ireturn, 1) := by decide +kernel
theorem dX3_remember_0 : decode cX3_remember 0 = .ok (.aload_n 0, 1) := by decide +kernel
theorem dX3_remember_1 : decode cX3_remember 1 = .ok (.getfield 9, 3) := by decide +kernel
theorem dX3_remember_4 : decode cX3_remember 4 = .ok (.iload_n 1, 1) := by decide +kernel
theorem dX3_remember_5 : decode cX3_remember 5 = .ok (.bipush 60, 2) := by decide +kernel
theorem dX3_remember_7 : decode cX3_remember 7 = .ok (.imul, 1) := by decide +kernel
theorem dX3_remember_8 : decode cX3_remember 8 = .ok (.iload_n 2, 1) := by decide +kernel
theorem dX3_remember_9 : decode cX3_remember 9 = .ok (.iadd, 1) := by decide +kernel
theorem dX3_remember_10 : decode cX3_remember 10 = .ok (.iload_n 3, 1) := by decide +kernel
theorem dX3_remember_11 : decode cX3_remember 11 = .ok (.iastore, 1) := by decide +kernel
theorem dX3_remember_12 : decode cX3_remember 12 = .ok (.aload_n 0, 1) := by decide +kernel
theorem dX3_remember_13 : decode cX3_remember 13 = .ok (.getfield 9, 3) := by decide +kernel
theorem dX3_remember_16 : decode cX3_remember 16 = .ok (.iload_n 2, 1) := by decide +kernel
theorem dX3_remember_17 : decode cX3_remember 17 = .ok (.bipush 60, 2) := by decide +kernel
theorem dX3_remember_19 : decode cX3_remember 19 = .ok (.imul, 1) := by decide +kernel
theorem dX3_remember_20 : decode cX3_remember 20 = .ok (.iload_n 1, 1) := by decide +kernel
theorem dX3_remember_21 : decode cX3_remember 21 = .ok (.iadd, 1) := by decide +kernel
theorem dX3_remember_22 : decode cX3_remember 22 = .ok (.iload_n 3, 1) := by decide +kernel
theorem dX3_remember_23 : decode cX3_remember 23 = .ok (.iastore, 1) := by decide +kernel
theorem dX3_remember_24 : decode cX3_remember 24 = .ok (.return_, 1) := by decide +kernel
theorem dX3_measure_0 : decode cX3_measure 0 = .ok (.aload_n 0, 1) := by decide +kernel
theorem dX3_measure_1 : decode cX3_measure 1 = .ok (.getfield 15, 3) := by decide +kernel
theorem dX3_measure_4 : decode cX3_measure 4 = .ok (.tableswitch 96 1 5 #[36, 46, 56, 66, 86], 36) := by decide +kernel
theorem dX3_measure_40 : decode cX3_measure 40 = .ok (.aload_n 0, 1) := by decide +kernel
theorem dX3_measure_41 : decode cX3_measure 41 = .ok (.getfield 19, 3) := by decide +kernel
theorem dX3_measure_44 : decode cX3_measure 44 = .ok (.iload_n 1, 1) := by decide +kernel
theorem dX3_measure_45 : decode cX3_measure 45 = .ok (.iload_n 2, 1) := by decide +kernel
theorem dX3_measure_46 : decode cX3_measure 46 = .ok (.invokevirtual 64, 3) := by decide +kernel
theorem dX3_measure_49 : decode cX3_measure 49 = .ok (.ireturn, 1) := by decide +kernel
theorem dX3_measure_50 : decode cX3_measure 50 = .ok (.aload_n 0, 1) := by decide +kernel
theorem dX3_measure_51 : decode cX3_measure 51 = .ok (.getfield 19, 3) := by decide +kernel
theorem dX3_measure_54 : decode cX3_measure 54 = .ok (.iload_n 1, 1) := by decide +kernel
theorem dX3_measure_55 : decode cX3_measure 55 = .ok (.iload_n 2, 1) := by decide +kernel
theorem dX3_measure_56 : decode cX3_measure 56 = .ok (.invokevirtual 67, 3) := by decide +kernel
theorem dX3_measure_59 : decode cX3_measure 59 = .ok (.ireturn, 1) := by decide +kernel
theorem dX3_measure_60 : decode cX3_measure 60 = .ok (.aload_n 0, 1) := by decide +kernel
theorem dX3_measure_61 : decode cX3_measure 61 = .ok (.getfield 19, 3) := by decide +kernel
theorem dX3_measure_64 : decode cX3_measure 64 = .ok (.iload_n 1, 1) := by decide +kernel
theorem dX3_measure_65 : decode cX3_measure 65 = .ok (.iload_n 2, 1) := by decide +kernel
theorem dX3_measure_66 : decode cX3_measure 66 = .ok (.invokevirtual 70, 3) := by decide +kernel
theorem dX3_measure_69 : decode cX3_measure 69 = .ok (.ireturn, 1) := by decide +kernel
theorem dX3_measure_70 : decode cX3_measure 70 = .ok (.aload_n 0, 1) := by decide +kernel
theorem dX3_measure_71 : decode cX3_measure 71 = .ok (.getfield 19, 3) := by decide +kernel
theorem dX3_measure_74 : decode cX3_measure 74 = .ok (.iload_n 1, 1) := by decide +kernel
theorem dX3_measure_75 : decode cX3_measure 75 = .ok (.iload_n 2, 1) := by decide +kernel
theorem dX3_measure_76 : decode cX3_measure 76 = .ok (.invokevirtual 73, 3) := by decide +kernel
theorem dX3_measure_79 : decode cX3_measure 79 = .ok (.aload_n 0, 1) := by decide +kernel
theorem dX3_measure_80 : decode cX3_measure 80 = .ok (.getfield 19, 3) := by decide +kernel
theorem dX3_measure_83 : decode cX3_measure 83 = .ok (.iload_n 2, 1) := by decide +kernel
theorem dX3_measure_84 : decode cX3_measure 84 = .ok (.iload_n 1, 1) := by decide +kernel
theorem dX3_measure_85 : decode cX3_measure 85 = .ok (.invokevirtual 73, 3) := by decide +kernel
theorem dX3_measure_88 : decode cX3_measure 88 = .ok (.iadd, 1) := by decide +kernel
theorem dX3_measure_89 : decode cX3_measure 89 = .ok (.ireturn, 1) := by decide +kernel
theorem dX3_measure_90 : decode cX3_measure 90 = .ok (.aload_n 0, 1) := by decide +kernel
theorem dX3_measure_91 : decode cX3_measure 91 = .ok (.getfield 23, 3) := by decide +kernel
theorem dX3_measure_94 : decode cX3_measure 94 = .ok (.iload_n 1, 1) := by decide +kernel
theorem dX3_measure_95 : decode cX3_measure 95 = .ok (.iload_n 2, 1) := by decide +kernel
theorem dX3_measure_96 : decode cX3_measure 96 = .ok (.invokevirtual 76, 3) := by decide +kernel
theorem dX3_measure_99 : decode cX3_measure 99 = .ok (.ireturn, 1) := by decide +kernel
theorem dX3_measure_100 : decode cX3_measure 100 = .ok (.aload_n 0, 1) := by decide +kernel
theorem dX3_measure_101 : decode cX3_measure 101 = .ok (.getfield 19, 3) := by decide +kernel
theorem dX3_measure_104 : decode cX3_measure 104 = .ok (.iload_n 1, 1) := by decide +kernel
theorem dX3_measure_105 : decode cX3_measure 105 = .ok (.iload_n 2, 1) := by decide +kernel
theorem dX3_measure_106 : decode cX3_measure 106 = .ok (.invokevirtual 79, 3) := by decide +kernel
theorem dX3_measure_109 : decode cX3_measure 109 = .ok (.ireturn, 1) := by decide +kernel
theorem dX4_init_0 : decode cX4_init 0 = .ok (.aload_n 0, 1) := by decide +kernel
theorem dX4_init_1 : decode cX4_init 1 = .ok (.invokespecial 3, 3) := by decide +kernel
theorem dX4_init_4 : decode cX4_init 4 = .ok (.aload_n 0, 1) := by decide +kernel
theorem dX4_init_5 : decode cX4_init 5 = .ok (.bipush 60, 2) := by decide +kernel
theorem dX4_init_7 : decode cX4_init 7 = .ok (.newarray .int, 2) := by decide +kernel
theorem dX4_init_9 : decode cX4_init 9 = .ok (.putfield 9, 3) := by decide +kernel
theorem dX4_init_12 : decode cX4_init 12 = .ok (.aload_n 0, 1) := by decide +kernel
theorem dX4_init_13 : decode cX4_init 13 = .ok (.iconst 0, 1) := by decide +kernel
theorem dX4_init_14 : decode cX4_init 14 = .ok (.putfield 15, 3) := by decide +kernel
theorem dX4_init_17 : decode cX4_init 17 = .ok (.return_, 1) := by decide +kernel
theorem dX4_size_0 : decode cX4_size 0 = .ok (.aload_n 0, 1) := by decide +kernel
theorem dX4_size_1 : decode cX4_size 1 = .ok (.getfield 15, 3) := by decide +kernel
theorem dX4_size_4 : decode cX4_size 4 = .ok (.ireturn, 1) := by decide +kernel
theorem dX4_at_0 : decode cX4_at 0 = .ok (.aload_n 0, 1) := by decide +kernel
theorem dX4_at_1 : decode cX4_at 1 = .ok (.getfield 9, 3) := by decide +kernel
theorem dX4_at_4 : decode cX4_at 4 = .ok (.iload_n 1, 1) := by decide +kernel
theorem dX4_at_5 : decode cX4_at 5 = .ok (.iaload, 1) := by decide +kernel
theorem dX4_at_6 : decode cX4_at 6 = .ok (.ireturn, 1) := by decide +kernel
theorem dX4_clear_0 : decode cX4_clear 0 = .ok (.aload_n 0, 1) := by decide +kernel
theorem dX4_clear_1 : decode cX4_clear 1 = .ok (.iconst 0, 1) := by decide +kernel
theorem dX4_clear_2 : decode cX4_clear 2 = .ok (.putfield 15, 3) := by decide +kernel
theorem dX4_clear_5 : decode cX4_clear 5 = .ok (.return_, 1) := by decide +kernel
theorem dX4_insert_0 : decode cX4_insert 0 = .ok (.aload_n 0, 1) := by decide +kernel
theorem dX4_insert_1 : decode cX4_insert 1 = .ok (.getfield 15, 3) := by decide +kernel
theorem dX4_insert_4 : decode cX4_insert 4 = .ok (.bipush 60, 2) := by decide +kernel
theorem dX4_insert_6 : decode cX4_insert 6 = .ok (.if_icmp .lt 4, 3) := by decide +kernel
theorem dX4_insert_9 : decode cX4_insert 9 = .ok (.return_, 1) := by decide +kernel
theorem dX4_insert_10 : decode cX4_insert 10 = .ok (.aload_n 0, 1) := by decide +kernel
theorem dX4_insert_11 : decode cX4_insert 11 = .ok (.getfield 15, 3) := by decide +kernel
theorem dX4_insert_14 : decode cX4_insert 14 = .ok (.istore_n 2, 1) := by decide +kernel
theorem dX4_insert_15 : decode cX4_insert 15 = .ok (.iload_n 2, 1) := by decide +kernel
theorem dX4_insert_16 : decode cX4_insert 16 = .ok (.ifCond .le 35, 3) := by decide +kernel
theorem dX4_insert_19 : decode cX4_insert 19 = .ok (.aload_n 0, 1) := by decide +kernel
theorem dX4_insert_20 : decode cX4_insert 20 = .ok (.getfield 9, 3) := by decide +kernel
theorem dX4_insert_23 : decode cX4_insert 23 = .ok (.iload_n 2, 1) := by decide +kernel
theorem dX4_insert_24 : decode cX4_insert 24 = .ok (.iconst 1, 1) := by decide +kernel
theorem dX4_insert_25 : decode cX4_insert 25 = .ok (.isub, 1) := by decide +kernel
theorem dX4_insert_26 : decode cX4_insert 26 = .ok (.iaload, 1) := by decide +kernel
theorem dX4_insert_27 : decode cX4_insert 27 = .ok (.iload_n 1, 1) := by decide +kernel
theorem dX4_insert_28 : decode cX4_insert 28 = .ok (.if_icmp .le 23, 3) := by decide +kernel
theorem dX4_insert_31 : decode cX4_insert 31 = .ok (.aload_n 0, 1) := by decide +kernel
theorem dX4_insert_32 : decode cX4_insert 32 = .ok (.getfield 9, 3) := by decide +kernel
theorem dX4_insert_35 : decode cX4_insert 35 = .ok (.iload_n 2, 1) := by decide +kernel
theorem dX4_insert_36 : decode cX4_insert 36 = .ok (.aload_n 0, 1) := by decide +kernel
theorem dX4_insert_37 : decode cX4_insert 37 = .ok (.getfield 9, 3) := by decide +kernel
theorem dX4_insert_40 : decode cX4_insert 40 = .ok (.iload_n 2, 1) := by decide +kernel
theorem dX4_insert_41 : decode cX4_insert 41 = .ok (.iconst 1, 1) := by decide +kernel
theorem dX4_insert_42 : decode cX4_insert 42 = .ok (.isub, 1) := by decide +kernel
theorem dX4_insert_43 : decode cX4_insert 43 = .ok (.iaload, 1) := by decide +kernel
theorem dX4_insert_44 : decode cX4_insert 44 = .ok (.iastore, 1) := by decide +kernel
theorem dX4_insert_45 : decode cX4_insert 45 = .ok (.iinc 2 (-1), 3) := by decide +kernel
theorem dX4_insert_48 : decode cX4_insert 48 = .ok (.goto (-33), 3) := by decide +kernel
theorem dX4_insert_51 : decode cX4_insert 51 = .ok (.aload_n 0, 1) := by decide +kernel
theorem dX4_insert_52 : decode cX4_insert 52 = .ok (.getfield 9, 3) := by decide +kernel
theorem dX4_insert_55 : decode cX4_insert 55 = .ok (.iload_n 2, 1) := by decide +kernel
theorem dX4_insert_56 : decode cX4_insert 56 = .ok (.iload_n 1, 1) := by decide +kernel
theorem dX4_insert_57 : decode cX4_insert 57 = .ok (.iastore, 1) := by decide +kernel
theorem dX4_insert_58 : decode cX4_insert 58 = .ok (.aload_n 0, 1) := by decide +kernel
theorem dX4_insert_59 : decode cX4_insert 59 = .ok (.dup, 1) := by decide +kernel
theorem dX4_insert_60 : decode cX4_insert 60 = .ok (.getfield 15, 3) := by decide +kernel
theorem dX4_insert_63 : decode cX4_insert 63 = .ok (.iconst 1, 1) := by decide +kernel
theorem dX4_insert_64 : decode cX4_insert 64 = .ok (.iadd, 1) := by decide +kernel
theorem dX4_insert_65 : decode cX4_insert 65 = .ok (.putfield 15, 3) := by decide +kernel
theorem dX4_insert_68 : decode cX4_insert 68 = .ok (.return_, 1) := by decide +kernel
theorem dX5_init_0 : decode cX5_init 0 = .ok (.aload_n 0, 1) := by decide +kernel
theorem dX5_init_1 : decode cX5_init 1 = .ok (.invokespecial 3, 3) := by decide +kernel
theorem dX5_init_4 : decode cX5_init 4 = .ok (.aload_n 0, 1) := by decide +kernel
theorem dX5_init_5 : decode cX5_init 5 = .ok (.bipush 60, 2) := by decide +kernel
theorem dX5_init_7 : decode cX5_init 7 = .ok (.newarray .int, 2) := by decide +kernel
theorem dX5_init_9 : decode cX5_init 9 = .ok (.putfield 9, 3) := by decide +kernel
theorem dX5_init_12 : decode cX5_init 12 = .ok (.aload_n 0, 1) := by decide +kernel
theorem dX5_init_13 : decode cX5_init 13 = .ok (.iconst 0, 1) := by decide +kernel
theorem dX5_init_14 : decode cX5_init 14 = .ok (.putfield 15, 3) := by decide +kernel
theorem dX5_init_17 : decode cX5_init 17 = .ok (.return_, 1) := by decide +kernel
theorem dX5_size_0 : decode cX5_size 0 = .ok (.aload_n 0, 1) := by decide +kernel
theorem dX5_size_1 : decode cX5_size 1 = .ok (.getfield 15, 3) := by decide +kernel
theorem dX5_size_4 : decode cX5_size 4 = .ok (.ireturn, 1) := by decide +kernel
theorem dX5_at_0 : decode cX5_at 0 = .ok (.aload_n 0, 1) := by decide +kernel
theorem dX5_at_1 : decode cX5_at 1 = .ok (.getfield 9, 3) := by decide +kernel
theorem dX5_at_4 : decode cX5_at 4 = .ok (.iload_n 1, 1) := by decide +kernel
theorem dX5_at_5 : decode cX5_at 5 = .ok (.iaload, 1) := by decide +kernel
theorem dX5_at_6 : decode cX5_at 6 = .ok (.ireturn, 1) := by decide +kernel
theorem dX5_holds_0 : decode cX5_holds 0 = .ok (.aload_n 0, 1) := by decide +kernel
theorem dX5_holds_1 : decode cX5_holds 1 = .ok (.iload_n 1, 1) := by decide +kernel
theorem dX5_holds_2 : decode cX5_holds 2 = .ok (.invokevirtual 19, 3) := by decide +kernel
theorem dX5_holds_5 : decode cX5_holds 5 = .ok (.istore_n 2, 1) := by decide +kernel
theorem dX5_holds_6 : decode cX5_holds 6 = .ok (.iload_n 2, 1) := by decide +kernel
theorem dX5_holds_7 : decode cX5_holds 7 = .ok (.aload_n 0, 1) := by decide +kernel
theorem dX5_holds_8 : decode cX5_holds 8 = .ok (.getfield 15, 3) := by decide +kernel
theorem dX5_holds_11 : decode cX5_holds 11 = .ok (.if_icmp .ge 17, 3) := by decide +kernel
theorem dX5_holds_14 : decode cX5_holds 14 = .ok (.aload_n 0, 1) := by decide +kernel
theorem dX5_holds_15 : decode cX5_holds 15 = .ok (.getfield 9, 3) := by decide +kernel
theorem dX5_holds_18 : decode cX5_holds 18 = .ok (.iload_n 2, 1) := by decide +kernel
theorem dX5_holds_19 : decode cX5_holds 19 = .ok (.iaload, 1) := by decide +kernel
theorem dX5_holds_20 : decode cX5_holds 20 = .ok (.iload_n 1, 1) := by decide +kernel
theorem dX5_holds_21 : decode cX5_holds 21 = .ok (.if_icmp .ne 7, 3) := by decide +kernel
theorem dX5_holds_24 : decode cX5_holds 24 = .ok (.iconst 1, 1) := by decide +kernel
theorem dX5_holds_25 : decode cX5_holds 25 = .ok (.goto 4, 3) := by decide +kernel
theorem dX5_holds_28 : decode cX5_holds 28 = .ok (.iconst 0, 1) := by decide +kernel
theorem dX5_holds_29 : decode cX5_holds 29 = .ok (.ireturn, 1) := by decide +kernel
theorem dX5_insert_0 : decode cX5_insert 0 = .ok (.aload_n 0, 1) := by decide +kernel
theorem dX5_insert_1 : decode cX5_insert 1 = .ok (.getfield 15, 3) := by decide +kernel
theorem dX5_insert_4 : decode cX5_insert 4 = .ok (.bipush 60, 2) := by decide +kernel
theorem dX5_insert_6 : decode cX5_insert 6 = .ok (.if_icmp .lt 4, 3) := by decide +kernel
theorem dX5_insert_9 : decode cX5_insert 9 = .ok (.return_, 1) := by decide +kernel
theorem dX5_insert_10 : decode cX5_insert 10 = .ok (.aload_n 0, 1) := by decide +kernel
theorem dX5_insert_11 : decode cX5_insert 11 = .ok (.iload_n 1, 1) := by decide +kernel
theorem dX5_insert_12 : decode cX5_insert 12 = .ok (.invokevirtual 19, 3) := by decide +kernel
theorem dX5_insert_15 : decode cX5_insert 15 = .ok (.istore_n 2, 1) := by decide +kernel
theorem dX5_insert_16 : decode cX5_insert 16 = .ok (.aload_n 0, 1) := by decide +kernel
theorem dX5_insert_17 : decode cX5_insert 17 = .ok (.getfield 15, 3) := by decide +kernel
theorem dX5_insert_20 : decode cX5_insert 20 = .ok (.istore_n 3, 1) := by decide +kernel
theorem dX5_insert_21 : decode cX5_insert 21 = .ok (.iload_n 3, 1) := by decide +kernel
theorem dX5_insert_22 : decode cX5_insert 22 = .ok (.iload_n 2, 1) := by decide +kernel
theorem dX5_insert_23 : decode cX5_insert 23 = .ok (.if_icmp .le 23, 3) := by decide +kernel
theorem dX5_insert_26 : decode cX5_insert 26 = .ok (.aload_n 0, 1) := by decide +kernel
theorem dX5_insert_27 : decode cX5_insert 27 = .ok (.getfield 9, 3) := by decide +kernel
theorem dX5_insert_30 : decode cX5_insert 30 = .ok (.iload_n 3, 1) := by decide +kernel
theorem dX5_insert_31 : decode cX5_insert 31 = .ok (.aload_n 0, 1) := by decide +kernel
theorem dX5_insert_32 : decode cX5_insert 32 = .ok (.getfield 9, 3) := by decide +kernel
theorem dX5_insert_35 : decode cX5_insert 35 = .ok (.iload_n 3, 1) := by decide +kernel
theorem dX5_insert_36 : decode cX5_insert 36 = .ok (.iconst 1, 1) := by decide +kernel
theorem dX5_insert_37 : decode cX5_insert 37 = .ok (.isub, 1) := by decide +kernel
theorem dX5_insert_38 : decode cX5_insert 38 = .ok (.iaload, 1) := by decide +kernel
theorem dX5_insert_39 : decode cX5_insert 39 = .ok (.iastore, 1) := by decide +kernel
theorem dX5_insert_40 : decode cX5_insert 40 = .ok (.iinc 3 (-1), 3) := by decide +kernel
theorem dX5_insert_43 : decode cX5_insert 43 = .ok (.goto (-22), 3) := by decide +kernel
theorem dX5_insert_46 : decode cX5_insert 46 = .ok (.aload_n 0, 1) := by decide +kernel
theorem dX5_insert_47 : decode cX5_insert 47 = .ok (.getfield 9, 3) := by decide +kernel
theorem dX5_insert_50 : decode cX5_insert 50 = .ok (.iload_n 2, 1) := by decide +kernel
theorem dX5_insert_51 : decode cX5_insert 51 = .ok (.iload_n 1, 1) := by decide +kernel
theorem dX5_insert_52 : decode cX5_insert 52 = .ok (.iastore, 1) := by decide +kernel
theorem dX5_insert_53 : decode cX5_insert 53 = .ok (.aload_n 0, 1) := by decide +kernel
theorem dX5_insert_54 : decode cX5_insert 54 = .ok (.dup, 1) := by decide +kernel
theorem dX5_insert_55 : decode cX5_insert 55 = .ok (.getfield 15, 3) := by decide +kernel
theorem dX5_insert_58 : decode cX5_insert 58 = .ok (.iconst 1, 1) := by decide +kernel
theorem dX5_insert_59 : decode cX5_insert 59 = .ok (.iadd, 1) := by decide +kernel
theorem dX5_insert_60 : decode cX5_insert 60 = .ok (.putfield 15, 3) := by decide +kernel
theorem dX5_insert_63 : decode cX5_insert 63 = .ok (.return_, 1) := by decide +kernel
theorem dX5_remove_0 : decode cX5_remove 0 = .ok (.aload_n 0, 1) := by decide +kernel
theorem dX5_remove_1 : decode cX5_remove 1 = .ok (.dup, 1) := by decide +kernel
theorem dX5_remove_2 : decode cX5_remove 2 = .ok (.getfield 15, 3) := by decide +kernel
theorem dX5_remove_5 : decode cX5_remove 5 = .ok (.iconst 1, 1) := by decide +kernel
theorem dX5_remove_6 : decode cX5_remove 6 = .ok (.isub, 1) := by decide +kernel
theorem dX5_remove_7 : decode cX5_remove 7 = .ok (.putfield 15, 3) := by decide +kernel
theorem dX5_remove_10 : decode cX5_remove 10 = .ok (.aload_n 0, 1) := by decide +kernel
theorem dX5_remove_11 : decode cX5_remove 11 = .ok (.iload_n 1, 1) := by decide +kernel
theorem dX5_remove_12 : decode cX5_remove 12 = .ok (.invokevirtual 19, 3) := by decide +kernel
theorem dX5_remove_15 : decode cX5_remove 15 = .ok (.istore_n 2, 1) := by decide +kernel
theorem dX5_remove_16 : decode cX5_remove 16 = .ok (.iload_n 2, 1) := by decide +kernel
theorem dX5_remove_17 : decode cX5_remove 17 = .ok (.aload_n 0, 1) := by decide +kernel
theorem dX5_remove_18 : decode cX5_remove 18 = .ok (.getfield 15, 3) := by decide +kernel
theorem dX5_remove_21 : decode cX5_remove 21 = .ok (.if_icmp .ge 23, 3) := by decide +kernel
theorem dX5_remove_24 : decode cX5_remove 24 = .ok (.aload_n 0, 1) := by decide +kernel
theorem dX5_remove_25 : decode cX5_remove 25 = .ok (.getfield 9, 3) := by decide +kernel
theorem dX5_remove_28 : decode cX5_remove 28 = .ok (.iload_n 2, 1) := by decide +kernel
theorem dX5_remove_29 : decode cX5_remove 29 = .ok (.aload_n 0, 1) := by decide +kernel
theorem dX5_remove_30 : decode cX5_remove 30 = .ok (.getfield 9, 3) := by decide +kernel
theorem dX5_remove_33 : decode cX5_remove 33 = .ok (.iload_n 2, 1) := by decide +kernel
theorem dX5_remove_34 : decode cX5_remove 34 = .ok (.iconst 1, 1) := by decide +kernel
theorem dX5_remove_35 : decode cX5_remove 35 = .ok (.iadd, 1) := by decide +kernel
theorem dX5_remove_36 : decode cX5_remove 36 = .ok (.iaload, 1) := by decide +kernel
theorem dX5_remove_37 : decode cX5_remove 37 = .ok (.iastore, 1) := by decide +kernel
theorem dX5_remove_38 : decode cX5_remove 38 = .ok (.iinc 2 1, 3) := by decide +kernel
theorem dX5_remove_41 : decode cX5_remove 41 = .ok (.goto (-25), 3) := by decide +kernel
theorem dX5_remove_44 : decode cX5_remove 44 = .ok (.return_, 1) := by decide +kernel
theorem dX5_spotOf_0 : decode cX5_spotOf 0 = .ok (.iconst 0, 1) := by decide +kernel
theorem dX5_spotOf_1 : decode cX5_spotOf 1 = .ok (.istore_n 2, 1) := by decide +kernel
theorem dX5_spotOf_2 : decode cX5_spotOf 2 = .ok (.iload_n 2, 1) := by decide +kernel
theorem dX5_spotOf_3 : decode cX5_spotOf 3 = .ok (.aload_n 0, 1) := by decide +kernel
theorem dX5_spotOf_4 : decode cX5_spotOf 4 = .ok (.getfield 15, 3) := by decide +kernel
theorem dX5_spotOf_7 : decode cX5_spotOf 7 = .ok (.if_icmp .ge 19, 3) := by decide +kernel
theorem dX5_spotOf_10 : decode cX5_spotOf 10 = .ok (.aload_n 0, 1) := by decide +kernel
theorem dX5_spotOf_11 : decode cX5_spotOf 11 = .ok (.getfield 9, 3) := by decide +kernel
theorem dX5_spotOf_14 : decode cX5_spotOf 14 = .ok (.iload_n 2, 1) := by decide +kernel
theorem dX5_spotOf_15 : decode cX5_spotOf 15 = .ok (.iaload, 1) := by decide +kernel
theorem dX5_spotOf_16 : decode cX5_spotOf 16 = .ok (.iload_n 1, 1) := by decide +kernel
theorem dX5_spotOf_17 : decode cX5_spotOf 17 = .ok (.if_icmp .ge 9, 3) := by decide +kernel
theorem dX5_spotOf_20 : decode cX5_spotOf 20 = .ok (.iinc 2 1, 3) := by decide +kernel
theorem dX5_spotOf_23 : decode cX5_spotOf 23 = .ok (.goto (-21), 3) := by decide +kernel
theorem dX5_spotOf_26 : decode cX5_spotOf 26 = .ok (.iload_n 2, 1) := by decide +kernel
theorem dX5_spotOf_27 : decode cX5_spotOf 27 = .ok (.ireturn, 1) := by decide +kernel
theorem dX6_init_0 : decode cX6_init 0 = .ok (.aload_n 0, 1) := by decide +kernel
theorem dX6_init_1 : decode cX6_init 1 = .ok (.invokespecial 3, 3) := by decide +kernel
theorem dX6_init_4 : decode cX6_init 4 = .ok (.aload_n 0, 1) := by decide +kernel
theorem dX6_init_5 : decode cX6_init 5 = .ok (.bipush 60, 2) := by decide +kernel
theorem dX6_init_7 : decode cX6_init 7 = .ok (.newarray .int, 2) := by decide +kernel
theorem dX6_init_9 : decode cX6_init 9 = .ok (.putfield 9, 3) := by decide +kernel
theorem dX6_init_12 : decode cX6_init 12 = .ok (.aload_n 0, 1) := by decide +kernel
theorem dX6_init_13 : decode cX6_init 13 = .ok (.aload_n 1, 1) := by decide +kernel
theorem dX6_init_14 : decode cX6_init 14 = .ok (.putfield 15, 3) := by decide +kernel
theorem dX6_init_17 : decode cX6_init 17 = .ok (.aload_n 0, 1) := by decide +kernel
theorem dX6_init_18 : decode cX6_init 18 = .ok (.aload_n 2, 1) := by decide +kernel
theorem dX6_init_19 : decode cX6_init 19 = .ok (.putfield 19, 3) := by decide +kernel
theorem dX6_init_22 : decode cX6_init 22 = .ok (.return_, 1) := by decide +kernel
theorem dX6_gather_0 : decode cX6_gather 0 = .ok (.iconst 0, 1) := by decide +kernel
theorem dX6_gather_1 : decode cX6_gather 1 = .ok (.istore_n 2, 1) := by decide +kernel
theorem dX6_gather_2 : decode cX6_gather 2 = .ok (.iload_n 2, 1) := by decide +kernel
theorem dX6_gather_3 : decode cX6_gather 3 = .ok (.aload_n 0, 1) := by decide +kernel
theorem dX6_gather_4 : decode cX6_gather 4 = .ok (.getfield 15, 3) := by decide +kernel
theorem dX6_gather_7 : decode cX6_gather 7 = .ok (.invokevirtual 23, 3) := by decide +kernel
theorem dX6_gather_10 : decode cX6_gather 10 = .ok (.if_icmp .ge 30, 3) := by decide +kernel
theorem dX6_gather_13 : decode cX6_gather 13 = .ok (.aload_n 0, 1) := by decide +kernel
theorem dX6_gather_14 : decode cX6_gather 14 = .ok (.getfield 9, 3) := by decide +kernel
theorem dX6_gather_17 : decode cX6_gather 17 = .ok (.aload_n 0, 1) := by decide +kernel
theorem dX6_gather_18 : decode cX6_gather 18 = .ok (.getfield 15, 3) := by decide +kernel
theorem dX6_gather_21 : decode cX6_gather 21 = .ok (.iload_n 2, 1) := by decide +kernel
theorem dX6_gather_22 : decode cX6_gather 22 = .ok (.invokevirtual 29, 3) := by decide +kernel
theorem dX6_gather_25 : decode cX6_gather 25 = .ok (.aload_n 0, 1) := by decide +kernel
theorem dX6_gather_26 : decode cX6_gather 26 = .ok (.getfield 15, 3) := by decide +kernel
theorem dX6_gather_29 : decode cX6_gather 29 = .ok (.iload_n 2, 1) := by decide +kernel
theorem dX6_gather_30 : decode cX6_gather 30 = .ok (.invokevirtual 29, 3) := by decide +kernel
theorem dX6_gather_33 : decode cX6_gather 33 = .ok (.iastore, 1) := by decide +kernel
theorem dX6_gather_34 : decode cX6_gather 34 = .ok (.iinc 2 1, 3) := by decide +kernel
theorem dX6_gather_37 : decode cX6_gather 37 = .ok (.goto (-35), 3) := by decide +kernel
theorem dX6_gather_40 : decode cX6_gather 40 = .ok (.iconst 1, 1) := by decide +kernel
theorem dX6_gather_41 : decode cX6_gather 41 = .ok (.istore_n 2, 1) := by decide +kernel
theorem dX6_gather_42 : decode cX6_gather 42 = .ok (.iload_n 2, 1) := by decide +kernel
theorem dX6_gather_43 : decode cX6_gather 43 = .ok (.aload_n 0, 1) := by decide +kernel
theorem dX6_gather_44 : decode cX6_gather 44 = .ok (.getfield 15, 3) := by decide +kernel
theorem dX6_gather_47 : decode cX6_gather 47 = .ok (.invokevirtual 23, 3) := by decide +kernel
theorem dX6_gather_50 : decode cX6_gather 50 = .ok (.if_icmp .ge 79, 3) := by decide +kernel
theorem dX6_gather_53 : decode cX6_gather 53 = .ok (.iconst 0, 1) := by decide +kernel
theorem dX6_gather_54 : decode cX6_gather 54 = .ok (.istore_n 3, 1) := by decide +kernel
theorem dX6_gather_55 : decode cX6_gather 55 = .ok (.iload_n 3, 1) := by decide +kernel
theorem dX6_gather_56 : decode cX6_gather 56 = .ok (.iload_n 2, 1) := by decide +kernel
theorem dX6_gather_57 : decode cX6_gather 57 = .ok (.if_icmp .ge 66, 3) := by decide +kernel
theorem dX6_gather_60 : decode cX6_gather 60 = .ok (.aload_n 0, 1) := by decide +kernel
theorem dX6_gather_61 : decode cX6_gather 61 = .ok (.getfield 19, 3) := by decide +kernel
theorem dX6_gather_64 : decode cX6_gather 64 = .ok (.aload_n 0, 1) := by decide +kernel
theorem dX6_gather_65 : decode cX6_gather 65 = .ok (.getfield 15, 3) := by decide +kernel
theorem dX6_gather_68 : decode cX6_gather 68 = .ok (.iload_n 2, 1) := by decide +kernel
theorem dX6_gather_69 : decode cX6_gather 69 = .ok (.invokevirtual 29, 3) := by decide +kernel
theorem dX6_gather_72 : decode cX6_gather 72 = .ok (.aload_n 0, 1) := by decide +kernel
theorem dX6_gather_73 : decode cX6_gather 73 = .ok (.getfield 15, 3) := by decide +kernel
theorem dX6_gather_76 : decode cX6_gather 76 = .ok (.iload_n 3, 1) := by decide +kernel
theorem dX6_gather_77 : decode cX6_gather 77 = .ok (.invokevirtual 29, 3) := by decide +kernel
theorem dX6_gather_80 : decode cX6_gather 80 = .ok (.invokevirtual 33, 3) := by decide +kernel
theorem dX6_gather_83 : decode cX6_gather 83 = .ok (.iload_n 1, 1) := by decide +kernel
theorem dX6_gather_84 : decode cX6_gather 84 = .ok (.if_icmp .gt 33, 3) := by decide +kernel
theorem dX6_gather_87 : decode cX6_gather 87 = .ok (.aload_n 0, 1) := by decide +kernel
theorem dX6_gather_88 : decode cX6_gather 88 = .ok (.aload_n 0, 1) := by decide +kernel
theorem dX6_gather_89 : decode cX6_gather 89 = .ok (.getfield 9, 3) := by decide +kernel
theorem dX6_gather_92 : decode cX6_gather 92 = .ok (.aload_n 0, 1) := by decide +kernel
theorem dX6_gather_93 : decode cX6_gather 93 = .ok (.getfield 15, 3) := by decide +kernel
theorem dX6_gather_96 : decode cX6_gather 96 = .ok (.iload_n 2, 1) := by decide +kernel
theorem dX6_gather_97 : decode cX6_gather 97 = .ok (.invokevirtual 29, 3) := by decide +kernel
theorem dX6_gather_100 : decode cX6_gather 100 = .ok (.iaload, 1) := by decide +kernel
theorem dX6_gather_101 : decode cX6_gather 101 = .ok (.aload_n 0, 1) := by decide +kernel
theorem dX6_gather_102 : decode cX6_gather 102 = .ok (.getfield 9, 3) := by decide +kernel
theorem dX6_gather_105 : decode cX6_gather 105 = .ok (.aload_n 0, 1) := by decide +kernel
theorem dX6_gather_106 : decode cX6_gather 106 = .ok (.getfield 15, 3) := by decide +kernel
theorem dX6_gather_109 : decode cX6_gather 109 = .ok (.iload_n 3, 1) := by decide +kernel
theorem dX6_gather_110 : decode cX6_gather 110 = .ok (.invokevirtual 29, 3) := by decide +kernel
theorem dX6_gather_113 : decode cX6_gather 113 = .ok (.iaload, 1) := by decide +kernel
theorem dX6_gather_114 : decode cX6_gather 114 = .ok (.invokevirtual 38, 3) := by decide +kernel
theorem dX6_gather_117 : decode cX6_gather 117 = .ok (.iinc 3 1, 3) := by decide +kernel
theorem dX6_gather_120 : decode cX6_gather 120 = .ok (.goto (-65), 3) := by decide +kernel
theorem dX6_gather_123 : decode cX6_gather 123 = .ok (.iinc 2 1, 3) := by decide +kernel
theorem dX6_gather_126 : decode cX6_gather 126 = .ok (.goto (-84), 3) := by decide +kernel
theorem dX6_gather_129 : decode cX6_gather 129 = .ok (.return_, 1) := by decide +kernel
theorem dX6_howMany_0 : decode cX6_howMany 0 = .ok (.iconst 0, 1) := by decide +kernel
theorem dX6_howMany_1 : decode cX6_howMany 1 = .ok (.istore_n 1, 1) := by decide +kernel
theorem dX6_howMany_2 : decode cX6_howMany 2 = .ok (.iconst 0, 1) := by decide +kernel
theorem dX6_howMany_3 : decode cX6_howMany 3 = .ok (.istore_n 2, 1) := by decide +kernel
theorem dX6_howMany_4 : decode cX6_howMany 4 = .ok (.iload_n 2, 1) := by decide +kernel
theorem dX6_howMany_5 : decode cX6_howMany 5 = .ok (.aload_n 0, 1) := by decide +kernel
theorem dX6_howMany_6 : decode cX6_howMany 6 = .ok (.getfield 15, 3) := by decide +kernel
theorem dX6_howMany_9 : decode cX6_howMany 9 = .ok (.invokevirtual 23, 3) := by decide +kernel
theorem dX6_howMany_12 : decode cX6_howMany 12 = .ok (.if_icmp .ge 36, 3) := by decide +kernel
theorem dX6_howMany_15 : decode cX6_howMany 15 = .ok (.aload_n 0, 1) := by decide +kernel
theorem dX6_howMany_16 : decode cX6_howMany 16 = .ok (.getfield 9, 3) := by decide +kernel
theorem dX6_howMany_19 : decode cX6_howMany 19 = .ok (.aload_n 0, 1) := by decide +kernel
theorem dX6_howMany_20 : decode cX6_howMany 20 = .ok (.getfield 15, 3) := by decide +kernel
theorem dX6_howMany_23 : decode cX6_howMany 23 = .ok (.iload_n 2, 1) := by decide +kernel
theorem dX6_howMany_24 : decode cX6_howMany 24 = .ok (.invokevirtual 29, 3) := by decide +kernel
theorem dX6_howMany_27 : decode cX6_howMany 27 = .ok (.iaload, 1) := by decide +kernel
theorem dX6_howMany_28 : decode cX6_howMany 28 = .ok (.aload_n 0, 1) := by decide +kernel
theorem dX6_howMany_29 : decode cX6_howMany 29 = .ok (.getfield 15, 3) := by decide +kernel
theorem dX6_howMany_32 : decode cX6_howMany 32 = .ok (.iload_n 2, 1) := by decide +kernel
theorem dX6_howMany_33 : decode cX6_howMany 33 = .ok (.invokevirtual 29, 3) := by decide +kernel
theorem dX6_howMany_36 : decode cX6_howMany 36 = .ok (.if_icmp .ne 6, 3) := by decide +kernel
theorem dX6_howMany_39 : decode cX6_howMany 39 = .ok (.iinc 1 1, 3) := by decide +kernel
theorem dX6_howMany_42 : decode cX6_howMany 42 = .ok (.iinc 2 1, 3) := by decide +kernel
theorem dX6_howMany_45 : decode cX6_howMany 45 = .ok (.goto (-41), 3) := by decide +kernel
theorem dX6_howMany_48 : decode cX6_howMany 48 = .ok (.iload_n 1, 1) := by decide +kernel
theorem dX6_howMany_49 : decode cX6_howMany 49 = .ok (.ireturn, 1) := by decide +kernel
theorem dX6_lowestWith_0 : decode cX6_lowestWith 0 = .ok (.aload_n 0, 1) := by decide +kernel
theorem dX6_lowestWith_1 : decode cX6_lowestWith 1 = .ok (.getfield 9, 3) := by decide +kernel
theorem dX6_lowestWith_4 : decode cX6_lowestWith 4 = .ok (.iload_n 1, 1) := by decide +kernel
theorem dX6_lowestWith_5 : decode cX6_lowestWith 5 = .ok (.iaload, 1) := by decide +kernel
theorem dX6_lowestWith_6 : decode cX6_lowestWith 6 = .ok (.ireturn, 1) := by decide +kernel
theorem dX6_join_0 : decode cX6_join 0 = .ok (.iload_n 1, 1) := by decide +kernel
theorem dX6_join_1 : decode cX6_join 1 = .ok (.iload_n 2, 1) := by decide +kernel
theorem dX6_join_2 : decode cX6_join 2 = .ok (.if_icmp .ne 4, 3) := by decide +kernel
theorem dX6_join_5 : decode cX6_join 5 = .ok (.return_, 1) := by decide +kernel
theorem dX6_join_6 : decode cX6_join 6 = .ok (.iload_n 1, 1) := by decide +kernel
theorem dX6_join_7 : decode cX6_join 7 = .ok (.iload_n 2, 1) := by decide +kernel
theorem dX6_join_8 : decode cX6_join 8 = .ok (.invokestatic 42, 3) := by decide +kernel
theorem dX6_join_11 : decode cX6_join 11 = .ok (.istore_n 3, 1) := by decide +kernel
theorem dX6_join_12 : decode cX6_join 12 = .ok (.iload_n 1, 1) := by decide +kernel
theorem dX6_join_13 : decode cX6_join 13 = .ok (.iload_n 2, 1) := by decide +kernel
theorem dX6_join_14 : decode cX6_join 14 = .ok (.invokestatic 47, 3) := by decide +kernel
theorem dX6_join_17 : decode cX6_join 17 = .ok (.istore 4, 2) := by decide +kernel
theorem dX6_join_19 : decode cX6_join 19 = .ok (.iconst 0, 1) := by decide +kernel
theorem dX6_join_20 : decode cX6_join 20 = .ok (.istore 5, 2) := by decide +kernel
theorem dX6_join_22 : decode cX6_join 22 = .ok (.iload 5, 2) := by decide +kernel
theorem dX6_join_24 : decode cX6_join 24 = .ok (.aload_n 0, 1) := by decide +kernel
theorem dX6_join_25 : decode cX6_join 25 = .ok (.getfield 15, 3) := by decide +kernel
theorem dX6_join_28 : decode cX6_join 28 = .ok (.invokevirtual 23, 3) := by decide +kernel
theorem dX6_join_31 : decode cX6_join 31 = .ok (.if_icmp .ge 43, 3) := by decide +kernel
theorem dX6_join_34 : decode cX6_join 34 = .ok (.aload_n 0, 1) := by decide +kernel
theorem dX6_join_35 : decode cX6_join 35 = .ok (.getfield 9, 3) := by decide +kernel
theorem dX6_join_38 : decode cX6_join 38 = .ok (.aload_n 0, 1) := by decide +kernel
theorem dX6_join_39 : decode cX6_join 39 = .ok (.getfield 15, 3) := by decide +kernel
theorem dX6_join_42 : decode cX6_join 42 = .ok (.iload 5, 2) := by decide +kernel
theorem dX6_join_44 : decode cX6_join 44 = .ok (.invokevirtual 29, 3) := by decide +kernel
theorem dX6_join_47 : decode cX6_join 47 = .ok (.iaload, 1) := by decide +kernel
theorem dX6_join_48 : decode cX6_join 48 = .ok (.iload 4, 2) := by decide +kernel
theorem dX6_join_50 : decode cX6_join 50 = .ok (.if_icmp .ne 18, 3) := by decide +kernel
theorem dX6_join_53 : decode cX6_join 53 = .ok (.aload_n 0, 1) := by decide +kernel
theorem dX6_join_54 : decode cX6_join 54 = .ok (.getfield 9, 3) := by decide +kernel
theorem dX6_join_57 : decode cX6_join 57 = .ok (.aload_n 0, 1) := by decide +kernel
theorem dX6_join_58 : decode cX6_join 58 = .ok (.getfield 15, 3) := by decide +kernel
theorem dX6_join_61 : decode cX6_join 61 = .ok (.iload 5, 2) := by decide +kernel
theorem dX6_join_63 : decode cX6_join 63 = .ok (.invokevirtual 29, 3) := by decide +kernel
theorem dX6_join_66 : decode cX6_join 66 = .ok (.iload_n 3, 1) := by decide +kernel
theorem dX6_join_67 : decode cX6_join 67 = .ok (.iastore, 1) := by decide +kernel
theorem dX6_join_68 : decode cX6_join 68 = .ok (.iinc 5 1, 3) := by decide +kernel
theorem dX6_join_71 : decode cX6_join 71 = .ok (.goto (-49), 3) := by decide +kernel
theorem dX6_join_74 : decode cX6_join 74 = .ok (.return_, 1) := by decide +kernel
theorem dX7_init_0 : decode cX7_init 0 = .ok (.aload_n 0, 1) := by decide +kernel
theorem dX7_init_1 : decode cX7_init 1 = .ok (.invokespecial 3, 3) := by decide +kernel
theorem dX7_init_4 : decode cX7_init 4 = .ok (.aload_n 0, 1) := by decide +kernel
theorem dX7_init_5 : decode cX7_init 5 = .ok (.bipush 60, 2) := by decide +kernel
theorem dX7_init_7 : decode cX7_init 7 = .ok (.newarray .int, 2) := by decide +kernel
theorem dX7_init_9 : decode cX7_init 9 = .ok (.putfield 9, 3) := by decide +kernel
theorem dX7_init_12 : decode cX7_init 12 = .ok (.aload_n 0, 1) := by decide +kernel
theorem dX7_init_13 : decode cX7_init 13 = .ok (.bipush 60, 2) := by decide +kernel
theorem dX7_init_15 : decode cX7_init 15 = .ok (.newarray .int, 2) := by decide +kernel
theorem dX7_init_17 : decode cX7_init 17 = .ok (.putfield 15, 3) := by decide +kernel
theorem dX7_init_20 : decode cX7_init 20 = .ok (.aload_n 0, 1) := by decide +kernel
theorem dX7_init_21 : decode cX7_init 21 = .ok (.iconst 0, 1) := by decide +kernel
theorem dX7_init_22 : decode cX7_init 22 = .ok (.putfield 18, 3) := by decide +kernel
theorem dX7_init_25 : decode cX7_init 25 = .ok (.return_, 1) := by decide +kernel
theorem dX7_size_0 : decode cX7_size 0 = .ok (.aload_n 0, 1) := by decide +kernel
theorem dX7_size_1 : decode cX7_size 1 = .ok (.getfield 18, 3) := by decide +kernel
theorem dX7_size_4 : decode cX7_size 4 = .ok (.ireturn, 1) := by decide +kernel
theorem dX7_thingAt_0 : decode cX7_thingAt 0 = .ok (.aload_n 0, 1) := by decide +kernel
theorem dX7_thingAt_1 : decode cX7_thingAt 1 = .ok (.getfield 9, 3) := by decide +kernel
theorem dX7_thingAt_4 : decode cX7_thingAt 4 = .ok (.iload_n 1, 1) := by decide +kernel
theorem dX7_thingAt_5 : decode cX7_thingAt 5 = .ok (.iaload, 1) := by decide +kernel
theorem dX7_thingAt_6 : decode cX7_thingAt 6 = .ok (.ireturn, 1) := by decide +kernel
theorem dX7_distanceAt_0 : decode cX7_distanceAt 0 = .ok (.aload_n 0, 1) := by decide +kernel
theorem dX7_distanceAt_1 : decode cX7_distanceAt 1 = .ok (.getfield 15, 3) := by decide +kernel
theorem dX7_distanceAt_4 : decode cX7_distanceAt 4 = .ok (.iload_n 1, 1) := by decide +kernel
theorem dX7_distanceAt_5 : decode cX7_distanceAt 5 = .ok (.iaload, 1) := by decide +kernel
theorem dX7_distanceAt_6 : decode cX7_distanceAt 6 = .ok (.ireturn, 1) := by decide +kernel
theorem dX7_clear_0 : decode cX7_clear 0 = .ok (.aload_n 0, 1) := by decide +kernel
theorem dX7_clear_1 : decode cX7_clear 1 = .ok (.iconst 0, 1) := by decide +kernel
theorem dX7_clear_2 : decode cX7_clear 2 = .ok (.putfield 18, 3) := by decide +kernel
theorem dX7_clear_5 : decode cX7_clear 5 = .ok (.return_, 1) := by decide +kernel
theorem dX7_append_0 : decode cX7_append 0 = .ok (.aload_n 0, 1) := by decide +kernel
theorem dX7_append_1 : decode cX7_append 1 = .ok (.getfield 18, 3) := by decide +kernel
theorem dX7_append_4 : decode cX7_append 4 = .ok (.bipush 60, 2) := by decide +kernel
theorem dX7_append_6 : decode cX7_append 6 = .ok (.if_icmp .lt 4, 3) := by decide +kernel
theorem dX7_append_9 : decode cX7_append 9 = .ok (.return_, 1) := by decide +kernel
theorem dX7_append_10 : decode cX7_append 10 = .ok (.aload_n 0, 1) := by decide +kernel
theorem dX7_append_11 : decode cX7_append 11 = .ok (.getfield 9, 3) := by decide +kernel
theorem dX7_append_14 : decode cX7_append 14 = .ok (.aload_n 0, 1) := by decide +kernel
theorem dX7_append_15 : decode cX7_append 15 = .ok (.getfield 18, 3) := by decide +kernel
theorem dX7_append_18 : decode cX7_append 18 = .ok (.iload_n 1, 1) := by decide +kernel
theorem dX7_append_19 : decode cX7_append 19 = .ok (.iastore, 1) := by decide +kernel
theorem dX7_append_20 : decode cX7_append 20 = .ok (.aload_n 0, 1) := by decide +kernel
theorem dX7_append_21 : decode cX7_append 21 = .ok (.getfield 15, 3) := by decide +kernel
theorem dX7_append_24 : decode cX7_append 24 = .ok (.aload_n 0, 1) := by decide +kernel
theorem dX7_append_25 : decode cX7_append 25 = .ok (.getfield 18, 3) := by decide +kernel
theorem dX7_append_28 : decode cX7_append 28 = .ok (.iload_n 2, 1) := by decide +kernel
theorem dX7_append_29 : decode cX7_append 29 = .ok (.iastore, 1) := by decide +kernel
theorem dX7_append_30 : decode cX7_append 30 = .ok (.aload_n 0, 1) := by decide +kernel
theorem dX7_append_31 : decode cX7_append 31 = .ok (.dup, 1) := by decide +kernel
theorem dX7_append_32 : decode cX7_append 32 = .ok (.getfield 18, 3) := by decide +kernel
theorem dX7_append_35 : decode cX7_append 35 = .ok (.iconst 1, 1) := by decide +kernel
theorem dX7_append_36 : decode cX7_append 36 = .ok (.iadd, 1) := by decide +kernel
theorem dX7_append_37 : decode cX7_append 37 = .ok (.putfield 18, 3) := by decide +kernel
theorem dX7_append_40 : decode cX7_append 40 = .ok (.return_, 1) := by decide +kernel
theorem dX8_init_0 : decode cX8_init 0 = .ok (.aload_n 0, 1) := by decide +kernel
theorem dX8_init_1 : decode cX8_init 1 = .ok (.invokespecial 3, 3) := by decide +kernel
theorem dX8_init_4 : decode cX8_init 4 = .ok (.aload_n 0, 1) := by decide +kernel
theorem dX8_init_5 : decode cX8_init 5 = .ok (.bipush 60, 2) := by decide +kernel
theorem dX8_init_7 : decode cX8_init 7 = .ok (.newarray .int, 2) := by decide +kernel
theorem dX8_init_9 : decode cX8_init 9 = .ok (.putfield 9, 3) := by decide +kernel
theorem dX8_init_12 : decode cX8_init 12 = .ok (.aload_n 0, 1) := by decide +kernel
theorem dX8_init_13 : decode cX8_init 13 = .ok (.sipush 480, 3) := by decide +kernel
theorem dX8_init_16 : decode cX8_init 16 = .ok (.newarray .int, 2) := by decide +kernel
theorem dX8_init_18 : decode cX8_init 18 = .ok (.putfield 15, 3) := by decide +kernel
theorem dX8_init_21 : decode cX8_init 21 = .ok (.aload_n 0, 1) := by decide +kernel
theorem dX8_init_22 : decode cX8_init 22 = .ok (.bipush 9, 2) := by decide +kernel
theorem dX8_init_24 : decode cX8_init 24 = .ok (.newarray .int, 2) := by decide +kernel
theorem dX8_init_26 : decode cX8_init 26 = .ok (.putfield 18, 3) := by decide +kernel
theorem dX8_init_29 : decode cX8_init 29 = .ok (.aload_n 0, 1) := by decide +kernel
theorem dX8_init_30 : decode cX8_init 30 = .ok (.iconst 0, 1) := by decide +kernel
theorem dX8_init_31 : decode cX8_init 31 = .ok (.putfield 21, 3) := by decide +kernel
theorem dX8_init_34 : decode cX8_init 34 = .ok (.return_, 1) := by decide +kernel
theorem dX8_size_0 : decode cX8_size 0 = .ok (.aload_n 0, 1) := by decide +kernel
theorem dX8_size_1 : decode cX8_size 1 = .ok (.getfield 21, 3) := by decide +kernel
theorem dX8_size_4 : decode cX8_size 4 = .ok (.ireturn, 1) := by decide +kernel
theorem dX8_holds_0 : decode cX8_holds 0 = .ok (.iload_n 1, 1) := by decide +kernel
theorem dX8_holds_1 : decode cX8_holds 1 = .ok (.ifCond .lt 15, 3) := by decide +kernel
theorem dX8_holds_4 : decode cX8_holds 4 = .ok (.iload_n 1, 1) := by decide +kernel
theorem dX8_holds_5 : decode cX8_holds 5 = .ok (.aload_n 0, 1) := by decide +kernel
theorem dX8_holds_6 : decode cX8_holds 6 = .ok (.getfield 21, 3) := by decide +kernel
theorem dX8_holds_9 : decode cX8_holds 9 = .ok (.if_icmp .ge 7, 3) := by decide +kernel
theorem dX8_holds_12 : decode cX8_holds 12 = .ok (.iconst 1, 1) := by decide +kernel
theorem dX8_holds_13 : decode cX8_holds 13 = .ok (.goto 4, 3) := by decide +kernel
theorem dX8_holds_16 : decode cX8_holds 16 = .ok (.iconst 0, 1) := by decide +kernel
theorem dX8_holds_17 : decode cX8_holds 17 = .ok (.ireturn, 1) := by decide +kernel
theorem dX8_lengthOf_0 : decode cX8_lengthOf 0 = .ok (.aload_n 0, 1) := by decide +kernel
theorem dX8_lengthOf_1 : decode cX8_lengthOf 1 = .ok (.getfield 9, 3) := by decide +kernel
theorem dX8_lengthOf_4 : decode cX8_lengthOf 4 = .ok (.iload_n 1, 1) := by decide +kernel
theorem dX8_lengthOf_5 : decode cX8_lengthOf 5 = .ok (.iaload, 1) := by decide +kernel
theorem dX8_lengthOf_6 : decode cX8_lengthOf 6 = .ok (.ireturn, 1) := by decide +kernel
theorem dX8_append_0 : decode cX8_append 0 = .ok (.aload_n 0, 1) := by decide +kernel
theorem dX8_append_1 : decode cX8_append 1 = .ok (.getfield 9, 3) := by decide +kernel
theorem dX8_append_4 : decode cX8_append 4 = .ok (.aload_n 0, 1) := by decide +kernel
theorem dX8_append_5 : decode cX8_append 5 = .ok (.getfield 21, 3) := by decide +kernel
theorem dX8_append_8 : decode cX8_append 8 = .ok (.iload_n 1, 1) := by decide +kernel
theorem dX8_append_9 : decode cX8_append 9 = .ok (.iastore, 1) := by decide +kernel
theorem dX8_append_10 : decode cX8_append 10 = .ok (.aload_n 0, 1) := by decide +kernel
theorem dX8_append_11 : decode cX8_append 11 = .ok (.dup, 1) := by decide +kernel
theorem dX8_append_12 : decode cX8_append 12 = .ok (.getfield 21, 3) := by decide +kernel
theorem dX8_append_15 : decode cX8_append 15 = .ok (.iconst 1, 1) := by decide +kernel
theorem dX8_append_16 : decode cX8_append 16 = .ok (.iadd, 1) := by decide +kernel
theorem dX8_append_17 : decode cX8_append 17 = .ok (.putfield 21, 3) := by decide +kernel
theorem dX8_append_20 : decode cX8_append 20 = .ok (.aload_n 0, 1) := by decide +kernel
theorem dX8_append_21 : decode cX8_append 21 = .ok (.getfield 21, 3) := by decide +kernel
theorem dX8_append_24 : decode cX8_append 24 = .ok (.iconst 1, 1) := by decide +kernel
theorem dX8_append_25 : decode cX8_append 25 = .ok (.isub, 1) := by decide +kernel
theorem dX8_append_26 : decode cX8_append 26 = .ok (.ireturn, 1) := by decide +kernel
theorem dX8_change_0 : decode cX8_change 0 = .ok (.aload_n 0, 1) := by decide +kernel
theorem dX8_change_1 : decode cX8_change 1 = .ok (.getfield 15, 3) := by decide +kernel
theorem dX8_change_4 : decode cX8_change 4 = .ok (.iload_n 1, 1) := by decide +kernel
theorem dX8_change_5 : decode cX8_change 5 = .ok (.bipush 8, 2) := by decide +kernel
theorem dX8_change_7 : decode cX8_change 7 = .ok (.imul, 1) := by decide +kernel
theorem dX8_change_8 : decode cX8_change 8 = .ok (.iload_n 2, 1) := by decide +kernel
theorem dX8_change_9 : decode cX8_change 9 = .ok (.iadd, 1) := by decide +kernel
theorem dX8_change_10 : decode cX8_change 10 = .ok (.iload_n 3, 1) := by decide +kernel
theorem dX8_change_11 : decode cX8_change 11 = .ok (.iastore, 1) := by decide +kernel
theorem dX8_change_12 : decode cX8_change 12 = .ok (.return_, 1) := by decide +kernel
theorem dX8_unlikePlaces_0 : decode cX8_unlikePlaces 0 = .ok (.iconst 0, 1) := by decide +kernel
theorem dX8_unlikePlaces_1 : decode cX8_unlikePlaces 1 = .ok (.istore_n 3, 1) := by decide +kernel
theorem dX8_unlikePlaces_2 : decode cX8_unlikePlaces 2 = .ok (.iconst 0, 1) := by decide +kernel
theorem dX8_unlikePlaces_3 : decode cX8_unlikePlaces 3 = .ok (.istore 4, 2) := by decide +kernel
theorem dX8_unlikePlaces_5 : decode cX8_unlikePlaces 5 = .ok (.iload 4, 2) := by decide +kernel
theorem dX8_unlikePlaces_7 : decode cX8_unlikePlaces 7 = .ok (.bipush 8, 2) := by decide +kernel
theorem dX8_unlikePlaces_9 : decode cX8_unlikePlaces 9 = .ok (.if_icmp .ge 23, 3) := by decide +kernel
theorem dX8_unlikePlaces_12 : decode cX8_unlikePlaces 12 = .ok (.aload_n 0, 1) := by decide +kernel
theorem dX8_unlikePlaces_13 : decode cX8_unlikePlaces 13 = .ok (.iload_n 1, 1) := by decide +kernel
theorem dX8_unlikePlaces_14 : decode cX8_unlikePlaces 14 = .ok (.iload_n 2, 1) := by decide +kernel
theorem dX8_unlikePlaces_15 : decode cX8_unlikePlaces 15 = .ok (.iload 4, 2) := by decide +kernel
theorem dX8_unlikePlaces_17 : decode cX8_unlikePlaces 17 = .ok (.invokevirtual 25, 3) := by decide +kernel
theorem dX8_unlikePlaces_20 : decode cX8_unlikePlaces 20 = .ok (.ifCond .eq 6, 3) := by decide +kernel
theorem dX8_unlikePlaces_23 : decode cX8_unlikePlaces 23 = .ok (.iinc 3 1, 3) := by decide +kernel
theorem dX8_unlikePlaces_26 : decode cX8_unlikePlaces 26 = .ok (.iinc 4 1, 3) := by decide +kernel
theorem dX8_unlikePlaces_29 : decode cX8_unlikePlaces 29 = .ok (.goto (-24), 3) := by decide +kernel
theorem dX8_unlikePlaces_32 : decode cX8_unlikePlaces 32 = .ok (.iload_n 3, 1) := by decide +kernel
theorem dX8_unlikePlaces_33 : decode cX8_unlikePlaces 33 = .ok (.ireturn, 1) := by decide +kernel
theorem dX8_sumOfDifferences_0 : decode cX8_sumOfDifferences 0 = .ok (.iconst 0, 1) := by decide +kernel
theorem dX8_sumOfDifferences_1 : decode cX8_sumOfDifferences 1 = .ok (.istore_n 3, 1) := by decide +kernel
theorem dX8_sumOfDifferences_2 : decode cX8_sumOfDifferences 2 = .ok (.iconst 0, 1) := by decide +kernel
theorem dX8_sumOfDifferences_3 : decode cX8_sumOfDifferences 3 = .ok (.istore 4, 2) := by decide +kernel
theorem dX8_sumOfDifferences_5 : decode cX8_sumOfDifferences 5 = .ok (.iload 4, 2) := by decide +kernel
theorem dX8_sumOfDifferences_7 : decode cX8_sumOfDifferences 7 = .ok (.bipush 8, 2) := by decide +kernel
theorem dX8_sumOfDifferences_9 : decode cX8_sumOfDifferences 9 = .ok (.if_icmp .ge 20, 3) := by decide +kernel
theorem dX8_sumOfDifferences_12 : decode cX8_sumOfDifferences 12 = .ok (.iload_n 3, 1) := by decide +kernel
theorem dX8_sumOfDifferences_13 : decode cX8_sumOfDifferences 13 = .ok (.aload_n 0, 1) := by decide +kernel
theorem dX8_sumOfDifferences_14 : decode cX8_sumOfDifferences 14 = .ok (.iload_n 1, 1) := by decide +kernel
theorem dX8_sumOfDifferences_15 : decode cX8_sumOfDifferences 15 = .ok (.iload_n 2, 1) := by decide +kernel
theorem dX8_sumOfDifferences_16 : decode cX8_sumOfDifferences 16 = .ok (.iload 4, 2) := by decide +kernel
theorem dX8_sumOfDifferences_18 : decode cX8_sumOfDifferences 18 = .ok (.invokevirtual 25, 3) := by decide +kernel
theorem dX8_sumOfDifferences_21 : decode cX8_sumOfDifferences 21 = .ok (.iadd, 1) := by decide +kernel
theorem dX8_sumOfDifferences_22 : decode cX8_sumOfDifferences 22 = .ok (.istore_n 3, 1) := by decide +kernel
theorem dX8_sumOfDifferences_23 : decode cX8_sumOfDifferences 23 = .ok (.iinc 4 1, 3) := by decide +kernel
theorem dX8_sumOfDifferences_26 : decode cX8_sumOfDifferences 26 = .ok (.goto (-21), 3) := by decide +kernel
theorem dX8_sumOfDifferences_29 : decode cX8_sumOfDifferences 29 = .ok (.iload_n 3, 1) := by decide +kernel
theorem dX8_sumOfDifferences_30 : decode cX8_sumOfDifferences 30 = .ok (.ireturn, 1) := by decide +kernel
theorem dX8_greatestDifference_0 : decode cX8_greatestDifference 0 = .ok (.iconst 0, 1) := by decide +kernel
theorem dX8_greatestDifference_1 : decode cX8_greatestDifference 1 = .ok (.istore_n 3, 1) := by decide +kernel
theorem dX8_greatestDifference_2 : decode cX8_greatestDifference 2 = .ok (.iconst 0, 1) := by decide +kernel
theorem dX8_greatestDifference_3 : decode cX8_greatestDifference 3 = .ok (.istore 4, 2) := by decide +kernel
theorem dX8_greatestDifference_5 : decode cX8_greatestDifference 5 = .ok (.iload 4, 2) := by decide +kernel
theorem dX8_greatestDifference_7 : decode cX8_greatestDifference 7 = .ok (.bipush 8, 2) := by decide +kernel
theorem dX8_greatestDifference_9 : decode cX8_greatestDifference 9 = .ok (.if_icmp .ge 22, 3) := by decide +kernel
theorem dX8_greatestDifference_12 : decode cX8_greatestDifference 12 = .ok (.iload_n 3, 1) := by decide +kernel
theorem dX8_greatestDifference_13 : decode cX8_greatestDifference 13 = .ok (.aload_n 0, 1) := by decide +kernel
theorem dX8_greatestDifference_14 : decode cX8_greatestDifference 14 = .ok (.iload_n 1, 1) := by decide +kernel
theorem dX8_greatestDifference_15 : decode cX8_greatestDifference 15 = .ok (.iload_n 2, 1) := by decide +kernel
theorem dX8_greatestDifference_16 : decode cX8_greatestDifference 16 = .ok (.iload 4, 2) := by decide +kernel
theorem dX8_greatestDifference_18 : decode cX8_greatestDifference 18 = .ok (.invokevirtual 25, 3) := by decide +kernel
theorem dX8_greatestDifference_21 : decode cX8_greatestDifference 21 = .ok (.invokestatic 29, 3) := by decide +kernel
theorem dX8_greatestDifference_24 : decode cX8_greatestDifference 24 = .ok (.istore_n 3, 1) := by decide +kernel
theorem dX8_greatestDifference_25 : decode cX8_greatestDifference 25 = .ok (.iinc 4 1, 3) := by decide +kernel
theorem dX8_greatestDifference_28 : decode cX8_greatestDifference 28 = .ok (.goto (-23), 3) := by decide +kernel
theorem dX8_greatestDifference_31 : decode cX8_greatestDifference 31 = .ok (.iload_n 3, 1) := by decide +kernel
theorem dX8_greatestDifference_32 : decode cX8_greatestDifference 32 = .ok (.ireturn, 1) := by decide +kernel
theorem dX8_fewestEdits_0 : decode cX8_fewestEdits 0 = .ok (.aload_n 0, 1) := by decide +kernel
theorem dX8_fewestEdits_1 : decode cX8_fewestEdits 1 = .ok (.getfield 9, 3) := by decide +kernel
theorem dX8_fewestEdits_4 : decode cX8_fewestEdits 4 = .ok (.iload_n 2, 1) := by decide +kernel
theorem dX8_fewestEdits_5 : decode cX8_fewestEdits 5 = .ok (.iaload, 1) := by decide +kernel
theorem dX8_fewestEdits_6 : decode cX8_fewestEdits 6 = .ok (.istore_n 3, 1) := by decide +kernel
theorem dX8_fewestEdits_7 : decode cX8_fewestEdits 7 = .ok (.iconst 0, 1) := by decide +kernel
theorem dX8_fewestEdits_8 : decode cX8_fewestEdits 8 = .ok (.istore 4, 2) := by decide +kernel
theorem dX8_fewestEdits_10 : decode cX8_fewestEdits 10 = .ok (.iload 4, 2) := by decide +kernel
theorem dX8_fewestEdits_12 : decode cX8_fewestEdits 12 = .ok (.iload_n 3, 1) := by decide +kernel
theorem dX8_fewestEdits_13 : decode cX8_fewestEdits 13 = .ok (.if_icmp .gt 18, 3) := by decide +kernel
theorem dX8_fewestEdits_16 : decode cX8_fewestEdits 16 = .ok (.aload_n 0, 1) := by decide +kernel
theorem dX8_fewestEdits_17 : decode cX8_fewestEdits 17 = .ok (.getfield 18, 3) := by decide +kernel
theorem dX8_fewestEdits_20 : decode cX8_fewestEdits 20 = .ok (.iload 4, 2) := by decide +kernel
theorem dX8_fewestEdits_22 : decode cX8_fewestEdits 22 = .ok (.iload 4, 2) := by decide +kernel
theorem dX8_fewestEdits_24 : decode cX8_fewestEdits 24 = .ok (.iastore, 1) := by decide +kernel
theorem dX8_fewestEdits_25 : decode cX8_fewestEdits 25 = .ok (.iinc 4 1, 3) := by decide +kernel
theorem dX8_fewestEdits_28 : decode cX8_fewestEdits 28 = .ok (.goto (-18), 3) := by decide +kernel
theorem dX8_fewestEdits_31 : decode cX8_fewestEdits 31 = .ok (.iconst 0, 1) := by decide +kernel
theorem dX8_fewestEdits_32 : decode cX8_fewestEdits 32 = .ok (.istore 4, 2) := by decide +kernel
theorem dX8_fewestEdits_34 : decode cX8_fewestEdits 34 = .ok (.iload 4, 2) := by decide +kernel
theorem dX8_fewestEdits_36 : decode cX8_fewestEdits 36 = .ok (.aload_n 0, 1) := by decide +kernel
theorem dX8_fewestEdits_37 : decode cX8_fewestEdits 37 = .ok (.getfield 9, 3) := by decide +kernel
theorem dX8_fewestEdits_40 : decode cX8_fewestEdits 40 = .ok (.iload_n 1, 1) := by decide +kernel
theorem dX8_fewestEdits_41 : decode cX8_fewestEdits 41 = .ok (.iaload, 1) := by decide +kernel
theorem dX8_fewestEdits_42 : decode cX8_fewestEdits 42 = .ok (.if_icmp .ge 130, 3) := by decide +kernel
theorem dX8_fewestEdits_45 : decode cX8_fewestEdits 45 = .ok (.aload_n 0, 1) := by decide +kernel
theorem dX8_fewestEdits_46 : decode cX8_fewestEdits 46 = .ok (.getfield 15, 3) := by decide +kernel
theorem dX8_fewestEdits_49 : decode cX8_fewestEdits 49 = .ok (.iload_n 1, 1) := by decide +kernel
theorem dX8_fewestEdits_50 : decode cX8_fewestEdits 50 = .ok (.bipush 8, 2) := by decide +kernel
theorem dX8_fewestEdits_52 : decode cX8_fewestEdits 52 = .ok (.imul, 1) := by decide +kernel
theorem dX8_fewestEdits_53 : decode cX8_fewestEdits 53 = .ok (.iload 4, 2) := by decide +kernel
theorem dX8_fewestEdits_55 : decode cX8_fewestEdits 55 = .ok (.iadd, 1) := by decide +kernel
theorem dX8_fewestEdits_56 : decode cX8_fewestEdits 56 = .ok (.iaload, 1) := by decide +kernel
theorem dX8_fewestEdits_57 : decode cX8_fewestEdits 57 = .ok (.istore 5, 2) := by decide +kernel
theorem dX8_fewestEdits_59 : decode cX8_fewestEdits 59 = .ok (.aload_n 0, 1) := by decide +kernel
theorem dX8_fewestEdits_60 : decode cX8_fewestEdits 60 = .ok (.getfield 18, 3) := by decide +kernel
theorem dX8_fewestEdits_63 : decode cX8_fewestEdits 63 = .ok (.iconst 0, 1) := by decide +kernel
theorem dX8_fewestEdits_64 : decode cX8_fewestEdits 64 = .ok (.iaload, 1) := by decide +kernel
theorem dX8_fewestEdits_65 : decode cX8_fewestEdits 65 = .ok (.istore 6, 2) := by decide +kernel
theorem dX8_fewestEdits_67 : decode cX8_fewestEdits 67 = .ok (.aload_n 0, 1) := by decide +kernel
theorem dX8_fewestEdits_68 : decode cX8_fewestEdits 68 = .ok (.getfield 18, 3) := by decide +kernel
theorem dX8_fewestEdits_71 : decode cX8_fewestEdits 71 = .ok (.iconst 0, 1) := by decide +kernel
theorem dX8_fewestEdits_72 : decode cX8_fewestEdits 72 = .ok (.iload 4, 2) := by decide +kernel
theorem dX8_fewestEdits_74 : decode cX8_fewestEdits 74 = .ok (.iconst 1, 1) := by decide +kernel
theorem dX8_fewestEdits_75 : decode cX8_fewestEdits 75 = .ok (.iadd, 1) := by decide +kernel
theorem dX8_fewestEdits_76 : decode cX8_fewestEdits 76 = .ok (.iastore, 1) := by decide +kernel
theorem dX8_fewestEdits_77 : decode cX8_fewestEdits 77 = .ok (.iconst 0, 1) := by decide +kernel
theorem dX8_fewestEdits_78 : decode cX8_fewestEdits 78 = .ok (.istore 7, 2) := by decide +kernel
theorem dX8_fewestEdits_80 : decode cX8_fewestEdits 80 = .ok (.iload 7, 2) := by decide +kernel
theorem dX8_fewestEdits_82 : decode cX8_fewestEdits 82 = .ok (.iload_n 3, 1) := by decide +kernel
theorem dX8_fewestEdits_83 : decode cX8_fewestEdits 83 = .ok (.if_icmp .ge 83, 3) := by decide +kernel
theorem dX8_fewestEdits_86 : decode cX8_fewestEdits 86 = .ok (.aload_n 0, 1) := by decide +kernel
theorem dX8_fewestEdits_87 : decode cX8_fewestEdits 87 = .ok (.getfield 15, 3) := by decide +kernel
theorem dX8_fewestEdits_90 : decode cX8_fewestEdits 90 = .ok (.iload_n 2, 1) := by decide +kernel
theorem dX8_fewestEdits_91 : decode cX8_fewestEdits 91 = .ok (.bipush 8, 2) := by decide +kernel
theorem dX8_fewestEdits_93 : decode cX8_fewestEdits 93 = .ok (.imul, 1) := by decide +kernel
theorem dX8_fewestEdits_94 : decode cX8_fewestEdits 94 = .ok (.iload 7, 2) := by decide +kernel
theorem dX8_fewestEdits_96 : decode cX8_fewestEdits 96 = .ok (.iadd, 1) := by decide +kernel
theorem dX8_fewestEdits_97 : decode cX8_fewestEdits 97 = .ok (.iaload, 1) := by decide +kernel
theorem dX8_fewestEdits_98 : decode cX8_fewestEdits 98 = .ok (.iload 5, 2) := by decide +kernel
theorem dX8_fewestEdits_100 : decode cX8_fewestEdits 100 = .ok (.if_icmp .ne 8, 3) := by decide +kernel
theorem dX8_fewestEdits_103 : decode cX8_fewestEdits 103 = .ok (.iload 6, 2) := by decide +kernel
theorem dX8_fewestEdits_105 : decode cX8_fewestEdits 105 = .ok (.goto 7, 3) := by decide +kernel
theorem dX8_fewestEdits_108 : decode cX8_fewestEdits 108 = .ok (.iload 6, 2) := by decide +kernel
theorem dX8_fewestEdits_110 : decode cX8_fewestEdits 110 = .ok (.iconst 1, 1) := by decide +kernel
theorem dX8_fewestEdits_111 : decode cX8_fewestEdits 111 = .ok (.iadd, 1) := by decide +kernel
theorem dX8_fewestEdits_112 : decode cX8_fewestEdits 112 = .ok (.istore 8, 2) := by decide +kernel
theorem dX8_fewestEdits_114 : decode cX8_fewestEdits 114 = .ok (.aload_n 0, 1) := by decide +kernel
theorem dX8_fewestEdits_115 : decode cX8_fewestEdits 115 = .ok (.getfield 18, 3) := by decide +kernel
theorem dX8_fewestEdits_118 : decode cX8_fewestEdits 118 = .ok (.iload 7, 2) := by decide +kernel
theorem dX8_fewestEdits_120 : decode cX8_fewestEdits 120 = .ok (.iconst 1, 1) := by decide +kernel
theorem dX8_fewestEdits_121 : decode cX8_fewestEdits 121 = .ok (.iadd, 1) := by decide +kernel
theorem dX8_fewestEdits_122 : decode cX8_fewestEdits 122 = .ok (.iaload, 1) := by decide +kernel
theorem dX8_fewestEdits_123 : decode cX8_fewestEdits 123 = .ok (.istore 6, 2) := by decide +kernel
theorem dX8_fewestEdits_125 : decode cX8_fewestEdits 125 = .ok (.aload_n 0, 1) := by decide +kernel
theorem dX8_fewestEdits_126 : decode cX8_fewestEdits 126 = .ok (.getfield 18, 3) := by decide +kernel
theorem dX8_fewestEdits_129 : decode cX8_fewestEdits 129 = .ok (.iload 7, 2) := by decide +kernel
theorem dX8_fewestEdits_131 : decode cX8_fewestEdits 131 = .ok (.iconst 1, 1) := by decide +kernel
theorem dX8_fewestEdits_132 : decode cX8_fewestEdits 132 = .ok (.iadd, 1) := by decide +kernel
theorem dX8_fewestEdits_133 : decode cX8_fewestEdits 133 = .ok (.iload 8, 2) := by decide +kernel
theorem dX8_fewestEdits_135 : decode cX8_fewestEdits 135 = .ok (.iconst 1, 1) := by decide +kernel
theorem dX8_fewestEdits_136 : decode cX8_fewestEdits 136 = .ok (.aload_n 0, 1) := by decide +kernel
theorem dX8_fewestEdits_137 : decode cX8_fewestEdits 137 = .ok (.getfield 18, 3) := by decide +kernel
theorem dX8_fewestEdits_140 : decode cX8_fewestEdits 140 = .ok (.iload 7, 2) := by decide +kernel
theorem dX8_fewestEdits_142 : decode cX8_fewestEdits 142 = .ok (.iaload, 1) := by decide +kernel
theorem dX8_fewestEdits_143 : decode cX8_fewestEdits 143 = .ok (.aload_n 0, 1) := by decide +kernel
theorem dX8_fewestEdits_144 : decode cX8_fewestEdits 144 = .ok (.getfield 18, 3) := by decide +kernel
theorem dX8_fewestEdits_147 : decode cX8_fewestEdits 147 = .ok (.iload 7, 2) := by decide +kernel
theorem dX8_fewestEdits_149 : decode cX8_fewestEdits 149 = .ok (.iconst 1, 1) := by decide +kernel
theorem dX8_fewestEdits_150 : decode cX8_fewestEdits 150 = .ok (.iadd, 1) := by decide +kernel
theorem dX8_fewestEdits_151 : decode cX8_fewestEdits 151 = .ok (.iaload, 1) := by decide +kernel
theorem dX8_fewestEdits_152 : decode cX8_fewestEdits 152 = .ok (.invokestatic 35, 3) := by decide +kernel
theorem dX8_fewestEdits_155 : decode cX8_fewestEdits 155 = .ok (.iadd, 1) := by decide +kernel
theorem dX8_fewestEdits_156 : decode cX8_fewestEdits 156 = .ok (.invokestatic 35, 3) := by decide +kernel
theorem dX8_fewestEdits_159 : decode cX8_fewestEdits 159 = .ok (.iastore, 1) := by decide +kernel
theorem dX8_fewestEdits_160 : decode cX8_fewestEdits 160 = .ok (.iinc 7 1, 3) := by decide +kernel
theorem dX8_fewestEdits_163 : decode cX8_fewestEdits 163 = .ok (.goto (-83), 3) := by decide +kernel
theorem dX8_fewestEdits_166 : decode cX8_fewestEdits 166 = .ok (.iinc 4 1, 3) := by decide +kernel
theorem dX8_fewestEdits_169 : decode cX8_fewestEdits 169 = .ok (.goto (-135), 3) := by decide +kernel
theorem dX8_fewestEdits_172 : decode cX8_fewestEdits 172 = .ok (.aload_n 0, 1) := by decide +kernel
theorem dX8_fewestEdits_173 : decode cX8_fewestEdits 173 = .ok (.getfield 18, 3) := by decide +kernel
theorem dX8_fewestEdits_176 : decode cX8_fewestEdits 176 = .ok (.iload_n 3, 1) := by decide +kernel
theorem dX8_fewestEdits_177 : decode cX8_fewestEdits 177 = .ok (.iaload, 1) := by decide +kernel
theorem dX8_fewestEdits_178 : decode cX8_fewestEdits 178 = .ok (.ireturn, 1) := by decide +kernel
theorem dX8_valuesMissing_0 : decode cX8_valuesMissing 0 = .ok (.iconst 0, 1) := by decide +kernel
theorem dX8_valuesMissing_1 : decode cX8_valuesMissing 1 = .ok (.istore_n 3, 1) := by decide +kernel
theorem dX8_valuesMissing_2 : decode cX8_valuesMissing 2 = .ok (.iconst 0, 1) := by decide +kernel
theorem dX8_valuesMissing_3 : decode cX8_valuesMissing 3 = .ok (.istore 4, 2) := by decide +kernel
theorem dX8_valuesMissing_5 : decode cX8_valuesMissing 5 = .ok (.iload 4, 2) := by decide +kernel
theorem dX8_valuesMissing_7 : decode cX8_valuesMissing 7 = .ok (.aload_n 0, 1) := by decide +kernel
theorem dX8_valuesMissing_8 : decode cX8_valuesMissing 8 = .ok (.getfield 9, 3) := by decide +kernel
theorem dX8_valuesMissing_11 : decode cX8_valuesMissing 11 = .ok (.iload_n 1, 1) := by decide +kernel
theorem dX8_valuesMissing_12 : decode cX8_valuesMissing 12 = .ok (.iaload, 1) := by decide +kernel
theorem dX8_valuesMissing_13 : decode cX8_valuesMissing 13 = .ok (.if_icmp .ge 54, 3) := by decide +kernel
theorem dX8_valuesMissing_16 : decode cX8_valuesMissing 16 = .ok (.aload_n 0, 1) := by decide +kernel
theorem dX8_valuesMissing_17 : decode cX8_valuesMissing 17 = .ok (.getfield 15, 3) := by decide +kernel
theorem dX8_valuesMissing_20 : decode cX8_valuesMissing 20 = .ok (.iload_n 1, 1) := by decide +kernel
theorem dX8_valuesMissing_21 : decode cX8_valuesMissing 21 = .ok (.bipush 8, 2) := by decide +kernel
theorem dX8_valuesMissing_23 : decode cX8_valuesMissing 23 = .ok (.imul, 1) := by decide +kernel
theorem dX8_valuesMissing_24 : decode cX8_valuesMissing 24 = .ok (.iload 4, 2) := by decide +kernel
theorem dX8_valuesMissing_26 : decode cX8_valuesMissing 26 = .ok (.iadd, 1) := by decide +kernel
theorem dX8_valuesMissing_27 : decode cX8_valuesMissing 27 = .ok (.iaload, 1) := by decide +kernel
theorem dX8_valuesMissing_28 : decode cX8_valuesMissing 28 = .ok (.istore 5, 2) := by decide +kernel
theorem dX8_valuesMissing_30 : decode cX8_valuesMissing 30 = .ok (.aload_n 0, 1) := by decide +kernel
theorem dX8_valuesMissing_31 : decode cX8_valuesMissing 31 = .ok (.iload_n 1, 1) := by decide +kernel
theorem dX8_valuesMissing_32 : decode cX8_valuesMissing 32 = .ok (.iload 4, 2) := by decide +kernel
theorem dX8_valuesMissing_34 : decode cX8_valuesMissing 34 = .ok (.iload 5, 2) := by decide +kernel
theorem dX8_valuesMissing_36 : decode cX8_valuesMissing 36 = .ok (.invokevirtual 38, 3) := by decide +kernel
theorem dX8_valuesMissing_39 : decode cX8_valuesMissing 39 = .ok (.ifCond .ne 22, 3) := by decide +kernel
theorem dX8_valuesMissing_42 : decode cX8_valuesMissing 42 = .ok (.aload_n 0, 1) := by decide +kernel
theorem dX8_valuesMissing_43 : decode cX8_valuesMissing 43 = .ok (.iload_n 2, 1) := by decide +kernel
theorem dX8_valuesMissing_44 : decode cX8_valuesMissing 44 = .ok (.aload_n 0, 1) := by decide +kernel
theorem dX8_valuesMissing_45 : decode cX8_valuesMissing 45 = .ok (.getfield 9, 3) := by decide +kernel
theorem dX8_valuesMissing_48 : decode cX8_valuesMissing 48 = .ok (.iload_n 2, 1) := by decide +kernel
theorem dX8_valuesMissing_49 : decode cX8_valuesMissing 49 = .ok (.iaload, 1) := by decide +kernel
theorem dX8_valuesMissing_50 : decode cX8_valuesMissing 50 = .ok (.iload 5, 2) := by decide +kernel
theorem dX8_valuesMissing_52 : decode cX8_valuesMissing 52 = .ok (.invokevirtual 38, 3) := by decide +kernel
theorem dX8_valuesMissing_55 : decode cX8_valuesMissing 55 = .ok (.ifCond .ne 6, 3) := by decide +kernel
theorem dX8_valuesMissing_58 : decode cX8_valuesMissing 58 = .ok (.iinc 3 1, 3) := by decide +kernel
theorem dX8_valuesMissing_61 : decode cX8_valuesMissing 61 = .ok (.iinc 4 1, 3) := by decide +kernel
theorem dX8_valuesMissing_64 : decode cX8_valuesMissing 64 = .ok (.goto (-59), 3) := by decide +kernel
theorem dX8_valuesMissing_67 : decode cX8_valuesMissing 67 = .ok (.iload_n 3, 1) := by decide +kernel
theorem dX8_valuesMissing_68 : decode cX8_valuesMissing 68 = .ok (.ireturn, 1) := by decide +kernel
theorem dX8_hasBefore_0 : decode cX8_hasBefore 0 = .ok (.iconst 0, 1) := by decide +kernel
theorem dX8_hasBefore_1 : decode cX8_hasBefore 1 = .ok (.istore 4, 2) := by decide +kernel
theorem dX8_hasBefore_3 : decode cX8_hasBefore 3 = .ok (.iload 4, 2) := by decide +kernel
theorem dX8_hasBefore_5 : decode cX8_hasBefore 5 = .ok (.iload_n 2, 1) := by decide +kernel
theorem dX8_hasBefore_6 : decode cX8_hasBefore 6 = .ok (.if_icmp .ge 27, 3) := by decide +kernel
theorem dX8_hasBefore_9 : decode cX8_hasBefore 9 = .ok (.aload_n 0, 1) := by decide +kernel
theorem dX8_hasBefore_10 : decode cX8_hasBefore 10 = .ok (.getfield 15, 3) := by decide +kernel
theorem dX8_hasBefore_13 : decode cX8_hasBefore 13 = .ok (.iload_n 1, 1) := by decide +kernel
theorem dX8_hasBefore_14 : decode cX8_hasBefore 14 = .ok (.bipush 8, 2) := by decide +kernel
theorem dX8_hasBefore_16 : decode cX8_hasBefore 16 = .ok (.imul, 1) := by decide +kernel
theorem dX8_hasBefore_17 : decode cX8_hasBefore 17 = .ok (.iload 4, 2) := by decide +kernel
theorem dX8_hasBefore_19 : decode cX8_hasBefore 19 = .ok (.iadd, 1) := by decide +kernel
theorem dX8_hasBefore_20 : decode cX8_hasBefore 20 = .ok (.iaload, 1) := by decide +kernel
theorem dX8_hasBefore_21 : decode cX8_hasBefore 21 = .ok (.iload_n 3, 1) := by decide +kernel
theorem dX8_hasBefore_22 : decode cX8_hasBefore 22 = .ok (.if_icmp .ne 5, 3) := by decide +kernel
theorem dX8_hasBefore_25 : decode cX8_hasBefore 25 = .ok (.iconst 1, 1) := by decide +kernel
theorem dX8_hasBefore_26 : decode cX8_hasBefore 26 = .ok (.ireturn, 1) := by decide +kernel
theorem dX8_hasBefore_27 : decode cX8_hasBefore 27 = .ok (.iinc 4 1, 3) := by decide +kernel
theorem dX8_hasBefore_30 : decode cX8_hasBefore 30 = .ok (.goto (-27), 3) := by decide +kernel
theorem dX8_hasBefore_33 : decode cX8_hasBefore 33 = .ok (.iconst 0, 1) := by decide +kernel
theorem dX8_hasBefore_34 : decode cX8_hasBefore 34 = .ok (.ireturn, 1) := by decide +kernel
theorem dX8_difference_0 : decode cX8_difference 0 = .ok (.aload_n 0, 1) := by decide +kernel
theorem dX8_difference_1 : decode cX8_difference 1 = .ok (.getfield 15, 3) := by decide +kernel
theorem dX8_difference_4 : decode cX8_difference 4 = .ok (.iload_n 1, 1) := by decide +kernel
theorem dX8_difference_5 : decode cX8_difference 5 = .ok (.bipush 8, 2) := by decide +kernel
theorem dX8_difference_7 : decode cX8_difference 7 = .ok (.imul, 1) := by decide +kernel
theorem dX8_difference_8 : decode cX8_difference 8 = .ok (.iload_n 3, 1) := by decide +kernel
theorem dX8_difference_9 : decode cX8_difference 9 = .ok (.iadd, 1) := by decide +kernel
theorem dX8_difference_10 : decode cX8_difference 10 = .ok (.iaload, 1) := by decide +kernel
theorem dX8_difference_11 : decode cX8_difference 11 = .ok (.aload_n 0, 1) := by decide +kernel
theorem dX8_difference_12 : decode cX8_difference 12 = .ok (.getfield 15, 3) := by decide +kernel
theorem dX8_difference_15 : decode cX8_difference 15 = .ok (.iload_n 2, 1) := by decide +kernel
theorem dX8_difference_16 : decode cX8_difference 16 = .ok (.bipush 8, 2) := by decide +kernel
theorem dX8_difference_18 : decode cX8_difference 18 = .ok (.imul, 1) := by decide +kernel
theorem dX8_difference_19 : decode cX8_difference 19 = .ok (.iload_n 3, 1) := by decide +kernel
theorem dX8_difference_20 : decode cX8_difference 20 = .ok (.iadd, 1) := by decide +kernel
theorem dX8_difference_21 : decode cX8_difference 21 = .ok (.iaload, 1) := by decide +kernel
theorem dX8_difference_22 : decode cX8_difference 22 = .ok (.isub, 1) := by decide +kernel
theorem dX8_difference_23 : decode cX8_difference 23 = .ok (.invokestatic 42, 3) := by decide +kernel
theorem dX8_difference_26 : decode cX8_difference 26 = .ok (.ireturn, 1) := by decide +kernel
theorem dX9_init_0 : decode cX9_init 0 = .ok (.aload_n 0, 1) := by decide +kernel
theorem dX9_init_1 : decode cX9_init 1 = .ok (.invokespecial 3, 3) := by decide +kernel
theorem dX9_init_4 : decode cX9_init 4 = .ok (.aload_n 0, 1) := by decide +kernel
theorem dX9_init_5 : decode cX9_init 5 = .ok (.sipush 3600, 3) := by decide +kernel
theorem dX9_init_8 : decode cX9_init 8 = .ok (.newarray .int, 2) := by decide +kernel
theorem dX9_init_10 : decode cX9_init 10 = .ok (.putfield 9, 3) := by decide +kernel
theorem dX9_init_13 : decode cX9_init 13 = .ok (.aload_n 0, 1) := by decide +kernel
theorem dX9_init_14 : decode cX9_init 14 = .ok (.iconst 3, 1) := by decide +kernel
theorem dX9_init_15 : decode cX9_init 15 = .ok (.newarray .int, 2) := by decide +kernel
theorem dX9_init_17 : decode cX9_init 17 = .ok (.putfield 15, 3) := by decide +kernel
theorem dX9_init_20 : decode cX9_init 20 = .ok (.aload_n 0, 1) := by decide +kernel
theorem dX9_init_21 : decode cX9_init 21 = .ok (.iconst 0, 1) := by decide +kernel
theorem dX9_init_22 : decode cX9_init 22 = .ok (.putfield 18, 3) := by decide +kernel
theorem dX9_init_25 : decode cX9_init 25 = .ok (.aload_n 0, 1) := by decide +kernel
theorem dX9_init_26 : decode cX9_init 26 = .ok (.iconst 0, 1) := by decide +kernel
theorem dX9_init_27 : decode cX9_init 27 = .ok (.putfield 22, 3) := by decide +kernel
theorem dX9_init_30 : decode cX9_init 30 = .ok (.return_, 1) := by decide +kernel
theorem dX9_read_0 : decode cX9_read 0 = .ok (.aload_n 0, 1) := by decide +kernel
theorem dX9_read_1 : decode cX9_read 1 = .ok (.getfield 9, 3) := by decide +kernel
theorem dX9_read_4 : decode cX9_read 4 = .ok (.iload_n 1, 1) := by decide +kernel
theorem dX9_read_5 : decode cX9_read 5 = .ok (.bipush 60, 2) := by decide +kernel
theorem dX9_read_7 : decode cX9_read 7 = .ok (.imul, 1) := by decide +kernel
theorem dX9_read_8 : decode cX9_read 8 = .ok (.iload_n 2, 1) := by decide +kernel
theorem dX9_read_9 : decode cX9_read 9 = .ok (.iadd, 1) := by decide +kernel
theorem dX9_read_10 : decode cX9_read 10 = .ok (.iaload, 1) := by decide +kernel
theorem dX9_read_11 : decode cX9_read 11 = .ok (.ireturn, 1) := by decide +kernel
theorem dX9_write_0 : decode cX9_write 0 = .ok (.aload_n 0, 1) := by decide +kernel
theorem dX9_write_1 : decode cX9_write 1 = .ok (.getfield 9, 3) := by decide +kernel
theorem dX9_write_4 : decode cX9_write 4 = .ok (.iload_n 1, 1) := by decide +kernel
theorem dX9_write_5 : decode cX9_write 5 = .ok (.bipush 60, 2) := by decide +kernel
theorem dX9_write_7 : decode cX9_write 7 = .ok (.imul, 1) := by decide +kernel
theorem dX9_write_8 : decode cX9_write 8 = .ok (.iload_n 2, 1) := by decide +kernel
theorem dX9_write_9 : decode cX9_write 9 = .ok (.iadd, 1) := by decide +kernel
theorem dX9_write_10 : decode cX9_write 10 = .ok (.iload_n 3, 1) := by decide +kernel
theorem dX9_write_11 : decode cX9_write 11 = .ok (.iastore, 1) := by decide +kernel
theorem dX9_write_12 : decode cX9_write 12 = .ok (.aload_n 0, 1) := by decide +kernel
theorem dX9_write_13 : decode cX9_write 13 = .ok (.getfield 9, 3) := by decide +kernel
theorem dX9_write_16 : decode cX9_write 16 = .ok (.iload_n 2, 1) := by decide +kernel
theorem dX9_write_17 : decode cX9_write 17 = .ok (.bipush 60, 2) := by decide +kernel
theorem dX9_write_19 : decode cX9_write 19 = .ok (.imul, 1) := by decide +kernel
theorem dX9_write_20 : decode cX9_write 20 = .ok (.iload_n 1, 1) := by decide +kernel
theorem dX9_write_21 : decode cX9_write 21 = .ok (.iadd, 1) := by decide +kernel
theorem dX9_write_22 : decode cX9_write 22 = .ok (.iload_n 3, 1) := by decide +kernel
theorem dX9_write_23 : decode cX9_write 23 = .ok (.iastore, 1) := by decide +kernel
theorem dX9_write_24 : decode cX9_write 24 = .ok (.aload_n 0, 1) := by decide +kernel
theorem dX9_write_25 : decode cX9_write 25 = .ok (.iconst (-1), 1) := by decide +kernel
theorem dX9_write_26 : decode cX9_write 26 = .ok (.putfield 22, 3) := by decide +kernel
theorem dX9_write_29 : decode cX9_write 29 = .ok (.return_, 1) := by decide +kernel
theorem dX9_breaker_0 : decode cX9_breaker 0 = .ok (.aload_n 0, 1) := by decide +kernel
theorem dX9_breaker_1 : decode cX9_breaker 1 = .ok (.getfield 15, 3) := by decide +kernel
theorem dX9_breaker_4 : decode cX9_breaker 4 = .ok (.iload_n 1, 1) := by decide +kernel
theorem dX9_breaker_5 : decode cX9_breaker 5 = .ok (.iaload, 1) := by decide +kernel
theorem dX9_breaker_6 : decode cX9_breaker 6 = .ok (.ireturn, 1) := by decide +kernel
theorem dX9_lawHolds_0 : decode cX9_lawHolds 0 = .ok (.aload_n 0, 1) := by decide +kernel
theorem dX9_lawHolds_1 : decode cX9_lawHolds 1 = .ok (.getfield 22, 3) := by decide +kernel
theorem dX9_lawHolds_4 : decode cX9_lawHolds 4 = .ok (.iload_n 1, 1) := by decide +kernel
theorem dX9_lawHolds_5 : decode cX9_lawHolds 5 = .ok (.if_icmp .eq 17, 3) := by decide +kernel
theorem dX9_lawHolds_8 : decode cX9_lawHolds 8 = .ok (.aload_n 0, 1) := by decide +kernel
theorem dX9_lawHolds_9 : decode cX9_lawHolds 9 = .ok (.aload_n 0, 1) := by decide +kernel
theorem dX9_lawHolds_10 : decode cX9_lawHolds 10 = .ok (.iload_n 1, 1) := by decide +kernel
theorem dX9_lawHolds_11 : decode cX9_lawHolds 11 = .ok (.invokevirtual 26, 3) := by decide +kernel
theorem dX9_lawHolds_14 : decode cX9_lawHolds 14 = .ok (.putfield 18, 3) := by decide +kernel
theorem dX9_lawHolds_17 : decode cX9_lawHolds 17 = .ok (.aload_n 0, 1) := by decide +kernel
theorem dX9_lawHolds_18 : decode cX9_lawHolds 18 = .ok (.iload_n 1, 1) := by decide +kernel
theorem dX9_lawHolds_19 : decode cX9_lawHolds 19 = .ok (.putfield 22, 3) := by decide +kernel
theorem dX9_lawHolds_22 : decode cX9_lawHolds 22 = .ok (.aload_n 0, 1) := by decide +kernel
theorem dX9_lawHolds_23 : decode cX9_lawHolds 23 = .ok (.getfield 18, 3) := by decide +kernel
theorem dX9_lawHolds_26 : decode cX9_lawHolds 26 = .ok (.ifCond .ne 7, 3) := by decide +kernel
theorem dX9_lawHolds_29 : decode cX9_lawHolds 29 = .ok (.iconst 1, 1) := by decide +kernel
theorem dX9_lawHolds_30 : decode cX9_lawHolds 30 = .ok (.goto 4, 3) := by decide +kernel
theorem dX9_lawHolds_33 : decode cX9_lawHolds 33 = .ok (.iconst 0, 1) := by decide +kernel
theorem dX9_lawHolds_34 : decode cX9_lawHolds 34 = .ok (.ireturn, 1) := by decide +kernel
theorem dX9_findBreakers_0 : decode cX9_findBreakers 0 = .ok (.iconst 0, 1) := by decide +kernel
theorem dX9_findBreakers_1 : decode cX9_findBreakers 1 = .ok (.istore_n 2, 1) := by decide +kernel
theorem dX9_findBreakers_2 : decode cX9_findBreakers 2 = .ok (.iload_n 2, 1) := by decide +kernel
theorem dX9_findBreakers_3 : decode cX9_findBreakers 3 = .ok (.iload_n 1, 1) := by decide +kernel
theorem dX9_findBreakers_4 : decode cX9_findBreakers 4 = .ok (.if_icmp .ge 61, 3) := by decide +kernel
theorem dX9_findBreakers_7 : decode cX9_findBreakers 7 = .ok (.iconst 0, 1) := by decide +kernel
theorem dX9_findBreakers_8 : decode cX9_findBreakers 8 = .ok (.istore_n 3, 1) := by decide +kernel
theorem dX9_findBreakers_9 : decode cX9_findBreakers 9 = .ok (.iload_n 3, 1) := by decide +kernel
theorem dX9_findBreakers_10 : decode cX9_findBreakers 10 = .ok (.iload_n 1, 1) := by decide +kernel
theorem dX9_findBreakers_11 : decode cX9_findBreakers 11 = .ok (.if_icmp .ge 48, 3) := by decide +kernel
theorem dX9_findBreakers_14 : decode cX9_findBreakers 14 = .ok (.aload_n 0, 1) := by decide +kernel
theorem dX9_findBreakers_15 : decode cX9_findBreakers 15 = .ok (.iload_n 2, 1) := by decide +kernel
theorem dX9_findBreakers_16 : decode cX9_findBreakers 16 = .ok (.iload_n 3, 1) := by decide +kernel
theorem dX9_findBreakers_17 : decode cX9_findBreakers 17 = .ok (.iload_n 1, 1) := by decide +kernel
theorem dX9_findBreakers_18 : decode cX9_findBreakers 18 = .ok (.invokevirtual 30, 3) := by decide +kernel
theorem dX9_findBreakers_21 : decode cX9_findBreakers 21 = .ok (.istore 4, 2) := by decide +kernel
theorem dX9_findBreakers_23 : decode cX9_findBreakers 23 = .ok (.iload 4, 2) := by decide +kernel
theorem dX9_findBreakers_25 : decode cX9_findBreakers 25 = .ok (.iconst (-1), 1) := by decide +kernel
theorem dX9_findBreakers_26 : decode cX9_findBreakers 26 = .ok (.if_icmp .eq 27, 3) := by decide +kernel
theorem dX9_findBreakers_29 : decode cX9_findBreakers 29 = .ok (.aload_n 0, 1) := by decide +kernel
theorem dX9_findBreakers_30 : decode cX9_findBreakers 30 = .ok (.getfield 15, 3) := by decide +kernel
theorem dX9_findBreakers_33 : decode cX9_findBreakers 33 = .ok (.iconst 0, 1) := by decide +kernel
theorem dX9_findBreakers_34 : decode cX9_findBreakers 34 = .ok (.iload_n 2, 1) := by decide +kernel
theorem dX9_findBreakers_35 : decode cX9_findBreakers 35 = .ok (.iastore, 1) := by decide +kernel
theorem dX9_findBreakers_36 : decode cX9_findBreakers 36 = .ok (.aload_n 0, 1) := by decide +kernel
theorem dX9_findBreakers_37 : decode cX9_findBreakers 37 = .ok (.getfield 15, 3) := by decide +kernel
theorem dX9_findBreakers_40 : decode cX9_findBreakers 40 = .ok (.iconst 1, 1) := by decide +kernel
theorem dX9_findBreakers_41 : decode cX9_findBreakers 41 = .ok (.iload_n 3, 1) := by decide +kernel
theorem dX9_findBreakers_42 : decode cX9_findBreakers 42 = .ok (.iastore, 1) := by decide +kernel
theorem dX9_findBreakers_43 : decode cX9_findBreakers 43 = .ok (.aload_n 0, 1) := by decide +kernel
theorem dX9_findBreakers_44 : decode cX9_findBreakers 44 = .ok (.getfield 15, 3) := by decide +kernel
theorem dX9_findBreakers_47 : decode cX9_findBreakers 47 = .ok (.iconst 2, 1) := by decide +kernel
theorem dX9_findBreakers_48 : decode cX9_findBreakers 48 = .ok (.iload 4, 2) := by decide +kernel
theorem dX9_findBreakers_50 : decode cX9_findBreakers 50 = .ok (.iastore, 1) := by decide +kernel
theorem dX9_findBreakers_51 : decode cX9_findBreakers 51 = .ok (.iconst 1, 1) := by decide +kernel
theorem dX9_findBreakers_52 : decode cX9_findBreakers 52 = .ok (.ireturn, 1) := by decide +kernel
theorem dX9_findBreakers_53 : decode cX9_findBreakers 53 = .ok (.iinc 3 1, 3) := by decide +kernel
theorem dX9_findBreakers_56 : decode cX9_findBreakers 56 = .ok (.goto (-47), 3) := by decide +kernel
theorem dX9_findBreakers_59 : decode cX9_findBreakers 59 = .ok (.iinc 2 1, 3) := by decide +kernel
theorem dX9_findBreakers_62 : decode cX9_findBreakers 62 = .ok (.goto (-60), 3) := by decide +kernel
theorem dX9_findBreakers_65 : decode cX9_findBreakers 65 = .ok (.iconst 0, 1) := by decide +kernel
theorem dX9_findBreakers_66 : decode cX9_findBreakers 66 = .ok (.ireturn, 1) := by decide +kernel
theorem dX9_endBeyond_0 : decode cX9_endBeyond 0 = .ok (.iload_n 1, 1) := by decide +kernel
theorem dX9_endBeyond_1 : decode cX9_endBeyond 1 = .ok (.bipush 60, 2) := by decide +kernel
theorem dX9_endBeyond_3 : decode cX9_endBeyond 3 = .ok (.imul, 1) := by decide +kernel
theorem dX9_endBeyond_4 : decode cX9_endBeyond 4 = .ok (.istore 4, 2) := by decide +kernel
theorem dX9_endBeyond_6 : decode cX9_endBeyond 6 = .ok (.iload_n 2, 1) := by decide +kernel
theorem dX9_endBeyond_7 : decode cX9_endBeyond 7 = .ok (.bipush 60, 2) := by decide +kernel
theorem dX9_endBeyond_9 : decode cX9_endBeyond 9 = .ok (.imul, 1) := by decide +kernel
theorem dX9_endBeyond_10 : decode cX9_endBeyond 10 = .ok (.istore 5, 2) := by decide +kernel
theorem dX9_endBeyond_12 : decode cX9_endBeyond 12 = .ok (.aload_n 0, 1) := by decide +kernel
theorem dX9_endBeyond_13 : decode cX9_endBeyond 13 = .ok (.getfield 9, 3) := by decide +kernel
theorem dX9_endBeyond_16 : decode cX9_endBeyond 16 = .ok (.iload 4, 2) := by decide +kernel
theorem dX9_endBeyond_18 : decode cX9_endBeyond 18 = .ok (.iload_n 2, 1) := by decide +kernel
theorem dX9_endBeyond_19 : decode cX9_endBeyond 19 = .ok (.iadd, 1) := by decide +kernel
theorem dX9_endBeyond_20 : decode cX9_endBeyond 20 = .ok (.iaload, 1) := by decide +kernel
theorem dX9_endBeyond_21 : decode cX9_endBeyond 21 = .ok (.istore 6, 2) := by decide +kernel
theorem dX9_endBeyond_23 : decode cX9_endBeyond 23 = .ok (.iload_n 1, 1) := by decide +kernel
theorem dX9_endBeyond_24 : decode cX9_endBeyond 24 = .ok (.iconst 1, 1) := by decide +kernel
theorem dX9_endBeyond_25 : decode cX9_endBeyond 25 = .ok (.iadd, 1) := by decide +kernel
theorem dX9_endBeyond_26 : decode cX9_endBeyond 26 = .ok (.istore 7, 2) := by decide +kernel
theorem dX9_endBeyond_28 : decode cX9_endBeyond 28 = .ok (.iload 7, 2) := by decide +kernel
theorem dX9_endBeyond_30 : decode cX9_endBeyond 30 = .ok (.iload_n 3, 1) := by decide +kernel
theorem dX9_endBeyond_31 : decode cX9_endBeyond 31 = .ok (.if_icmp .ge 38, 3) := by decide +kernel
theorem dX9_endBeyond_34 : decode cX9_endBeyond 34 = .ok (.aload_n 0, 1) := by decide +kernel
theorem dX9_endBeyond_35 : decode cX9_endBeyond 35 = .ok (.getfield 9, 3) := by decide +kernel
theorem dX9_endBeyond_38 : decode cX9_endBeyond 38 = .ok (.iload 4, 2) := by decide +kernel
theorem dX9_endBeyond_40 : decode cX9_endBeyond 40 = .ok (.iload 7, 2) := by decide +kernel
theorem dX9_endBeyond_42 : decode cX9_endBeyond 42 = .ok (.iadd, 1) := by decide +kernel
theorem dX9_endBeyond_43 : decode cX9_endBeyond 43 = .ok (.iaload, 1) := by decide +kernel
theorem dX9_endBeyond_44 : decode cX9_endBeyond 44 = .ok (.iload 6, 2) := by decide +kernel
theorem dX9_endBeyond_46 : decode cX9_endBeyond 46 = .ok (.aload_n 0, 1) := by decide +kernel
theorem dX9_endBeyond_47 : decode cX9_endBeyond 47 = .ok (.getfield 9, 3) := by decide +kernel
theorem dX9_endBeyond_50 : decode cX9_endBeyond 50 = .ok (.iload 5, 2) := by decide +kernel
theorem dX9_endBeyond_52 : decode cX9_endBeyond 52 = .ok (.iload 7, 2) := by decide +kernel
theorem dX9_endBeyond_54 : decode cX9_endBeyond 54 = .ok (.iadd, 1) := by decide +kernel
theorem dX9_endBeyond_55 : decode cX9_endBeyond 55 = .ok (.iaload, 1) := by decide +kernel
theorem dX9_endBeyond_56 : decode cX9_endBeyond 56 = .ok (.iadd, 1) := by decide +kernel
theorem dX9_endBeyond_57 : decode cX9_endBeyond 57 = .ok (.if_icmp .le 6, 3) := by decide +kernel
theorem dX9_endBeyond_60 : decode cX9_endBeyond 60 = .ok (.iload 7, 2) := by decide +kernel
theorem dX9_endBeyond_62 : decode cX9_endBeyond 62 = .ok (.ireturn, 1) := by decide +kernel
theorem dX9_endBeyond_63 : decode cX9_endBeyond 63 = .ok (.iinc 7 1, 3) := by decide +kernel
theorem dX9_endBeyond_66 : decode cX9_endBeyond 66 = .ok (.goto (-38), 3) := by decide +kernel
theorem dX9_endBeyond_69 : decode cX9_endBeyond 69 = .ok (.iconst (-1), 1) := by decide +kernel
theorem dX9_endBeyond_70 : decode cX9_endBeyond 70 = .ok (.ireturn, 1) := by decide +kernel
theorem dX10_init_0 : decode cX10_init 0 = .ok (.aload_n 0, 1) := by decide +kernel
theorem dX10_init_1 : decode cX10_init 1 = .ok (.invokespecial 1, 3) := by decide +kernel
theorem dX10_init_4 : decode cX10_init 4 = .ok (.aload_n 0, 1) := by decide +kernel
theorem dX10_init_5 : decode cX10_init 5 = .ok (.new 7, 3) := by decide +kernel
theorem dX10_init_8 : decode cX10_init 8 = .ok (.dup, 1) := by decide +kernel
theorem dX10_init_9 : decode cX10_init 9 = .ok (.invokespecial 9, 3) := by decide +kernel
theorem dX10_init_12 : decode cX10_init 12 = .ok (.putfield 10, 3) := by decide +kernel
theorem dX10_init_15 : decode cX10_init 15 = .ok (.aload_n 0, 1) := by decide +kernel
theorem dX10_init_16 : decode cX10_init 16 = .ok (.new 16, 3) := by decide +kernel
theorem dX10_init_19 : decode cX10_init 19 = .ok (.dup, 1) := by decide +kernel
theorem dX10_init_20 : decode cX10_init 20 = .ok (.invokespecial 18, 3) := by decide +kernel
theorem dX10_init_23 : decode cX10_init 23 = .ok (.putfield 19, 3) := by decide +kernel
theorem dX10_init_26 : decode cX10_init 26 = .ok (.aload_n 0, 1) := by decide +kernel
theorem dX10_init_27 : decode cX10_init 27 = .ok (.new 23, 3) := by decide +kernel
theorem dX10_init_30 : decode cX10_init 30 = .ok (.dup, 1) := by decide +kernel
theorem dX10_init_31 : decode cX10_init 31 = .ok (.aload_n 0, 1) := by decide +kernel
theorem dX10_init_32 : decode cX10_init 32 = .ok (.getfield 10, 3) := by decide +kernel
theorem dX10_init_35 : decode cX10_init 35 = .ok (.aload_n 0, 1) := by decide +kernel
theorem dX10_init_36 : decode cX10_init 36 = .ok (.getfield 19, 3) := by decide +kernel
theorem dX10_init_39 : decode cX10_init 39 = .ok (.invokespecial 25, 3) := by decide +kernel
theorem dX10_init_42 : decode cX10_init 42 = .ok (.putfield 28, 3) := by decide +kernel
theorem dX10_init_45 : decode cX10_init 45 = .ok (.aload_n 0, 1) := by decide +kernel
theorem dX10_init_46 : decode cX10_init 46 = .ok (.new 32, 3) := by decide +kernel
theorem dX10_init_49 : decode cX10_init 49 = .ok (.dup, 1) := by decide +kernel
theorem dX10_init_50 : decode cX10_init 50 = .ok (.invokespecial 34, 3) := by decide +kernel
theorem dX10_init_53 : decode cX10_init 53 = .ok (.putfield 35, 3) := by decide +kernel
theorem dX10_init_56 : decode cX10_init 56 = .ok (.aload_n 0, 1) := by decide +kernel
theorem dX10_init_57 : decode cX10_init 57 = .ok (.new 39, 3) := by decide +kernel
theorem dX10_init_60 : decode cX10_init 60 = .ok (.dup, 1) := by decide +kernel
theorem dX10_init_61 : decode cX10_init 61 = .ok (.invokespecial 41, 3) := by decide +kernel
theorem dX10_init_64 : decode cX10_init 64 = .ok (.putfield 42, 3) := by decide +kernel
theorem dX10_init_67 : decode cX10_init 67 = .ok (.aload_n 0, 1) := by decide +kernel
theorem dX10_init_68 : decode cX10_init 68 = .ok (.new 46, 3) := by decide +kernel
theorem dX10_init_71 : decode cX10_init 71 = .ok (.dup, 1) := by decide +kernel
theorem dX10_init_72 : decode cX10_init 72 = .ok (.invokespecial 48, 3) := by decide +kernel
theorem dX10_init_75 : decode cX10_init 75 = .ok (.putfield 49, 3) := by decide +kernel
theorem dX10_init_78 : decode cX10_init 78 = .ok (.aload_n 0, 1) := by decide +kernel
theorem dX10_init_79 : decode cX10_init 79 = .ok (.new 53, 3) := by decide +kernel
theorem dX10_init_82 : decode cX10_init 82 = .ok (.dup, 1) := by decide +kernel
theorem dX10_init_83 : decode cX10_init 83 = .ok (.aload_n 0, 1) := by decide +kernel
theorem dX10_init_84 : decode cX10_init 84 = .ok (.getfield 35, 3) := by decide +kernel
theorem dX10_init_87 : decode cX10_init 87 = .ok (.aload_n 0, 1) := by decide +kernel
theorem dX10_init_88 : decode cX10_init 88 = .ok (.getfield 28, 3) := by decide +kernel
theorem dX10_init_91 : decode cX10_init 91 = .ok (.invokespecial 55, 3) := by decide +kernel
theorem dX10_init_94 : decode cX10_init 94 = .ok (.putfield 58, 3) := by decide +kernel
theorem dX10_init_97 : decode cX10_init 97 = .ok (.aload_n 0, 1) := by decide +kernel
theorem dX10_init_98 : decode cX10_init 98 = .ok (.new 62, 3) := by decide +kernel
theorem dX10_init_101 : decode cX10_init 101 = .ok (.dup, 1) := by decide +kernel
theorem dX10_init_102 : decode cX10_init 102 = .ok (.aload_n 0, 1) := by decide +kernel
theorem dX10_init_103 : decode cX10_init 103 = .ok (.getfield 35, 3) := by decide +kernel
theorem dX10_init_106 : decode cX10_init 106 = .ok (.aload_n 0, 1) := by decide +kernel
theorem dX10_init_107 : decode cX10_init 107 = .ok (.getfield 28, 3) := by decide +kernel
theorem dX10_init_110 : decode cX10_init 110 = .ok (.invokespecial 64, 3) := by decide +kernel
theorem dX10_init_113 : decode cX10_init 113 = .ok (.putfield 65, 3) := by decide +kernel
theorem dX10_init_116 : decode cX10_init 116 = .ok (.aload_n 0, 1) := by decide +kernel
theorem dX10_init_117 : decode cX10_init 117 = .ok (.new 69, 3) := by decide +kernel
theorem dX10_init_120 : decode cX10_init 120 = .ok (.dup, 1) := by decide +kernel
theorem dX10_init_121 : decode cX10_init 121 = .ok (.aload_n 0, 1) := by decide +kernel
theorem dX10_init_122 : decode cX10_init 122 = .ok (.getfield 35, 3) := by decide +kernel
theorem dX10_init_125 : decode cX10_init 125 = .ok (.aload_n 0, 1) := by decide +kernel
theorem dX10_init_126 : decode cX10_init 126 = .ok (.getfield 28, 3) := by decide +kernel
theorem dX10_init_129 : decode cX10_init 129 = .ok (.invokespecial 71, 3) := by decide +kernel
theorem dX10_init_132 : decode cX10_init 132 = .ok (.putfield 72, 3) := by decide +kernel
theorem dX10_init_135 : decode cX10_init 135 = .ok (.aload_n 0, 1) := by decide +kernel
theorem dX10_init_136 : decode cX10_init 136 = .ok (.new 76, 3) := by decide +kernel
theorem dX10_init_139 : decode cX10_init 139 = .ok (.dup, 1) := by decide +kernel
theorem dX10_init_140 : decode cX10_init 140 = .ok (.aload_n 0, 1) := by decide +kernel
theorem dX10_init_141 : decode cX10_init 141 = .ok (.getfield 35, 3) := by decide +kernel
theorem dX10_init_144 : decode cX10_init 144 = .ok (.aload_n 0, 1) := by decide +kernel
theorem dX10_init_145 : decode cX10_init 145 = .ok (.getfield 28, 3) := by decide +kernel
theorem dX10_init_148 : decode cX10_init 148 = .ok (.invokespecial 78, 3) := by decide +kernel
theorem dX10_init_151 : decode cX10_init 151 = .ok (.putfield 79, 3) := by decide +kernel
theorem dX10_init_154 : decode cX10_init 154 = .ok (.return_, 1) := by decide +kernel
theorem dX10_thing_0 : decode cX10_thing 0 = .ok (.iload_n 1, 1) := by decide +kernel
theorem dX10_thing_1 : decode cX10_thing 1 = .ok (.ifCond .lt 21, 3) := by decide +kernel
theorem dX10_thing_4 : decode cX10_thing 4 = .ok (.iload_n 1, 1) := by decide +kernel
theorem dX10_thing_5 : decode cX10_thing 5 = .ok (.bipush 8, 2) := by decide +kernel
theorem dX10_thing_7 : decode cX10_thing 7 = .ok (.if_icmp .gt 15, 3) := by decide +kernel
theorem dX10_thing_10 : decode cX10_thing 10 = .ok (.aload_n 0, 1) := by decide +kernel
theorem dX10_thing_11 : decode cX10_thing 11 = .ok (.getfield 10, 3) := by decide +kernel
theorem dX10_thing_14 : decode cX10_thing 14 = .ok (.invokevirtual 83, 3) := by decide +kernel
theorem dX10_thing_17 : decode cX10_thing 17 = .ok (.bipush 60, 2) := by decide +kernel
theorem dX10_thing_19 : decode cX10_thing 19 = .ok (.if_icmp .lt 5, 3) := by decide +kernel
theorem dX10_thing_22 : decode cX10_thing 22 = .ok (.iconst (-1), 1) := by decide +kernel
theorem dX10_thing_23 : decode cX10_thing 23 = .ok (.ireturn, 1) := by decide +kernel
theorem dX10_thing_24 : decode cX10_thing 24 = .ok (.aload_n 0, 1) := by decide +kernel
theorem dX10_thing_25 : decode cX10_thing 25 = .ok (.getfield 10, 3) := by decide +kernel
theorem dX10_thing_28 : decode cX10_thing 28 = .ok (.iload_n 1, 1) := by decide +kernel
theorem dX10_thing_29 : decode cX10_thing 29 = .ok (.invokevirtual 87, 3) := by decide +kernel
theorem dX10_thing_32 : decode cX10_thing 32 = .ok (.ireturn, 1) := by decide +kernel
theorem dX10_value_0 : decode cX10_value 0 = .ok (.aload_n 0, 1) := by decide +kernel
theorem dX10_value_1 : decode cX10_value 1 = .ok (.getfield 10, 3) := by decide +kernel
theorem dX10_value_4 : decode cX10_value 4 = .ok (.iload_n 1, 1) := by decide +kernel
theorem dX10_value_5 : decode cX10_value 5 = .ok (.invokevirtual 91, 3) := by decide +kernel
theorem dX10_value_8 : decode cX10_value 8 = .ok (.ifCond .eq 19, 3) := by decide +kernel
theorem dX10_value_11 : decode cX10_value 11 = .ok (.iload_n 2, 1) := by decide +kernel
theorem dX10_value_12 : decode cX10_value 12 = .ok (.ifCond .lt 15, 3) := by decide +kernel
theorem dX10_value_15 : decode cX10_value 15 = .ok (.iload_n 2, 1) := by decide +kernel
theorem dX10_value_16 : decode cX10_value 16 = .ok (.aload_n 0, 1) := by decide +kernel
theorem dX10_value_17 : decode cX10_value 17 = .ok (.getfield 10, 3) := by decide +kernel
theorem dX10_value_20 : decode cX10_value 20 = .ok (.iload_n 1, 1) := by decide +kernel
theorem dX10_value_21 : decode cX10_value 21 = .ok (.invokevirtual 95, 3) := by decide +kernel
theorem dX10_value_24 : decode cX10_value 24 = .ok (.if_icmp .lt 5, 3) := by decide +kernel
theorem dX10_value_27 : decode cX10_value 27 = .ok (.iconst 0, 1) := by decide +kernel
theorem dX10_value_28 : decode cX10_value 28 = .ok (.ireturn, 1) := by decide +kernel
theorem dX10_value_29 : decode cX10_value 29 = .ok (.iload_n 3, 1) := by decide +kernel
theorem dX10_value_30 : decode cX10_value 30 = .ok (.sipush (-1000), 3) := by decide +kernel
theorem dX10_value_33 : decode cX10_value 33 = .ok (.if_icmp .lt 10, 3) := by decide +kernel
theorem dX10_value_36 : decode cX10_value 36 = .ok (.iload_n 3, 1) := by decide +kernel
theorem dX10_value_37 : decode cX10_value 37 = .ok (.sipush 1000, 3) := by decide +kernel
theorem dX10_value_40 : decode cX10_value 40 = .ok (.if_icmp .le 5, 3) := by decide +kernel
theorem dX10_value_43 : decode cX10_value 43 = .ok (.iconst 0, 1) := by decide +kernel
theorem dX10_value_44 : decode cX10_value 44 = .ok (.ireturn, 1) := by decide +kernel
theorem dX10_value_45 : decode cX10_value 45 = .ok (.aload_n 0, 1) := by decide +kernel
theorem dX10_value_46 : decode cX10_value 46 = .ok (.getfield 10, 3) := by decide +kernel
theorem dX10_value_49 : decode cX10_value 49 = .ok (.iload_n 1, 1) := by decide +kernel
theorem dX10_value_50 : decode cX10_value 50 = .ok (.iload_n 2, 1) := by decide +kernel
theorem dX10_value_51 : decode cX10_value 51 = .ok (.iload_n 3, 1) := by decide +kernel
theorem dX10_value_52 : decode cX10_value 52 = .ok (.invokevirtual 98, 3) := by decide +kernel
theorem dX10_value_55 : decode cX10_value 55 = .ok (.aload_n 0, 1) := by decide +kernel
theorem dX10_value_56 : decode cX10_value 56 = .ok (.getfield 28, 3) := by decide +kernel
theorem dX10_value_59 : decode cX10_value 59 = .ok (.iload_n 1, 1) := by decide +kernel
theorem dX10_value_60 : decode cX10_value 60 = .ok (.invokevirtual 102, 3) := by decide +kernel
theorem dX10_value_63 : decode cX10_value 63 = .ok (.iconst 1, 1) := by decide +kernel
theorem dX10_value_64 : decode cX10_value 64 = .ok (.ireturn, 1) := by decide +kernel
theorem dX10_tell_0 : decode cX10_tell 0 = .ok (.aload_n 0, 1) := by decide +kernel
theorem dX10_tell_1 : decode cX10_tell 1 = .ok (.getfield 10, 3) := by decide +kernel
theorem dX10_tell_4 : decode cX10_tell 4 = .ok (.iload_n 1, 1) := by decide +kernel
theorem dX10_tell_5 : decode cX10_tell 5 = .ok (.invokevirtual 91, 3) := by decide +kernel
theorem dX10_tell_8 : decode cX10_tell 8 = .ok (.ifCond .eq 29, 3) := by decide +kernel
theorem dX10_tell_11 : decode cX10_tell 11 = .ok (.aload_n 0, 1) := by decide +kernel
theorem dX10_tell_12 : decode cX10_tell 12 = .ok (.getfield 10, 3) := by decide +kernel
theorem dX10_tell_15 : decode cX10_tell 15 = .ok (.iload_n 2, 1) := by decide +kernel
theorem dX10_tell_16 : decode cX10_tell 16 = .ok (.invokevirtual 91, 3) := by decide +kernel
theorem dX10_tell_19 : decode cX10_tell 19 = .ok (.ifCond .eq 18, 3) := by decide +kernel
theorem dX10_tell_22 : decode cX10_tell 22 = .ok (.iload_n 1, 1) := by decide +kernel
theorem dX10_tell_23 : decode cX10_tell 23 = .ok (.iload_n 2, 1) := by decide +kernel
theorem dX10_tell_24 : decode cX10_tell 24 = .ok (.if_icmp .eq 13, 3) := by decide +kernel
theorem dX10_tell_27 : decode cX10_tell 27 = .ok (.iload_n 3, 1) := by decide +kernel
theorem dX10_tell_28 : decode cX10_tell 28 = .ok (.ifCond .lt 9, 3) := by decide +kernel
theorem dX10_tell_31 : decode cX10_tell 31 = .ok (.iload_n 3, 1) := by decide +kernel
theorem dX10_tell_32 : decode cX10_tell 32 = .ok (.ldc 106, 2) := by decide +kernel
theorem dX10_tell_34 : decode cX10_tell 34 = .ok (.if_icmp .le 5, 3) := by decide +kernel
theorem dX10_tell_37 : decode cX10_tell 37 = .ok (.iconst 0, 1) := by decide +kernel
theorem dX10_tell_38 : decode cX10_tell 38 = .ok (.ireturn, 1) := by decide +kernel
theorem dX10_tell_39 : decode cX10_tell 39 = .ok (.aload_n 0, 1) := by decide +kernel
theorem dX10_tell_40 : decode cX10_tell 40 = .ok (.getfield 19, 3) := by decide +kernel
theorem dX10_tell_43 : decode cX10_tell 43 = .ok (.iload_n 1, 1) := by decide +kernel
theorem dX10_tell_44 : decode cX10_tell 44 = .ok (.iload_n 2, 1) := by decide +kernel
theorem dX10_tell_45 : decode cX10_tell 45 = .ok (.iload_n 3, 1) := by decide +kernel
theorem dX10_tell_46 : decode cX10_tell 46 = .ok (.invokevirtual 107, 3) := by decide +kernel
theorem dX10_tell_49 : decode cX10_tell 49 = .ok (.aload_n 0, 1) := by decide +kernel
theorem dX10_tell_50 : decode cX10_tell 50 = .ok (.getfield 28, 3) := by decide +kernel
theorem dX10_tell_53 : decode cX10_tell 53 = .ok (.iload_n 1, 1) := by decide +kernel
theorem dX10_tell_54 : decode cX10_tell 54 = .ok (.iload_n 2, 1) := by decide +kernel
theorem dX10_tell_55 : decode cX10_tell 55 = .ok (.invokevirtual 110, 3) := by decide +kernel
theorem dX10_tell_58 : decode cX10_tell 58 = .ok (.iconst 1, 1) := by decide +kernel
theorem dX10_tell_59 : decode cX10_tell 59 = .ok (.ireturn, 1) := by decide +kernel
theorem dX10_kind_0 : decode cX10_kind 0 = .ok (.iload_n 1, 1) := by decide +kernel
theorem dX10_kind_1 : decode cX10_kind 1 = .ok (.ifCond .lt 8, 3) := by decide +kernel
theorem dX10_kind_4 : decode cX10_kind 4 = .ok (.iload_n 1, 1) := by decide +kernel
theorem dX10_kind_5 : decode cX10_kind 5 = .ok (.iconst 5, 1) := by decide +kernel
theorem dX10_kind_6 : decode cX10_kind 6 = .ok (.if_icmp .le 5, 3) := by decide +kernel
theorem dX10_kind_9 : decode cX10_kind 9 = .ok (.iconst 0, 1) := by decide +kernel
theorem dX10_kind_10 : decode cX10_kind 10 = .ok (.ireturn, 1) := by decide +kernel
theorem dX10_kind_11 : decode cX10_kind 11 = .ok (.aload_n 0, 1) := by decide +kernel
theorem dX10_kind_12 : decode cX10_kind 12 = .ok (.getfield 28, 3) := by decide +kernel
theorem dX10_kind_15 : decode cX10_kind 15 = .ok (.iload_n 1, 1) := by decide +kernel
theorem dX10_kind_16 : decode cX10_kind 16 = .ok (.invokevirtual 114, 3) := by decide +kernel
theorem dX10_kind_19 : decode cX10_kind 19 = .ok (.iconst 1, 1) := by decide +kernel
theorem dX10_kind_20 : decode cX10_kind 20 = .ok (.ireturn, 1) := by decide +kernel
theorem dX10_distance_0 : decode cX10_distance 0 = .ok (.aload_n 0, 1) := by decide +kernel
theorem dX10_distance_1 : decode cX10_distance 1 = .ok (.getfield 10, 3) := by decide +kernel
theorem dX10_distance_4 : decode cX10_distance 4 = .ok (.iload_n 1, 1) := by decide +kernel
theorem dX10_distance_5 : decode cX10_distance 5 = .ok (.invokevirtual 91, 3) := by decide +kernel
theorem dX10_distance_8 : decode cX10_distance 8 = .ok (.ifCond .eq 14, 3) := by decide +kernel
theorem dX10_distance_11 : decode cX10_distance 11 = .ok (.aload_n 0, 1) := by decide +kernel
theorem dX10_distance_12 : decode cX10_distance 12 = .ok (.getfield 10, 3) := by decide +kernel
theorem dX10_distance_15 : decode cX10_distance 15 = .ok (.iload_n 2, 1) := by decide +kernel
theorem dX10_distance_16 : decode cX10_distance 16 = .ok (.invokevirtual 91, 3) := by decide +kernel
theorem dX10_distance_19 : decode cX10_distance 19 = .ok (.ifCond .ne 5, 3) := by decide +kernel
theorem dX10_distance_22 : decode cX10_distance 22 = .ok (.iconst (-1), 1) := by decide +kernel
theorem dX10_distance_23 : decode cX10_distance 23 = .ok (.ireturn, 1) := by decide +kernel
theorem dX10_distance_24 : decode cX10_distance 24 = .ok (.aload_n 0, 1) := by decide +kernel
theorem dX10_distance_25 : decode cX10_distance 25 = .ok (.getfield 28, 3) := by decide +kernel
theorem dX10_distance_28 : decode cX10_distance 28 = .ok (.iload_n 1, 1) := by decide +kernel
theorem dX10_distance_29 : decode cX10_distance 29 = .ok (.iload_n 2, 1) := by decide +kernel
theorem dX10_distance_30 : decode cX10_distance 30 = .ok (.invokevirtual 117, 3) := by decide +kernel
theorem dX10_distance_33 : decode cX10_distance 33 = .ok (.ireturn, 1) := by decide +kernel
theorem dX10_law_0 : decode cX10_law 0 = .ok (.aload_n 0, 1) := by decide +kernel
theorem dX10_law_1 : decode cX10_law 1 = .ok (.getfield 28, 3) := by decide +kernel
theorem dX10_law_4 : decode cX10_law 4 = .ok (.invokevirtual 121, 3) := by decide +kernel
theorem dX10_law_7 : decode cX10_law 7 = .ok (.ifCond .eq 7, 3) := by decide +kernel
theorem dX10_law_10 : decode cX10_law 10 = .ok (.iconst 1, 1) := by decide +kernel
theorem dX10_law_11 : decode cX10_law 11 = .ok (.goto 4, 3) := by decide +kernel
theorem dX10_law_14 : decode cX10_law 14 = .ok (.iconst 0, 1) := by decide +kernel
theorem dX10_law_15 : decode cX10_law 15 = .ok (.ireturn, 1) := by decide +kernel
theorem dX10_three_0 : decode cX10_three 0 = .ok (.iload_n 1, 1) := by decide +kernel
theorem dX10_three_1 : decode cX10_three 1 = .ok (.ifCond .lt 18, 3) := by decide +kernel
theorem dX10_three_4 : decode cX10_three 4 = .ok (.iload_n 1, 1) := by decide +kernel
theorem dX10_three_5 : decode cX10_three 5 = .ok (.iconst 2, 1) := by decide +kernel
theorem dX10_three_6 : decode cX10_three 6 = .ok (.if_icmp .gt 13, 3) := by decide +kernel
theorem dX10_three_9 : decode cX10_three 9 = .ok (.aload_n 0, 1) := by decide +kernel
theorem dX10_three_10 : decode cX10_three 10 = .ok (.getfield 28, 3) := by decide +kernel
theorem dX10_three_13 : decode cX10_three 13 = .ok (.invokevirtual 121, 3) := by decide +kernel
theorem dX10_three_16 : decode cX10_three 16 = .ok (.ifCond .eq 5, 3) := by decide +kernel
theorem dX10_three_19 : decode cX10_three 19 = .ok (.iconst (-1), 1) := by decide +kernel
theorem dX10_three_20 : decode cX10_three 20 = .ok (.ireturn, 1) := by decide +kernel
theorem dX10_three_21 : decode cX10_three 21 = .ok (.aload_n 0, 1) := by decide +kernel
theorem dX10_three_22 : decode cX10_three 22 = .ok (.getfield 19, 3) := by decide +kernel
theorem dX10_three_25 : decode cX10_three 25 = .ok (.iload_n 1, 1) := by decide +kernel
theorem dX10_three_26 : decode cX10_three 26 = .ok (.invokevirtual 125, 3) := by decide +kernel
theorem dX10_three_29 : decode cX10_three 29 = .ok (.ireturn, 1) := by decide +kernel
theorem dX10_put_0 : decode cX10_put 0 = .ok (.aload_n 0, 1) := by decide +kernel
theorem dX10_put_1 : decode cX10_put 1 = .ok (.getfield 10, 3) := by decide +kernel
theorem dX10_put_4 : decode cX10_put 4 = .ok (.iload_n 1, 1) := by decide +kernel
theorem dX10_put_5 : decode cX10_put 5 = .ok (.invokevirtual 91, 3) := by decide +kernel
theorem dX10_put_8 : decode cX10_put 8 = .ok (.ifCond .eq 14, 3) := by decide +kernel
theorem dX10_put_11 : decode cX10_put 11 = .ok (.aload_n 0, 1) := by decide +kernel
theorem dX10_put_12 : decode cX10_put 12 = .ok (.getfield 35, 3) := by decide +kernel
theorem dX10_put_15 : decode cX10_put 15 = .ok (.iload_n 1, 1) := by decide +kernel
theorem dX10_put_16 : decode cX10_put 16 = .ok (.invokevirtual 128, 3) := by decide +kernel
theorem dX10_put_19 : decode cX10_put 19 = .ok (.ifCond .eq 5, 3) := by decide +kernel
theorem dX10_put_22 : decode cX10_put 22 = .ok (.iconst 0, 1) := by decide +kernel
theorem dX10_put_23 : decode cX10_put 23 = .ok (.ireturn, 1) := by decide +kernel
theorem dX10_put_24 : decode cX10_put 24 = .ok (.aload_n 0, 1) := by decide +kernel
theorem dX10_put_25 : decode cX10_put 25 = .ok (.getfield 35, 3) := by decide +kernel
theorem dX10_put_28 : decode cX10_put 28 = .ok (.iload_n 1, 1) := by decide +kernel
theorem dX10_put_29 : decode cX10_put 29 = .ok (.invokevirtual 129, 3) := by decide +kernel
theorem dX10_put_32 : decode cX10_put 32 = .ok (.iconst 1, 1) := by decide +kernel
theorem dX10_put_33 : decode cX10_put 33 = .ok (.ireturn, 1) := by decide +kernel
theorem dX10_drop_0 : decode cX10_drop 0 = .ok (.aload_n 0, 1) := by decide +kernel
theorem dX10_drop_1 : decode cX10_drop 1 = .ok (.getfield 35, 3) := by decide +kernel
theorem dX10_drop_4 : decode cX10_drop 4 = .ok (.iload_n 1, 1) := by decide +kernel
theorem dX10_drop_5 : decode cX10_drop 5 = .ok (.invokevirtual 128, 3) := by decide +kernel
theorem dX10_drop_8 : decode cX10_drop 8 = .ok (.ifCond .ne 5, 3) := by decide +kernel
theorem dX10_drop_11 : decode cX10_drop 11 = .ok (.iconst 0, 1) := by decide +kernel
theorem dX10_drop_12 : decode cX10_drop 12 = .ok (.ireturn, 1) := by decide +kernel
theorem dX10_drop_13 : decode cX10_drop 13 = .ok (.aload_n 0, 1) := by decide +kernel
theorem dX10_drop_14 : decode cX10_drop 14 = .ok (.getfield 35, 3) := by decide +kernel
theorem dX10_drop_17 : decode cX10_drop 17 = .ok (.iload_n 1, 1) := by decide +kernel
theorem dX10_drop_18 : decode cX10_drop 18 = .ok (.invokevirtual 132, 3) := by decide +kernel
theorem dX10_drop_21 : decode cX10_drop 21 = .ok (.iconst 1, 1) := by decide +kernel
theorem dX10_drop_22 : decode cX10_drop 22 = .ok (.ireturn, 1) := by decide +kernel
theorem dX10_has_0 : decode cX10_has 0 = .ok (.aload_n 0, 1) := by decide +kernel
theorem dX10_has_1 : decode cX10_has 1 = .ok (.getfield 10, 3) := by decide +kernel
theorem dX10_has_4 : decode cX10_has 4 = .ok (.iload_n 1, 1) := by decide +kernel
theorem dX10_has_5 : decode cX10_has 5 = .ok (.invokevirtual 91, 3) := by decide +kernel
theorem dX10_has_8 : decode cX10_has 8 = .ok (.ifCond .ne 5, 3) := by decide +kernel
theorem dX10_has_11 : decode cX10_has 11 = .ok (.iconst (-1), 1) := by decide +kernel
theorem dX10_has_12 : decode cX10_has 12 = .ok (.ireturn, 1) := by decide +kernel
theorem dX10_has_13 : decode cX10_has 13 = .ok (.aload_n 0, 1) := by decide +kernel
theorem dX10_has_14 : decode cX10_has 14 = .ok (.getfield 35, 3) := by decide +kernel
theorem dX10_has_17 : decode cX10_has 17 = .ok (.iload_n 1, 1) := by decide +kernel
theorem dX10_has_18 : decode cX10_has 18 = .ok (.invokevirtual 128, 3) := by decide +kernel
theorem dX10_has_21 : decode cX10_has 21 = .ok (.ifCond .eq 7, 3) := by decide +kernel
theorem dX10_has_24 : decode cX10_has 24 = .ok (.iconst 1, 1) := by decide +kernel
theorem dX10_has_25 : decode cX10_has 25 = .ok (.goto 4, 3) := by decide +kernel
theorem dX10_has_28 : decode cX10_has 28 = .ok (.iconst 0, 1) := by decide +kernel
theorem dX10_has_29 : decode cX10_has 29 = .ok (.ireturn, 1) := by decide +kernel
theorem dX10_nearest_0 : decode cX10_nearest 0 = .ok (.aload_n 0, 1) := by decide +kernel
theorem dX10_nearest_1 : decode cX10_nearest 1 = .ok (.getfield 10, 3) := by decide +kernel
theorem dX10_nearest_4 : decode cX10_nearest 4 = .ok (.iload_n 1, 1) := by decide +kernel
theorem dX10_nearest_5 : decode cX10_nearest 5 = .ok (.invokevirtual 91, 3) := by decide +kernel
theorem dX10_nearest_8 : decode cX10_nearest 8 = .ok (.ifCond .eq 20, 3) := by decide +kernel
theorem dX10_nearest_11 : decode cX10_nearest 11 = .ok (.iload_n 2, 1) := by decide +kernel
theorem dX10_nearest_12 : decode cX10_nearest 12 = .ok (.invokestatic 135, 3) := by decide +kernel
theorem dX10_nearest_15 : decode cX10_nearest 15 = .ok (.ifCond .eq 13, 3) := by decide +kernel
theorem dX10_nearest_18 : decode cX10_nearest 18 = .ok (.aload_n 0, 1) := by decide +kernel
theorem dX10_nearest_19 : decode cX10_nearest 19 = .ok (.getfield 28, 3) := by decide +kernel
theorem dX10_nearest_22 : decode cX10_nearest 22 = .ok (.invokevirtual 121, 3) := by decide +kernel
theorem dX10_nearest_25 : decode cX10_nearest 25 = .ok (.ifCond .ne 5, 3) := by decide +kernel
theorem dX10_nearest_28 : decode cX10_nearest 28 = .ok (.iconst (-1), 1) := by decide +kernel
theorem dX10_nearest_29 : decode cX10_nearest 29 = .ok (.ireturn, 1) := by decide +kernel
theorem dX10_nearest_30 : decode cX10_nearest 30 = .ok (.aload_n 0, 1) := by decide +kernel
theorem dX10_nearest_31 : decode cX10_nearest 31 = .ok (.iload_n 1, 1) := by decide +kernel
theorem dX10_nearest_32 : decode cX10_nearest 32 = .ok (.ldc 106, 2) := by decide +kernel
theorem dX10_nearest_34 : decode cX10_nearest 34 = .ok (.invokevirtual 138, 3) := by decide +kernel
theorem dX10_nearest_37 : decode cX10_nearest 37 = .ok (.aload_n 0, 1) := by decide +kernel
theorem dX10_nearest_38 : decode cX10_nearest 38 = .ok (.iload_n 1, 1) := by decide +kernel
theorem dX10_nearest_39 : decode cX10_nearest 39 = .ok (.iload_n 2, 1) := by decide +kernel
theorem dX10_nearest_40 : decode cX10_nearest 40 = .ok (.invokevirtual 141, 3) := by decide +kernel
theorem dX10_nearest_43 : decode cX10_nearest 43 = .ok (.ireturn, 1) := by decide +kernel
theorem dX10_within_0 : decode cX10_within 0 = .ok (.aload_n 0, 1) := by decide +kernel
theorem dX10_within_1 : decode cX10_within 1 = .ok (.getfield 10, 3) := by decide +kernel
theorem dX10_within_4 : decode cX10_within 4 = .ok (.iload_n 1, 1) := by decide +kernel
theorem dX10_within_5 : decode cX10_within 5 = .ok (.invokevirtual 91, 3) := by decide +kernel
theorem dX10_within_8 : decode cX10_within 8 = .ok (.ifCond .eq 17, 3) := by decide +kernel
theorem dX10_within_11 : decode cX10_within 11 = .ok (.iload_n 2, 1) := by decide +kernel
theorem dX10_within_12 : decode cX10_within 12 = .ok (.ifCond .lt 13, 3) := by decide +kernel
theorem dX10_within_15 : decode cX10_within 15 = .ok (.aload_n 0, 1) := by decide +kernel
theorem dX10_within_16 : decode cX10_within 16 = .ok (.getfield 28, 3) := by decide +kernel
theorem dX10_within_19 : decode cX10_within 19 = .ok (.invokevirtual 121, 3) := by decide +kernel
theorem dX10_within_22 : decode cX10_within 22 = .ok (.ifCond .ne 5, 3) := by decide +kernel
theorem dX10_within_25 : decode cX10_within 25 = .ok (.iconst (-1), 1) := by decide +kernel
theorem dX10_within_26 : decode cX10_within 26 = .ok (.ireturn, 1) := by decide +kernel
theorem dX10_within_27 : decode cX10_within 27 = .ok (.aload_n 0, 1) := by decide +kernel
theorem dX10_within_28 : decode cX10_within 28 = .ok (.iload_n 1, 1) := by decide +kernel
theorem dX10_within_29 : decode cX10_within 29 = .ok (.iload_n 2, 1) := by decide +kernel
theorem dX10_within_30 : decode cX10_within 30 = .ok (.invokevirtual 138, 3) := by decide +kernel
theorem dX10_within_33 : decode cX10_within 33 = .ok (.aload_n 0, 1) := by decide +kernel
theorem dX10_within_34 : decode cX10_within 34 = .ok (.iload_n 1, 1) := by decide +kernel
theorem dX10_within_35 : decode cX10_within 35 = .ok (.bipush 60, 2) := by decide +kernel
theorem dX10_within_37 : decode cX10_within 37 = .ok (.invokevirtual 141, 3) := by decide +kernel
theorem dX10_within_40 : decode cX10_within 40 = .ok (.ireturn, 1) := by decide +kernel
theorem dX10_farthest_0 : decode cX10_farthest 0 = .ok (.aload_n 0, 1) := by decide +kernel
theorem dX10_farthest_1 : decode cX10_farthest 1 = .ok (.getfield 10, 3) := by decide +kernel
theorem dX10_farthest_4 : decode cX10_farthest 4 = .ok (.iload_n 1, 1) := by decide +kernel
theorem dX10_farthest_5 : decode cX10_farthest 5 = .ok (.invokevirtual 91, 3) := by decide +kernel
theorem dX10_farthest_8 : decode cX10_farthest 8 = .ok (.ifCond .eq 20, 3) := by decide +kernel
theorem dX10_farthest_11 : decode cX10_farthest 11 = .ok (.iload_n 2, 1) := by decide +kernel
theorem dX10_farthest_12 : decode cX10_farthest 12 = .ok (.invokestatic 135, 3) := by decide +kernel
theorem dX10_farthest_15 : decode cX10_farthest 15 = .ok (.ifCond .eq 13, 3) := by decide +kernel
theorem dX10_farthest_18 : decode cX10_farthest 18 = .ok (.aload_n 0, 1) := by decide +kernel
theorem dX10_farthest_19 : decode cX10_farthest 19 = .ok (.getfield 28, 3) := by decide +kernel
theorem dX10_farthest_22 : decode cX10_farthest 22 = .ok (.invokevirtual 121, 3) := by decide +kernel
theorem dX10_farthest_25 : decode cX10_farthest 25 = .ok (.ifCond .ne 5, 3) := by decide +kernel
theorem dX10_farthest_28 : decode cX10_farthest 28 = .ok (.iconst (-1), 1) := by decide +kernel
theorem dX10_farthest_29 : decode cX10_farthest 29 = .ok (.ireturn, 1) := by decide +kernel
theorem dX10_farthest_30 : decode cX10_farthest 30 = .ok (.aload_n 0, 1) := by decide +kernel
theorem dX10_farthest_31 : decode cX10_farthest 31 = .ok (.iload_n 1, 1) := by decide +kernel
theorem dX10_farthest_32 : decode cX10_farthest 32 = .ok (.invokevirtual 144, 3) := by decide +kernel
theorem dX10_farthest_35 : decode cX10_farthest 35 = .ok (.aload_n 0, 1) := by decide +kernel
theorem dX10_farthest_36 : decode cX10_farthest 36 = .ok (.iload_n 1, 1) := by decide +kernel
theorem dX10_farthest_37 : decode cX10_farthest 37 = .ok (.iload_n 2, 1) := by decide +kernel
theorem dX10_farthest_38 : decode cX10_farthest 38 = .ok (.invokevirtual 141, 3) := by decide +kernel
theorem dX10_farthest_41 : decode cX10_farthest 41 = .ok (.ireturn, 1) := by decide +kernel
theorem dX10_result_0 : decode cX10_result 0 = .ok (.iload_n 1, 1) := by decide +kernel
theorem dX10_result_1 : decode cX10_result 1 = .ok (.ifCond .lt 14, 3) := by decide +kernel
theorem dX10_result_4 : decode cX10_result 4 = .ok (.iload_n 1, 1) := by decide +kernel
theorem dX10_result_5 : decode cX10_result 5 = .ok (.aload_n 0, 1) := by decide +kernel
theorem dX10_result_6 : decode cX10_result 6 = .ok (.getfield 42, 3) := by decide +kernel
theorem dX10_result_9 : decode cX10_result 9 = .ok (.invokevirtual 147, 3) := by decide +kernel
theorem dX10_result_12 : decode cX10_result 12 = .ok (.if_icmp .lt 5, 3) := by decide +kernel
theorem dX10_result_15 : decode cX10_result 15 = .ok (.iconst (-1), 1) := by decide +kernel
theorem dX10_result_16 : decode cX10_result 16 = .ok (.ireturn, 1) := by decide +kernel
theorem dX10_result_17 : decode cX10_result 17 = .ok (.iload_n 2, 1) := by decide +kernel
theorem dX10_result_18 : decode cX10_result 18 = .ok (.lookupswitch 44 #[(0, 26), (1, 35)], 26) := by decide +kernel
theorem dX10_result_44 : decode cX10_result 44 = .ok (.aload_n 0, 1) := by decide +kernel
theorem dX10_result_45 : decode cX10_result 45 = .ok (.getfield 42, 3) := by decide +kernel
theorem dX10_result_48 : decode cX10_result 48 = .ok (.iload_n 1, 1) := by decide +kernel
theorem dX10_result_49 : decode cX10_result 49 = .ok (.invokevirtual 148, 3) := by decide +kernel
theorem dX10_result_52 : decode cX10_result 52 = .ok (.ireturn, 1) := by decide +kernel
theorem dX10_result_53 : decode cX10_result 53 = .ok (.aload_n 0, 1) := by decide +kernel
theorem dX10_result_54 : decode cX10_result 54 = .ok (.getfield 42, 3) := by decide +kernel
theorem dX10_result_57 : decode cX10_result 57 = .ok (.iload_n 1, 1) := by decide +kernel
theorem dX10_result_58 : decode cX10_result 58 = .ok (.invokevirtual 151, 3) := by decide +kernel
theorem dX10_result_61 : decode cX10_result 61 = .ok (.ireturn, 1) := by decide +kernel
theorem dX10_result_62 : decode cX10_result 62 = .ok (.iconst (-1), 1) := by decide +kernel
theorem dX10_result_63 : decode cX10_result 63 = .ok (.ireturn, 1) := by decide +kernel
theorem dX10_closest_0 : decode cX10_closest 0 = .ok (.iload_n 1, 1) := by decide +kernel
theorem dX10_closest_1 : decode cX10_closest 1 = .ok (.ifCond .lt 26, 3) := by decide +kernel
theorem dX10_closest_4 : decode cX10_closest 4 = .ok (.iload_n 1, 1) := by decide +kernel
theorem dX10_closest_5 : decode cX10_closest 5 = .ok (.iconst 2, 1) := by decide +kernel
theorem dX10_closest_6 : decode cX10_closest 6 = .ok (.if_icmp .gt 21, 3) := by decide +kernel
theorem dX10_closest_9 : decode cX10_closest 9 = .ok (.aload_n 0, 1) := by decide +kernel
theorem dX10_closest_10 : decode cX10_closest 10 = .ok (.getfield 35, 3) := by decide +kernel
theorem dX10_closest_13 : decode cX10_closest 13 = .ok (.invokevirtual 154, 3) := by decide +kernel
theorem dX10_closest_16 : decode cX10_closest 16 = .ok (.iconst 2, 1) := by decide +kernel
theorem dX10_closest_17 : decode cX10_closest 17 = .ok (.if_icmp .lt 10, 3) := by decide +kernel
theorem dX10_closest_20 : decode cX10_closest 20 = .ok (.aload_n 0, 1) := by decide +kernel
theorem dX10_closest_21 : decode cX10_closest 21 = .ok (.invokevirtual 155, 3) := by decide +kernel
theorem dX10_closest_24 : decode cX10_closest 24 = .ok (.ifCond .ne 5, 3) := by decide +kernel
theorem dX10_closest_27 : decode cX10_closest 27 = .ok (.iconst (-1), 1) := by decide +kernel
theorem dX10_closest_28 : decode cX10_closest 28 = .ok (.ireturn, 1) := by decide +kernel
theorem dX10_closest_29 : decode cX10_closest 29 = .ok (.aload_n 0, 1) := by decide +kernel
theorem dX10_closest_30 : decode cX10_closest 30 = .ok (.invokevirtual 158, 3) := by decide +kernel
theorem dX10_closest_33 : decode cX10_closest 33 = .ok (.iload_n 1, 1) := by decide +kernel
theorem dX10_closest_34 : decode cX10_closest 34 = .ok (.invokestatic 161, 3) := by decide +kernel
theorem dX10_closest_37 : decode cX10_closest 37 = .ok (.ireturn, 1) := by decide +kernel
theorem dX10_centres_0 : decode cX10_centres 0 = .ok (.iload_n 1, 1) := by decide +kernel
theorem dX10_centres_1 : decode cX10_centres 1 = .ok (.invokestatic 135, 3) := by decide +kernel
theorem dX10_centres_4 : decode cX10_centres 4 = .ok (.ifCond .eq 20, 3) := by decide +kernel
theorem dX10_centres_7 : decode cX10_centres 7 = .ok (.aload_n 0, 1) := by decide +kernel
theorem dX10_centres_8 : decode cX10_centres 8 = .ok (.getfield 35, 3) := by decide +kernel
theorem dX10_centres_11 : decode cX10_centres 11 = .ok (.invokevirtual 154, 3) := by decide +kernel
theorem dX10_centres_14 : decode cX10_centres 14 = .ok (.ifCond .eq 10, 3) := by decide +kernel
theorem dX10_centres_17 : decode cX10_centres 17 = .ok (.aload_n 0, 1) := by decide +kernel
theorem dX10_centres_18 : decode cX10_centres 18 = .ok (.invokevirtual 155, 3) := by decide +kernel
theorem dX10_centres_21 : decode cX10_centres 21 = .ok (.ifCond .ne 5, 3) := by decide +kernel
theorem dX10_centres_24 : decode cX10_centres 24 = .ok (.iconst (-1), 1) := by decide +kernel
theorem dX10_centres_25 : decode cX10_centres 25 = .ok (.ireturn, 1) := by decide +kernel
theorem dX10_centres_26 : decode cX10_centres 26 = .ok (.aload_n 0, 1) := by decide +kernel
theorem dX10_centres_27 : decode cX10_centres 27 = .ok (.getfield 72, 3) := by decide +kernel
theorem dX10_centres_30 : decode cX10_centres 30 = .ok (.iload_n 1, 1) := by decide +kernel
theorem dX10_centres_31 : decode cX10_centres 31 = .ok (.aload_n 0, 1) := by decide +kernel
theorem dX10_centres_32 : decode cX10_centres 32 = .ok (.getfield 35, 3) := by decide +kernel
theorem dX10_centres_35 : decode cX10_centres 35 = .ok (.invokevirtual 154, 3) := by decide +kernel
theorem dX10_centres_38 : decode cX10_centres 38 = .ok (.invokestatic 164, 3) := by decide +kernel
theorem dX10_centres_41 : decode cX10_centres 41 = .ok (.aload_n 0, 1) := by decide +kernel
theorem dX10_centres_42 : decode cX10_centres 42 = .ok (.getfield 42, 3) := by decide +kernel
theorem dX10_centres_45 : decode cX10_centres 45 = .ok (.invokevirtual 169, 3) := by decide +kernel
theorem dX10_centres_48 : decode cX10_centres 48 = .ok (.ireturn, 1) := by decide +kernel
theorem dX10_best_0 : decode cX10_best 0 = .ok (.iload_n 1, 1) := by decide +kernel
theorem dX10_best_1 : decode cX10_best 1 = .ok (.iconst 1, 1) := by decide +kernel
theorem dX10_best_2 : decode cX10_best 2 = .ok (.if_icmp .lt 26, 3) := by decide +kernel
theorem dX10_best_5 : decode cX10_best 5 = .ok (.iload_n 1, 1) := by decide +kernel
theorem dX10_best_6 : decode cX10_best 6 = .ok (.iconst 3, 1) := by decide +kernel
theorem dX10_best_7 : decode cX10_best 7 = .ok (.if_icmp .gt 21, 3) := by decide +kernel
theorem dX10_best_10 : decode cX10_best 10 = .ok (.aload_n 0, 1) := by decide +kernel
theorem dX10_best_11 : decode cX10_best 11 = .ok (.getfield 35, 3) := by decide +kernel
theorem dX10_best_14 : decode cX10_best 14 = .ok (.invokevirtual 154, 3) := by decide +kernel
theorem dX10_best_17 : decode cX10_best 17 = .ok (.iload_n 1, 1) := by decide +kernel
theorem dX10_best_18 : decode cX10_best 18 = .ok (.if_icmp .lt 10, 3) := by decide +kernel
theorem dX10_best_21 : decode cX10_best 21 = .ok (.aload_n 0, 1) := by decide +kernel
theorem dX10_best_22 : decode cX10_best 22 = .ok (.invokevirtual 155, 3) := by decide +kernel
theorem dX10_best_25 : decode cX10_best 25 = .ok (.ifCond .ne 5, 3) := by decide +kernel
theorem dX10_best_28 : decode cX10_best 28 = .ok (.iconst (-1), 1) := by decide +kernel
theorem dX10_best_29 : decode cX10_best 29 = .ok (.ireturn, 1) := by decide +kernel
theorem dX10_best_30 : decode cX10_best 30 = .ok (.aload_n 0, 1) := by decide +kernel
theorem dX10_best_31 : decode cX10_best 31 = .ok (.getfield 79, 3) := by decide +kernel
theorem dX10_best_34 : decode cX10_best 34 = .ok (.iload_n 1, 1) := by decide +kernel
theorem dX10_best_35 : decode cX10_best 35 = .ok (.aload_n 0, 1) := by decide +kernel
theorem dX10_best_36 : decode cX10_best 36 = .ok (.getfield 42, 3) := by decide +kernel
theorem dX10_best_39 : decode cX10_best 39 = .ok (.invokevirtual 173, 3) := by decide +kernel
theorem dX10_best_42 : decode cX10_best 42 = .ok (.ireturn, 1) := by decide +kernel
theorem dX10_chain_0 : decode cX10_chain 0 = .ok (.iload_n 1, 1) := by decide +kernel
theorem dX10_chain_1 : decode cX10_chain 1 = .ok (.ifCond .lt 15, 3) := by decide +kernel
theorem dX10_chain_4 : decode cX10_chain 4 = .ok (.iload_n 1, 1) := by decide +kernel
theorem dX10_chain_5 : decode cX10_chain 5 = .ok (.iconst 1, 1) := by decide +kernel
theorem dX10_chain_6 : decode cX10_chain 6 = .ok (.if_icmp .gt 10, 3) := by decide +kernel
theorem dX10_chain_9 : decode cX10_chain 9 = .ok (.aload_n 0, 1) := by decide +kernel
theorem dX10_chain_10 : decode cX10_chain 10 = .ok (.invokevirtual 155, 3) := by decide +kernel
theorem dX10_chain_13 : decode cX10_chain 13 = .ok (.ifCond .ne 7, 3) := by decide +kernel
theorem dX10_chain_16 : decode cX10_chain 16 = .ok (.ldc2_w 174, 3) := by decide +kernel
theorem dX10_chain_19 : decode cX10_chain 19 = .ok (.lreturn, 1) := by decide +kernel
theorem dX10_chain_20 : decode cX10_chain 20 = .ok (.aload_n 0, 1) := by decide +kernel
theorem dX10_chain_21 : decode cX10_chain 21 = .ok (.getfield 58, 3) := by decide +kernel
theorem dX10_chain_24 : decode cX10_chain 24 = .ok (.invokevirtual 176, 3) := by decide +kernel
theorem dX10_chain_27 : decode cX10_chain 27 = .ok (.astore_n 2, 1) := by decide +kernel
theorem dX10_chain_28 : decode cX10_chain 28 = .ok (.iload_n 1, 1) := by decide +kernel
theorem dX10_chain_29 : decode cX10_chain 29 = .ok (.ifCond .ne 11, 3) := by decide +kernel
theorem dX10_chain_32 : decode cX10_chain 32 = .ok (.aload_n 2, 1) := by decide +kernel
theorem dX10_chain_33 : decode cX10_chain 33 = .ok (.invokevirtual 180, 3) := by decide +kernel
theorem dX10_chain_36 : decode cX10_chain 36 = .ok (.i2l, 1) := by decide +kernel
theorem dX10_chain_37 : decode cX10_chain 37 = .ok (.goto 7, 3) := by decide +kernel
theorem dX10_chain_40 : decode cX10_chain 40 = .ok (.aload_n 2, 1) := by decide +kernel
theorem dX10_chain_41 : decode cX10_chain 41 = .ok (.invokestatic 181, 3) := by decide +kernel
theorem dX10_chain_44 : decode cX10_chain 44 = .ok (.lreturn, 1) := by decide +kernel
theorem dX10_pair_0 : decode cX10_pair 0 = .ok (.iload_n 2, 1) := by decide +kernel
theorem dX10_pair_1 : decode cX10_pair 1 = .ok (.ifCond .lt 15, 3) := by decide +kernel
theorem dX10_pair_4 : decode cX10_pair 4 = .ok (.iload_n 2, 1) := by decide +kernel
theorem dX10_pair_5 : decode cX10_pair 5 = .ok (.iconst 2, 1) := by decide +kernel
theorem dX10_pair_6 : decode cX10_pair 6 = .ok (.if_icmp .gt 10, 3) := by decide +kernel
theorem dX10_pair_9 : decode cX10_pair 9 = .ok (.aload_n 0, 1) := by decide +kernel
theorem dX10_pair_10 : decode cX10_pair 10 = .ok (.invokevirtual 155, 3) := by decide +kernel
theorem dX10_pair_13 : decode cX10_pair 13 = .ok (.ifCond .ne 5, 3) := by decide +kernel
theorem dX10_pair_16 : decode cX10_pair 16 = .ok (.iconst (-1), 1) := by decide +kernel
theorem dX10_pair_17 : decode cX10_pair 17 = .ok (.ireturn, 1) := by decide +kernel
theorem dX10_pair_18 : decode cX10_pair 18 = .ok (.aload_n 0, 1) := by decide +kernel
theorem dX10_pair_19 : decode cX10_pair 19 = .ok (.getfield 58, 3) := by decide +kernel
theorem dX10_pair_22 : decode cX10_pair 22 = .ok (.invokevirtual 176, 3) := by decide +kernel
theorem dX10_pair_25 : decode cX10_pair 25 = .ok (.astore_n 3, 1) := by decide +kernel
theorem dX10_pair_26 : decode cX10_pair 26 = .ok (.iload_n 1, 1) := by decide +kernel
theorem dX10_pair_27 : decode cX10_pair 27 = .ok (.ifCond .lt 11, 3) := by decide +kernel
theorem dX10_pair_30 : decode cX10_pair 30 = .ok (.iload_n 1, 1) := by decide +kernel
theorem dX10_pair_31 : decode cX10_pair 31 = .ok (.aload_n 3, 1) := by decide +kernel
theorem dX10_pair_32 : decode cX10_pair 32 = .ok (.invokevirtual 180, 3) := by decide +kernel
theorem dX10_pair_35 : decode cX10_pair 35 = .ok (.if_icmp .lt 5, 3) := by decide +kernel
theorem dX10_pair_38 : decode cX10_pair 38 = .ok (.iconst (-1), 1) := by decide +kernel
theorem dX10_pair_39 : decode cX10_pair 39 = .ok (.ireturn, 1) := by decide +kernel
theorem dX10_pair_40 : decode cX10_pair 40 = .ok (.aload_n 3, 1) := by decide +kernel
theorem dX10_pair_41 : decode cX10_pair 41 = .ok (.iload_n 1, 1) := by decide +kernel
theorem dX10_pair_42 : decode cX10_pair 42 = .ok (.invokevirtual 185, 3) := by decide +kernel
theorem dX10_pair_45 : decode cX10_pair 45 = .ok (.iload_n 2, 1) := by decide +kernel
theorem dX10_pair_46 : decode cX10_pair 46 = .ok (.invokestatic 161, 3) := by decide +kernel
theorem dX10_pair_49 : decode cX10_pair 49 = .ok (.ireturn, 1) := by decide +kernel
theorem dX10_clusters_0 : decode cX10_clusters 0 = .ok (.iload_n 1, 1) := by decide +kernel
theorem dX10_clusters_1 : decode cX10_clusters 1 = .ok (.ifCond .lt 10, 3) := by decide +kernel
theorem dX10_clusters_4 : decode cX10_clusters 4 = .ok (.aload_n 0, 1) := by decide +kernel
theorem dX10_clusters_5 : decode cX10_clusters 5 = .ok (.invokevirtual 155, 3) := by decide +kernel
theorem dX10_clusters_8 : decode cX10_clusters 8 = .ok (.ifCond .ne 5, 3) := by decide +kernel
theorem dX10_clusters_11 : decode cX10_clusters 11 = .ok (.iconst (-1), 1) := by decide +kernel
theorem dX10_clusters_12 : decode cX10_clusters 12 = .ok (.ireturn, 1) := by decide +kernel
theorem dX10_clusters_13 : decode cX10_clusters 13 = .ok (.aload_n 0, 1) := by decide +kernel
theorem dX10_clusters_14 : decode cX10_clusters 14 = .ok (.getfield 65, 3) := by decide +kernel
theorem dX10_clusters_17 : decode cX10_clusters 17 = .ok (.iload_n 1, 1) := by decide +kernel
theorem dX10_clusters_18 : decode cX10_clusters 18 = .ok (.invokevirtual 188, 3) := by decide +kernel
theorem dX10_clusters_21 : decode cX10_clusters 21 = .ok (.aload_n 0, 1) := by decide +kernel
theorem dX10_clusters_22 : decode cX10_clusters 22 = .ok (.getfield 65, 3) := by decide +kernel
theorem dX10_clusters_25 : decode cX10_clusters 25 = .ok (.invokevirtual 191, 3) := by decide +kernel
theorem dX10_clusters_28 : decode cX10_clusters 28 = .ok (.ireturn, 1) := by decide +kernel
theorem dX10_cluster_0 : decode cX10_cluster 0 = .ok (.aload_n 0, 1) := by decide +kernel
theorem dX10_cluster_1 : decode cX10_cluster 1 = .ok (.getfield 35, 3) := by decide +kernel
theorem dX10_cluster_4 : decode cX10_cluster 4 = .ok (.iload_n 1, 1) := by decide +kernel
theorem dX10_cluster_5 : decode cX10_cluster 5 = .ok (.invokevirtual 128, 3) := by decide +kernel
theorem dX10_cluster_8 : decode cX10_cluster 8 = .ok (.ifCond .eq 14, 3) := by decide +kernel
theorem dX10_cluster_11 : decode cX10_cluster 11 = .ok (.iload_n 2, 1) := by decide +kernel
theorem dX10_cluster_12 : decode cX10_cluster 12 = .ok (.ifCond .lt 10, 3) := by decide +kernel
theorem dX10_cluster_15 : decode cX10_cluster 15 = .ok (.aload_n 0, 1) := by decide +kernel
theorem dX10_cluster_16 : decode cX10_cluster 16 = .ok (.invokevirtual 155, 3) := by decide +kernel
theorem dX10_cluster_19 : decode cX10_cluster 19 = .ok (.ifCond .ne 5, 3) := by decide +kernel
theorem dX10_cluster_22 : decode cX10_cluster 22 = .ok (.iconst (-1), 1) := by decide +kernel
theorem dX10_cluster_23 : decode cX10_cluster 23 = .ok (.ireturn, 1) := by decide +kernel
theorem dX10_cluster_24 : decode cX10_cluster 24 = .ok (.aload_n 0, 1) := by decide +kernel
theorem dX10_cluster_25 : decode cX10_cluster 25 = .ok (.getfield 65, 3) := by decide +kernel
theorem dX10_cluster_28 : decode cX10_cluster 28 = .ok (.iload_n 2, 1) := by decide +kernel
theorem dX10_cluster_29 : decode cX10_cluster 29 = .ok (.invokevirtual 188, 3) := by decide +kernel
theorem dX10_cluster_32 : decode cX10_cluster 32 = .ok (.aload_n 0, 1) := by decide +kernel
theorem dX10_cluster_33 : decode cX10_cluster 33 = .ok (.getfield 65, 3) := by decide +kernel
theorem dX10_cluster_36 : decode cX10_cluster 36 = .ok (.iload_n 1, 1) := by decide +kernel
theorem dX10_cluster_37 : decode cX10_cluster 37 = .ok (.invokevirtual 194, 3) := by decide +kernel
theorem dX10_cluster_40 : decode cX10_cluster 40 = .ok (.ireturn, 1) := by decide +kernel
theorem dX10_net_0 : decode cX10_net 0 = .ok (.iload_n 1, 1) := by decide +kernel
theorem dX10_net_1 : decode cX10_net 1 = .ok (.ifCond .lt 10, 3) := by decide +kernel
theorem dX10_net_4 : decode cX10_net 4 = .ok (.aload_n 0, 1) := by decide +kernel
theorem dX10_net_5 : decode cX10_net 5 = .ok (.invokevirtual 155, 3) := by decide +kernel
theorem dX10_net_8 : decode cX10_net 8 = .ok (.ifCond .ne 5, 3) := by decide +kernel
theorem dX10_net_11 : decode cX10_net 11 = .ok (.iconst (-1), 1) := by decide +kernel
theorem dX10_net_12 : decode cX10_net 12 = .ok (.ireturn, 1) := by decide +kernel
theorem dX10_net_13 : decode cX10_net 13 = .ok (.aload_n 0, 1) := by decide +kernel
theorem dX10_net_14 : decode cX10_net 14 = .ok (.getfield 42, 3) := by decide +kernel
theorem dX10_net_17 : decode cX10_net 17 = .ok (.invokevirtual 197, 3) := by decide +kernel
theorem dX10_net_20 : decode cX10_net 20 = .ok (.iconst 0, 1) := by decide +kernel
theorem dX10_net_21 : decode cX10_net 21 = .ok (.istore_n 2, 1) := by decide +kernel
theorem dX10_net_22 : decode cX10_net 22 = .ok (.iload_n 2, 1) := by decide +kernel
theorem dX10_net_23 : decode cX10_net 23 = .ok (.aload_n 0, 1) := by decide +kernel
theorem dX10_net_24 : decode cX10_net 24 = .ok (.getfield 35, 3) := by decide +kernel
theorem dX10_net_27 : decode cX10_net 27 = .ok (.invokevirtual 154, 3) := by decide +kernel
theorem dX10_net_30 : decode cX10_net 30 = .ok (.if_icmp .ge 36, 3) := by decide +kernel
theorem dX10_net_33 : decode cX10_net 33 = .ok (.aload_n 0, 1) := by decide +kernel
theorem dX10_net_34 : decode cX10_net 34 = .ok (.getfield 35, 3) := by decide +kernel
theorem dX10_net_37 : decode cX10_net 37 = .ok (.iload_n 2, 1) := by decide +kernel
theorem dX10_net_38 : decode cX10_net 38 = .ok (.invokevirtual 200, 3) := by decide +kernel
theorem dX10_net_41 : decode cX10_net 41 = .ok (.istore_n 3, 1) := by decide +kernel
theorem dX10_net_42 : decode cX10_net 42 = .ok (.aload_n 0, 1) := by decide +kernel
theorem dX10_net_43 : decode cX10_net 43 = .ok (.iload_n 3, 1) := by decide +kernel
theorem dX10_net_44 : decode cX10_net 44 = .ok (.iload_n 1, 1) := by decide +kernel
theorem dX10_net_45 : decode cX10_net 45 = .ok (.invokevirtual 201, 3) := by decide +kernel
theorem dX10_net_48 : decode cX10_net 48 = .ok (.ifCond .eq 12, 3) := by decide +kernel
theorem dX10_net_51 : decode cX10_net 51 = .ok (.aload_n 0, 1) := by decide +kernel
theorem dX10_net_52 : decode cX10_net 52 = .ok (.getfield 42, 3) := by decide +kernel
theorem dX10_net_55 : decode cX10_net 55 = .ok (.iload_n 3, 1) := by decide +kernel
theorem dX10_net_56 : decode cX10_net 56 = .ok (.iconst 0, 1) := by decide +kernel
theorem dX10_net_57 : decode cX10_net 57 = .ok (.invokevirtual 205, 3) := by decide +kernel
theorem dX10_net_60 : decode cX10_net 60 = .ok (.iinc 2 1, 3) := by decide +kernel
theorem dX10_net_63 : decode cX10_net 63 = .ok (.goto (-41), 3) := by decide +kernel
theorem dX10_net_66 : decode cX10_net 66 = .ok (.aload_n 0, 1) := by decide +kernel
theorem dX10_net_67 : decode cX10_net 67 = .ok (.getfield 42, 3) := by decide +kernel
theorem dX10_net_70 : decode cX10_net 70 = .ok (.invokevirtual 147, 3) := by decide +kernel
theorem dX10_net_73 : decode cX10_net 73 = .ok (.ireturn, 1) := by decide +kernel
theorem dX10_middle_0 : decode cX10_middle 0 = .ok (.iload_n 1, 1) := by decide +kernel
theorem dX10_middle_1 : decode cX10_middle 1 = .ok (.ifCond .lt 25, 3) := by decide +kernel
theorem dX10_middle_4 : decode cX10_middle 4 = .ok (.iload_n 1, 1) := by decide +kernel
theorem dX10_middle_5 : decode cX10_middle 5 = .ok (.iconst 1, 1) := by decide +kernel
theorem dX10_middle_6 : decode cX10_middle 6 = .ok (.if_icmp .gt 20, 3) := by decide +kernel
theorem dX10_middle_9 : decode cX10_middle 9 = .ok (.aload_n 0, 1) := by decide +kernel
theorem dX10_middle_10 : decode cX10_middle 10 = .ok (.getfield 35, 3) := by decide +kernel
theorem dX10_middle_13 : decode cX10_middle 13 = .ok (.invokevirtual 154, 3) := by decide +kernel
theorem dX10_middle_16 : decode cX10_middle 16 = .ok (.ifCond .eq 10, 3) := by decide +kernel
theorem dX10_middle_19 : decode cX10_middle 19 = .ok (.aload_n 0, 1) := by decide +kernel
theorem dX10_middle_20 : decode cX10_middle 20 = .ok (.invokevirtual 155, 3) := by decide +kernel
theorem dX10_middle_23 : decode cX10_middle 23 = .ok (.ifCond .ne 7, 3) := by decide +kernel
theorem dX10_middle_26 : decode cX10_middle 26 = .ok (.ldc2_w 174, 3) := by decide +kernel
theorem dX10_middle_29 : decode cX10_middle 29 = .ok (.lreturn, 1) := by decide +kernel
theorem dX10_middle_30 : decode cX10_middle 30 = .ok (.aload_n 0, 1) := by decide +kernel
theorem dX10_middle_31 : decode cX10_middle 31 = .ok (.getfield 35, 3) := by decide +kernel
theorem dX10_middle_34 : decode cX10_middle 34 = .ok (.iconst 0, 1) := by decide +kernel
theorem dX10_middle_35 : decode cX10_middle 35 = .ok (.invokevirtual 200, 3) := by decide +kernel
theorem dX10_middle_38 : decode cX10_middle 38 = .ok (.istore_n 2, 1) := by decide +kernel
theorem dX10_middle_39 : decode cX10_middle 39 = .ok (.aload_n 0, 1) := by decide +kernel
theorem dX10_middle_40 : decode cX10_middle 40 = .ok (.iload_n 2, 1) := by decide +kernel
theorem dX10_middle_41 : decode cX10_middle 41 = .ok (.invokevirtual 207, 3) := by decide +kernel
theorem dX10_middle_44 : decode cX10_middle 44 = .ok (.istore_n 3, 1) := by decide +kernel
theorem dX10_middle_45 : decode cX10_middle 45 = .ok (.iconst 1, 1) := by decide +kernel
theorem dX10_middle_46 : decode cX10_middle 46 = .ok (.istore 4, 2) := by decide +kernel
theorem dX10_middle_48 : decode cX10_middle 48 = .ok (.iload 4, 2) := by decide +kernel
theorem dX10_middle_50 : decode cX10_middle 50 = .ok (.aload_n 0, 1) := by decide +kernel
theorem dX10_middle_51 : decode cX10_middle 51 = .ok (.getfield 35, 3) := by decide +kernel
theorem dX10_middle_54 : decode cX10_middle 54 = .ok (.invokevirtual 154, 3) := by decide +kernel
theorem dX10_middle_57 : decode cX10_middle 57 = .ok (.if_icmp .ge 43, 3) := by decide +kernel
theorem dX10_middle_60 : decode cX10_middle 60 = .ok (.aload_n 0, 1) := by decide +kernel
theorem dX10_middle_61 : decode cX10_middle 61 = .ok (.aload_n 0, 1) := by decide +kernel
theorem dX10_middle_62 : decode cX10_middle 62 = .ok (.getfield 35, 3) := by decide +kernel
theorem dX10_middle_65 : decode cX10_middle 65 = .ok (.iload 4, 2) := by decide +kernel
theorem dX10_middle_67 : decode cX10_middle 67 = .ok (.invokevirtual 200, 3) := by decide +kernel
theorem dX10_middle_70 : decode cX10_middle 70 = .ok (.invokevirtual 207, 3) := by decide +kernel
theorem dX10_middle_73 : decode cX10_middle 73 = .ok (.istore 5, 2) := by decide +kernel
theorem dX10_middle_75 : decode cX10_middle 75 = .ok (.iload 5, 2) := by decide +kernel
theorem dX10_middle_77 : decode cX10_middle 77 = .ok (.iload_n 3, 1) := by decide +kernel
theorem dX10_middle_78 : decode cX10_middle 78 = .ok (.if_icmp .ge 16, 3) := by decide +kernel
theorem dX10_middle_81 : decode cX10_middle 81 = .ok (.iload 5, 2) := by decide +kernel
theorem dX10_middle_83 : decode cX10_middle 83 = .ok (.istore_n 3, 1) := by decide +kernel
theorem dX10_middle_84 : decode cX10_middle 84 = .ok (.aload_n 0, 1) := by decide +kernel
theorem dX10_middle_85 : decode cX10_middle 85 = .ok (.getfield 35, 3) := by decide +kernel
theorem dX10_middle_88 : decode cX10_middle 88 = .ok (.iload 4, 2) := by decide +kernel
theorem dX10_middle_90 : decode cX10_middle 90 = .ok (.invokevirtual 200, 3) := by decide +kernel
theorem dX10_middle_93 : decode cX10_middle 93 = .ok (.istore_n 2, 1) := by decide +kernel
theorem dX10_middle_94 : decode cX10_middle 94 = .ok (.iinc 4 1, 3) := by decide +kernel
theorem dX10_middle_97 : decode cX10_middle 97 = .ok (.goto (-49), 3) := by decide +kernel
theorem dX10_middle_100 : decode cX10_middle 100 = .ok (.iload_n 1, 1) := by decide +kernel
theorem dX10_middle_101 : decode cX10_middle 101 = .ok (.ifCond .ne 8, 3) := by decide +kernel
theorem dX10_middle_104 : decode cX10_middle 104 = .ok (.iload_n 2, 1) := by decide +kernel
theorem dX10_middle_105 : decode cX10_middle 105 = .ok (.i2l, 1) := by decide +kernel
theorem dX10_middle_106 : decode cX10_middle 106 = .ok (.goto 5, 3) := by decide +kernel
theorem dX10_middle_109 : decode cX10_middle 109 = .ok (.iload_n 3, 1) := by decide +kernel
theorem dX10_middle_110 : decode cX10_middle 110 = .ok (.i2l, 1) := by decide +kernel
theorem dX10_middle_111 : decode cX10_middle 111 = .ok (.lreturn, 1) := by decide +kernel
theorem dX10_count_0 : decode cX10_count 0 = .ok (.iload_n 1, 1) := by decide +kernel
theorem dX10_count_1 : decode cX10_count 1 = .ok (.tableswitch 83 0 4 #[35, 43, 51, 59, 67], 35) := by decide +kernel
theorem dX10_count_36 : decode cX10_count 36 = .ok (.aload_n 0, 1) := by decide +kernel
theorem dX10_count_37 : decode cX10_count 37 = .ok (.getfield 10, 3) := by decide +kernel
theorem dX10_count_40 : decode cX10_count 40 = .ok (.invokevirtual 83, 3) := by decide +kernel
theorem dX10_count_43 : decode cX10_count 43 = .ok (.ireturn, 1) := by decide +kernel
theorem dX10_count_44 : decode cX10_count 44 = .ok (.aload_n 0, 1) := by decide +kernel
theorem dX10_count_45 : decode cX10_count 45 = .ok (.getfield 35, 3) := by decide +kernel
theorem dX10_count_48 : decode cX10_count 48 = .ok (.invokevirtual 154, 3) := by decide +kernel
theorem dX10_count_51 : decode cX10_count 51 = .ok (.ireturn, 1) := by decide +kernel
theorem dX10_count_52 : decode cX10_count 52 = .ok (.aload_n 0, 1) := by decide +kernel
theorem dX10_count_53 : decode cX10_count 53 = .ok (.getfield 28, 3) := by decide +kernel
theorem dX10_count_56 : decode cX10_count 56 = .ok (.invokevirtual 210, 3) := by decide +kernel
theorem dX10_count_59 : decode cX10_count 59 = .ok (.ireturn, 1) := by decide +kernel
theorem dX10_count_60 : decode cX10_count 60 = .ok (.aload_n 0, 1) := by decide +kernel
theorem dX10_count_61 : decode cX10_count 61 = .ok (.getfield 42, 3) := by decide +kernel
theorem dX10_count_64 : decode cX10_count 64 = .ok (.invokevirtual 147, 3) := by decide +kernel
theorem dX10_count_67 : decode cX10_count 67 = .ok (.ireturn, 1) := by decide +kernel
theorem dX10_count_68 : decode cX10_count 68 = .ok (.aload_n 0, 1) := by decide +kernel
theorem dX10_count_69 : decode cX10_count 69 = .ok (.invokevirtual 155, 3) := by decide +kernel
theorem dX10_count_72 : decode cX10_count 72 = .ok (.ifCond .eq 10, 3) := by decide +kernel
theorem dX10_count_75 : decode cX10_count 75 = .ok (.aload_n 0, 1) := by decide +kernel
theorem dX10_count_76 : decode cX10_count 76 = .ok (.invokevirtual 213, 3) := by decide +kernel
theorem dX10_count_79 : decode cX10_count 79 = .ok (.goto 4, 3) := by decide +kernel
theorem dX10_count_82 : decode cX10_count 82 = .ok (.iconst (-1), 1) := by decide +kernel
theorem dX10_count_83 : decode cX10_count 83 = .ok (.ireturn, 1) := by decide +kernel
theorem dX10_count_84 : decode cX10_count 84 = .ok (.aload_n 0, 1) := by decide +kernel
theorem dX10_count_85 : decode cX10_count 85 = .ok (.iload_n 1, 1) := by decide +kernel
theorem dX10_count_86 : decode cX10_count 86 = .ok (.invokevirtual 216, 3) := by decide +kernel
theorem dX10_count_89 : decode cX10_count 89 = .ok (.ireturn, 1) := by decide +kernel
theorem dX10_openBook_0 : decode cX10_openBook 0 = .ok (.aload_n 0, 1) := by decide +kernel
theorem dX10_openBook_1 : decode cX10_openBook 1 = .ok (.getfield 28, 3) := by decide +kernel
theorem dX10_openBook_4 : decode cX10_openBook 4 = .ok (.invokevirtual 121, 3) := by decide +kernel
theorem dX10_openBook_7 : decode cX10_openBook 7 = .ok (.ifCond .ne 5, 3) := by decide +kernel
theorem dX10_openBook_10 : decode cX10_openBook 10 = .ok (.iconst 0, 1) := by decide +kernel
theorem dX10_openBook_11 : decode cX10_openBook 11 = .ok (.ireturn, 1) := by decide +kernel
theorem dX10_openBook_12 : decode cX10_openBook 12 = .ok (.iconst 0, 1) := by decide +kernel
theorem dX10_openBook_13 : decode cX10_openBook 13 = .ok (.istore_n 1, 1) := by decide +kernel
theorem dX10_openBook_14 : decode cX10_openBook 14 = .ok (.iload_n 1, 1) := by decide +kernel
theorem dX10_openBook_15 : decode cX10_openBook 15 = .ok (.aload_n 0, 1) := by decide +kernel
theorem dX10_openBook_16 : decode cX10_openBook 16 = .ok (.getfield 35, 3) := by decide +kernel
theorem dX10_openBook_19 : decode cX10_openBook 19 = .ok (.invokevirtual 154, 3) := by decide +kernel
theorem dX10_openBook_22 : decode cX10_openBook 22 = .ok (.if_icmp .ge 46, 3) := by decide +kernel
theorem dX10_openBook_25 : decode cX10_openBook 25 = .ok (.iconst 0, 1) := by decide +kernel
theorem dX10_openBook_26 : decode cX10_openBook 26 = .ok (.istore_n 2, 1) := by decide +kernel
theorem dX10_openBook_27 : decode cX10_openBook 27 = .ok (.iload_n 2, 1) := by decide +kernel
theorem dX10_openBook_28 : decode cX10_openBook 28 = .ok (.iload_n 1, 1) := by decide +kernel
theorem dX10_openBook_29 : decode cX10_openBook 29 = .ok (.if_icmp .gt 33, 3) := by decide +kernel
theorem dX10_openBook_32 : decode cX10_openBook 32 = .ok (.aload_n 0, 1) := by decide +kernel
theorem dX10_openBook_33 : decode cX10_openBook 33 = .ok (.getfield 28, 3) := by decide +kernel
theorem dX10_openBook_36 : decode cX10_openBook 36 = .ok (.aload_n 0, 1) := by decide +kernel
theorem dX10_openBook_37 : decode cX10_openBook 37 = .ok (.getfield 35, 3) := by decide +kernel
theorem dX10_openBook_40 : decode cX10_openBook 40 = .ok (.iload_n 1, 1) := by decide +kernel
theorem dX10_openBook_41 : decode cX10_openBook 41 = .ok (.invokevirtual 200, 3) := by decide +kernel
theorem dX10_openBook_44 : decode cX10_openBook 44 = .ok (.aload_n 0, 1) := by decide +kernel
theorem dX10_openBook_45 : decode cX10_openBook 45 = .ok (.getfield 35, 3) := by decide +kernel
theorem dX10_openBook_48 : decode cX10_openBook 48 = .ok (.iload_n 2, 1) := by decide +kernel
theorem dX10_openBook_49 : decode cX10_openBook 49 = .ok (.invokevirtual 200, 3) := by decide +kernel
theorem dX10_openBook_52 : decode cX10_openBook 52 = .ok (.invokevirtual 117, 3) := by decide +kernel
theorem dX10_openBook_55 : decode cX10_openBook 55 = .ok (.pop, 1) := by decide +kernel
theorem dX10_openBook_56 : decode cX10_openBook 56 = .ok (.iinc 2 1, 3) := by decide +kernel
theorem dX10_openBook_59 : decode cX10_openBook 59 = .ok (.goto (-32), 3) := by decide +kernel
theorem dX10_openBook_62 : decode cX10_openBook 62 = .ok (.iinc 1 1, 3) := by decide +kernel
theorem dX10_openBook_65 : decode cX10_openBook 65 = .ok (.goto (-51), 3) := by decide +kernel
theorem dX10_openBook_68 : decode cX10_openBook 68 = .ok (.iconst 1, 1) := by decide +kernel
theorem dX10_openBook_69 : decode cX10_openBook 69 = .ok (.ireturn, 1) := by decide +kernel
theorem dX10_lengthAsked_0 : decode cX10_lengthAsked 0 = .ok (.iload_n 1, 1) := by decide +kernel
theorem dX10_lengthAsked_1 : decode cX10_lengthAsked 1 = .ok (.bipush 10, 2) := by decide +kernel
theorem dX10_lengthAsked_3 : decode cX10_lengthAsked 3 = .ok (.if_icmp .lt 17, 3) := by decide +kernel
theorem dX10_lengthAsked_6 : decode cX10_lengthAsked 6 = .ok (.aload_n 0, 1) := by decide +kernel
theorem dX10_lengthAsked_7 : decode cX10_lengthAsked 7 = .ok (.getfield 10, 3) := by decide +kernel
theorem dX10_lengthAsked_10 : decode cX10_lengthAsked 10 = .ok (.iload_n 1, 1) := by decide +kernel
theorem dX10_lengthAsked_11 : decode cX10_lengthAsked 11 = .ok (.bipush 10, 2) := by decide +kernel
theorem dX10_lengthAsked_13 : decode cX10_lengthAsked 13 = .ok (.isub, 1) := by decide +kernel
theorem dX10_lengthAsked_14 : decode cX10_lengthAsked 14 = .ok (.invokevirtual 91, 3) := by decide +kernel
theorem dX10_lengthAsked_17 : decode cX10_lengthAsked 17 = .ok (.ifCond .ne 5, 3) := by decide +kernel
theorem dX10_lengthAsked_20 : decode cX10_lengthAsked 20 = .ok (.iconst (-1), 1) := by decide +kernel
theorem dX10_lengthAsked_21 : decode cX10_lengthAsked 21 = .ok (.ireturn, 1) := by decide +kernel
theorem dX10_lengthAsked_22 : decode cX10_lengthAsked 22 = .ok (.aload_n 0, 1) := by decide +kernel
theorem dX10_lengthAsked_23 : decode cX10_lengthAsked 23 = .ok (.getfield 10, 3) := by decide +kernel
theorem dX10_lengthAsked_26 : decode cX10_lengthAsked 26 = .ok (.iload_n 1, 1) := by decide +kernel
theorem dX10_lengthAsked_27 : decode cX10_lengthAsked 27 = .ok (.bipush 10, 2) := by decide +kernel
theorem dX10_lengthAsked_29 : decode cX10_lengthAsked 29 = .ok (.isub, 1) := by decide +kernel
theorem dX10_lengthAsked_30 : decode cX10_lengthAsked 30 = .ok (.invokevirtual 95, 3) := by decide +kernel
theorem dX10_lengthAsked_33 : decode cX10_lengthAsked 33 = .ok (.ireturn, 1) := by decide +kernel
theorem dX10_greatestInBook_0 : decode cX10_greatestInBook 0 = .ok (.iconst 0, 1) := by decide +kernel
theorem dX10_greatestInBook_1 : decode cX10_greatestInBook 1 = .ok (.istore_n 1, 1) := by decide +kernel
theorem dX10_greatestInBook_2 : decode cX10_greatestInBook 2 = .ok (.iconst 1, 1) := by decide +kernel
theorem dX10_greatestInBook_3 : decode cX10_greatestInBook 3 = .ok (.istore_n 2, 1) := by decide +kernel
theorem dX10_greatestInBook_4 : decode cX10_greatestInBook 4 = .ok (.iload_n 2, 1) := by decide +kernel
theorem dX10_greatestInBook_5 : decode cX10_greatestInBook 5 = .ok (.aload_n 0, 1) := by decide +kernel
theorem dX10_greatestInBook_6 : decode cX10_greatestInBook 6 = .ok (.getfield 35, 3) := by decide +kernel
theorem dX10_greatestInBook_9 : decode cX10_greatestInBook 9 = .ok (.invokevirtual 154, 3) := by decide +kernel
theorem dX10_greatestInBook_12 : decode cX10_greatestInBook 12 = .ok (.if_icmp .ge 50, 3) := by decide +kernel
theorem dX10_greatestInBook_15 : decode cX10_greatestInBook 15 = .ok (.iconst 0, 1) := by decide +kernel
theorem dX10_greatestInBook_16 : decode cX10_greatestInBook 16 = .ok (.istore_n 3, 1) := by decide +kernel
theorem dX10_greatestInBook_17 : decode cX10_greatestInBook 17 = .ok (.iload_n 3, 1) := by decide +kernel
theorem dX10_greatestInBook_18 : decode cX10_greatestInBook 18 = .ok (.iload_n 2, 1) := by decide +kernel
theorem dX10_greatestInBook_19 : decode cX10_greatestInBook 19 = .ok (.if_icmp .ge 37, 3) := by decide +kernel
theorem dX10_greatestInBook_22 : decode cX10_greatestInBook 22 = .ok (.iload_n 1, 1) := by decide +kernel
theorem dX10_greatestInBook_23 : decode cX10_greatestInBook 23 = .ok (.aload_n 0, 1) := by decide +kernel
theorem dX10_greatestInBook_24 : decode cX10_greatestInBook 24 = .ok (.getfield 28, 3) := by decide +kernel
theorem dX10_greatestInBook_27 : decode cX10_greatestInBook 27 = .ok (.aload_n 0, 1) := by decide +kernel
theorem dX10_greatestInBook_28 : decode cX10_greatestInBook 28 = .ok (.getfield 35, 3) := by decide +kernel
theorem dX10_greatestInBook_31 : decode cX10_greatestInBook 31 = .ok (.iload_n 2, 1) := by decide +kernel
theorem dX10_greatestInBook_32 : decode cX10_greatestInBook 32 = .ok (.invokevirtual 200, 3) := by decide +kernel
theorem dX10_greatestInBook_35 : decode cX10_greatestInBook 35 = .ok (.aload_n 0, 1) := by decide +kernel
theorem dX10_greatestInBook_36 : decode cX10_greatestInBook 36 = .ok (.getfield 35, 3) := by decide +kernel
theorem dX10_greatestInBook_39 : decode cX10_greatestInBook 39 = .ok (.iload_n 3, 1) := by decide +kernel
theorem dX10_greatestInBook_40 : decode cX10_greatestInBook 40 = .ok (.invokevirtual 200, 3) := by decide +kernel
theorem dX10_greatestInBook_43 : decode cX10_greatestInBook 43 = .ok (.invokevirtual 219, 3) := by decide +kernel
theorem dX10_greatestInBook_46 : decode cX10_greatestInBook 46 = .ok (.invokestatic 221, 3) := by decide +kernel
theorem dX10_greatestInBook_49 : decode cX10_greatestInBook 49 = .ok (.istore_n 1, 1) := by decide +kernel
theorem dX10_greatestInBook_50 : decode cX10_greatestInBook 50 = .ok (.iinc 3 1, 3) := by decide +kernel
theorem dX10_greatestInBook_53 : decode cX10_greatestInBook 53 = .ok (.goto (-36), 3) := by decide +kernel
theorem dX10_greatestInBook_56 : decode cX10_greatestInBook 56 = .ok (.iinc 2 1, 3) := by decide +kernel
theorem dX10_greatestInBook_59 : decode cX10_greatestInBook 59 = .ok (.goto (-55), 3) := by decide +kernel
theorem dX10_greatestInBook_62 : decode cX10_greatestInBook 62 = .ok (.iload_n 1, 1) := by decide +kernel
theorem dX10_greatestInBook_63 : decode cX10_greatestInBook 63 = .ok (.ireturn, 1) := by decide +kernel
theorem dX10_closestKey_0 : decode cX10_closestKey 0 = .ok (.ldc 226, 2) := by decide +kernel
theorem dX10_closestKey_2 : decode cX10_closestKey 2 = .ok (.istore_n 1, 1) := by decide +kernel
theorem dX10_closestKey_3 : decode cX10_closestKey 3 = .ok (.iconst 0, 1) := by decide +kernel
theorem dX10_closestKey_4 : decode cX10_closestKey 4 = .ok (.istore_n 2, 1) := by decide +kernel
theorem dX10_closestKey_5 : decode cX10_closestKey 5 = .ok (.iload_n 2, 1) := by decide +kernel
theorem dX10_closestKey_6 : decode cX10_closestKey 6 = .ok (.aload_n 0, 1) := by decide +kernel
theorem dX10_closestKey_7 : decode cX10_closestKey 7 = .ok (.getfield 35, 3) := by decide +kernel
theorem dX10_closestKey_10 : decode cX10_closestKey 10 = .ok (.invokevirtual 154, 3) := by decide +kernel
theorem dX10_closestKey_13 : decode cX10_closestKey 13 = .ok (.if_icmp .ge 58, 3) := by decide +kernel
theorem dX10_closestKey_16 : decode cX10_closestKey 16 = .ok (.iload_n 2, 1) := by decide +kernel
theorem dX10_closestKey_17 : decode cX10_closestKey 17 = .ok (.iconst 1, 1) := by decide +kernel
theorem dX10_closestKey_18 : decode cX10_closestKey 18 = .ok (.iadd, 1) := by decide +kernel
theorem dX10_closestKey_19 : decode cX10_closestKey 19 = .ok (.istore_n 3, 1) := by decide +kernel
theorem dX10_closestKey_20 : decode cX10_closestKey 20 = .ok (.iload_n 3, 1) := by decide +kernel
theorem dX10_closestKey_21 : decode cX10_closestKey 21 = .ok (.aload_n 0, 1) := by decide +kernel
theorem dX10_closestKey_22 : decode cX10_closestKey 22 = .ok (.getfield 35, 3) := by decide +kernel
theorem dX10_closestKey_25 : decode cX10_closestKey 25 = .ok (.invokevirtual 154, 3) := by decide +kernel
theorem dX10_closestKey_28 : decode cX10_closestKey 28 = .ok (.if_icmp .ge 37, 3) := by decide +kernel
theorem dX10_closestKey_31 : decode cX10_closestKey 31 = .ok (.iload_n 1, 1) := by decide +kernel
theorem dX10_closestKey_32 : decode cX10_closestKey 32 = .ok (.aload_n 0, 1) := by decide +kernel
theorem dX10_closestKey_33 : decode cX10_closestKey 33 = .ok (.getfield 28, 3) := by decide +kernel
theorem dX10_closestKey_36 : decode cX10_closestKey 36 = .ok (.aload_n 0, 1) := by decide +kernel
theorem dX10_closestKey_37 : decode cX10_closestKey 37 = .ok (.getfield 35, 3) := by decide +kernel
theorem dX10_closestKey_40 : decode cX10_closestKey 40 = .ok (.iload_n 2, 1) := by decide +kernel
theorem dX10_closestKey_41 : decode cX10_closestKey 41 = .ok (.invokevirtual 200, 3) := by decide +kernel
theorem dX10_closestKey_44 : decode cX10_closestKey 44 = .ok (.aload_n 0, 1) := by decide +kernel
theorem dX10_closestKey_45 : decode cX10_closestKey 45 = .ok (.getfield 35, 3) := by decide +kernel
theorem dX10_closestKey_48 : decode cX10_closestKey 48 = .ok (.iload_n 3, 1) := by decide +kernel
theorem dX10_closestKey_49 : decode cX10_closestKey 49 = .ok (.invokevirtual 200, 3) := by decide +kernel
theorem dX10_closestKey_52 : decode cX10_closestKey 52 = .ok (.invokevirtual 227, 3) := by decide +kernel
theorem dX10_closestKey_55 : decode cX10_closestKey 55 = .ok (.invokestatic 164, 3) := by decide +kernel
theorem dX10_closestKey_58 : decode cX10_closestKey 58 = .ok (.istore_n 1, 1) := by decide +kernel
theorem dX10_closestKey_59 : decode cX10_closestKey 59 = .ok (.iinc 3 1, 3) := by decide +kernel
theorem dX10_closestKey_62 : decode cX10_closestKey 62 = .ok (.goto (-42), 3) := by decide +kernel
theorem dX10_closestKey_65 : decode cX10_closestKey 65 = .ok (.iinc 2 1, 3) := by decide +kernel
theorem dX10_closestKey_68 : decode cX10_closestKey 68 = .ok (.goto (-63), 3) := by decide +kernel
theorem dX10_closestKey_71 : decode cX10_closestKey 71 = .ok (.iload_n 1, 1) := by decide +kernel
theorem dX10_closestKey_72 : decode cX10_closestKey 72 = .ok (.ireturn, 1) := by decide +kernel
theorem dX10_sumFrom_0 : decode cX10_sumFrom 0 = .ok (.iconst 0, 1) := by decide +kernel
theorem dX10_sumFrom_1 : decode cX10_sumFrom 1 = .ok (.istore_n 2, 1) := by decide +kernel
theorem dX10_sumFrom_2 : decode cX10_sumFrom 2 = .ok (.iconst 0, 1) := by decide +kernel
theorem dX10_sumFrom_3 : decode cX10_sumFrom 3 = .ok (.istore_n 3, 1) := by decide +kernel
theorem dX10_sumFrom_4 : decode cX10_sumFrom 4 = .ok (.iload_n 3, 1) := by decide +kernel
theorem dX10_sumFrom_5 : decode cX10_sumFrom 5 = .ok (.aload_n 0, 1) := by decide +kernel
theorem dX10_sumFrom_6 : decode cX10_sumFrom 6 = .ok (.getfield 35, 3) := by decide +kernel
theorem dX10_sumFrom_9 : decode cX10_sumFrom 9 = .ok (.invokevirtual 154, 3) := by decide +kernel
theorem dX10_sumFrom_12 : decode cX10_sumFrom 12 = .ok (.if_icmp .ge 28, 3) := by decide +kernel
theorem dX10_sumFrom_15 : decode cX10_sumFrom 15 = .ok (.iload_n 2, 1) := by decide +kernel
theorem dX10_sumFrom_16 : decode cX10_sumFrom 16 = .ok (.aload_n 0, 1) := by decide +kernel
theorem dX10_sumFrom_17 : decode cX10_sumFrom 17 = .ok (.getfield 28, 3) := by decide +kernel
theorem dX10_sumFrom_20 : decode cX10_sumFrom 20 = .ok (.iload_n 1, 1) := by decide +kernel
theorem dX10_sumFrom_21 : decode cX10_sumFrom 21 = .ok (.aload_n 0, 1) := by decide +kernel
theorem dX10_sumFrom_22 : decode cX10_sumFrom 22 = .ok (.getfield 35, 3) := by decide +kernel
theorem dX10_sumFrom_25 : decode cX10_sumFrom 25 = .ok (.iload_n 3, 1) := by decide +kernel
theorem dX10_sumFrom_26 : decode cX10_sumFrom 26 = .ok (.invokevirtual 200, 3) := by decide +kernel
theorem dX10_sumFrom_29 : decode cX10_sumFrom 29 = .ok (.invokevirtual 219, 3) := by decide +kernel
theorem dX10_sumFrom_32 : decode cX10_sumFrom 32 = .ok (.iadd, 1) := by decide +kernel
theorem dX10_sumFrom_33 : decode cX10_sumFrom 33 = .ok (.istore_n 2, 1) := by decide +kernel
theorem dX10_sumFrom_34 : decode cX10_sumFrom 34 = .ok (.iinc 3 1, 3) := by decide +kernel
theorem dX10_sumFrom_37 : decode cX10_sumFrom 37 = .ok (.goto (-33), 3) := by decide +kernel
theorem dX10_sumFrom_40 : decode cX10_sumFrom 40 = .ok (.iload_n 2, 1) := by decide +kernel
theorem dX10_sumFrom_41 : decode cX10_sumFrom 41 = .ok (.ireturn, 1) := by decide +kernel
theorem dX10_isBeyondResults_0 : decode cX10_isBeyondResults 0 = .ok (.iconst 0, 1) := by decide +kernel
theorem dX10_isBeyondResults_1 : decode cX10_isBeyondResults 1 = .ok (.istore_n 3, 1) := by decide +kernel
theorem dX10_isBeyondResults_2 : decode cX10_isBeyondResults 2 = .ok (.iload_n 3, 1) := by decide +kernel
theorem dX10_isBeyondResults_3 : decode cX10_isBeyondResults 3 = .ok (.aload_n 0, 1) := by decide +kernel
theorem dX10_isBeyondResults_4 : decode cX10_isBeyondResults 4 = .ok (.getfield 42, 3) := by decide +kernel
theorem dX10_isBeyondResults_7 : decode cX10_isBeyondResults 7 = .ok (.invokevirtual 147, 3) := by decide +kernel
theorem dX10_isBeyondResults_10 : decode cX10_isBeyondResults 10 = .ok (.if_icmp .ge 31, 3) := by decide +kernel
theorem dX10_isBeyondResults_13 : decode cX10_isBeyondResults 13 = .ok (.aload_n 0, 1) := by decide +kernel
theorem dX10_isBeyondResults_14 : decode cX10_isBeyondResults 14 = .ok (.getfield 28, 3) := by decide +kernel
theorem dX10_isBeyondResults_17 : decode cX10_isBeyondResults 17 = .ok (.iload_n 1, 1) := by decide +kernel
theorem dX10_isBeyondResults_18 : decode cX10_isBeyondResults 18 = .ok (.aload_n 0, 1) := by decide +kernel
theorem dX10_isBeyondResults_19 : decode cX10_isBeyondResults 19 = .ok (.getfield 42, 3) := by decide +kernel
theorem dX10_isBeyondResults_22 : decode cX10_isBeyondResults 22 = .ok (.iload_n 3, 1) := by decide +kernel
theorem dX10_isBeyondResults_23 : decode cX10_isBeyondResults 23 = .ok (.invokevirtual 148, 3) := by decide +kernel
theorem dX10_isBeyondResults_26 : decode cX10_isBeyondResults 26 = .ok (.invokevirtual 219, 3) := by decide +kernel
theorem dX10_isBeyondResults_29 : decode cX10_isBeyondResults 29 = .ok (.iload_n 2, 1) := by decide +kernel
theorem dX10_isBeyondResults_30 : decode cX10_isBeyondResults 30 = .ok (.if_icmp .gt 5, 3) := by decide +kernel
theorem dX10_isBeyondResults_33 : decode cX10_isBeyondResults 33 = .ok (.iconst 0, 1) := by decide +kernel
theorem dX10_isBeyondResults_34 : decode cX10_isBeyondResults 34 = .ok (.ireturn, 1) := by decide +kernel
theorem dX10_isBeyondResults_35 : decode cX10_isBeyondResults 35 = .ok (.iinc 3 1, 3) := by decide +kernel
theorem dX10_isBeyondResults_38 : decode cX10_isBeyondResults 38 = .ok (.goto (-36), 3) := by decide +kernel
theorem dX10_isBeyondResults_41 : decode cX10_isBeyondResults 41 = .ok (.iconst 1, 1) := by decide +kernel
theorem dX10_isBeyondResults_42 : decode cX10_isBeyondResults 42 = .ok (.ireturn, 1) := by decide +kernel
theorem dX10_rankNearFirst_0 : decode cX10_rankNearFirst 0 = .ok (.aload_n 0, 1) := by decide +kernel
theorem dX10_rankNearFirst_1 : decode cX10_rankNearFirst 1 = .ok (.getfield 49, 3) := by decide +kernel
theorem dX10_rankNearFirst_4 : decode cX10_rankNearFirst 4 = .ok (.invokevirtual 230, 3) := by decide +kernel
theorem dX10_rankNearFirst_7 : decode cX10_rankNearFirst 7 = .ok (.iconst 0, 1) := by decide +kernel
theorem dX10_rankNearFirst_8 : decode cX10_rankNearFirst 8 = .ok (.istore_n 3, 1) := by decide +kernel
theorem dX10_rankNearFirst_9 : decode cX10_rankNearFirst 9 = .ok (.iload_n 3, 1) := by decide +kernel
theorem dX10_rankNearFirst_10 : decode cX10_rankNearFirst 10 = .ok (.aload_n 0, 1) := by decide +kernel
theorem dX10_rankNearFirst_11 : decode cX10_rankNearFirst 11 = .ok (.getfield 35, 3) := by decide +kernel
theorem dX10_rankNearFirst_14 : decode cX10_rankNearFirst 14 = .ok (.invokevirtual 154, 3) := by decide +kernel
theorem dX10_rankNearFirst_17 : decode cX10_rankNearFirst 17 = .ok (.if_icmp .ge 52, 3) := by decide +kernel
theorem dX10_rankNearFirst_20 : decode cX10_rankNearFirst 20 = .ok (.aload_n 0, 1) := by decide +kernel
theorem dX10_rankNearFirst_21 : decode cX10_rankNearFirst 21 = .ok (.getfield 35, 3) := by decide +kernel
theorem dX10_rankNearFirst_24 : decode cX10_rankNearFirst 24 = .ok (.iload_n 3, 1) := by decide +kernel
theorem dX10_rankNearFirst_25 : decode cX10_rankNearFirst 25 = .ok (.invokevirtual 200, 3) := by decide +kernel
theorem dX10_rankNearFirst_28 : decode cX10_rankNearFirst 28 = .ok (.istore 4, 2) := by decide +kernel
theorem dX10_rankNearFirst_30 : decode cX10_rankNearFirst 30 = .ok (.aload_n 0, 1) := by decide +kernel
theorem dX10_rankNearFirst_31 : decode cX10_rankNearFirst 31 = .ok (.getfield 28, 3) := by decide +kernel
theorem dX10_rankNearFirst_34 : decode cX10_rankNearFirst 34 = .ok (.iload_n 1, 1) := by decide +kernel
theorem dX10_rankNearFirst_35 : decode cX10_rankNearFirst 35 = .ok (.iload 4, 2) := by decide +kernel
theorem dX10_rankNearFirst_37 : decode cX10_rankNearFirst 37 = .ok (.invokevirtual 117, 3) := by decide +kernel
theorem dX10_rankNearFirst_40 : decode cX10_rankNearFirst 40 = .ok (.istore 5, 2) := by decide +kernel
theorem dX10_rankNearFirst_42 : decode cX10_rankNearFirst 42 = .ok (.iload 5, 2) := by decide +kernel
theorem dX10_rankNearFirst_44 : decode cX10_rankNearFirst 44 = .ok (.iload_n 2, 1) := by decide +kernel
theorem dX10_rankNearFirst_45 : decode cX10_rankNearFirst 45 = .ok (.if_icmp .gt 18, 3) := by decide +kernel
theorem dX10_rankNearFirst_48 : decode cX10_rankNearFirst 48 = .ok (.aload_n 0, 1) := by decide +kernel
theorem dX10_rankNearFirst_49 : decode cX10_rankNearFirst 49 = .ok (.getfield 49, 3) := by decide +kernel
theorem dX10_rankNearFirst_52 : decode cX10_rankNearFirst 52 = .ok (.iload 5, 2) := by decide +kernel
theorem dX10_rankNearFirst_54 : decode cX10_rankNearFirst 54 = .ok (.bipush 60, 2) := by decide +kernel
theorem dX10_rankNearFirst_56 : decode cX10_rankNearFirst 56 = .ok (.imul, 1) := by decide +kernel
theorem dX10_rankNearFirst_57 : decode cX10_rankNearFirst 57 = .ok (.iload 4, 2) := by decide +kernel
theorem dX10_rankNearFirst_59 : decode cX10_rankNearFirst 59 = .ok (.iadd, 1) := by decide +kernel
theorem dX10_rankNearFirst_60 : decode cX10_rankNearFirst 60 = .ok (.invokevirtual 231, 3) := by decide +kernel
theorem dX10_rankNearFirst_63 : decode cX10_rankNearFirst 63 = .ok (.iinc 3 1, 3) := by decide +kernel
theorem dX10_rankNearFirst_66 : decode cX10_rankNearFirst 66 = .ok (.goto (-57), 3) := by decide +kernel
theorem dX10_rankNearFirst_69 : decode cX10_rankNearFirst 69 = .ok (.return_, 1) := by decide +kernel
theorem dX10_rankFarFirst_0 : decode cX10_rankFarFirst 0 = .ok (.aload_n 0, 1) := by decide +kernel
theorem dX10_rankFarFirst_1 : decode cX10_rankFarFirst 1 = .ok (.getfield 49, 3) := by decide +kernel
theorem dX10_rankFarFirst_4 : decode cX10_rankFarFirst 4 = .ok (.invokevirtual 230, 3) := by decide +kernel
theorem dX10_rankFarFirst_7 : decode cX10_rankFarFirst 7 = .ok (.iconst 0, 1) := by decide +kernel
theorem dX10_rankFarFirst_8 : decode cX10_rankFarFirst 8 = .ok (.istore_n 2, 1) := by decide +kernel
theorem dX10_rankFarFirst_9 : decode cX10_rankFarFirst 9 = .ok (.iload_n 2, 1) := by decide +kernel
theorem dX10_rankFarFirst_10 : decode cX10_rankFarFirst 10 = .ok (.aload_n 0, 1) := by decide +kernel
theorem dX10_rankFarFirst_11 : decode cX10_rankFarFirst 11 = .ok (.getfield 35, 3) := by decide +kernel
theorem dX10_rankFarFirst_14 : decode cX10_rankFarFirst 14 = .ok (.invokevirtual 154, 3) := by decide +kernel
theorem dX10_rankFarFirst_17 : decode cX10_rankFarFirst 17 = .ok (.if_icmp .ge 46, 3) := by decide +kernel
theorem dX10_rankFarFirst_20 : decode cX10_rankFarFirst 20 = .ok (.aload_n 0, 1) := by decide +kernel
theorem dX10_rankFarFirst_21 : decode cX10_rankFarFirst 21 = .ok (.getfield 35, 3) := by decide +kernel
theorem dX10_rankFarFirst_24 : decode cX10_rankFarFirst 24 = .ok (.iload_n 2, 1) := by decide +kernel
theorem dX10_rankFarFirst_25 : decode cX10_rankFarFirst 25 = .ok (.invokevirtual 200, 3) := by decide +kernel
theorem dX10_rankFarFirst_28 : decode cX10_rankFarFirst 28 = .ok (.istore_n 3, 1) := by decide +kernel
theorem dX10_rankFarFirst_29 : decode cX10_rankFarFirst 29 = .ok (.ldc 106, 2) := by decide +kernel
theorem dX10_rankFarFirst_31 : decode cX10_rankFarFirst 31 = .ok (.aload_n 0, 1) := by decide +kernel
theorem dX10_rankFarFirst_32 : decode cX10_rankFarFirst 32 = .ok (.getfield 28, 3) := by decide +kernel
theorem dX10_rankFarFirst_35 : decode cX10_rankFarFirst 35 = .ok (.iload_n 1, 1) := by decide +kernel
theorem dX10_rankFarFirst_36 : decode cX10_rankFarFirst 36 = .ok (.iload_n 3, 1) := by decide +kernel
theorem dX10_rankFarFirst_37 : decode cX10_rankFarFirst 37 = .ok (.invokevirtual 117, 3) := by decide +kernel
theorem dX10_rankFarFirst_40 : decode cX10_rankFarFirst 40 = .ok (.isub, 1) := by decide +kernel
theorem dX10_rankFarFirst_41 : decode cX10_rankFarFirst 41 = .ok (.istore 4, 2) := by decide +kernel
theorem dX10_rankFarFirst_43 : decode cX10_rankFarFirst 43 = .ok (.aload_n 0, 1) := by decide +kernel
theorem dX10_rankFarFirst_44 : decode cX10_rankFarFirst 44 = .ok (.getfield 49, 3) := by decide +kernel
theorem dX10_rankFarFirst_47 : decode cX10_rankFarFirst 47 = .ok (.iload 4, 2) := by decide +kernel
theorem dX10_rankFarFirst_49 : decode cX10_rankFarFirst 49 = .ok (.bipush 60, 2) := by decide +kernel
theorem dX10_rankFarFirst_51 : decode cX10_rankFarFirst 51 = .ok (.imul, 1) := by decide +kernel
theorem dX10_rankFarFirst_52 : decode cX10_rankFarFirst 52 = .ok (.iload_n 3, 1) := by decide +kernel
theorem dX10_rankFarFirst_53 : decode cX10_rankFarFirst 53 = .ok (.iadd, 1) := by decide +kernel
theorem dX10_rankFarFirst_54 : decode cX10_rankFarFirst 54 = .ok (.invokevirtual 231, 3) := by decide +kernel
theorem dX10_rankFarFirst_57 : decode cX10_rankFarFirst 57 = .ok (.iinc 2 1, 3) := by decide +kernel
theorem dX10_rankFarFirst_60 : decode cX10_rankFarFirst 60 = .ok (.goto (-51), 3) := by decide +kernel
theorem dX10_rankFarFirst_63 : decode cX10_rankFarFirst 63 = .ok (.return_, 1) := by decide +kernel
theorem dX10_takeRanked_0 : decode cX10_takeRanked 0 = .ok (.iload_n 2, 1) := by decide +kernel
theorem dX10_takeRanked_1 : decode cX10_takeRanked 1 = .ok (.aload_n 0, 1) := by decide +kernel
theorem dX10_takeRanked_2 : decode cX10_takeRanked 2 = .ok (.getfield 49, 3) := by decide +kernel
theorem dX10_takeRanked_5 : decode cX10_takeRanked 5 = .ok (.invokevirtual 180, 3) := by decide +kernel
theorem dX10_takeRanked_8 : decode cX10_takeRanked 8 = .ok (.invokestatic 164, 3) := by decide +kernel
theorem dX10_takeRanked_11 : decode cX10_takeRanked 11 = .ok (.istore_n 3, 1) := by decide +kernel
theorem dX10_takeRanked_12 : decode cX10_takeRanked 12 = .ok (.aload_n 0, 1) := by decide +kernel
theorem dX10_takeRanked_13 : decode cX10_takeRanked 13 = .ok (.getfield 42, 3) := by decide +kernel
theorem dX10_takeRanked_16 : decode cX10_takeRanked 16 = .ok (.invokevirtual 197, 3) := by decide +kernel
theorem dX10_takeRanked_19 : decode cX10_takeRanked 19 = .ok (.iconst 0, 1) := by decide +kernel
theorem dX10_takeRanked_20 : decode cX10_takeRanked 20 = .ok (.istore 4, 2) := by decide +kernel
theorem dX10_takeRanked_22 : decode cX10_takeRanked 22 = .ok (.iload 4, 2) := by decide +kernel
theorem dX10_takeRanked_24 : decode cX10_takeRanked 24 = .ok (.iload_n 3, 1) := by decide +kernel
theorem dX10_takeRanked_25 : decode cX10_takeRanked 25 = .ok (.if_icmp .ge 42, 3) := by decide +kernel
theorem dX10_takeRanked_28 : decode cX10_takeRanked 28 = .ok (.aload_n 0, 1) := by decide +kernel
theorem dX10_takeRanked_29 : decode cX10_takeRanked 29 = .ok (.getfield 49, 3) := by decide +kernel
theorem dX10_takeRanked_32 : decode cX10_takeRanked 32 = .ok (.iload 4, 2) := by decide +kernel
theorem dX10_takeRanked_34 : decode cX10_takeRanked 34 = .ok (.invokevirtual 185, 3) := by decide +kernel
theorem dX10_takeRanked_37 : decode cX10_takeRanked 37 = .ok (.bipush 60, 2) := by decide +kernel
theorem dX10_takeRanked_39 : decode cX10_takeRanked 39 = .ok (.irem, 1) := by decide +kernel
theorem dX10_takeRanked_40 : decode cX10_takeRanked 40 = .ok (.istore 5, 2) := by decide +kernel
theorem dX10_takeRanked_42 : decode cX10_takeRanked 42 = .ok (.aload_n 0, 1) := by decide +kernel
theorem dX10_takeRanked_43 : decode cX10_takeRanked 43 = .ok (.getfield 42, 3) := by decide +kernel
theorem dX10_takeRanked_46 : decode cX10_takeRanked 46 = .ok (.iload 5, 2) := by decide +kernel
theorem dX10_takeRanked_48 : decode cX10_takeRanked 48 = .ok (.aload_n 0, 1) := by decide +kernel
theorem dX10_takeRanked_49 : decode cX10_takeRanked 49 = .ok (.getfield 28, 3) := by decide +kernel
theorem dX10_takeRanked_52 : decode cX10_takeRanked 52 = .ok (.iload_n 1, 1) := by decide +kernel
theorem dX10_takeRanked_53 : decode cX10_takeRanked 53 = .ok (.iload 5, 2) := by decide +kernel
theorem dX10_takeRanked_55 : decode cX10_takeRanked 55 = .ok (.invokevirtual 117, 3) := by decide +kernel
theorem dX10_takeRanked_58 : decode cX10_takeRanked 58 = .ok (.invokevirtual 205, 3) := by decide +kernel
theorem dX10_takeRanked_61 : decode cX10_takeRanked 61 = .ok (.iinc 4 1, 3) := by decide +kernel
theorem dX10_takeRanked_64 : decode cX10_takeRanked 64 = .ok (.goto (-42), 3) := by decide +kernel
theorem dX10_takeRanked_67 : decode cX10_takeRanked 67 = .ok (.iload_n 3, 1) := by decide +kernel
theorem dX10_takeRanked_68 : decode cX10_takeRanked 68 = .ok (.ireturn, 1) := by decide +kernel
theorem dX10_isHowMany_0 : decode cX10_isHowMany 0 = .ok (.iload_n 0, 1) := by decide +kernel
theorem dX10_isHowMany_1 : decode cX10_isHowMany 1 = .ok (.iconst 1, 1) := by decide +kernel
theorem dX10_isHowMany_2 : decode cX10_isHowMany 2 = .ok (.if_icmp .lt 13, 3) := by decide +kernel
theorem dX10_isHowMany_5 : decode cX10_isHowMany 5 = .ok (.iload_n 0, 1) := by decide +kernel
theorem dX10_isHowMany_6 : decode cX10_isHowMany 6 = .ok (.bipush 60, 2) := by decide +kernel
theorem dX10_isHowMany_8 : decode cX10_isHowMany 8 = .ok (.if_icmp .gt 7, 3) := by decide +kernel
theorem dX10_isHowMany_11 : decode cX10_isHowMany 11 = .ok (.iconst 1, 1) := by decide +kernel
theorem dX10_isHowMany_12 : decode cX10_isHowMany 12 = .ok (.goto 4, 3) := by decide +kernel
theorem dX10_isHowMany_15 : decode cX10_isHowMany 15 = .ok (.iconst 0, 1) := by decide +kernel
theorem dX10_isHowMany_16 : decode cX10_isHowMany 16 = .ok (.ireturn, 1) := by decide +kernel
theorem dX10_sumOfPairs_0 : decode cX10_sumOfPairs 0 = .ok (.lconst 0, 1) := by decide +kernel
theorem dX10_sumOfPairs_1 : decode cX10_sumOfPairs 1 = .ok (.lstore_n 1, 1) := by decide +kernel
theorem dX10_sumOfPairs_2 : decode cX10_sumOfPairs 2 = .ok (.iconst 0, 1) := by decide +kernel
theorem dX10_sumOfPairs_3 : decode cX10_sumOfPairs 3 = .ok (.istore_n 3, 1) := by decide +kernel
theorem dX10_sumOfPairs_4 : decode cX10_sumOfPairs 4 = .ok (.iload_n 3, 1) := by decide +kernel
theorem dX10_sumOfPairs_5 : decode cX10_sumOfPairs 5 = .ok (.aload_n 0, 1) := by decide +kernel
theorem dX10_sumOfPairs_6 : decode cX10_sumOfPairs 6 = .ok (.invokevirtual 180, 3) := by decide +kernel
theorem dX10_sumOfPairs_9 : decode cX10_sumOfPairs 9 = .ok (.if_icmp .ge 22, 3) := by decide +kernel
theorem dX10_sumOfPairs_12 : decode cX10_sumOfPairs 12 = .ok (.lload_n 1, 1) := by decide +kernel
theorem dX10_sumOfPairs_13 : decode cX10_sumOfPairs 13 = .ok (.aload_n 0, 1) := by decide +kernel
theorem dX10_sumOfPairs_14 : decode cX10_sumOfPairs 14 = .ok (.iload_n 3, 1) := by decide +kernel
theorem dX10_sumOfPairs_15 : decode cX10_sumOfPairs 15 = .ok (.invokevirtual 185, 3) := by decide +kernel
theorem dX10_sumOfPairs_18 : decode cX10_sumOfPairs 18 = .ok (.iconst 2, 1) := by decide +kernel
theorem dX10_sumOfPairs_19 : decode cX10_sumOfPairs 19 = .ok (.invokestatic 161, 3) := by decide +kernel
theorem dX10_sumOfPairs_22 : decode cX10_sumOfPairs 22 = .ok (.i2l, 1) := by decide +kernel
theorem dX10_sumOfPairs_23 : decode cX10_sumOfPairs 23 = .ok (.ladd, 1) := by decide +kernel
theorem dX10_sumOfPairs_24 : decode cX10_sumOfPairs 24 = .ok (.lstore_n 1, 1) := by decide +kernel
theorem dX10_sumOfPairs_25 : decode cX10_sumOfPairs 25 = .ok (.iinc 3 1, 3) := by decide +kernel
theorem dX10_sumOfPairs_28 : decode cX10_sumOfPairs 28 = .ok (.goto (-24), 3) := by decide +kernel
theorem dX10_sumOfPairs_31 : decode cX10_sumOfPairs 31 = .ok (.lload_n 1, 1) := by decide +kernel
theorem dX10_sumOfPairs_32 : decode cX10_sumOfPairs 32 = .ok (.lreturn, 1) := by decide +kernel
theorem dX10_partOfPair_0 : decode cX10_partOfPair 0 = .ok (.iload_n 1, 1) := by decide +kernel
theorem dX10_partOfPair_1 : decode cX10_partOfPair 1 = .ok (.lookupswitch 40 #[(0, 27), (1, 35)], 27) := by decide +kernel
theorem dX10_partOfPair_28 : decode cX10_partOfPair 28 = .ok (.iload_n 0, 1) := by decide +kernel
theorem dX10_partOfPair_29 : decode cX10_partOfPair 29 = .ok (.bipush 60, 2) := by decide +kernel
theorem dX10_partOfPair_31 : decode cX10_partOfPair 31 = .ok (.idiv, 1) := by decide +kernel
theorem dX10_partOfPair_32 : decode cX10_partOfPair 32 = .ok (.bipush 60, 2) := by decide +kernel
theorem dX10_partOfPair_34 : decode cX10_partOfPair 34 = .ok (.irem, 1) := by decide +kernel
theorem dX10_partOfPair_35 : decode cX10_partOfPair 35 = .ok (.ireturn, 1) := by decide +kernel
end
section
theorem dX10_partOfPair_36 : decode cX10_partOfPair 36 = .ok (.iload_n 0, 1) := by decide +kernel
theorem dX10_partOfPair_37 : decode cX10_partOfPair 37 = .ok (.bipush 60, 2) := by decide +kernel
theorem dX10_partOfPair_39 : decode cX10_partOfPair 39 = .ok (.irem, 1) := by decide +kernel
theorem dX10_partOfPair_40 : decode cX10_partOfPair 40 = .ok (.ireturn, 1) := by decide +kernel
theorem dX10_partOfPair_41 : decode cX10_partOfPair 41 = .ok (.iload_n 0, 1) := by decide +kernel
theorem dX10_partOfPair_42 : decode cX10_partOfPair 42 = .ok (.sipush 3600, 3) := by decide +kernel
theorem dX10_partOfPair_45 : decode cX10_partOfPair 45 = .ok (.idiv, 1) := by decide +kernel
theorem dX10_partOfPair_46 : decode cX10_partOfPair 46 = .ok (.ireturn, 1) := by decide +kernel
theorem dX11_init_0 : decode cX11_init 0 = .ok (.aload_n 0, 1) := by decide +kernel
theorem dX11_init_1 : decode cX11_init 1 = .ok (.invokespecial 1, 3) := by decide +kernel
theorem dX11_init_4 : decode cX11_init 4 = .ok (.aload_n 0, 1) := by decide +kernel
theorem dX11_init_5 : decode cX11_init 5 = .ok (.bipush 60, 2) := by decide +kernel
theorem dX11_init_7 : decode cX11_init 7 = .ok (.newarray .int, 2) := by decide +kernel
theorem dX11_init_9 : decode cX11_init 9 = .ok (.putfield 7, 3) := by decide +kernel
theorem dX11_init_12 : decode cX11_init 12 = .ok (.aload_n 0, 1) := by decide +kernel
theorem dX11_init_13 : decode cX11_init 13 = .ok (.sipush 480, 3) := by decide +kernel
theorem dX11_init_16 : decode cX11_init 16 = .ok (.newarray .int, 2) := by decide +kernel
theorem dX11_init_18 : decode cX11_init 18 = .ok (.putfield 13, 3) := by decide +kernel
theorem dX11_init_21 : decode cX11_init 21 = .ok (.aload_n 0, 1) := by decide +kernel
theorem dX11_init_22 : decode cX11_init 22 = .ok (.sipush 3600, 3) := by decide +kernel
theorem dX11_init_25 : decode cX11_init 25 = .ok (.newarray .int, 2) := by decide +kernel
theorem dX11_init_27 : decode cX11_init 27 = .ok (.putfield 16, 3) := by decide +kernel
theorem dX11_init_30 : decode cX11_init 30 = .ok (.aload_n 0, 1) := by decide +kernel
theorem dX11_init_31 : decode cX11_init 31 = .ok (.bipush 60, 2) := by decide +kernel
theorem dX11_init_33 : decode cX11_init 33 = .ok (.newarray .boolean, 2) := by decide +kernel
theorem dX11_init_35 : decode cX11_init 35 = .ok (.putfield 19, 3) := by decide +kernel
theorem dX11_init_38 : decode cX11_init 38 = .ok (.aload_n 0, 1) := by decide +kernel
theorem dX11_init_39 : decode cX11_init 39 = .ok (.bipush 60, 2) := by decide +kernel
theorem dX11_init_41 : decode cX11_init 41 = .ok (.newarray .int, 2) := by decide +kernel
theorem dX11_init_43 : decode cX11_init 43 = .ok (.putfield 23, 3) := by decide +kernel
theorem dX11_init_46 : decode cX11_init 46 = .ok (.aload_n 0, 1) := by decide +kernel
theorem dX11_init_47 : decode cX11_init 47 = .ok (.bipush 60, 2) := by decide +kernel
theorem dX11_init_49 : decode cX11_init 49 = .ok (.newarray .int, 2) := by decide +kernel
theorem dX11_init_51 : decode cX11_init 51 = .ok (.putfield 26, 3) := by decide +kernel
theorem dX11_init_54 : decode cX11_init 54 = .ok (.aload_n 0, 1) := by decide +kernel
theorem dX11_init_55 : decode cX11_init 55 = .ok (.bipush 81, 2) := by decide +kernel
theorem dX11_init_57 : decode cX11_init 57 = .ok (.newarray .int, 2) := by decide +kernel
theorem dX11_init_59 : decode cX11_init 59 = .ok (.putfield 29, 3) := by decide +kernel
theorem dX11_init_62 : decode cX11_init 62 = .ok (.aload_n 0, 1) := by decide +kernel
theorem dX11_init_63 : decode cX11_init 63 = .ok (.iconst 3, 1) := by decide +kernel
theorem dX11_init_64 : decode cX11_init 64 = .ok (.newarray .int, 2) := by decide +kernel
theorem dX11_init_66 : decode cX11_init 66 = .ok (.putfield 32, 3) := by decide +kernel
theorem dX11_init_69 : decode cX11_init 69 = .ok (.aload_n 0, 1) := by decide +kernel
theorem dX11_init_70 : decode cX11_init 70 = .ok (.bipush 60, 2) := by decide +kernel
theorem dX11_init_72 : decode cX11_init 72 = .ok (.newarray .boolean, 2) := by decide +kernel
theorem dX11_init_74 : decode cX11_init 74 = .ok (.putfield 35, 3) := by decide +kernel
theorem dX11_init_77 : decode cX11_init 77 = .ok (.aload_n 0, 1) := by decide +kernel
theorem dX11_init_78 : decode cX11_init 78 = .ok (.sipush 3600, 3) := by decide +kernel
theorem dX11_init_81 : decode cX11_init 81 = .ok (.newarray .int, 2) := by decide +kernel
theorem dX11_init_83 : decode cX11_init 83 = .ok (.putfield 38, 3) := by decide +kernel
theorem dX11_init_86 : decode cX11_init 86 = .ok (.aload_n 0, 1) := by decide +kernel
theorem dX11_init_87 : decode cX11_init 87 = .ok (.bipush 60, 2) := by decide +kernel
theorem dX11_init_89 : decode cX11_init 89 = .ok (.newarray .int, 2) := by decide +kernel
theorem dX11_init_91 : decode cX11_init 91 = .ok (.putfield 41, 3) := by decide +kernel
theorem dX11_init_94 : decode cX11_init 94 = .ok (.aload_n 0, 1) := by decide +kernel
theorem dX11_init_95 : decode cX11_init 95 = .ok (.bipush 60, 2) := by decide +kernel
theorem dX11_init_97 : decode cX11_init 97 = .ok (.newarray .int, 2) := by decide +kernel
theorem dX11_init_99 : decode cX11_init 99 = .ok (.putfield 44, 3) := by decide +kernel
theorem dX11_init_102 : decode cX11_init 102 = .ok (.aload_n 0, 1) := by decide +kernel
theorem dX11_init_103 : decode cX11_init 103 = .ok (.bipush 60, 2) := by decide +kernel
theorem dX11_init_105 : decode cX11_init 105 = .ok (.newarray .int, 2) := by decide +kernel
theorem dX11_init_107 : decode cX11_init 107 = .ok (.putfield 47, 3) := by decide +kernel
theorem dX11_init_110 : decode cX11_init 110 = .ok (.return_, 1) := by decide +kernel
theorem dX11_lies_0 : decode cX11_lies 0 = .ok (.iload_n 0, 1) := by decide +kernel
theorem dX11_lies_1 : decode cX11_lies 1 = .ok (.iload_n 1, 1) := by decide +kernel
theorem dX11_lies_2 : decode cX11_lies 2 = .ok (.if_icmp .lt 12, 3) := by decide +kernel
theorem dX11_lies_5 : decode cX11_lies 5 = .ok (.iload_n 0, 1) := by decide +kernel
theorem dX11_lies_6 : decode cX11_lies 6 = .ok (.iload_n 2, 1) := by decide +kernel
theorem dX11_lies_7 : decode cX11_lies 7 = .ok (.if_icmp .gt 7, 3) := by decide +kernel
theorem dX11_lies_10 : decode cX11_lies 10 = .ok (.iconst 1, 1) := by decide +kernel
theorem dX11_lies_11 : decode cX11_lies 11 = .ok (.goto 4, 3) := by decide +kernel
theorem dX11_lies_14 : decode cX11_lies 14 = .ok (.iconst 0, 1) := by decide +kernel
theorem dX11_lies_15 : decode cX11_lies 15 = .ok (.ireturn, 1) := by decide +kernel
theorem dX11_isThing_0 : decode cX11_isThing 0 = .ok (.iload_n 1, 1) := by decide +kernel
theorem dX11_isThing_1 : decode cX11_isThing 1 = .ok (.iconst 0, 1) := by decide +kernel
theorem dX11_isThing_2 : decode cX11_isThing 2 = .ok (.aload_n 0, 1) := by decide +kernel
theorem dX11_isThing_3 : decode cX11_isThing 3 = .ok (.getfield 50, 3) := by decide +kernel
theorem dX11_isThing_6 : decode cX11_isThing 6 = .ok (.iconst 1, 1) := by decide +kernel
theorem dX11_isThing_7 : decode cX11_isThing 7 = .ok (.isub, 1) := by decide +kernel
theorem dX11_isThing_8 : decode cX11_isThing 8 = .ok (.invokestatic 54, 3) := by decide +kernel
theorem dX11_isThing_11 : decode cX11_isThing 11 = .ok (.ireturn, 1) := by decide +kernel
theorem dX11_thing_0 : decode cX11_thing 0 = .ok (.iload_n 1, 1) := by decide +kernel
theorem dX11_thing_1 : decode cX11_thing 1 = .ok (.iconst 0, 1) := by decide +kernel
theorem dX11_thing_2 : decode cX11_thing 2 = .ok (.bipush 8, 2) := by decide +kernel
theorem dX11_thing_4 : decode cX11_thing 4 = .ok (.invokestatic 54, 3) := by decide +kernel
theorem dX11_thing_7 : decode cX11_thing 7 = .ok (.ifCond .eq 12, 3) := by decide +kernel
theorem dX11_thing_10 : decode cX11_thing 10 = .ok (.aload_n 0, 1) := by decide +kernel
theorem dX11_thing_11 : decode cX11_thing 11 = .ok (.getfield 50, 3) := by decide +kernel
theorem dX11_thing_14 : decode cX11_thing 14 = .ok (.bipush 60, 2) := by decide +kernel
theorem dX11_thing_16 : decode cX11_thing 16 = .ok (.if_icmp .ne 5, 3) := by decide +kernel
theorem dX11_thing_19 : decode cX11_thing 19 = .ok (.iconst (-1), 1) := by decide +kernel
theorem dX11_thing_20 : decode cX11_thing 20 = .ok (.ireturn, 1) := by decide +kernel
theorem dX11_thing_21 : decode cX11_thing 21 = .ok (.aload_n 0, 1) := by decide +kernel
theorem dX11_thing_22 : decode cX11_thing 22 = .ok (.getfield 7, 3) := by decide +kernel
theorem dX11_thing_25 : decode cX11_thing 25 = .ok (.aload_n 0, 1) := by decide +kernel
theorem dX11_thing_26 : decode cX11_thing 26 = .ok (.getfield 50, 3) := by decide +kernel
theorem dX11_thing_29 : decode cX11_thing 29 = .ok (.iload_n 1, 1) := by decide +kernel
theorem dX11_thing_30 : decode cX11_thing 30 = .ok (.iastore, 1) := by decide +kernel
theorem dX11_thing_31 : decode cX11_thing 31 = .ok (.aload_n 0, 1) := by decide +kernel
theorem dX11_thing_32 : decode cX11_thing 32 = .ok (.dup, 1) := by decide +kernel
theorem dX11_thing_33 : decode cX11_thing 33 = .ok (.getfield 50, 3) := by decide +kernel
theorem dX11_thing_36 : decode cX11_thing 36 = .ok (.iconst 1, 1) := by decide +kernel
theorem dX11_thing_37 : decode cX11_thing 37 = .ok (.iadd, 1) := by decide +kernel
theorem dX11_thing_38 : decode cX11_thing 38 = .ok (.putfield 50, 3) := by decide +kernel
theorem dX11_thing_41 : decode cX11_thing 41 = .ok (.aload_n 0, 1) := by decide +kernel
theorem dX11_thing_42 : decode cX11_thing 42 = .ok (.getfield 50, 3) := by decide +kernel
theorem dX11_thing_45 : decode cX11_thing 45 = .ok (.iconst 1, 1) := by decide +kernel
theorem dX11_thing_46 : decode cX11_thing 46 = .ok (.isub, 1) := by decide +kernel
theorem dX11_thing_47 : decode cX11_thing 47 = .ok (.ireturn, 1) := by decide +kernel
theorem dX11_value_0 : decode cX11_value 0 = .ok (.aload_n 0, 1) := by decide +kernel
theorem dX11_value_1 : decode cX11_value 1 = .ok (.iload_n 1, 1) := by decide +kernel
theorem dX11_value_2 : decode cX11_value 2 = .ok (.invokevirtual 58, 3) := by decide +kernel
theorem dX11_value_5 : decode cX11_value 5 = .ok (.ifCond .eq 32, 3) := by decide +kernel
theorem dX11_value_8 : decode cX11_value 8 = .ok (.iload_n 2, 1) := by decide +kernel
theorem dX11_value_9 : decode cX11_value 9 = .ok (.iconst 0, 1) := by decide +kernel
theorem dX11_value_10 : decode cX11_value 10 = .ok (.aload_n 0, 1) := by decide +kernel
theorem dX11_value_11 : decode cX11_value 11 = .ok (.getfield 7, 3) := by decide +kernel
theorem dX11_value_14 : decode cX11_value 14 = .ok (.iload_n 1, 1) := by decide +kernel
theorem dX11_value_15 : decode cX11_value 15 = .ok (.iaload, 1) := by decide +kernel
theorem dX11_value_16 : decode cX11_value 16 = .ok (.iconst 1, 1) := by decide +kernel
theorem dX11_value_17 : decode cX11_value 17 = .ok (.isub, 1) := by decide +kernel
theorem dX11_value_18 : decode cX11_value 18 = .ok (.invokestatic 54, 3) := by decide +kernel
theorem dX11_value_21 : decode cX11_value 21 = .ok (.ifCond .eq 16, 3) := by decide +kernel
theorem dX11_value_24 : decode cX11_value 24 = .ok (.iload_n 3, 1) := by decide +kernel
theorem dX11_value_25 : decode cX11_value 25 = .ok (.sipush (-1000), 3) := by decide +kernel
theorem dX11_value_28 : decode cX11_value 28 = .ok (.sipush 1000, 3) := by decide +kernel
theorem dX11_value_31 : decode cX11_value 31 = .ok (.invokestatic 54, 3) := by decide +kernel
theorem dX11_value_34 : decode cX11_value 34 = .ok (.ifCond .ne 5, 3) := by decide +kernel
theorem dX11_value_37 : decode cX11_value 37 = .ok (.iconst 0, 1) := by decide +kernel
theorem dX11_value_38 : decode cX11_value 38 = .ok (.ireturn, 1) := by decide +kernel
theorem dX11_value_39 : decode cX11_value 39 = .ok (.aload_n 0, 1) := by decide +kernel
theorem dX11_value_40 : decode cX11_value 40 = .ok (.getfield 13, 3) := by decide +kernel
theorem dX11_value_43 : decode cX11_value 43 = .ok (.bipush 8, 2) := by decide +kernel
theorem dX11_value_45 : decode cX11_value 45 = .ok (.iload_n 1, 1) := by decide +kernel
theorem dX11_value_46 : decode cX11_value 46 = .ok (.imul, 1) := by decide +kernel
theorem dX11_value_47 : decode cX11_value 47 = .ok (.iload_n 2, 1) := by decide +kernel
theorem dX11_value_48 : decode cX11_value 48 = .ok (.iadd, 1) := by decide +kernel
theorem dX11_value_49 : decode cX11_value 49 = .ok (.iload_n 3, 1) := by decide +kernel
theorem dX11_value_50 : decode cX11_value 50 = .ok (.iastore, 1) := by decide +kernel
theorem dX11_value_51 : decode cX11_value 51 = .ok (.iconst 1, 1) := by decide +kernel
theorem dX11_value_52 : decode cX11_value 52 = .ok (.ireturn, 1) := by decide +kernel
theorem dX11_tell_0 : decode cX11_tell 0 = .ok (.aload_n 0, 1) := by decide +kernel
theorem dX11_tell_1 : decode cX11_tell 1 = .ok (.iload_n 1, 1) := by decide +kernel
theorem dX11_tell_2 : decode cX11_tell 2 = .ok (.invokevirtual 58, 3) := by decide +kernel
theorem dX11_tell_5 : decode cX11_tell 5 = .ok (.ifCond .eq 26, 3) := by decide +kernel
theorem dX11_tell_8 : decode cX11_tell 8 = .ok (.aload_n 0, 1) := by decide +kernel
theorem dX11_tell_9 : decode cX11_tell 9 = .ok (.iload_n 2, 1) := by decide +kernel
theorem dX11_tell_10 : decode cX11_tell 10 = .ok (.invokevirtual 58, 3) := by decide +kernel
theorem dX11_tell_13 : decode cX11_tell 13 = .ok (.ifCond .eq 18, 3) := by decide +kernel
theorem dX11_tell_16 : decode cX11_tell 16 = .ok (.iload_n 1, 1) := by decide +kernel
theorem dX11_tell_17 : decode cX11_tell 17 = .ok (.iload_n 2, 1) := by decide +kernel
theorem dX11_tell_18 : decode cX11_tell 18 = .ok (.if_icmp .eq 13, 3) := by decide +kernel
theorem dX11_tell_21 : decode cX11_tell 21 = .ok (.iload_n 3, 1) := by decide +kernel
theorem dX11_tell_22 : decode cX11_tell 22 = .ok (.iconst 0, 1) := by decide +kernel
theorem dX11_tell_23 : decode cX11_tell 23 = .ok (.ldc 62, 2) := by decide +kernel
theorem dX11_tell_25 : decode cX11_tell 25 = .ok (.invokestatic 54, 3) := by decide +kernel
theorem dX11_tell_28 : decode cX11_tell 28 = .ok (.ifCond .ne 5, 3) := by decide +kernel
theorem dX11_tell_31 : decode cX11_tell 31 = .ok (.iconst 0, 1) := by decide +kernel
theorem dX11_tell_32 : decode cX11_tell 32 = .ok (.ireturn, 1) := by decide +kernel
theorem dX11_tell_33 : decode cX11_tell 33 = .ok (.aload_n 0, 1) := by decide +kernel
theorem dX11_tell_34 : decode cX11_tell 34 = .ok (.getfield 16, 3) := by decide +kernel
theorem dX11_tell_37 : decode cX11_tell 37 = .ok (.bipush 60, 2) := by decide +kernel
theorem dX11_tell_39 : decode cX11_tell 39 = .ok (.iload_n 1, 1) := by decide +kernel
theorem dX11_tell_40 : decode cX11_tell 40 = .ok (.imul, 1) := by decide +kernel
theorem dX11_tell_41 : decode cX11_tell 41 = .ok (.iload_n 2, 1) := by decide +kernel
theorem dX11_tell_42 : decode cX11_tell 42 = .ok (.iadd, 1) := by decide +kernel
theorem dX11_tell_43 : decode cX11_tell 43 = .ok (.iload_n 3, 1) := by decide +kernel
theorem dX11_tell_44 : decode cX11_tell 44 = .ok (.iastore, 1) := by decide +kernel
theorem dX11_tell_45 : decode cX11_tell 45 = .ok (.aload_n 0, 1) := by decide +kernel
theorem dX11_tell_46 : decode cX11_tell 46 = .ok (.getfield 16, 3) := by decide +kernel
theorem dX11_tell_49 : decode cX11_tell 49 = .ok (.bipush 60, 2) := by decide +kernel
theorem dX11_tell_51 : decode cX11_tell 51 = .ok (.iload_n 2, 1) := by decide +kernel
theorem dX11_tell_52 : decode cX11_tell 52 = .ok (.imul, 1) := by decide +kernel
theorem dX11_tell_53 : decode cX11_tell 53 = .ok (.iload_n 1, 1) := by decide +kernel
theorem dX11_tell_54 : decode cX11_tell 54 = .ok (.iadd, 1) := by decide +kernel
theorem dX11_tell_55 : decode cX11_tell 55 = .ok (.iload_n 3, 1) := by decide +kernel
theorem dX11_tell_56 : decode cX11_tell 56 = .ok (.iastore, 1) := by decide +kernel
theorem dX11_tell_57 : decode cX11_tell 57 = .ok (.iconst 1, 1) := by decide +kernel
theorem dX11_tell_58 : decode cX11_tell 58 = .ok (.ireturn, 1) := by decide +kernel
theorem dX11_kind_0 : decode cX11_kind 0 = .ok (.iload_n 1, 1) := by decide +kernel
theorem dX11_kind_1 : decode cX11_kind 1 = .ok (.iconst 0, 1) := by decide +kernel
theorem dX11_kind_2 : decode cX11_kind 2 = .ok (.iconst 5, 1) := by decide +kernel
theorem dX11_kind_3 : decode cX11_kind 3 = .ok (.invokestatic 54, 3) := by decide +kernel
theorem dX11_kind_6 : decode cX11_kind 6 = .ok (.ifCond .ne 5, 3) := by decide +kernel
theorem dX11_kind_9 : decode cX11_kind 9 = .ok (.iconst 0, 1) := by decide +kernel
theorem dX11_kind_10 : decode cX11_kind 10 = .ok (.ireturn, 1) := by decide +kernel
theorem dX11_kind_11 : decode cX11_kind 11 = .ok (.aload_n 0, 1) := by decide +kernel
theorem dX11_kind_12 : decode cX11_kind 12 = .ok (.iload_n 1, 1) := by decide +kernel
theorem dX11_kind_13 : decode cX11_kind 13 = .ok (.putfield 63, 3) := by decide +kernel
theorem dX11_kind_16 : decode cX11_kind 16 = .ok (.iconst 1, 1) := by decide +kernel
theorem dX11_kind_17 : decode cX11_kind 17 = .ok (.ireturn, 1) := by decide +kernel
theorem dX11_size_0 : decode cX11_size 0 = .ok (.iload_n 0, 1) := by decide +kernel
theorem dX11_size_1 : decode cX11_size 1 = .ok (.ifCond .ge 8, 3) := by decide +kernel
theorem dX11_size_4 : decode cX11_size 4 = .ok (.iload_n 0, 1) := by decide +kernel
theorem dX11_size_5 : decode cX11_size 5 = .ok (.ineg, 1) := by decide +kernel
theorem dX11_size_6 : decode cX11_size 6 = .ok (.goto 4, 3) := by decide +kernel
theorem dX11_size_9 : decode cX11_size 9 = .ok (.iload_n 0, 1) := by decide +kernel
theorem dX11_size_10 : decode cX11_size 10 = .ok (.ireturn, 1) := by decide +kernel
theorem dX11_unlike_0 : decode cX11_unlike 0 = .ok (.iconst 0, 1) := by decide +kernel
theorem dX11_unlike_1 : decode cX11_unlike 1 = .ok (.istore_n 3, 1) := by decide +kernel
theorem dX11_unlike_2 : decode cX11_unlike 2 = .ok (.iconst 0, 1) := by decide +kernel
theorem dX11_unlike_3 : decode cX11_unlike 3 = .ok (.istore 4, 2) := by decide +kernel
theorem dX11_unlike_5 : decode cX11_unlike 5 = .ok (.iload 4, 2) := by decide +kernel
theorem dX11_unlike_7 : decode cX11_unlike 7 = .ok (.bipush 8, 2) := by decide +kernel
theorem dX11_unlike_9 : decode cX11_unlike 9 = .ok (.if_icmp .ge 44, 3) := by decide +kernel
theorem dX11_unlike_12 : decode cX11_unlike 12 = .ok (.iload_n 3, 1) := by decide +kernel
theorem dX11_unlike_13 : decode cX11_unlike 13 = .ok (.aload_n 0, 1) := by decide +kernel
theorem dX11_unlike_14 : decode cX11_unlike 14 = .ok (.getfield 13, 3) := by decide +kernel
theorem dX11_unlike_17 : decode cX11_unlike 17 = .ok (.bipush 8, 2) := by decide +kernel
theorem dX11_unlike_19 : decode cX11_unlike 19 = .ok (.iload_n 1, 1) := by decide +kernel
theorem dX11_unlike_20 : decode cX11_unlike 20 = .ok (.imul, 1) := by decide +kernel
theorem dX11_unlike_21 : decode cX11_unlike 21 = .ok (.iload 4, 2) := by decide +kernel
theorem dX11_unlike_23 : decode cX11_unlike 23 = .ok (.iadd, 1) := by decide +kernel
theorem dX11_unlike_24 : decode cX11_unlike 24 = .ok (.iaload, 1) := by decide +kernel
theorem dX11_unlike_25 : decode cX11_unlike 25 = .ok (.aload_n 0, 1) := by decide +kernel
theorem dX11_unlike_26 : decode cX11_unlike 26 = .ok (.getfield 13, 3) := by decide +kernel
theorem dX11_unlike_29 : decode cX11_unlike 29 = .ok (.bipush 8, 2) := by decide +kernel
theorem dX11_unlike_31 : decode cX11_unlike 31 = .ok (.iload_n 2, 1) := by decide +kernel
theorem dX11_unlike_32 : decode cX11_unlike 32 = .ok (.imul, 1) := by decide +kernel
theorem dX11_unlike_33 : decode cX11_unlike 33 = .ok (.iload 4, 2) := by decide +kernel
theorem dX11_unlike_35 : decode cX11_unlike 35 = .ok (.iadd, 1) := by decide +kernel
theorem dX11_unlike_36 : decode cX11_unlike 36 = .ok (.iaload, 1) := by decide +kernel
theorem dX11_unlike_37 : decode cX11_unlike 37 = .ok (.if_icmp .ne 7, 3) := by decide +kernel
theorem dX11_unlike_40 : decode cX11_unlike 40 = .ok (.iconst 0, 1) := by decide +kernel
theorem dX11_unlike_41 : decode cX11_unlike 41 = .ok (.goto 4, 3) := by decide +kernel
theorem dX11_unlike_44 : decode cX11_unlike 44 = .ok (.iconst 1, 1) := by decide +kernel
theorem dX11_unlike_45 : decode cX11_unlike 45 = .ok (.iadd, 1) := by decide +kernel
theorem dX11_unlike_46 : decode cX11_unlike 46 = .ok (.istore_n 3, 1) := by decide +kernel
theorem dX11_unlike_47 : decode cX11_unlike 47 = .ok (.iinc 4 1, 3) := by decide +kernel
theorem dX11_unlike_50 : decode cX11_unlike 50 = .ok (.goto (-45), 3) := by decide +kernel
theorem dX11_unlike_53 : decode cX11_unlike 53 = .ok (.iload_n 3, 1) := by decide +kernel
theorem dX11_unlike_54 : decode cX11_unlike 54 = .ok (.ireturn, 1) := by decide +kernel
theorem dX11_least_0 : decode cX11_least 0 = .ok (.iload_n 0, 1) := by decide +kernel
theorem dX11_least_1 : decode cX11_least 1 = .ok (.iload_n 1, 1) := by decide +kernel
theorem dX11_least_2 : decode cX11_least 2 = .ok (.if_icmp .ge 7, 3) := by decide +kernel
theorem dX11_least_5 : decode cX11_least 5 = .ok (.iload_n 0, 1) := by decide +kernel
theorem dX11_least_6 : decode cX11_least 6 = .ok (.goto 4, 3) := by decide +kernel
theorem dX11_least_9 : decode cX11_least 9 = .ok (.iload_n 1, 1) := by decide +kernel
theorem dX11_least_10 : decode cX11_least 10 = .ok (.ireturn, 1) := by decide +kernel
theorem dX11_edits_0 : decode cX11_edits 0 = .ok (.iconst 0, 1) := by decide +kernel
theorem dX11_edits_1 : decode cX11_edits 1 = .ok (.istore_n 3, 1) := by decide +kernel
theorem dX11_edits_2 : decode cX11_edits 2 = .ok (.iload_n 3, 1) := by decide +kernel
theorem dX11_edits_3 : decode cX11_edits 3 = .ok (.aload_n 0, 1) := by decide +kernel
theorem dX11_edits_4 : decode cX11_edits 4 = .ok (.getfield 7, 3) := by decide +kernel
theorem dX11_edits_7 : decode cX11_edits 7 = .ok (.iload_n 1, 1) := by decide +kernel
theorem dX11_edits_8 : decode cX11_edits 8 = .ok (.iaload, 1) := by decide +kernel
theorem dX11_edits_9 : decode cX11_edits 9 = .ok (.if_icmp .gt 161, 3) := by decide +kernel
theorem dX11_edits_12 : decode cX11_edits 12 = .ok (.iconst 0, 1) := by decide +kernel
theorem dX11_edits_13 : decode cX11_edits 13 = .ok (.istore 4, 2) := by decide +kernel
theorem dX11_edits_15 : decode cX11_edits 15 = .ok (.iload 4, 2) := by decide +kernel
theorem dX11_edits_17 : decode cX11_edits 17 = .ok (.aload_n 0, 1) := by decide +kernel
theorem dX11_edits_18 : decode cX11_edits 18 = .ok (.getfield 7, 3) := by decide +kernel
theorem dX11_edits_21 : decode cX11_edits 21 = .ok (.iload_n 2, 1) := by decide +kernel
theorem dX11_edits_22 : decode cX11_edits 22 = .ok (.iaload, 1) := by decide +kernel
theorem dX11_edits_23 : decode cX11_edits 23 = .ok (.if_icmp .gt 141, 3) := by decide +kernel
theorem dX11_edits_26 : decode cX11_edits 26 = .ok (.iload_n 3, 1) := by decide +kernel
theorem dX11_edits_27 : decode cX11_edits 27 = .ok (.ifCond .eq 8, 3) := by decide +kernel
theorem dX11_edits_30 : decode cX11_edits 30 = .ok (.iload 4, 2) := by decide +kernel
theorem dX11_edits_32 : decode cX11_edits 32 = .ok (.ifCond .ne 22, 3) := by decide +kernel
theorem dX11_edits_35 : decode cX11_edits 35 = .ok (.aload_n 0, 1) := by decide +kernel
theorem dX11_edits_36 : decode cX11_edits 36 = .ok (.getfield 29, 3) := by decide +kernel
theorem dX11_edits_39 : decode cX11_edits 39 = .ok (.bipush 9, 2) := by decide +kernel
theorem dX11_edits_41 : decode cX11_edits 41 = .ok (.iload_n 3, 1) := by decide +kernel
theorem dX11_edits_42 : decode cX11_edits 42 = .ok (.imul, 1) := by decide +kernel
theorem dX11_edits_43 : decode cX11_edits 43 = .ok (.iload 4, 2) := by decide +kernel
theorem dX11_edits_45 : decode cX11_edits 45 = .ok (.iadd, 1) := by decide +kernel
theorem dX11_edits_46 : decode cX11_edits 46 = .ok (.iload_n 3, 1) := by decide +kernel
theorem dX11_edits_47 : decode cX11_edits 47 = .ok (.iload 4, 2) := by decide +kernel
theorem dX11_edits_49 : decode cX11_edits 49 = .ok (.iadd, 1) := by decide +kernel
theorem dX11_edits_50 : decode cX11_edits 50 = .ok (.iastore, 1) := by decide +kernel
theorem dX11_edits_51 : decode cX11_edits 51 = .ok (.goto 107, 3) := by decide +kernel
theorem dX11_edits_54 : decode cX11_edits 54 = .ok (.aload_n 0, 1) := by decide +kernel
theorem dX11_edits_55 : decode cX11_edits 55 = .ok (.getfield 29, 3) := by decide +kernel
theorem dX11_edits_58 : decode cX11_edits 58 = .ok (.bipush 9, 2) := by decide +kernel
theorem dX11_edits_60 : decode cX11_edits 60 = .ok (.iload_n 3, 1) := by decide +kernel
theorem dX11_edits_61 : decode cX11_edits 61 = .ok (.imul, 1) := by decide +kernel
theorem dX11_edits_62 : decode cX11_edits 62 = .ok (.iload 4, 2) := by decide +kernel
theorem dX11_edits_64 : decode cX11_edits 64 = .ok (.iadd, 1) := by decide +kernel
theorem dX11_edits_65 : decode cX11_edits 65 = .ok (.bipush 10, 2) := by decide +kernel
theorem dX11_edits_67 : decode cX11_edits 67 = .ok (.isub, 1) := by decide +kernel
theorem dX11_edits_68 : decode cX11_edits 68 = .ok (.iaload, 1) := by decide +kernel
theorem dX11_edits_69 : decode cX11_edits 69 = .ok (.aload_n 0, 1) := by decide +kernel
theorem dX11_edits_70 : decode cX11_edits 70 = .ok (.getfield 13, 3) := by decide +kernel
theorem dX11_edits_73 : decode cX11_edits 73 = .ok (.bipush 8, 2) := by decide +kernel
theorem dX11_edits_75 : decode cX11_edits 75 = .ok (.iload_n 1, 1) := by decide +kernel
theorem dX11_edits_76 : decode cX11_edits 76 = .ok (.imul, 1) := by decide +kernel
theorem dX11_edits_77 : decode cX11_edits 77 = .ok (.iload_n 3, 1) := by decide +kernel
theorem dX11_edits_78 : decode cX11_edits 78 = .ok (.iadd, 1) := by decide +kernel
theorem dX11_edits_79 : decode cX11_edits 79 = .ok (.iconst 1, 1) := by decide +kernel
theorem dX11_edits_80 : decode cX11_edits 80 = .ok (.isub, 1) := by decide +kernel
theorem dX11_edits_81 : decode cX11_edits 81 = .ok (.iaload, 1) := by decide +kernel
theorem dX11_edits_82 : decode cX11_edits 82 = .ok (.aload_n 0, 1) := by decide +kernel
theorem dX11_edits_83 : decode cX11_edits 83 = .ok (.getfield 13, 3) := by decide +kernel
theorem dX11_edits_86 : decode cX11_edits 86 = .ok (.bipush 8, 2) := by decide +kernel
theorem dX11_edits_88 : decode cX11_edits 88 = .ok (.iload_n 2, 1) := by decide +kernel
theorem dX11_edits_89 : decode cX11_edits 89 = .ok (.imul, 1) := by decide +kernel
theorem dX11_edits_90 : decode cX11_edits 90 = .ok (.iload 4, 2) := by decide +kernel
theorem dX11_edits_92 : decode cX11_edits 92 = .ok (.iadd, 1) := by decide +kernel
theorem dX11_edits_93 : decode cX11_edits 93 = .ok (.iconst 1, 1) := by decide +kernel
theorem dX11_edits_94 : decode cX11_edits 94 = .ok (.isub, 1) := by decide +kernel
theorem dX11_edits_95 : decode cX11_edits 95 = .ok (.iaload, 1) := by decide +kernel
theorem dX11_edits_96 : decode cX11_edits 96 = .ok (.if_icmp .ne 7, 3) := by decide +kernel
theorem dX11_edits_99 : decode cX11_edits 99 = .ok (.iconst 0, 1) := by decide +kernel
theorem dX11_edits_100 : decode cX11_edits 100 = .ok (.goto 4, 3) := by decide +kernel
theorem dX11_edits_103 : decode cX11_edits 103 = .ok (.iconst 1, 1) := by decide +kernel
theorem dX11_edits_104 : decode cX11_edits 104 = .ok (.iadd, 1) := by decide +kernel
theorem dX11_edits_105 : decode cX11_edits 105 = .ok (.istore 5, 2) := by decide +kernel
theorem dX11_edits_107 : decode cX11_edits 107 = .ok (.aload_n 0, 1) := by decide +kernel
theorem dX11_edits_108 : decode cX11_edits 108 = .ok (.getfield 29, 3) := by decide +kernel
theorem dX11_edits_111 : decode cX11_edits 111 = .ok (.bipush 9, 2) := by decide +kernel
theorem dX11_edits_113 : decode cX11_edits 113 = .ok (.iload_n 3, 1) := by decide +kernel
theorem dX11_edits_114 : decode cX11_edits 114 = .ok (.imul, 1) := by decide +kernel
theorem dX11_edits_115 : decode cX11_edits 115 = .ok (.iload 4, 2) := by decide +kernel
theorem dX11_edits_117 : decode cX11_edits 117 = .ok (.iadd, 1) := by decide +kernel
theorem dX11_edits_118 : decode cX11_edits 118 = .ok (.iload 5, 2) := by decide +kernel
theorem dX11_edits_120 : decode cX11_edits 120 = .ok (.iconst 1, 1) := by decide +kernel
theorem dX11_edits_121 : decode cX11_edits 121 = .ok (.aload_n 0, 1) := by decide +kernel
theorem dX11_edits_122 : decode cX11_edits 122 = .ok (.getfield 29, 3) := by decide +kernel
theorem dX11_edits_125 : decode cX11_edits 125 = .ok (.bipush 9, 2) := by decide +kernel
theorem dX11_edits_127 : decode cX11_edits 127 = .ok (.iload_n 3, 1) := by decide +kernel
theorem dX11_edits_128 : decode cX11_edits 128 = .ok (.imul, 1) := by decide +kernel
theorem dX11_edits_129 : decode cX11_edits 129 = .ok (.iload 4, 2) := by decide +kernel
theorem dX11_edits_131 : decode cX11_edits 131 = .ok (.iadd, 1) := by decide +kernel
theorem dX11_edits_132 : decode cX11_edits 132 = .ok (.bipush 9, 2) := by decide +kernel
theorem dX11_edits_134 : decode cX11_edits 134 = .ok (.isub, 1) := by decide +kernel
theorem dX11_edits_135 : decode cX11_edits 135 = .ok (.iaload, 1) := by decide +kernel
theorem dX11_edits_136 : decode cX11_edits 136 = .ok (.aload_n 0, 1) := by decide +kernel
theorem dX11_edits_137 : decode cX11_edits 137 = .ok (.getfield 29, 3) := by decide +kernel
theorem dX11_edits_140 : decode cX11_edits 140 = .ok (.bipush 9, 2) := by decide +kernel
theorem dX11_edits_142 : decode cX11_edits 142 = .ok (.iload_n 3, 1) := by decide +kernel
theorem dX11_edits_143 : decode cX11_edits 143 = .ok (.imul, 1) := by decide +kernel
theorem dX11_edits_144 : decode cX11_edits 144 = .ok (.iload 4, 2) := by decide +kernel
theorem dX11_edits_146 : decode cX11_edits 146 = .ok (.iadd, 1) := by decide +kernel
theorem dX11_edits_147 : decode cX11_edits 147 = .ok (.iconst 1, 1) := by decide +kernel
theorem dX11_edits_148 : decode cX11_edits 148 = .ok (.isub, 1) := by decide +kernel
theorem dX11_edits_149 : decode cX11_edits 149 = .ok (.iaload, 1) := by decide +kernel
theorem dX11_edits_150 : decode cX11_edits 150 = .ok (.invokestatic 66, 3) := by decide +kernel
theorem dX11_edits_153 : decode cX11_edits 153 = .ok (.iadd, 1) := by decide +kernel
theorem dX11_edits_154 : decode cX11_edits 154 = .ok (.invokestatic 66, 3) := by decide +kernel
theorem dX11_edits_157 : decode cX11_edits 157 = .ok (.iastore, 1) := by decide +kernel
theorem dX11_edits_158 : decode cX11_edits 158 = .ok (.iinc 4 1, 3) := by decide +kernel
theorem dX11_edits_161 : decode cX11_edits 161 = .ok (.goto (-146), 3) := by decide +kernel
theorem dX11_edits_164 : decode cX11_edits 164 = .ok (.iinc 3 1, 3) := by decide +kernel
theorem dX11_edits_167 : decode cX11_edits 167 = .ok (.goto (-165), 3) := by decide +kernel
theorem dX11_edits_170 : decode cX11_edits 170 = .ok (.aload_n 0, 1) := by decide +kernel
theorem dX11_edits_171 : decode cX11_edits 171 = .ok (.getfield 29, 3) := by decide +kernel
theorem dX11_edits_174 : decode cX11_edits 174 = .ok (.bipush 9, 2) := by decide +kernel
theorem dX11_edits_176 : decode cX11_edits 176 = .ok (.aload_n 0, 1) := by decide +kernel
theorem dX11_edits_177 : decode cX11_edits 177 = .ok (.getfield 7, 3) := by decide +kernel
theorem dX11_edits_180 : decode cX11_edits 180 = .ok (.iload_n 1, 1) := by decide +kernel
theorem dX11_edits_181 : decode cX11_edits 181 = .ok (.iaload, 1) := by decide +kernel
theorem dX11_edits_182 : decode cX11_edits 182 = .ok (.imul, 1) := by decide +kernel
theorem dX11_edits_183 : decode cX11_edits 183 = .ok (.aload_n 0, 1) := by decide +kernel
theorem dX11_edits_184 : decode cX11_edits 184 = .ok (.getfield 7, 3) := by decide +kernel
theorem dX11_edits_187 : decode cX11_edits 187 = .ok (.iload_n 2, 1) := by decide +kernel
theorem dX11_edits_188 : decode cX11_edits 188 = .ok (.iaload, 1) := by decide +kernel
theorem dX11_edits_189 : decode cX11_edits 189 = .ok (.iadd, 1) := by decide +kernel
theorem dX11_edits_190 : decode cX11_edits 190 = .ok (.iaload, 1) := by decide +kernel
theorem dX11_edits_191 : decode cX11_edits 191 = .ok (.ireturn, 1) := by decide +kernel
theorem dX11_has_0 : decode cX11_has 0 = .ok (.iconst 0, 1) := by decide +kernel
theorem dX11_has_1 : decode cX11_has 1 = .ok (.istore 4, 2) := by decide +kernel
theorem dX11_has_3 : decode cX11_has 3 = .ok (.iload 4, 2) := by decide +kernel
theorem dX11_has_5 : decode cX11_has 5 = .ok (.iload_n 3, 1) := by decide +kernel
theorem dX11_has_6 : decode cX11_has 6 = .ok (.if_icmp .ge 27, 3) := by decide +kernel
theorem dX11_has_9 : decode cX11_has 9 = .ok (.aload_n 0, 1) := by decide +kernel
theorem dX11_has_10 : decode cX11_has 10 = .ok (.getfield 13, 3) := by decide +kernel
theorem dX11_has_13 : decode cX11_has 13 = .ok (.bipush 8, 2) := by decide +kernel
theorem dX11_has_15 : decode cX11_has 15 = .ok (.iload_n 1, 1) := by decide +kernel
theorem dX11_has_16 : decode cX11_has 16 = .ok (.imul, 1) := by decide +kernel
theorem dX11_has_17 : decode cX11_has 17 = .ok (.iload 4, 2) := by decide +kernel
theorem dX11_has_19 : decode cX11_has 19 = .ok (.iadd, 1) := by decide +kernel
theorem dX11_has_20 : decode cX11_has 20 = .ok (.iaload, 1) := by decide +kernel
theorem dX11_has_21 : decode cX11_has 21 = .ok (.iload_n 2, 1) := by decide +kernel
theorem dX11_has_22 : decode cX11_has 22 = .ok (.if_icmp .ne 5, 3) := by decide +kernel
theorem dX11_has_25 : decode cX11_has 25 = .ok (.iconst 1, 1) := by decide +kernel
theorem dX11_has_26 : decode cX11_has 26 = .ok (.ireturn, 1) := by decide +kernel
theorem dX11_has_27 : decode cX11_has 27 = .ok (.iinc 4 1, 3) := by decide +kernel
theorem dX11_has_30 : decode cX11_has 30 = .ok (.goto (-27), 3) := by decide +kernel
theorem dX11_has_33 : decode cX11_has 33 = .ok (.iconst 0, 1) := by decide +kernel
theorem dX11_has_34 : decode cX11_has 34 = .ok (.ireturn, 1) := by decide +kernel
theorem dX11_alone_0 : decode cX11_alone 0 = .ok (.iconst 0, 1) := by decide +kernel
theorem dX11_alone_1 : decode cX11_alone 1 = .ok (.istore_n 3, 1) := by decide +kernel
theorem dX11_alone_2 : decode cX11_alone 2 = .ok (.iconst 0, 1) := by decide +kernel
theorem dX11_alone_3 : decode cX11_alone 3 = .ok (.istore 4, 2) := by decide +kernel
theorem dX11_alone_5 : decode cX11_alone 5 = .ok (.iload 4, 2) := by decide +kernel
theorem dX11_alone_7 : decode cX11_alone 7 = .ok (.aload_n 0, 1) := by decide +kernel
theorem dX11_alone_8 : decode cX11_alone 8 = .ok (.getfield 7, 3) := by decide +kernel
theorem dX11_alone_11 : decode cX11_alone 11 = .ok (.iload_n 1, 1) := by decide +kernel
theorem dX11_alone_12 : decode cX11_alone 12 = .ok (.iaload, 1) := by decide +kernel
theorem dX11_alone_13 : decode cX11_alone 13 = .ok (.if_icmp .ge 59, 3) := by decide +kernel
theorem dX11_alone_16 : decode cX11_alone 16 = .ok (.aload_n 0, 1) := by decide +kernel
theorem dX11_alone_17 : decode cX11_alone 17 = .ok (.getfield 13, 3) := by decide +kernel
theorem dX11_alone_20 : decode cX11_alone 20 = .ok (.bipush 8, 2) := by decide +kernel
theorem dX11_alone_22 : decode cX11_alone 22 = .ok (.iload_n 1, 1) := by decide +kernel
theorem dX11_alone_23 : decode cX11_alone 23 = .ok (.imul, 1) := by decide +kernel
theorem dX11_alone_24 : decode cX11_alone 24 = .ok (.iload 4, 2) := by decide +kernel
theorem dX11_alone_26 : decode cX11_alone 26 = .ok (.iadd, 1) := by decide +kernel
theorem dX11_alone_27 : decode cX11_alone 27 = .ok (.iaload, 1) := by decide +kernel
theorem dX11_alone_28 : decode cX11_alone 28 = .ok (.istore 5, 2) := by decide +kernel
theorem dX11_alone_30 : decode cX11_alone 30 = .ok (.iload_n 3, 1) := by decide +kernel
theorem dX11_alone_31 : decode cX11_alone 31 = .ok (.aload_n 0, 1) := by decide +kernel
theorem dX11_alone_32 : decode cX11_alone 32 = .ok (.iload_n 1, 1) := by decide +kernel
theorem dX11_alone_33 : decode cX11_alone 33 = .ok (.iload 5, 2) := by decide +kernel
theorem dX11_alone_35 : decode cX11_alone 35 = .ok (.iload 4, 2) := by decide +kernel
theorem dX11_alone_37 : decode cX11_alone 37 = .ok (.invokevirtual 70, 3) := by decide +kernel
theorem dX11_alone_40 : decode cX11_alone 40 = .ok (.ifCond .ne 23, 3) := by decide +kernel
theorem dX11_alone_43 : decode cX11_alone 43 = .ok (.aload_n 0, 1) := by decide +kernel
theorem dX11_alone_44 : decode cX11_alone 44 = .ok (.iload_n 2, 1) := by decide +kernel
theorem dX11_alone_45 : decode cX11_alone 45 = .ok (.iload 5, 2) := by decide +kernel
theorem dX11_alone_47 : decode cX11_alone 47 = .ok (.aload_n 0, 1) := by decide +kernel
theorem dX11_alone_48 : decode cX11_alone 48 = .ok (.getfield 7, 3) := by decide +kernel
theorem dX11_alone_51 : decode cX11_alone 51 = .ok (.iload_n 2, 1) := by decide +kernel
theorem dX11_alone_52 : decode cX11_alone 52 = .ok (.iaload, 1) := by decide +kernel
theorem dX11_alone_53 : decode cX11_alone 53 = .ok (.invokevirtual 70, 3) := by decide +kernel
theorem dX11_alone_56 : decode cX11_alone 56 = .ok (.ifCond .ne 7, 3) := by decide +kernel
theorem dX11_alone_59 : decode cX11_alone 59 = .ok (.iconst 1, 1) := by decide +kernel
theorem dX11_alone_60 : decode cX11_alone 60 = .ok (.goto 4, 3) := by decide +kernel
theorem dX11_alone_63 : decode cX11_alone 63 = .ok (.iconst 0, 1) := by decide +kernel
theorem dX11_alone_64 : decode cX11_alone 64 = .ok (.iadd, 1) := by decide +kernel
theorem dX11_alone_65 : decode cX11_alone 65 = .ok (.istore_n 3, 1) := by decide +kernel
theorem dX11_alone_66 : decode cX11_alone 66 = .ok (.iinc 4 1, 3) := by decide +kernel
theorem dX11_alone_69 : decode cX11_alone 69 = .ok (.goto (-64), 3) := by decide +kernel
theorem dX11_alone_72 : decode cX11_alone 72 = .ok (.iload_n 3, 1) := by decide +kernel
theorem dX11_alone_73 : decode cX11_alone 73 = .ok (.ireturn, 1) := by decide +kernel
theorem dX11_far_0 : decode cX11_far 0 = .ok (.iconst 0, 1) := by decide +kernel
theorem dX11_far_1 : decode cX11_far 1 = .ok (.istore_n 3, 1) := by decide +kernel
theorem dX11_far_2 : decode cX11_far 2 = .ok (.iconst 0, 1) := by decide +kernel
theorem dX11_far_3 : decode cX11_far 3 = .ok (.istore 4, 2) := by decide +kernel
theorem dX11_far_5 : decode cX11_far 5 = .ok (.iconst 0, 1) := by decide +kernel
theorem dX11_far_6 : decode cX11_far 6 = .ok (.istore 5, 2) := by decide +kernel
theorem dX11_far_8 : decode cX11_far 8 = .ok (.iload 5, 2) := by decide +kernel
theorem dX11_far_10 : decode cX11_far 10 = .ok (.bipush 8, 2) := by decide +kernel
theorem dX11_far_12 : decode cX11_far 12 = .ok (.if_icmp .ge 60, 3) := by decide +kernel
theorem dX11_far_15 : decode cX11_far 15 = .ok (.aload_n 0, 1) := by decide +kernel
theorem dX11_far_16 : decode cX11_far 16 = .ok (.getfield 13, 3) := by decide +kernel
theorem dX11_far_19 : decode cX11_far 19 = .ok (.bipush 8, 2) := by decide +kernel
theorem dX11_far_21 : decode cX11_far 21 = .ok (.iload_n 1, 1) := by decide +kernel
theorem dX11_far_22 : decode cX11_far 22 = .ok (.imul, 1) := by decide +kernel
theorem dX11_far_23 : decode cX11_far 23 = .ok (.iload 5, 2) := by decide +kernel
theorem dX11_far_25 : decode cX11_far 25 = .ok (.iadd, 1) := by decide +kernel
theorem dX11_far_26 : decode cX11_far 26 = .ok (.iaload, 1) := by decide +kernel
theorem dX11_far_27 : decode cX11_far 27 = .ok (.aload_n 0, 1) := by decide +kernel
theorem dX11_far_28 : decode cX11_far 28 = .ok (.getfield 13, 3) := by decide +kernel
theorem dX11_far_31 : decode cX11_far 31 = .ok (.bipush 8, 2) := by decide +kernel
theorem dX11_far_33 : decode cX11_far 33 = .ok (.iload_n 2, 1) := by decide +kernel
theorem dX11_far_34 : decode cX11_far 34 = .ok (.imul, 1) := by decide +kernel
theorem dX11_far_35 : decode cX11_far 35 = .ok (.iload 5, 2) := by decide +kernel
theorem dX11_far_37 : decode cX11_far 37 = .ok (.iadd, 1) := by decide +kernel
theorem dX11_far_38 : decode cX11_far 38 = .ok (.iaload, 1) := by decide +kernel
theorem dX11_far_39 : decode cX11_far 39 = .ok (.isub, 1) := by decide +kernel
theorem dX11_far_40 : decode cX11_far 40 = .ok (.invokestatic 73, 3) := by decide +kernel
theorem dX11_far_43 : decode cX11_far 43 = .ok (.istore 6, 2) := by decide +kernel
theorem dX11_far_45 : decode cX11_far 45 = .ok (.iload_n 3, 1) := by decide +kernel
theorem dX11_far_46 : decode cX11_far 46 = .ok (.iload 6, 2) := by decide +kernel
theorem dX11_far_48 : decode cX11_far 48 = .ok (.iadd, 1) := by decide +kernel
theorem dX11_far_49 : decode cX11_far 49 = .ok (.istore_n 3, 1) := by decide +kernel
theorem dX11_far_50 : decode cX11_far 50 = .ok (.iload 6, 2) := by decide +kernel
theorem dX11_far_52 : decode cX11_far 52 = .ok (.iload 4, 2) := by decide +kernel
theorem dX11_far_54 : decode cX11_far 54 = .ok (.if_icmp .le 8, 3) := by decide +kernel
theorem dX11_far_57 : decode cX11_far 57 = .ok (.iload 6, 2) := by decide +kernel
theorem dX11_far_59 : decode cX11_far 59 = .ok (.goto 5, 3) := by decide +kernel
theorem dX11_far_62 : decode cX11_far 62 = .ok (.iload 4, 2) := by decide +kernel
theorem dX11_far_64 : decode cX11_far 64 = .ok (.istore 4, 2) := by decide +kernel
theorem dX11_far_66 : decode cX11_far 66 = .ok (.iinc 5 1, 3) := by decide +kernel
theorem dX11_far_69 : decode cX11_far 69 = .ok (.goto (-61), 3) := by decide +kernel
theorem dX11_far_72 : decode cX11_far 72 = .ok (.aload_n 0, 1) := by decide +kernel
theorem dX11_far_73 : decode cX11_far 73 = .ok (.getfield 63, 3) := by decide +kernel
theorem dX11_far_76 : decode cX11_far 76 = .ok (.tableswitch 69 0 4 #[36, 43, 50, 52, 55], 36) := by decide +kernel
theorem dX11_far_112 : decode cX11_far 112 = .ok (.aload_n 0, 1) := by decide +kernel
theorem dX11_far_113 : decode cX11_far 113 = .ok (.iload_n 1, 1) := by decide +kernel
theorem dX11_far_114 : decode cX11_far 114 = .ok (.iload_n 2, 1) := by decide +kernel
theorem dX11_far_115 : decode cX11_far 115 = .ok (.invokevirtual 77, 3) := by decide +kernel
theorem dX11_far_118 : decode cX11_far 118 = .ok (.ireturn, 1) := by decide +kernel
theorem dX11_far_119 : decode cX11_far 119 = .ok (.aload_n 0, 1) := by decide +kernel
theorem dX11_far_120 : decode cX11_far 120 = .ok (.iload_n 1, 1) := by decide +kernel
theorem dX11_far_121 : decode cX11_far 121 = .ok (.iload_n 2, 1) := by decide +kernel
theorem dX11_far_122 : decode cX11_far 122 = .ok (.invokevirtual 80, 3) := by decide +kernel
theorem dX11_far_125 : decode cX11_far 125 = .ok (.ireturn, 1) := by decide +kernel
theorem dX11_far_126 : decode cX11_far 126 = .ok (.iload_n 3, 1) := by decide +kernel
theorem dX11_far_127 : decode cX11_far 127 = .ok (.ireturn, 1) := by decide +kernel
theorem dX11_far_128 : decode cX11_far 128 = .ok (.iload 4, 2) := by decide +kernel
theorem dX11_far_130 : decode cX11_far 130 = .ok (.ireturn, 1) := by decide +kernel
theorem dX11_far_131 : decode cX11_far 131 = .ok (.aload_n 0, 1) := by decide +kernel
theorem dX11_far_132 : decode cX11_far 132 = .ok (.iload_n 1, 1) := by decide +kernel
theorem dX11_far_133 : decode cX11_far 133 = .ok (.iload_n 2, 1) := by decide +kernel
theorem dX11_far_134 : decode cX11_far 134 = .ok (.invokevirtual 83, 3) := by decide +kernel
theorem dX11_far_137 : decode cX11_far 137 = .ok (.aload_n 0, 1) := by decide +kernel
theorem dX11_far_138 : decode cX11_far 138 = .ok (.iload_n 2, 1) := by decide +kernel
theorem dX11_far_139 : decode cX11_far 139 = .ok (.iload_n 1, 1) := by decide +kernel
theorem dX11_far_140 : decode cX11_far 140 = .ok (.invokevirtual 83, 3) := by decide +kernel
theorem dX11_far_143 : decode cX11_far 143 = .ok (.iadd, 1) := by decide +kernel
theorem dX11_far_144 : decode cX11_far 144 = .ok (.ireturn, 1) := by decide +kernel
theorem dX11_far_145 : decode cX11_far 145 = .ok (.aload_n 0, 1) := by decide +kernel
theorem dX11_far_146 : decode cX11_far 146 = .ok (.getfield 16, 3) := by decide +kernel
theorem dX11_far_149 : decode cX11_far 149 = .ok (.bipush 60, 2) := by decide +kernel
theorem dX11_far_151 : decode cX11_far 151 = .ok (.iload_n 1, 1) := by decide +kernel
theorem dX11_far_152 : decode cX11_far 152 = .ok (.imul, 1) := by decide +kernel
theorem dX11_far_153 : decode cX11_far 153 = .ok (.iload_n 2, 1) := by decide +kernel
theorem dX11_far_154 : decode cX11_far 154 = .ok (.iadd, 1) := by decide +kernel
theorem dX11_far_155 : decode cX11_far 155 = .ok (.iaload, 1) := by decide +kernel
theorem dX11_far_156 : decode cX11_far 156 = .ok (.ireturn, 1) := by decide +kernel
theorem dX11_distance_0 : decode cX11_distance 0 = .ok (.aload_n 0, 1) := by decide +kernel
theorem dX11_distance_1 : decode cX11_distance 1 = .ok (.iload_n 1, 1) := by decide +kernel
theorem dX11_distance_2 : decode cX11_distance 2 = .ok (.invokevirtual 58, 3) := by decide +kernel
theorem dX11_distance_5 : decode cX11_distance 5 = .ok (.ifCond .eq 20, 3) := by decide +kernel
theorem dX11_distance_8 : decode cX11_distance 8 = .ok (.aload_n 0, 1) := by decide +kernel
theorem dX11_distance_9 : decode cX11_distance 9 = .ok (.iload_n 2, 1) := by decide +kernel
theorem dX11_distance_10 : decode cX11_distance 10 = .ok (.invokevirtual 58, 3) := by decide +kernel
theorem dX11_distance_13 : decode cX11_distance 13 = .ok (.ifCond .eq 12, 3) := by decide +kernel
theorem dX11_distance_16 : decode cX11_distance 16 = .ok (.aload_n 0, 1) := by decide +kernel
theorem dX11_distance_17 : decode cX11_distance 17 = .ok (.iload_n 1, 1) := by decide +kernel
theorem dX11_distance_18 : decode cX11_distance 18 = .ok (.iload_n 2, 1) := by decide +kernel
theorem dX11_distance_19 : decode cX11_distance 19 = .ok (.invokevirtual 86, 3) := by decide +kernel
theorem dX11_distance_22 : decode cX11_distance 22 = .ok (.goto 4, 3) := by decide +kernel
theorem dX11_distance_25 : decode cX11_distance 25 = .ok (.iconst (-1), 1) := by decide +kernel
theorem dX11_distance_26 : decode cX11_distance 26 = .ok (.ireturn, 1) := by decide +kernel
theorem dX11_holds_0 : decode cX11_holds 0 = .ok (.aload_n 0, 1) := by decide +kernel
theorem dX11_holds_1 : decode cX11_holds 1 = .ok (.getfield 63, 3) := by decide +kernel
theorem dX11_holds_4 : decode cX11_holds 4 = .ok (.iconst 5, 1) := by decide +kernel
theorem dX11_holds_5 : decode cX11_holds 5 = .ok (.if_icmp .ge 5, 3) := by decide +kernel
theorem dX11_holds_8 : decode cX11_holds 8 = .ok (.iconst 1, 1) := by decide +kernel
theorem dX11_holds_9 : decode cX11_holds 9 = .ok (.ireturn, 1) := by decide +kernel
theorem dX11_holds_10 : decode cX11_holds 10 = .ok (.iconst 0, 1) := by decide +kernel
theorem dX11_holds_11 : decode cX11_holds 11 = .ok (.istore_n 1, 1) := by decide +kernel
theorem dX11_holds_12 : decode cX11_holds 12 = .ok (.iload_n 1, 1) := by decide +kernel
theorem dX11_holds_13 : decode cX11_holds 13 = .ok (.aload_n 0, 1) := by decide +kernel
theorem dX11_holds_14 : decode cX11_holds 14 = .ok (.getfield 50, 3) := by decide +kernel
theorem dX11_holds_17 : decode cX11_holds 17 = .ok (.if_icmp .ge 104, 3) := by decide +kernel
theorem dX11_holds_20 : decode cX11_holds 20 = .ok (.iconst 0, 1) := by decide +kernel
theorem dX11_holds_21 : decode cX11_holds 21 = .ok (.istore_n 2, 1) := by decide +kernel
theorem dX11_holds_22 : decode cX11_holds 22 = .ok (.iload_n 2, 1) := by decide +kernel
theorem dX11_holds_23 : decode cX11_holds 23 = .ok (.aload_n 0, 1) := by decide +kernel
theorem dX11_holds_24 : decode cX11_holds 24 = .ok (.getfield 50, 3) := by decide +kernel
theorem dX11_holds_27 : decode cX11_holds 27 = .ok (.if_icmp .ge 88, 3) := by decide +kernel
theorem dX11_holds_30 : decode cX11_holds 30 = .ok (.iconst 0, 1) := by decide +kernel
theorem dX11_holds_31 : decode cX11_holds 31 = .ok (.istore_n 3, 1) := by decide +kernel
theorem dX11_holds_32 : decode cX11_holds 32 = .ok (.iload_n 3, 1) := by decide +kernel
theorem dX11_holds_33 : decode cX11_holds 33 = .ok (.aload_n 0, 1) := by decide +kernel
theorem dX11_holds_34 : decode cX11_holds 34 = .ok (.getfield 50, 3) := by decide +kernel
theorem dX11_holds_37 : decode cX11_holds 37 = .ok (.if_icmp .ge 72, 3) := by decide +kernel
theorem dX11_holds_40 : decode cX11_holds 40 = .ok (.aload_n 0, 1) := by decide +kernel
theorem dX11_holds_41 : decode cX11_holds 41 = .ok (.getfield 16, 3) := by decide +kernel
theorem dX11_holds_44 : decode cX11_holds 44 = .ok (.bipush 60, 2) := by decide +kernel
theorem dX11_holds_46 : decode cX11_holds 46 = .ok (.iload_n 1, 1) := by decide +kernel
theorem dX11_holds_47 : decode cX11_holds 47 = .ok (.imul, 1) := by decide +kernel
theorem dX11_holds_48 : decode cX11_holds 48 = .ok (.iload_n 3, 1) := by decide +kernel
theorem dX11_holds_49 : decode cX11_holds 49 = .ok (.iadd, 1) := by decide +kernel
theorem dX11_holds_50 : decode cX11_holds 50 = .ok (.iaload, 1) := by decide +kernel
theorem dX11_holds_51 : decode cX11_holds 51 = .ok (.aload_n 0, 1) := by decide +kernel
theorem dX11_holds_52 : decode cX11_holds 52 = .ok (.getfield 16, 3) := by decide +kernel
theorem dX11_holds_55 : decode cX11_holds 55 = .ok (.bipush 60, 2) := by decide +kernel
theorem dX11_holds_57 : decode cX11_holds 57 = .ok (.iload_n 1, 1) := by decide +kernel
theorem dX11_holds_58 : decode cX11_holds 58 = .ok (.imul, 1) := by decide +kernel
theorem dX11_holds_59 : decode cX11_holds 59 = .ok (.iload_n 2, 1) := by decide +kernel
theorem dX11_holds_60 : decode cX11_holds 60 = .ok (.iadd, 1) := by decide +kernel
theorem dX11_holds_61 : decode cX11_holds 61 = .ok (.iaload, 1) := by decide +kernel
theorem dX11_holds_62 : decode cX11_holds 62 = .ok (.aload_n 0, 1) := by decide +kernel
theorem dX11_holds_63 : decode cX11_holds 63 = .ok (.getfield 16, 3) := by decide +kernel
theorem dX11_holds_66 : decode cX11_holds 66 = .ok (.bipush 60, 2) := by decide +kernel
theorem dX11_holds_68 : decode cX11_holds 68 = .ok (.iload_n 2, 1) := by decide +kernel
theorem dX11_holds_69 : decode cX11_holds 69 = .ok (.imul, 1) := by decide +kernel
theorem dX11_holds_70 : decode cX11_holds 70 = .ok (.iload_n 3, 1) := by decide +kernel
theorem dX11_holds_71 : decode cX11_holds 71 = .ok (.iadd, 1) := by decide +kernel
theorem dX11_holds_72 : decode cX11_holds 72 = .ok (.iaload, 1) := by decide +kernel
theorem dX11_holds_73 : decode cX11_holds 73 = .ok (.iadd, 1) := by decide +kernel
theorem dX11_holds_74 : decode cX11_holds 74 = .ok (.if_icmp .gt 6, 3) := by decide +kernel
theorem dX11_holds_77 : decode cX11_holds 77 = .ok (.goto 26, 3) := by decide +kernel
theorem dX11_holds_80 : decode cX11_holds 80 = .ok (.aload_n 0, 1) := by decide +kernel
theorem dX11_holds_81 : decode cX11_holds 81 = .ok (.getfield 32, 3) := by decide +kernel
theorem dX11_holds_84 : decode cX11_holds 84 = .ok (.iconst 0, 1) := by decide +kernel
theorem dX11_holds_85 : decode cX11_holds 85 = .ok (.iload_n 1, 1) := by decide +kernel
theorem dX11_holds_86 : decode cX11_holds 86 = .ok (.iastore, 1) := by decide +kernel
theorem dX11_holds_87 : decode cX11_holds 87 = .ok (.aload_n 0, 1) := by decide +kernel
theorem dX11_holds_88 : decode cX11_holds 88 = .ok (.getfield 32, 3) := by decide +kernel
theorem dX11_holds_91 : decode cX11_holds 91 = .ok (.iconst 1, 1) := by decide +kernel
theorem dX11_holds_92 : decode cX11_holds 92 = .ok (.iload_n 2, 1) := by decide +kernel
theorem dX11_holds_93 : decode cX11_holds 93 = .ok (.iastore, 1) := by decide +kernel
theorem dX11_holds_94 : decode cX11_holds 94 = .ok (.aload_n 0, 1) := by decide +kernel
theorem dX11_holds_95 : decode cX11_holds 95 = .ok (.getfield 32, 3) := by decide +kernel
theorem dX11_holds_98 : decode cX11_holds 98 = .ok (.iconst 2, 1) := by decide +kernel
theorem dX11_holds_99 : decode cX11_holds 99 = .ok (.iload_n 3, 1) := by decide +kernel
theorem dX11_holds_100 : decode cX11_holds 100 = .ok (.iastore, 1) := by decide +kernel
theorem dX11_holds_101 : decode cX11_holds 101 = .ok (.iconst 0, 1) := by decide +kernel
theorem dX11_holds_102 : decode cX11_holds 102 = .ok (.ireturn, 1) := by decide +kernel
theorem dX11_holds_103 : decode cX11_holds 103 = .ok (.iinc 3 1, 3) := by decide +kernel
theorem dX11_holds_106 : decode cX11_holds 106 = .ok (.goto (-74), 3) := by decide +kernel
theorem dX11_holds_109 : decode cX11_holds 109 = .ok (.iinc 2 1, 3) := by decide +kernel
theorem dX11_holds_112 : decode cX11_holds 112 = .ok (.goto (-90), 3) := by decide +kernel
theorem dX11_holds_115 : decode cX11_holds 115 = .ok (.iinc 1 1, 3) := by decide +kernel
theorem dX11_holds_118 : decode cX11_holds 118 = .ok (.goto (-106), 3) := by decide +kernel
theorem dX11_holds_121 : decode cX11_holds 121 = .ok (.iconst 1, 1) := by decide +kernel
theorem dX11_holds_122 : decode cX11_holds 122 = .ok (.ireturn, 1) := by decide +kernel
theorem dX11_law_0 : decode cX11_law 0 = .ok (.aload_n 0, 1) := by decide +kernel
theorem dX11_law_1 : decode cX11_law 1 = .ok (.invokevirtual 89, 3) := by decide +kernel
theorem dX11_law_4 : decode cX11_law 4 = .ok (.ifCond .eq 7, 3) := by decide +kernel
theorem dX11_law_7 : decode cX11_law 7 = .ok (.iconst 1, 1) := by decide +kernel
theorem dX11_law_8 : decode cX11_law 8 = .ok (.goto 4, 3) := by decide +kernel
theorem dX11_law_11 : decode cX11_law 11 = .ok (.iconst 0, 1) := by decide +kernel
theorem dX11_law_12 : decode cX11_law 12 = .ok (.ireturn, 1) := by decide +kernel
theorem dX11_three_0 : decode cX11_three 0 = .ok (.aload_n 0, 1) := by decide +kernel
theorem dX11_three_1 : decode cX11_three 1 = .ok (.invokevirtual 89, 3) := by decide +kernel
theorem dX11_three_4 : decode cX11_three 4 = .ok (.ifCond .ne 12, 3) := by decide +kernel
theorem dX11_three_7 : decode cX11_three 7 = .ok (.iload_n 1, 1) := by decide +kernel
theorem dX11_three_8 : decode cX11_three 8 = .ok (.iconst 0, 1) := by decide +kernel
theorem dX11_three_9 : decode cX11_three 9 = .ok (.iconst 2, 1) := by decide +kernel
theorem dX11_three_10 : decode cX11_three 10 = .ok (.invokestatic 54, 3) := by decide +kernel
theorem dX11_three_13 : decode cX11_three 13 = .ok (.ifCond .ne 7, 3) := by decide +kernel
theorem dX11_three_16 : decode cX11_three 16 = .ok (.iconst (-1), 1) := by decide +kernel
theorem dX11_three_17 : decode cX11_three 17 = .ok (.goto 9, 3) := by decide +kernel
theorem dX11_three_20 : decode cX11_three 20 = .ok (.aload_n 0, 1) := by decide +kernel
theorem dX11_three_21 : decode cX11_three 21 = .ok (.getfield 32, 3) := by decide +kernel
theorem dX11_three_24 : decode cX11_three 24 = .ok (.iload_n 1, 1) := by decide +kernel
theorem dX11_three_25 : decode cX11_three 25 = .ok (.iaload, 1) := by decide +kernel
theorem dX11_three_26 : decode cX11_three 26 = .ok (.ireturn, 1) := by decide +kernel
theorem dX11_put_0 : decode cX11_put 0 = .ok (.aload_n 0, 1) := by decide +kernel
theorem dX11_put_1 : decode cX11_put 1 = .ok (.iload_n 1, 1) := by decide +kernel
theorem dX11_put_2 : decode cX11_put 2 = .ok (.invokevirtual 58, 3) := by decide +kernel
theorem dX11_put_5 : decode cX11_put 5 = .ok (.ifCond .eq 12, 3) := by decide +kernel
theorem dX11_put_8 : decode cX11_put 8 = .ok (.aload_n 0, 1) := by decide +kernel
theorem dX11_put_9 : decode cX11_put 9 = .ok (.getfield 19, 3) := by decide +kernel
theorem dX11_put_12 : decode cX11_put 12 = .ok (.iload_n 1, 1) := by decide +kernel
theorem dX11_put_13 : decode cX11_put 13 = .ok (.baload, 1) := by decide +kernel
theorem dX11_put_14 : decode cX11_put 14 = .ok (.ifCond .eq 5, 3) := by decide +kernel
theorem dX11_put_17 : decode cX11_put 17 = .ok (.iconst 0, 1) := by decide +kernel
theorem dX11_put_18 : decode cX11_put 18 = .ok (.ireturn, 1) := by decide +kernel
theorem dX11_put_19 : decode cX11_put 19 = .ok (.aload_n 0, 1) := by decide +kernel
theorem dX11_put_20 : decode cX11_put 20 = .ok (.getfield 19, 3) := by decide +kernel
theorem dX11_put_23 : decode cX11_put 23 = .ok (.iload_n 1, 1) := by decide +kernel
theorem dX11_put_24 : decode cX11_put 24 = .ok (.iconst 1, 1) := by decide +kernel
theorem dX11_put_25 : decode cX11_put 25 = .ok (.bastore, 1) := by decide +kernel
theorem dX11_put_26 : decode cX11_put 26 = .ok (.iconst 1, 1) := by decide +kernel
theorem dX11_put_27 : decode cX11_put 27 = .ok (.ireturn, 1) := by decide +kernel
theorem dX11_drop_0 : decode cX11_drop 0 = .ok (.aload_n 0, 1) := by decide +kernel
theorem dX11_drop_1 : decode cX11_drop 1 = .ok (.iload_n 1, 1) := by decide +kernel
theorem dX11_drop_2 : decode cX11_drop 2 = .ok (.invokevirtual 58, 3) := by decide +kernel
theorem dX11_drop_5 : decode cX11_drop 5 = .ok (.ifCond .eq 12, 3) := by decide +kernel
theorem dX11_drop_8 : decode cX11_drop 8 = .ok (.aload_n 0, 1) := by decide +kernel
theorem dX11_drop_9 : decode cX11_drop 9 = .ok (.getfield 19, 3) := by decide +kernel
theorem dX11_drop_12 : decode cX11_drop 12 = .ok (.iload_n 1, 1) := by decide +kernel
theorem dX11_drop_13 : decode cX11_drop 13 = .ok (.baload, 1) := by decide +kernel
theorem dX11_drop_14 : decode cX11_drop 14 = .ok (.ifCond .ne 5, 3) := by decide +kernel
theorem dX11_drop_17 : decode cX11_drop 17 = .ok (.iconst 0, 1) := by decide +kernel
theorem dX11_drop_18 : decode cX11_drop 18 = .ok (.ireturn, 1) := by decide +kernel
theorem dX11_drop_19 : decode cX11_drop 19 = .ok (.aload_n 0, 1) := by decide +kernel
theorem dX11_drop_20 : decode cX11_drop 20 = .ok (.getfield 19, 3) := by decide +kernel
theorem dX11_drop_23 : decode cX11_drop 23 = .ok (.iload_n 1, 1) := by decide +kernel
theorem dX11_drop_24 : decode cX11_drop 24 = .ok (.iconst 0, 1) := by decide +kernel
theorem dX11_drop_25 : decode cX11_drop 25 = .ok (.bastore, 1) := by decide +kernel
theorem dX11_drop_26 : decode cX11_drop 26 = .ok (.iconst 1, 1) := by decide +kernel
theorem dX11_drop_27 : decode cX11_drop 27 = .ok (.ireturn, 1) := by decide +kernel
theorem dX11_has__0 : decode cX11_has_ 0 = .ok (.aload_n 0, 1) := by decide +kernel
theorem dX11_has__1 : decode cX11_has_ 1 = .ok (.iload_n 1, 1) := by decide +kernel
theorem dX11_has__2 : decode cX11_has_ 2 = .ok (.invokevirtual 58, 3) := by decide +kernel
theorem dX11_has__5 : decode cX11_has_ 5 = .ok (.ifCond .ne 7, 3) := by decide +kernel
theorem dX11_has__8 : decode cX11_has_ 8 = .ok (.iconst (-1), 1) := by decide +kernel
theorem dX11_has__9 : decode cX11_has_ 9 = .ok (.goto 17, 3) := by decide +kernel
theorem dX11_has__12 : decode cX11_has_ 12 = .ok (.aload_n 0, 1) := by decide +kernel
theorem dX11_has__13 : decode cX11_has_ 13 = .ok (.getfield 19, 3) := by decide +kernel
theorem dX11_has__16 : decode cX11_has_ 16 = .ok (.iload_n 1, 1) := by decide +kernel
theorem dX11_has__17 : decode cX11_has_ 17 = .ok (.baload, 1) := by decide +kernel
theorem dX11_has__18 : decode cX11_has_ 18 = .ok (.ifCond .eq 7, 3) := by decide +kernel
theorem dX11_has__21 : decode cX11_has_ 21 = .ok (.iconst 1, 1) := by decide +kernel
theorem dX11_has__22 : decode cX11_has_ 22 = .ok (.goto 4, 3) := by decide +kernel
theorem dX11_has__25 : decode cX11_has_ 25 = .ok (.iconst 0, 1) := by decide +kernel
theorem dX11_has__26 : decode cX11_has_ 26 = .ok (.ireturn, 1) := by decide +kernel
theorem dX11_inBook_0 : decode cX11_inBook 0 = .ok (.iconst 0, 1) := by decide +kernel
theorem dX11_inBook_1 : decode cX11_inBook 1 = .ok (.istore_n 1, 1) := by decide +kernel
theorem dX11_inBook_2 : decode cX11_inBook 2 = .ok (.iconst 0, 1) := by decide +kernel
theorem dX11_inBook_3 : decode cX11_inBook 3 = .ok (.istore_n 2, 1) := by decide +kernel
theorem dX11_inBook_4 : decode cX11_inBook 4 = .ok (.iload_n 2, 1) := by decide +kernel
theorem dX11_inBook_5 : decode cX11_inBook 5 = .ok (.aload_n 0, 1) := by decide +kernel
theorem dX11_inBook_6 : decode cX11_inBook 6 = .ok (.getfield 50, 3) := by decide +kernel
theorem dX11_inBook_9 : decode cX11_inBook 9 = .ok (.if_icmp .ge 26, 3) := by decide +kernel
theorem dX11_inBook_12 : decode cX11_inBook 12 = .ok (.iload_n 1, 1) := by decide +kernel
theorem dX11_inBook_13 : decode cX11_inBook 13 = .ok (.aload_n 0, 1) := by decide +kernel
theorem dX11_inBook_14 : decode cX11_inBook 14 = .ok (.getfield 19, 3) := by decide +kernel
theorem dX11_inBook_17 : decode cX11_inBook 17 = .ok (.iload_n 2, 1) := by decide +kernel
theorem dX11_inBook_18 : decode cX11_inBook 18 = .ok (.baload, 1) := by decide +kernel
theorem dX11_inBook_19 : decode cX11_inBook 19 = .ok (.ifCond .eq 7, 3) := by decide +kernel
theorem dX11_inBook_22 : decode cX11_inBook 22 = .ok (.iconst 1, 1) := by decide +kernel
theorem dX11_inBook_23 : decode cX11_inBook 23 = .ok (.goto 4, 3) := by decide +kernel
theorem dX11_inBook_26 : decode cX11_inBook 26 = .ok (.iconst 0, 1) := by decide +kernel
theorem dX11_inBook_27 : decode cX11_inBook 27 = .ok (.iadd, 1) := by decide +kernel
theorem dX11_inBook_28 : decode cX11_inBook 28 = .ok (.istore_n 1, 1) := by decide +kernel
theorem dX11_inBook_29 : decode cX11_inBook 29 = .ok (.iinc 2 1, 3) := by decide +kernel
theorem dX11_inBook_32 : decode cX11_inBook 32 = .ok (.goto (-28), 3) := by decide +kernel
theorem dX11_inBook_35 : decode cX11_inBook 35 = .ok (.iload_n 1, 1) := by decide +kernel
theorem dX11_inBook_36 : decode cX11_inBook 36 = .ok (.ireturn, 1) := by decide +kernel
theorem dX11_takesNone_0 : decode cX11_takesNone 0 = .ok (.iconst 0, 1) := by decide +kernel
theorem dX11_takesNone_1 : decode cX11_takesNone 1 = .ok (.istore_n 1, 1) := by decide +kernel
theorem dX11_takesNone_2 : decode cX11_takesNone 2 = .ok (.iload_n 1, 1) := by decide +kernel
theorem dX11_takesNone_3 : decode cX11_takesNone 3 = .ok (.bipush 60, 2) := by decide +kernel
theorem dX11_takesNone_5 : decode cX11_takesNone 5 = .ok (.if_icmp .ge 16, 3) := by decide +kernel
theorem dX11_takesNone_8 : decode cX11_takesNone 8 = .ok (.aload_n 0, 1) := by decide +kernel
theorem dX11_takesNone_9 : decode cX11_takesNone 9 = .ok (.getfield 35, 3) := by decide +kernel
theorem dX11_takesNone_12 : decode cX11_takesNone 12 = .ok (.iload_n 1, 1) := by decide +kernel
theorem dX11_takesNone_13 : decode cX11_takesNone 13 = .ok (.iconst 0, 1) := by decide +kernel
theorem dX11_takesNone_14 : decode cX11_takesNone 14 = .ok (.bastore, 1) := by decide +kernel
theorem dX11_takesNone_15 : decode cX11_takesNone 15 = .ok (.iinc 1 1, 3) := by decide +kernel
theorem dX11_takesNone_18 : decode cX11_takesNone 18 = .ok (.goto (-16), 3) := by decide +kernel
theorem dX11_takesNone_21 : decode cX11_takesNone 21 = .ok (.return_, 1) := by decide +kernel
theorem dX11_gives_0 : decode cX11_gives 0 = .ok (.aload_n 0, 1) := by decide +kernel
theorem dX11_gives_1 : decode cX11_gives 1 = .ok (.getfield 23, 3) := by decide +kernel
theorem dX11_gives_4 : decode cX11_gives 4 = .ok (.aload_n 0, 1) := by decide +kernel
theorem dX11_gives_5 : decode cX11_gives 5 = .ok (.getfield 93, 3) := by decide +kernel
theorem dX11_gives_8 : decode cX11_gives 8 = .ok (.iload_n 1, 1) := by decide +kernel
theorem dX11_gives_9 : decode cX11_gives 9 = .ok (.iastore, 1) := by decide +kernel
theorem dX11_gives_10 : decode cX11_gives 10 = .ok (.aload_n 0, 1) := by decide +kernel
theorem dX11_gives_11 : decode cX11_gives 11 = .ok (.getfield 26, 3) := by decide +kernel
theorem dX11_gives_14 : decode cX11_gives 14 = .ok (.aload_n 0, 1) := by decide +kernel
theorem dX11_gives_15 : decode cX11_gives 15 = .ok (.getfield 93, 3) := by decide +kernel
theorem dX11_gives_18 : decode cX11_gives 18 = .ok (.iload_n 2, 1) := by decide +kernel
theorem dX11_gives_19 : decode cX11_gives 19 = .ok (.iastore, 1) := by decide +kernel
theorem dX11_gives_20 : decode cX11_gives 20 = .ok (.aload_n 0, 1) := by decide +kernel
theorem dX11_gives_21 : decode cX11_gives 21 = .ok (.dup, 1) := by decide +kernel
theorem dX11_gives_22 : decode cX11_gives 22 = .ok (.getfield 93, 3) := by decide +kernel
theorem dX11_gives_25 : decode cX11_gives 25 = .ok (.iconst 1, 1) := by decide +kernel
theorem dX11_gives_26 : decode cX11_gives 26 = .ok (.iadd, 1) := by decide +kernel
theorem dX11_gives_27 : decode cX11_gives 27 = .ok (.putfield 93, 3) := by decide +kernel
theorem dX11_gives_30 : decode cX11_gives 30 = .ok (.aload_n 0, 1) := by decide +kernel
theorem dX11_gives_31 : decode cX11_gives 31 = .ok (.getfield 35, 3) := by decide +kernel
theorem dX11_gives_34 : decode cX11_gives 34 = .ok (.iload_n 1, 1) := by decide +kernel
theorem dX11_gives_35 : decode cX11_gives 35 = .ok (.iconst 1, 1) := by decide +kernel
theorem dX11_gives_36 : decode cX11_gives 36 = .ok (.bastore, 1) := by decide +kernel
theorem dX11_gives_37 : decode cX11_gives 37 = .ok (.return_, 1) := by decide +kernel
theorem dX11_next_0 : decode cX11_next 0 = .ok (.iconst (-1), 1) := by decide +kernel
theorem dX11_next_1 : decode cX11_next 1 = .ok (.istore_n 3, 1) := by decide +kernel
theorem dX11_next_2 : decode cX11_next 2 = .ok (.iconst 0, 1) := by decide +kernel
theorem dX11_next_3 : decode cX11_next 3 = .ok (.istore 4, 2) := by decide +kernel
theorem dX11_next_5 : decode cX11_next 5 = .ok (.iload 4, 2) := by decide +kernel
theorem dX11_next_7 : decode cX11_next 7 = .ok (.aload_n 0, 1) := by decide +kernel
theorem dX11_next_8 : decode cX11_next 8 = .ok (.getfield 50, 3) := by decide +kernel
theorem dX11_next_11 : decode cX11_next 11 = .ok (.if_icmp .ge 79, 3) := by decide +kernel
theorem dX11_next_14 : decode cX11_next 14 = .ok (.aload_n 0, 1) := by decide +kernel
theorem dX11_next_15 : decode cX11_next 15 = .ok (.getfield 19, 3) := by decide +kernel
theorem dX11_next_18 : decode cX11_next 18 = .ok (.iload 4, 2) := by decide +kernel
theorem dX11_next_20 : decode cX11_next 20 = .ok (.baload, 1) := by decide +kernel
theorem dX11_next_21 : decode cX11_next 21 = .ok (.ifCond .eq 63, 3) := by decide +kernel
theorem dX11_next_24 : decode cX11_next 24 = .ok (.aload_n 0, 1) := by decide +kernel
theorem dX11_next_25 : decode cX11_next 25 = .ok (.getfield 35, 3) := by decide +kernel
theorem dX11_next_28 : decode cX11_next 28 = .ok (.iload 4, 2) := by decide +kernel
theorem dX11_next_30 : decode cX11_next 30 = .ok (.baload, 1) := by decide +kernel
theorem dX11_next_31 : decode cX11_next 31 = .ok (.ifCond .eq 6, 3) := by decide +kernel
theorem dX11_next_34 : decode cX11_next 34 = .ok (.goto 50, 3) := by decide +kernel
theorem dX11_next_37 : decode cX11_next 37 = .ok (.iload_n 3, 1) := by decide +kernel
theorem dX11_next_38 : decode cX11_next 38 = .ok (.iconst (-1), 1) := by decide +kernel
theorem dX11_next_39 : decode cX11_next 39 = .ok (.if_icmp .eq 42, 3) := by decide +kernel
theorem dX11_next_42 : decode cX11_next 42 = .ok (.iload_n 2, 1) := by decide +kernel
theorem dX11_next_43 : decode cX11_next 43 = .ok (.ifCond .eq 22, 3) := by decide +kernel
theorem dX11_next_46 : decode cX11_next 46 = .ok (.aload_n 0, 1) := by decide +kernel
theorem dX11_next_47 : decode cX11_next 47 = .ok (.iload_n 1, 1) := by decide +kernel
theorem dX11_next_48 : decode cX11_next 48 = .ok (.iload 4, 2) := by decide +kernel
theorem dX11_next_50 : decode cX11_next 50 = .ok (.invokevirtual 86, 3) := by decide +kernel
theorem dX11_next_53 : decode cX11_next 53 = .ok (.aload_n 0, 1) := by decide +kernel
theorem dX11_next_54 : decode cX11_next 54 = .ok (.iload_n 1, 1) := by decide +kernel
theorem dX11_next_55 : decode cX11_next 55 = .ok (.iload_n 3, 1) := by decide +kernel
theorem dX11_next_56 : decode cX11_next 56 = .ok (.invokevirtual 86, 3) := by decide +kernel
theorem dX11_next_59 : decode cX11_next 59 = .ok (.if_icmp .ge 25, 3) := by decide +kernel
theorem dX11_next_62 : decode cX11_next 62 = .ok (.goto 19, 3) := by decide +kernel
theorem dX11_next_65 : decode cX11_next 65 = .ok (.aload_n 0, 1) := by decide +kernel
theorem dX11_next_66 : decode cX11_next 66 = .ok (.iload_n 1, 1) := by decide +kernel
theorem dX11_next_67 : decode cX11_next 67 = .ok (.iload 4, 2) := by decide +kernel
theorem dX11_next_69 : decode cX11_next 69 = .ok (.invokevirtual 86, 3) := by decide +kernel
theorem dX11_next_72 : decode cX11_next 72 = .ok (.aload_n 0, 1) := by decide +kernel
theorem dX11_next_73 : decode cX11_next 73 = .ok (.iload_n 1, 1) := by decide +kernel
theorem dX11_next_74 : decode cX11_next 74 = .ok (.iload_n 3, 1) := by decide +kernel
theorem dX11_next_75 : decode cX11_next 75 = .ok (.invokevirtual 86, 3) := by decide +kernel
theorem dX11_next_78 : decode cX11_next 78 = .ok (.if_icmp .le 6, 3) := by decide +kernel
theorem dX11_next_81 : decode cX11_next 81 = .ok (.iload 4, 2) := by decide +kernel
theorem dX11_next_83 : decode cX11_next 83 = .ok (.istore_n 3, 1) := by decide +kernel
theorem dX11_next_84 : decode cX11_next 84 = .ok (.iinc 4 1, 3) := by decide +kernel
theorem dX11_next_87 : decode cX11_next 87 = .ok (.goto (-82), 3) := by decide +kernel
theorem dX11_next_90 : decode cX11_next 90 = .ok (.iload_n 3, 1) := by decide +kernel
theorem dX11_next_91 : decode cX11_next 91 = .ok (.ireturn, 1) := by decide +kernel
theorem dX11_those_0 : decode cX11_those 0 = .ok (.aload_n 0, 1) := by decide +kernel
theorem dX11_those_1 : decode cX11_those 1 = .ok (.invokevirtual 96, 3) := by decide +kernel
theorem dX11_those_4 : decode cX11_those 4 = .ok (.aload_n 0, 1) := by decide +kernel
theorem dX11_those_5 : decode cX11_those 5 = .ok (.iconst 0, 1) := by decide +kernel
theorem dX11_those_6 : decode cX11_those 6 = .ok (.putfield 93, 3) := by decide +kernel
theorem dX11_those_9 : decode cX11_those 9 = .ok (.aload_n 0, 1) := by decide +kernel
theorem dX11_those_10 : decode cX11_those 10 = .ok (.iload_n 1, 1) := by decide +kernel
theorem dX11_those_11 : decode cX11_those 11 = .ok (.iload_n 3, 1) := by decide +kernel
theorem dX11_those_12 : decode cX11_those 12 = .ok (.invokevirtual 99, 3) := by decide +kernel
theorem dX11_those_15 : decode cX11_those 15 = .ok (.istore 5, 2) := by decide +kernel
theorem dX11_those_17 : decode cX11_those 17 = .ok (.iload 5, 2) := by decide +kernel
theorem dX11_those_19 : decode cX11_those 19 = .ok (.iconst (-1), 1) := by decide +kernel
theorem dX11_those_20 : decode cX11_those 20 = .ok (.if_icmp .eq 47, 3) := by decide +kernel
theorem dX11_those_23 : decode cX11_those 23 = .ok (.aload_n 0, 1) := by decide +kernel
theorem dX11_those_24 : decode cX11_those 24 = .ok (.getfield 93, 3) := by decide +kernel
theorem dX11_those_27 : decode cX11_those 27 = .ok (.iload_n 2, 1) := by decide +kernel
theorem dX11_those_28 : decode cX11_those 28 = .ok (.if_icmp .ge 39, 3) := by decide +kernel
theorem dX11_those_31 : decode cX11_those 31 = .ok (.aload_n 0, 1) := by decide +kernel
theorem dX11_those_32 : decode cX11_those 32 = .ok (.iload_n 1, 1) := by decide +kernel
theorem dX11_those_33 : decode cX11_those 33 = .ok (.iload 5, 2) := by decide +kernel
theorem dX11_those_35 : decode cX11_those 35 = .ok (.invokevirtual 86, 3) := by decide +kernel
theorem dX11_those_38 : decode cX11_those 38 = .ok (.iload 4, 2) := by decide +kernel
theorem dX11_those_40 : decode cX11_those 40 = .ok (.if_icmp .gt 27, 3) := by decide +kernel
theorem dX11_those_43 : decode cX11_those 43 = .ok (.aload_n 0, 1) := by decide +kernel
theorem dX11_those_44 : decode cX11_those 44 = .ok (.iload 5, 2) := by decide +kernel
theorem dX11_those_46 : decode cX11_those 46 = .ok (.aload_n 0, 1) := by decide +kernel
theorem dX11_those_47 : decode cX11_those 47 = .ok (.iload_n 1, 1) := by decide +kernel
theorem dX11_those_48 : decode cX11_those 48 = .ok (.iload 5, 2) := by decide +kernel
theorem dX11_those_50 : decode cX11_those 50 = .ok (.invokevirtual 86, 3) := by decide +kernel
theorem dX11_those_53 : decode cX11_those 53 = .ok (.invokevirtual 103, 3) := by decide +kernel
theorem dX11_those_56 : decode cX11_those 56 = .ok (.aload_n 0, 1) := by decide +kernel
theorem dX11_those_57 : decode cX11_those 57 = .ok (.iload_n 1, 1) := by decide +kernel
theorem dX11_those_58 : decode cX11_those 58 = .ok (.iload_n 3, 1) := by decide +kernel
theorem dX11_those_59 : decode cX11_those 59 = .ok (.invokevirtual 99, 3) := by decide +kernel
theorem dX11_those_62 : decode cX11_those 62 = .ok (.istore 5, 2) := by decide +kernel
theorem dX11_those_64 : decode cX11_those 64 = .ok (.goto (-47), 3) := by decide +kernel
theorem dX11_those_67 : decode cX11_those 67 = .ok (.aload_n 0, 1) := by decide +kernel
theorem dX11_those_68 : decode cX11_those 68 = .ok (.getfield 93, 3) := by decide +kernel
theorem dX11_those_71 : decode cX11_those 71 = .ok (.ireturn, 1) := by decide +kernel
theorem dX11_nearest_0 : decode cX11_nearest 0 = .ok (.aload_n 0, 1) := by decide +kernel
theorem dX11_nearest_1 : decode cX11_nearest 1 = .ok (.iload_n 1, 1) := by decide +kernel
theorem dX11_nearest_2 : decode cX11_nearest 2 = .ok (.invokevirtual 58, 3) := by decide +kernel
theorem dX11_nearest_5 : decode cX11_nearest 5 = .ok (.ifCond .eq 32, 3) := by decide +kernel
theorem dX11_nearest_8 : decode cX11_nearest 8 = .ok (.iload_n 2, 1) := by decide +kernel
theorem dX11_nearest_9 : decode cX11_nearest 9 = .ok (.iconst 1, 1) := by decide +kernel
theorem dX11_nearest_10 : decode cX11_nearest 10 = .ok (.bipush 60, 2) := by decide +kernel
theorem dX11_nearest_12 : decode cX11_nearest 12 = .ok (.invokestatic 54, 3) := by decide +kernel
theorem dX11_nearest_15 : decode cX11_nearest 15 = .ok (.ifCond .eq 22, 3) := by decide +kernel
theorem dX11_nearest_18 : decode cX11_nearest 18 = .ok (.aload_n 0, 1) := by decide +kernel
theorem dX11_nearest_19 : decode cX11_nearest 19 = .ok (.invokevirtual 89, 3) := by decide +kernel
theorem dX11_nearest_22 : decode cX11_nearest 22 = .ok (.ifCond .eq 15, 3) := by decide +kernel
theorem dX11_nearest_25 : decode cX11_nearest 25 = .ok (.aload_n 0, 1) := by decide +kernel
theorem dX11_nearest_26 : decode cX11_nearest 26 = .ok (.iload_n 1, 1) := by decide +kernel
theorem dX11_nearest_27 : decode cX11_nearest 27 = .ok (.iload_n 2, 1) := by decide +kernel
theorem dX11_nearest_28 : decode cX11_nearest 28 = .ok (.iconst 1, 1) := by decide +kernel
theorem dX11_nearest_29 : decode cX11_nearest 29 = .ok (.ldc 107, 2) := by decide +kernel
theorem dX11_nearest_31 : decode cX11_nearest 31 = .ok (.invokevirtual 108, 3) := by decide +kernel
theorem dX11_nearest_34 : decode cX11_nearest 34 = .ok (.goto 4, 3) := by decide +kernel
theorem dX11_nearest_37 : decode cX11_nearest 37 = .ok (.iconst (-1), 1) := by decide +kernel
theorem dX11_nearest_38 : decode cX11_nearest 38 = .ok (.ireturn, 1) := by decide +kernel
theorem dX11_within_0 : decode cX11_within 0 = .ok (.aload_n 0, 1) := by decide +kernel
theorem dX11_within_1 : decode cX11_within 1 = .ok (.iload_n 1, 1) := by decide +kernel
theorem dX11_within_2 : decode cX11_within 2 = .ok (.invokevirtual 58, 3) := by decide +kernel
theorem dX11_within_5 : decode cX11_within 5 = .ok (.ifCond .eq 26, 3) := by decide +kernel
theorem dX11_within_8 : decode cX11_within 8 = .ok (.iload_n 2, 1) := by decide +kernel
theorem dX11_within_9 : decode cX11_within 9 = .ok (.ifCond .lt 22, 3) := by decide +kernel
theorem dX11_within_12 : decode cX11_within 12 = .ok (.aload_n 0, 1) := by decide +kernel
theorem dX11_within_13 : decode cX11_within 13 = .ok (.invokevirtual 89, 3) := by decide +kernel
theorem dX11_within_16 : decode cX11_within 16 = .ok (.ifCond .eq 15, 3) := by decide +kernel
theorem dX11_within_19 : decode cX11_within 19 = .ok (.aload_n 0, 1) := by decide +kernel
theorem dX11_within_20 : decode cX11_within 20 = .ok (.iload_n 1, 1) := by decide +kernel
theorem dX11_within_21 : decode cX11_within 21 = .ok (.bipush 60, 2) := by decide +kernel
theorem dX11_within_23 : decode cX11_within 23 = .ok (.iconst 1, 1) := by decide +kernel
theorem dX11_within_24 : decode cX11_within 24 = .ok (.iload_n 2, 1) := by decide +kernel
theorem dX11_within_25 : decode cX11_within 25 = .ok (.invokevirtual 108, 3) := by decide +kernel
theorem dX11_within_28 : decode cX11_within 28 = .ok (.goto 4, 3) := by decide +kernel
theorem dX11_within_31 : decode cX11_within 31 = .ok (.iconst (-1), 1) := by decide +kernel
theorem dX11_within_32 : decode cX11_within 32 = .ok (.ireturn, 1) := by decide +kernel
theorem dX11_farthest_0 : decode cX11_farthest 0 = .ok (.aload_n 0, 1) := by decide +kernel
theorem dX11_farthest_1 : decode cX11_farthest 1 = .ok (.iload_n 1, 1) := by decide +kernel
theorem dX11_farthest_2 : decode cX11_farthest 2 = .ok (.invokevirtual 58, 3) := by decide +kernel
theorem dX11_farthest_5 : decode cX11_farthest 5 = .ok (.ifCond .eq 32, 3) := by decide +kernel
theorem dX11_farthest_8 : decode cX11_farthest 8 = .ok (.iload_n 2, 1) := by decide +kernel
theorem dX11_farthest_9 : decode cX11_farthest 9 = .ok (.iconst 1, 1) := by decide +kernel
theorem dX11_farthest_10 : decode cX11_farthest 10 = .ok (.bipush 60, 2) := by decide +kernel
theorem dX11_farthest_12 : decode cX11_farthest 12 = .ok (.invokestatic 54, 3) := by decide +kernel
theorem dX11_farthest_15 : decode cX11_farthest 15 = .ok (.ifCond .eq 22, 3) := by decide +kernel
theorem dX11_farthest_18 : decode cX11_farthest 18 = .ok (.aload_n 0, 1) := by decide +kernel
theorem dX11_farthest_19 : decode cX11_farthest 19 = .ok (.invokevirtual 89, 3) := by decide +kernel
theorem dX11_farthest_22 : decode cX11_farthest 22 = .ok (.ifCond .eq 15, 3) := by decide +kernel
theorem dX11_farthest_25 : decode cX11_farthest 25 = .ok (.aload_n 0, 1) := by decide +kernel
theorem dX11_farthest_26 : decode cX11_farthest 26 = .ok (.iload_n 1, 1) := by decide +kernel
theorem dX11_farthest_27 : decode cX11_farthest 27 = .ok (.iload_n 2, 1) := by decide +kernel
theorem dX11_farthest_28 : decode cX11_farthest 28 = .ok (.iconst 0, 1) := by decide +kernel
theorem dX11_farthest_29 : decode cX11_farthest 29 = .ok (.ldc 107, 2) := by decide +kernel
theorem dX11_farthest_31 : decode cX11_farthest 31 = .ok (.invokevirtual 108, 3) := by decide +kernel
theorem dX11_farthest_34 : decode cX11_farthest 34 = .ok (.goto 4, 3) := by decide +kernel
theorem dX11_farthest_37 : decode cX11_farthest 37 = .ok (.iconst (-1), 1) := by decide +kernel
theorem dX11_farthest_38 : decode cX11_farthest 38 = .ok (.ireturn, 1) := by decide +kernel
theorem dX11_result_0 : decode cX11_result 0 = .ok (.iload_n 1, 1) := by decide +kernel
theorem dX11_result_1 : decode cX11_result 1 = .ok (.iconst 0, 1) := by decide +kernel
theorem dX11_result_2 : decode cX11_result 2 = .ok (.aload_n 0, 1) := by decide +kernel
theorem dX11_result_3 : decode cX11_result 3 = .ok (.getfield 93, 3) := by decide +kernel
theorem dX11_result_6 : decode cX11_result 6 = .ok (.iconst 1, 1) := by decide +kernel
theorem dX11_result_7 : decode cX11_result 7 = .ok (.isub, 1) := by decide +kernel
theorem dX11_result_8 : decode cX11_result 8 = .ok (.invokestatic 54, 3) := by decide +kernel
theorem dX11_result_11 : decode cX11_result 11 = .ok (.ifCond .ne 7, 3) := by decide +kernel
theorem dX11_result_14 : decode cX11_result 14 = .ok (.iconst (-1), 1) := by decide +kernel
theorem dX11_result_15 : decode cX11_result 15 = .ok (.goto 31, 3) := by decide +kernel
theorem dX11_result_18 : decode cX11_result 18 = .ok (.iload_n 2, 1) := by decide +kernel
theorem dX11_result_19 : decode cX11_result 19 = .ok (.ifCond .ne 12, 3) := by decide +kernel
theorem dX11_result_22 : decode cX11_result 22 = .ok (.aload_n 0, 1) := by decide +kernel
theorem dX11_result_23 : decode cX11_result 23 = .ok (.getfield 23, 3) := by decide +kernel
theorem dX11_result_26 : decode cX11_result 26 = .ok (.iload_n 1, 1) := by decide +kernel
theorem dX11_result_27 : decode cX11_result 27 = .ok (.iaload, 1) := by decide +kernel
theorem dX11_result_28 : decode cX11_result 28 = .ok (.goto 18, 3) := by decide +kernel
theorem dX11_result_31 : decode cX11_result 31 = .ok (.iload_n 2, 1) := by decide +kernel
theorem dX11_result_32 : decode cX11_result 32 = .ok (.iconst 1, 1) := by decide +kernel
theorem dX11_result_33 : decode cX11_result 33 = .ok (.if_icmp .ne 12, 3) := by decide +kernel
theorem dX11_result_36 : decode cX11_result 36 = .ok (.aload_n 0, 1) := by decide +kernel
theorem dX11_result_37 : decode cX11_result 37 = .ok (.getfield 26, 3) := by decide +kernel
theorem dX11_result_40 : decode cX11_result 40 = .ok (.iload_n 1, 1) := by decide +kernel
theorem dX11_result_41 : decode cX11_result 41 = .ok (.iaload, 1) := by decide +kernel
theorem dX11_result_42 : decode cX11_result 42 = .ok (.goto 4, 3) := by decide +kernel
theorem dX11_result_45 : decode cX11_result 45 = .ok (.iconst (-1), 1) := by decide +kernel
theorem dX11_result_46 : decode cX11_result 46 = .ok (.ireturn, 1) := by decide +kernel
theorem dX11_closest_0 : decode cX11_closest 0 = .ok (.iload_n 1, 1) := by decide +kernel
theorem dX11_closest_1 : decode cX11_closest 1 = .ok (.iconst 0, 1) := by decide +kernel
theorem dX11_closest_2 : decode cX11_closest 2 = .ok (.iconst 2, 1) := by decide +kernel
theorem dX11_closest_3 : decode cX11_closest 3 = .ok (.invokestatic 54, 3) := by decide +kernel
theorem dX11_closest_6 : decode cX11_closest 6 = .ok (.ifCond .eq 18, 3) := by decide +kernel
theorem dX11_closest_9 : decode cX11_closest 9 = .ok (.aload_n 0, 1) := by decide +kernel
theorem dX11_closest_10 : decode cX11_closest 10 = .ok (.invokevirtual 112, 3) := by decide +kernel
theorem dX11_closest_13 : decode cX11_closest 13 = .ok (.iconst 2, 1) := by decide +kernel
theorem dX11_closest_14 : decode cX11_closest 14 = .ok (.if_icmp .lt 10, 3) := by decide +kernel
theorem dX11_closest_17 : decode cX11_closest 17 = .ok (.aload_n 0, 1) := by decide +kernel
theorem dX11_closest_18 : decode cX11_closest 18 = .ok (.invokevirtual 89, 3) := by decide +kernel
theorem dX11_closest_21 : decode cX11_closest 21 = .ok (.ifCond .ne 5, 3) := by decide +kernel
theorem dX11_closest_24 : decode cX11_closest 24 = .ok (.iconst (-1), 1) := by decide +kernel
theorem dX11_closest_25 : decode cX11_closest 25 = .ok (.ireturn, 1) := by decide +kernel
theorem dX11_closest_26 : decode cX11_closest 26 = .ok (.iconst (-1), 1) := by decide +kernel
theorem dX11_closest_27 : decode cX11_closest 27 = .ok (.istore_n 2, 1) := by decide +kernel
theorem dX11_closest_28 : decode cX11_closest 28 = .ok (.iconst (-1), 1) := by decide +kernel
theorem dX11_closest_29 : decode cX11_closest 29 = .ok (.istore_n 3, 1) := by decide +kernel
theorem dX11_closest_30 : decode cX11_closest 30 = .ok (.iconst 0, 1) := by decide +kernel
theorem dX11_closest_31 : decode cX11_closest 31 = .ok (.istore 4, 2) := by decide +kernel
theorem dX11_closest_33 : decode cX11_closest 33 = .ok (.iload 4, 2) := by decide +kernel
theorem dX11_closest_35 : decode cX11_closest 35 = .ok (.aload_n 0, 1) := by decide +kernel
theorem dX11_closest_36 : decode cX11_closest 36 = .ok (.getfield 50, 3) := by decide +kernel
theorem dX11_closest_39 : decode cX11_closest 39 = .ok (.if_icmp .ge 81, 3) := by decide +kernel
theorem dX11_closest_42 : decode cX11_closest 42 = .ok (.iload 4, 2) := by decide +kernel
theorem dX11_closest_44 : decode cX11_closest 44 = .ok (.iconst 1, 1) := by decide +kernel
theorem dX11_closest_45 : decode cX11_closest 45 = .ok (.iadd, 1) := by decide +kernel
theorem dX11_closest_46 : decode cX11_closest 46 = .ok (.istore 5, 2) := by decide +kernel
theorem dX11_closest_48 : decode cX11_closest 48 = .ok (.iload 5, 2) := by decide +kernel
theorem dX11_closest_50 : decode cX11_closest 50 = .ok (.aload_n 0, 1) := by decide +kernel
theorem dX11_closest_51 : decode cX11_closest 51 = .ok (.getfield 50, 3) := by decide +kernel
theorem dX11_closest_54 : decode cX11_closest 54 = .ok (.if_icmp .ge 60, 3) := by decide +kernel
theorem dX11_closest_57 : decode cX11_closest 57 = .ok (.aload_n 0, 1) := by decide +kernel
theorem dX11_closest_58 : decode cX11_closest 58 = .ok (.getfield 19, 3) := by decide +kernel
theorem dX11_closest_61 : decode cX11_closest 61 = .ok (.iload 4, 2) := by decide +kernel
theorem dX11_closest_63 : decode cX11_closest 63 = .ok (.baload, 1) := by decide +kernel
theorem dX11_closest_64 : decode cX11_closest 64 = .ok (.ifCond .eq 44, 3) := by decide +kernel
theorem dX11_closest_67 : decode cX11_closest 67 = .ok (.aload_n 0, 1) := by decide +kernel
theorem dX11_closest_68 : decode cX11_closest 68 = .ok (.getfield 19, 3) := by decide +kernel
theorem dX11_closest_71 : decode cX11_closest 71 = .ok (.iload 5, 2) := by decide +kernel
theorem dX11_closest_73 : decode cX11_closest 73 = .ok (.baload, 1) := by decide +kernel
theorem dX11_closest_74 : decode cX11_closest 74 = .ok (.ifCond .eq 34, 3) := by decide +kernel
theorem dX11_closest_77 : decode cX11_closest 77 = .ok (.iload_n 2, 1) := by decide +kernel
theorem dX11_closest_78 : decode cX11_closest 78 = .ok (.iconst (-1), 1) := by decide +kernel
theorem dX11_closest_79 : decode cX11_closest 79 = .ok (.if_icmp .eq 23, 3) := by decide +kernel
theorem dX11_closest_82 : decode cX11_closest 82 = .ok (.aload_n 0, 1) := by decide +kernel
theorem dX11_closest_83 : decode cX11_closest 83 = .ok (.iload 4, 2) := by decide +kernel
theorem dX11_closest_85 : decode cX11_closest 85 = .ok (.iload 5, 2) := by decide +kernel
theorem dX11_closest_87 : decode cX11_closest 87 = .ok (.invokevirtual 86, 3) := by decide +kernel
theorem dX11_closest_90 : decode cX11_closest 90 = .ok (.aload_n 0, 1) := by decide +kernel
theorem dX11_closest_91 : decode cX11_closest 91 = .ok (.iload_n 2, 1) := by decide +kernel
theorem dX11_closest_92 : decode cX11_closest 92 = .ok (.iload_n 3, 1) := by decide +kernel
theorem dX11_closest_93 : decode cX11_closest 93 = .ok (.invokevirtual 86, 3) := by decide +kernel
theorem dX11_closest_96 : decode cX11_closest 96 = .ok (.if_icmp .lt 6, 3) := by decide +kernel
theorem dX11_closest_99 : decode cX11_closest 99 = .ok (.goto 9, 3) := by decide +kernel
theorem dX11_closest_102 : decode cX11_closest 102 = .ok (.iload 4, 2) := by decide +kernel
theorem dX11_closest_104 : decode cX11_closest 104 = .ok (.istore_n 2, 1) := by decide +kernel
theorem dX11_closest_105 : decode cX11_closest 105 = .ok (.iload 5, 2) := by decide +kernel
theorem dX11_closest_107 : decode cX11_closest 107 = .ok (.istore_n 3, 1) := by decide +kernel
theorem dX11_closest_108 : decode cX11_closest 108 = .ok (.iinc 5 1, 3) := by decide +kernel
theorem dX11_closest_111 : decode cX11_closest 111 = .ok (.goto (-63), 3) := by decide +kernel
theorem dX11_closest_114 : decode cX11_closest 114 = .ok (.iinc 4 1, 3) := by decide +kernel
theorem dX11_closest_117 : decode cX11_closest 117 = .ok (.goto (-84), 3) := by decide +kernel
theorem dX11_closest_120 : decode cX11_closest 120 = .ok (.iload_n 1, 1) := by decide +kernel
theorem dX11_closest_121 : decode cX11_closest 121 = .ok (.ifCond .ne 7, 3) := by decide +kernel
theorem dX11_closest_124 : decode cX11_closest 124 = .ok (.iload_n 2, 1) := by decide +kernel
theorem dX11_closest_125 : decode cX11_closest 125 = .ok (.goto 18, 3) := by decide +kernel
theorem dX11_closest_128 : decode cX11_closest 128 = .ok (.iload_n 1, 1) := by decide +kernel
theorem dX11_closest_129 : decode cX11_closest 129 = .ok (.iconst 1, 1) := by decide +kernel
theorem dX11_closest_130 : decode cX11_closest 130 = .ok (.if_icmp .ne 7, 3) := by decide +kernel
theorem dX11_closest_133 : decode cX11_closest 133 = .ok (.iload_n 3, 1) := by decide +kernel
theorem dX11_closest_134 : decode cX11_closest 134 = .ok (.goto 9, 3) := by decide +kernel
theorem dX11_closest_137 : decode cX11_closest 137 = .ok (.aload_n 0, 1) := by decide +kernel
theorem dX11_closest_138 : decode cX11_closest 138 = .ok (.iload_n 2, 1) := by decide +kernel
theorem dX11_closest_139 : decode cX11_closest 139 = .ok (.iload_n 3, 1) := by decide +kernel
theorem dX11_closest_140 : decode cX11_closest 140 = .ok (.invokevirtual 86, 3) := by decide +kernel
theorem dX11_closest_143 : decode cX11_closest 143 = .ok (.ireturn, 1) := by decide +kernel
theorem dX11_fromResults_0 : decode cX11_fromResults 0 = .ok (.ldc 107, 2) := by decide +kernel
theorem dX11_fromResults_2 : decode cX11_fromResults 2 = .ok (.istore_n 2, 1) := by decide +kernel
theorem dX11_fromResults_3 : decode cX11_fromResults 3 = .ok (.iconst 0, 1) := by decide +kernel
theorem dX11_fromResults_4 : decode cX11_fromResults 4 = .ok (.istore_n 3, 1) := by decide +kernel
theorem dX11_fromResults_5 : decode cX11_fromResults 5 = .ok (.iload_n 3, 1) := by decide +kernel
theorem dX11_fromResults_6 : decode cX11_fromResults 6 = .ok (.aload_n 0, 1) := by decide +kernel
theorem dX11_fromResults_7 : decode cX11_fromResults 7 = .ok (.getfield 93, 3) := by decide +kernel
theorem dX11_fromResults_10 : decode cX11_fromResults 10 = .ok (.if_icmp .ge 25, 3) := by decide +kernel
theorem dX11_fromResults_13 : decode cX11_fromResults 13 = .ok (.iload_n 2, 1) := by decide +kernel
theorem dX11_fromResults_14 : decode cX11_fromResults 14 = .ok (.aload_n 0, 1) := by decide +kernel
theorem dX11_fromResults_15 : decode cX11_fromResults 15 = .ok (.iload_n 1, 1) := by decide +kernel
theorem dX11_fromResults_16 : decode cX11_fromResults 16 = .ok (.aload_n 0, 1) := by decide +kernel
theorem dX11_fromResults_17 : decode cX11_fromResults 17 = .ok (.getfield 23, 3) := by decide +kernel
theorem dX11_fromResults_20 : decode cX11_fromResults 20 = .ok (.iload_n 3, 1) := by decide +kernel
theorem dX11_fromResults_21 : decode cX11_fromResults 21 = .ok (.iaload, 1) := by decide +kernel
theorem dX11_fromResults_22 : decode cX11_fromResults 22 = .ok (.invokevirtual 86, 3) := by decide +kernel
theorem dX11_fromResults_25 : decode cX11_fromResults 25 = .ok (.invokestatic 66, 3) := by decide +kernel
theorem dX11_fromResults_28 : decode cX11_fromResults 28 = .ok (.istore_n 2, 1) := by decide +kernel
theorem dX11_fromResults_29 : decode cX11_fromResults 29 = .ok (.iinc 3 1, 3) := by decide +kernel
theorem dX11_fromResults_32 : decode cX11_fromResults 32 = .ok (.goto (-27), 3) := by decide +kernel
theorem dX11_fromResults_35 : decode cX11_fromResults 35 = .ok (.iload_n 2, 1) := by decide +kernel
theorem dX11_fromResults_36 : decode cX11_fromResults 36 = .ok (.ireturn, 1) := by decide +kernel
theorem dX11_radius_0 : decode cX11_radius 0 = .ok (.iconst 0, 1) := by decide +kernel
theorem dX11_radius_1 : decode cX11_radius 1 = .ok (.istore_n 1, 1) := by decide +kernel
theorem dX11_radius_2 : decode cX11_radius 2 = .ok (.iconst 0, 1) := by decide +kernel
theorem dX11_radius_3 : decode cX11_radius 3 = .ok (.istore_n 2, 1) := by decide +kernel
theorem dX11_radius_4 : decode cX11_radius 4 = .ok (.iload_n 2, 1) := by decide +kernel
theorem dX11_radius_5 : decode cX11_radius 5 = .ok (.aload_n 0, 1) := by decide +kernel
theorem dX11_radius_6 : decode cX11_radius 6 = .ok (.getfield 50, 3) := by decide +kernel
theorem dX11_radius_9 : decode cX11_radius 9 = .ok (.if_icmp .ge 39, 3) := by decide +kernel
theorem dX11_radius_12 : decode cX11_radius 12 = .ok (.aload_n 0, 1) := by decide +kernel
theorem dX11_radius_13 : decode cX11_radius 13 = .ok (.getfield 19, 3) := by decide +kernel
theorem dX11_radius_16 : decode cX11_radius 16 = .ok (.iload_n 2, 1) := by decide +kernel
theorem dX11_radius_17 : decode cX11_radius 17 = .ok (.baload, 1) := by decide +kernel
theorem dX11_radius_18 : decode cX11_radius 18 = .ok (.ifCond .eq 11, 3) := by decide +kernel
theorem dX11_radius_21 : decode cX11_radius 21 = .ok (.aload_n 0, 1) := by decide +kernel
theorem dX11_radius_22 : decode cX11_radius 22 = .ok (.iload_n 2, 1) := by decide +kernel
theorem dX11_radius_23 : decode cX11_radius 23 = .ok (.invokevirtual 116, 3) := by decide +kernel
theorem dX11_radius_26 : decode cX11_radius 26 = .ok (.goto 4, 3) := by decide +kernel
theorem dX11_radius_29 : decode cX11_radius 29 = .ok (.iconst 0, 1) := by decide +kernel
theorem dX11_radius_30 : decode cX11_radius 30 = .ok (.istore_n 3, 1) := by decide +kernel
theorem dX11_radius_31 : decode cX11_radius 31 = .ok (.iload_n 3, 1) := by decide +kernel
theorem dX11_radius_32 : decode cX11_radius 32 = .ok (.iload_n 1, 1) := by decide +kernel
theorem dX11_radius_33 : decode cX11_radius 33 = .ok (.if_icmp .le 7, 3) := by decide +kernel
theorem dX11_radius_36 : decode cX11_radius 36 = .ok (.iload_n 3, 1) := by decide +kernel
theorem dX11_radius_37 : decode cX11_radius 37 = .ok (.goto 4, 3) := by decide +kernel
theorem dX11_radius_40 : decode cX11_radius 40 = .ok (.iload_n 1, 1) := by decide +kernel
theorem dX11_radius_41 : decode cX11_radius 41 = .ok (.istore_n 1, 1) := by decide +kernel
theorem dX11_radius_42 : decode cX11_radius 42 = .ok (.iinc 2 1, 3) := by decide +kernel
theorem dX11_radius_45 : decode cX11_radius 45 = .ok (.goto (-41), 3) := by decide +kernel
theorem dX11_radius_48 : decode cX11_radius 48 = .ok (.iload_n 1, 1) := by decide +kernel
theorem dX11_radius_49 : decode cX11_radius 49 = .ok (.ireturn, 1) := by decide +kernel
theorem dX11_centres_0 : decode cX11_centres 0 = .ok (.iload_n 1, 1) := by decide +kernel
theorem dX11_centres_1 : decode cX11_centres 1 = .ok (.iconst 1, 1) := by decide +kernel
theorem dX11_centres_2 : decode cX11_centres 2 = .ok (.bipush 60, 2) := by decide +kernel
theorem dX11_centres_4 : decode cX11_centres 4 = .ok (.invokestatic 54, 3) := by decide +kernel
theorem dX11_centres_7 : decode cX11_centres 7 = .ok (.ifCond .eq 17, 3) := by decide +kernel
theorem dX11_centres_10 : decode cX11_centres 10 = .ok (.aload_n 0, 1) := by decide +kernel
theorem dX11_centres_11 : decode cX11_centres 11 = .ok (.invokevirtual 112, 3) := by decide +kernel
theorem dX11_centres_14 : decode cX11_centres 14 = .ok (.ifCond .eq 10, 3) := by decide +kernel
theorem dX11_centres_17 : decode cX11_centres 17 = .ok (.aload_n 0, 1) := by decide +kernel
theorem dX11_centres_18 : decode cX11_centres 18 = .ok (.invokevirtual 89, 3) := by decide +kernel
theorem dX11_centres_21 : decode cX11_centres 21 = .ok (.ifCond .ne 5, 3) := by decide +kernel
theorem dX11_centres_24 : decode cX11_centres 24 = .ok (.iconst (-1), 1) := by decide +kernel
theorem dX11_centres_25 : decode cX11_centres 25 = .ok (.ireturn, 1) := by decide +kernel
theorem dX11_centres_26 : decode cX11_centres 26 = .ok (.aload_n 0, 1) := by decide +kernel
theorem dX11_centres_27 : decode cX11_centres 27 = .ok (.invokevirtual 96, 3) := by decide +kernel
theorem dX11_centres_30 : decode cX11_centres 30 = .ok (.aload_n 0, 1) := by decide +kernel
theorem dX11_centres_31 : decode cX11_centres 31 = .ok (.iconst 0, 1) := by decide +kernel
theorem dX11_centres_32 : decode cX11_centres 32 = .ok (.putfield 93, 3) := by decide +kernel
theorem dX11_centres_35 : decode cX11_centres 35 = .ok (.iconst 0, 1) := by decide +kernel
theorem dX11_centres_36 : decode cX11_centres 36 = .ok (.istore_n 2, 1) := by decide +kernel
theorem dX11_centres_37 : decode cX11_centres 37 = .ok (.aload_n 0, 1) := by decide +kernel
theorem dX11_centres_38 : decode cX11_centres 38 = .ok (.getfield 19, 3) := by decide +kernel
theorem dX11_centres_41 : decode cX11_centres 41 = .ok (.iload_n 2, 1) := by decide +kernel
theorem dX11_centres_42 : decode cX11_centres 42 = .ok (.baload, 1) := by decide +kernel
theorem dX11_centres_43 : decode cX11_centres 43 = .ok (.ifCond .ne 9, 3) := by decide +kernel
theorem dX11_centres_46 : decode cX11_centres 46 = .ok (.iinc 2 1, 3) := by decide +kernel
theorem dX11_centres_49 : decode cX11_centres 49 = .ok (.goto (-12), 3) := by decide +kernel
theorem dX11_centres_52 : decode cX11_centres 52 = .ok (.aload_n 0, 1) := by decide +kernel
theorem dX11_centres_53 : decode cX11_centres 53 = .ok (.iload_n 2, 1) := by decide +kernel
theorem dX11_centres_54 : decode cX11_centres 54 = .ok (.iconst 0, 1) := by decide +kernel
theorem dX11_centres_55 : decode cX11_centres 55 = .ok (.invokevirtual 103, 3) := by decide +kernel
theorem dX11_centres_58 : decode cX11_centres 58 = .ok (.aload_n 0, 1) := by decide +kernel
theorem dX11_centres_59 : decode cX11_centres 59 = .ok (.getfield 93, 3) := by decide +kernel
theorem dX11_centres_62 : decode cX11_centres 62 = .ok (.iload_n 1, 1) := by decide +kernel
theorem dX11_centres_63 : decode cX11_centres 63 = .ok (.if_icmp .ge 89, 3) := by decide +kernel
theorem dX11_centres_66 : decode cX11_centres 66 = .ok (.aload_n 0, 1) := by decide +kernel
theorem dX11_centres_67 : decode cX11_centres 67 = .ok (.getfield 93, 3) := by decide +kernel
theorem dX11_centres_70 : decode cX11_centres 70 = .ok (.aload_n 0, 1) := by decide +kernel
theorem dX11_centres_71 : decode cX11_centres 71 = .ok (.invokevirtual 112, 3) := by decide +kernel
theorem dX11_centres_74 : decode cX11_centres 74 = .ok (.if_icmp .ge 78, 3) := by decide +kernel
theorem dX11_centres_77 : decode cX11_centres 77 = .ok (.iconst (-1), 1) := by decide +kernel
theorem dX11_centres_78 : decode cX11_centres 78 = .ok (.istore_n 3, 1) := by decide +kernel
theorem dX11_centres_79 : decode cX11_centres 79 = .ok (.iconst 0, 1) := by decide +kernel
theorem dX11_centres_80 : decode cX11_centres 80 = .ok (.istore 4, 2) := by decide +kernel
theorem dX11_centres_82 : decode cX11_centres 82 = .ok (.iload 4, 2) := by decide +kernel
theorem dX11_centres_84 : decode cX11_centres 84 = .ok (.aload_n 0, 1) := by decide +kernel
theorem dX11_centres_85 : decode cX11_centres 85 = .ok (.getfield 50, 3) := by decide +kernel
theorem dX11_centres_88 : decode cX11_centres 88 = .ok (.if_icmp .ge 51, 3) := by decide +kernel
theorem dX11_centres_91 : decode cX11_centres 91 = .ok (.aload_n 0, 1) := by decide +kernel
theorem dX11_centres_92 : decode cX11_centres 92 = .ok (.getfield 19, 3) := by decide +kernel
theorem dX11_centres_95 : decode cX11_centres 95 = .ok (.iload 4, 2) := by decide +kernel
theorem dX11_centres_97 : decode cX11_centres 97 = .ok (.baload, 1) := by decide +kernel
theorem dX11_centres_98 : decode cX11_centres 98 = .ok (.ifCond .eq 35, 3) := by decide +kernel
theorem dX11_centres_101 : decode cX11_centres 101 = .ok (.aload_n 0, 1) := by decide +kernel
theorem dX11_centres_102 : decode cX11_centres 102 = .ok (.getfield 35, 3) := by decide +kernel
theorem dX11_centres_105 : decode cX11_centres 105 = .ok (.iload 4, 2) := by decide +kernel
theorem dX11_centres_107 : decode cX11_centres 107 = .ok (.baload, 1) := by decide +kernel
theorem dX11_centres_108 : decode cX11_centres 108 = .ok (.ifCond .ne 25, 3) := by decide +kernel
theorem dX11_centres_111 : decode cX11_centres 111 = .ok (.iload_n 3, 1) := by decide +kernel
theorem dX11_centres_112 : decode cX11_centres 112 = .ok (.iconst (-1), 1) := by decide +kernel
theorem dX11_centres_113 : decode cX11_centres 113 = .ok (.if_icmp .eq 17, 3) := by decide +kernel
theorem dX11_centres_116 : decode cX11_centres 116 = .ok (.aload_n 0, 1) := by decide +kernel
theorem dX11_centres_117 : decode cX11_centres 117 = .ok (.iload 4, 2) := by decide +kernel
theorem dX11_centres_119 : decode cX11_centres 119 = .ok (.invokevirtual 116, 3) := by decide +kernel
theorem dX11_centres_122 : decode cX11_centres 122 = .ok (.aload_n 0, 1) := by decide +kernel
theorem dX11_centres_123 : decode cX11_centres 123 = .ok (.iload_n 3, 1) := by decide +kernel
theorem dX11_centres_124 : decode cX11_centres 124 = .ok (.invokevirtual 116, 3) := by decide +kernel
theorem dX11_centres_127 : decode cX11_centres 127 = .ok (.if_icmp .le 6, 3) := by decide +kernel
theorem dX11_centres_130 : decode cX11_centres 130 = .ok (.iload 4, 2) := by decide +kernel
theorem dX11_centres_132 : decode cX11_centres 132 = .ok (.istore_n 3, 1) := by decide +kernel
theorem dX11_centres_133 : decode cX11_centres 133 = .ok (.iinc 4 1, 3) := by decide +kernel
theorem dX11_centres_136 : decode cX11_centres 136 = .ok (.goto (-54), 3) := by decide +kernel
theorem dX11_centres_139 : decode cX11_centres 139 = .ok (.aload_n 0, 1) := by decide +kernel
theorem dX11_centres_140 : decode cX11_centres 140 = .ok (.iload_n 3, 1) := by decide +kernel
theorem dX11_centres_141 : decode cX11_centres 141 = .ok (.aload_n 0, 1) := by decide +kernel
theorem dX11_centres_142 : decode cX11_centres 142 = .ok (.iload_n 3, 1) := by decide +kernel
theorem dX11_centres_143 : decode cX11_centres 143 = .ok (.invokevirtual 116, 3) := by decide +kernel
theorem dX11_centres_146 : decode cX11_centres 146 = .ok (.invokevirtual 103, 3) := by decide +kernel
theorem dX11_centres_149 : decode cX11_centres 149 = .ok (.goto (-91), 3) := by decide +kernel
theorem dX11_centres_152 : decode cX11_centres 152 = .ok (.aload_n 0, 1) := by decide +kernel
theorem dX11_centres_153 : decode cX11_centres 153 = .ok (.invokevirtual 119, 3) := by decide +kernel
theorem dX11_centres_156 : decode cX11_centres 156 = .ok (.ireturn, 1) := by decide +kernel
theorem dX11_radiusOf_0 : decode cX11_radiusOf 0 = .ok (.iconst 0, 1) := by decide +kernel
theorem dX11_radiusOf_1 : decode cX11_radiusOf 1 = .ok (.istore 4, 2) := by decide +kernel
theorem dX11_radiusOf_3 : decode cX11_radiusOf 3 = .ok (.iconst 0, 1) := by decide +kernel
theorem dX11_radiusOf_4 : decode cX11_radiusOf 4 = .ok (.istore 5, 2) := by decide +kernel
theorem dX11_radiusOf_6 : decode cX11_radiusOf 6 = .ok (.iload 5, 2) := by decide +kernel
theorem dX11_radiusOf_8 : decode cX11_radiusOf 8 = .ok (.aload_n 0, 1) := by decide +kernel
theorem dX11_radiusOf_9 : decode cX11_radiusOf 9 = .ok (.getfield 50, 3) := by decide +kernel
theorem dX11_radiusOf_12 : decode cX11_radiusOf 12 = .ok (.if_icmp .ge 82, 3) := by decide +kernel
theorem dX11_radiusOf_15 : decode cX11_radiusOf 15 = .ok (.aload_n 0, 1) := by decide +kernel
theorem dX11_radiusOf_16 : decode cX11_radiusOf 16 = .ok (.getfield 19, 3) := by decide +kernel
theorem dX11_radiusOf_19 : decode cX11_radiusOf 19 = .ok (.iload 5, 2) := by decide +kernel
theorem dX11_radiusOf_21 : decode cX11_radiusOf 21 = .ok (.baload, 1) := by decide +kernel
theorem dX11_radiusOf_22 : decode cX11_radiusOf 22 = .ok (.ifCond .ne 6, 3) := by decide +kernel
theorem dX11_radiusOf_25 : decode cX11_radiusOf 25 = .ok (.goto 63, 3) := by decide +kernel
theorem dX11_radiusOf_28 : decode cX11_radiusOf 28 = .ok (.aload_n 0, 1) := by decide +kernel
theorem dX11_radiusOf_29 : decode cX11_radiusOf 29 = .ok (.getfield 38, 3) := by decide +kernel
theorem dX11_radiusOf_32 : decode cX11_radiusOf 32 = .ok (.bipush 60, 2) := by decide +kernel
theorem dX11_radiusOf_34 : decode cX11_radiusOf 34 = .ok (.iload 5, 2) := by decide +kernel
theorem dX11_radiusOf_36 : decode cX11_radiusOf 36 = .ok (.imul, 1) := by decide +kernel
theorem dX11_radiusOf_37 : decode cX11_radiusOf 37 = .ok (.iload_n 1, 1) := by decide +kernel
theorem dX11_radiusOf_38 : decode cX11_radiusOf 38 = .ok (.iadd, 1) := by decide +kernel
theorem dX11_radiusOf_39 : decode cX11_radiusOf 39 = .ok (.iaload, 1) := by decide +kernel
theorem dX11_radiusOf_40 : decode cX11_radiusOf 40 = .ok (.aload_n 0, 1) := by decide +kernel
theorem dX11_radiusOf_41 : decode cX11_radiusOf 41 = .ok (.getfield 38, 3) := by decide +kernel
theorem dX11_radiusOf_44 : decode cX11_radiusOf 44 = .ok (.bipush 60, 2) := by decide +kernel
theorem dX11_radiusOf_46 : decode cX11_radiusOf 46 = .ok (.iload 5, 2) := by decide +kernel
theorem dX11_radiusOf_48 : decode cX11_radiusOf 48 = .ok (.imul, 1) := by decide +kernel
theorem dX11_radiusOf_49 : decode cX11_radiusOf 49 = .ok (.iload_n 2, 1) := by decide +kernel
theorem dX11_radiusOf_50 : decode cX11_radiusOf 50 = .ok (.iadd, 1) := by decide +kernel
theorem dX11_radiusOf_51 : decode cX11_radiusOf 51 = .ok (.iaload, 1) := by decide +kernel
theorem dX11_radiusOf_52 : decode cX11_radiusOf 52 = .ok (.aload_n 0, 1) := by decide +kernel
theorem dX11_radiusOf_53 : decode cX11_radiusOf 53 = .ok (.getfield 38, 3) := by decide +kernel
theorem dX11_radiusOf_56 : decode cX11_radiusOf 56 = .ok (.bipush 60, 2) := by decide +kernel
theorem dX11_radiusOf_58 : decode cX11_radiusOf 58 = .ok (.iload 5, 2) := by decide +kernel
theorem dX11_radiusOf_60 : decode cX11_radiusOf 60 = .ok (.imul, 1) := by decide +kernel
theorem dX11_radiusOf_61 : decode cX11_radiusOf 61 = .ok (.iload_n 3, 1) := by decide +kernel
theorem dX11_radiusOf_62 : decode cX11_radiusOf 62 = .ok (.iadd, 1) := by decide +kernel
theorem dX11_radiusOf_63 : decode cX11_radiusOf 63 = .ok (.iaload, 1) := by decide +kernel
theorem dX11_radiusOf_64 : decode cX11_radiusOf 64 = .ok (.invokestatic 66, 3) := by decide +kernel
theorem dX11_radiusOf_67 : decode cX11_radiusOf 67 = .ok (.invokestatic 66, 3) := by decide +kernel
theorem dX11_radiusOf_70 : decode cX11_radiusOf 70 = .ok (.istore 6, 2) := by decide +kernel
theorem dX11_radiusOf_72 : decode cX11_radiusOf 72 = .ok (.iload 6, 2) := by decide +kernel
theorem dX11_radiusOf_74 : decode cX11_radiusOf 74 = .ok (.iload 4, 2) := by decide +kernel
theorem dX11_radiusOf_76 : decode cX11_radiusOf 76 = .ok (.if_icmp .le 8, 3) := by decide +kernel
theorem dX11_radiusOf_79 : decode cX11_radiusOf 79 = .ok (.iload 6, 2) := by decide +kernel
theorem dX11_radiusOf_81 : decode cX11_radiusOf 81 = .ok (.goto 5, 3) := by decide +kernel
theorem dX11_radiusOf_84 : decode cX11_radiusOf 84 = .ok (.iload 4, 2) := by decide +kernel
theorem dX11_radiusOf_86 : decode cX11_radiusOf 86 = .ok (.istore 4, 2) := by decide +kernel
theorem dX11_radiusOf_88 : decode cX11_radiusOf 88 = .ok (.iinc 5 1, 3) := by decide +kernel
theorem dX11_radiusOf_91 : decode cX11_radiusOf 91 = .ok (.goto (-85), 3) := by decide +kernel
theorem dX11_radiusOf_94 : decode cX11_radiusOf 94 = .ok (.iload 4, 2) := by decide +kernel
theorem dX11_radiusOf_96 : decode cX11_radiusOf 96 = .ok (.ireturn, 1) := by decide +kernel
theorem dX11_best_0 : decode cX11_best 0 = .ok (.iload_n 1, 1) := by decide +kernel
theorem dX11_best_1 : decode cX11_best 1 = .ok (.iconst 1, 1) := by decide +kernel
theorem dX11_best_2 : decode cX11_best 2 = .ok (.iconst 3, 1) := by decide +kernel
theorem dX11_best_3 : decode cX11_best 3 = .ok (.invokestatic 54, 3) := by decide +kernel
theorem dX11_best_6 : decode cX11_best 6 = .ok (.ifCond .eq 18, 3) := by decide +kernel
theorem dX11_best_9 : decode cX11_best 9 = .ok (.aload_n 0, 1) := by decide +kernel
theorem dX11_best_10 : decode cX11_best 10 = .ok (.invokevirtual 112, 3) := by decide +kernel
theorem dX11_best_13 : decode cX11_best 13 = .ok (.iload_n 1, 1) := by decide +kernel
theorem dX11_best_14 : decode cX11_best 14 = .ok (.if_icmp .lt 10, 3) := by decide +kernel
theorem dX11_best_17 : decode cX11_best 17 = .ok (.aload_n 0, 1) := by decide +kernel
theorem dX11_best_18 : decode cX11_best 18 = .ok (.invokevirtual 89, 3) := by decide +kernel
theorem dX11_best_21 : decode cX11_best 21 = .ok (.ifCond .ne 5, 3) := by decide +kernel
theorem dX11_best_24 : decode cX11_best 24 = .ok (.iconst (-1), 1) := by decide +kernel
theorem dX11_best_25 : decode cX11_best 25 = .ok (.ireturn, 1) := by decide +kernel
theorem dX11_best_26 : decode cX11_best 26 = .ok (.iconst 0, 1) := by decide +kernel
theorem dX11_best_27 : decode cX11_best 27 = .ok (.istore_n 2, 1) := by decide +kernel
theorem dX11_best_28 : decode cX11_best 28 = .ok (.iload_n 2, 1) := by decide +kernel
theorem dX11_best_29 : decode cX11_best 29 = .ok (.aload_n 0, 1) := by decide +kernel
theorem dX11_best_30 : decode cX11_best 30 = .ok (.getfield 50, 3) := by decide +kernel
theorem dX11_best_33 : decode cX11_best 33 = .ok (.if_icmp .ge 42, 3) := by decide +kernel
theorem dX11_best_36 : decode cX11_best 36 = .ok (.iconst 0, 1) := by decide +kernel
theorem dX11_best_37 : decode cX11_best 37 = .ok (.istore_n 3, 1) := by decide +kernel
theorem dX11_best_38 : decode cX11_best 38 = .ok (.iload_n 3, 1) := by decide +kernel
theorem dX11_best_39 : decode cX11_best 39 = .ok (.aload_n 0, 1) := by decide +kernel
theorem dX11_best_40 : decode cX11_best 40 = .ok (.getfield 50, 3) := by decide +kernel
theorem dX11_best_43 : decode cX11_best 43 = .ok (.if_icmp .ge 26, 3) := by decide +kernel
theorem dX11_best_46 : decode cX11_best 46 = .ok (.aload_n 0, 1) := by decide +kernel
theorem dX11_best_47 : decode cX11_best 47 = .ok (.getfield 38, 3) := by decide +kernel
theorem dX11_best_50 : decode cX11_best 50 = .ok (.bipush 60, 2) := by decide +kernel
theorem dX11_best_52 : decode cX11_best 52 = .ok (.iload_n 2, 1) := by decide +kernel
theorem dX11_best_53 : decode cX11_best 53 = .ok (.imul, 1) := by decide +kernel
theorem dX11_best_54 : decode cX11_best 54 = .ok (.iload_n 3, 1) := by decide +kernel
theorem dX11_best_55 : decode cX11_best 55 = .ok (.iadd, 1) := by decide +kernel
theorem dX11_best_56 : decode cX11_best 56 = .ok (.aload_n 0, 1) := by decide +kernel
theorem dX11_best_57 : decode cX11_best 57 = .ok (.iload_n 2, 1) := by decide +kernel
theorem dX11_best_58 : decode cX11_best 58 = .ok (.iload_n 3, 1) := by decide +kernel
theorem dX11_best_59 : decode cX11_best 59 = .ok (.invokevirtual 86, 3) := by decide +kernel
theorem dX11_best_62 : decode cX11_best 62 = .ok (.iastore, 1) := by decide +kernel
theorem dX11_best_63 : decode cX11_best 63 = .ok (.iinc 3 1, 3) := by decide +kernel
theorem dX11_best_66 : decode cX11_best 66 = .ok (.goto (-28), 3) := by decide +kernel
theorem dX11_best_69 : decode cX11_best 69 = .ok (.iinc 2 1, 3) := by decide +kernel
theorem dX11_best_72 : decode cX11_best 72 = .ok (.goto (-44), 3) := by decide +kernel
theorem dX11_best_75 : decode cX11_best 75 = .ok (.iconst (-1), 1) := by decide +kernel
theorem dX11_best_76 : decode cX11_best 76 = .ok (.istore_n 2, 1) := by decide +kernel
theorem dX11_best_77 : decode cX11_best 77 = .ok (.iconst (-1), 1) := by decide +kernel
theorem dX11_best_78 : decode cX11_best 78 = .ok (.istore_n 3, 1) := by decide +kernel
theorem dX11_best_79 : decode cX11_best 79 = .ok (.iconst (-1), 1) := by decide +kernel
theorem dX11_best_80 : decode cX11_best 80 = .ok (.istore 4, 2) := by decide +kernel
theorem dX11_best_82 : decode cX11_best 82 = .ok (.iconst (-1), 1) := by decide +kernel
theorem dX11_best_83 : decode cX11_best 83 = .ok (.istore 5, 2) := by decide +kernel
theorem dX11_best_85 : decode cX11_best 85 = .ok (.iconst 0, 1) := by decide +kernel
theorem dX11_best_86 : decode cX11_best 86 = .ok (.istore 6, 2) := by decide +kernel
theorem dX11_best_88 : decode cX11_best 88 = .ok (.iload 6, 2) := by decide +kernel
theorem dX11_best_90 : decode cX11_best 90 = .ok (.aload_n 0, 1) := by decide +kernel
theorem dX11_best_91 : decode cX11_best 91 = .ok (.getfield 50, 3) := by decide +kernel
theorem dX11_best_94 : decode cX11_best 94 = .ok (.if_icmp .ge 168, 3) := by decide +kernel
theorem dX11_best_97 : decode cX11_best 97 = .ok (.iload_n 1, 1) := by decide +kernel
theorem dX11_best_98 : decode cX11_best 98 = .ok (.iconst 1, 1) := by decide +kernel
theorem dX11_best_99 : decode cX11_best 99 = .ok (.if_icmp .le 10, 3) := by decide +kernel
theorem dX11_best_102 : decode cX11_best 102 = .ok (.iload 6, 2) := by decide +kernel
theorem dX11_best_104 : decode cX11_best 104 = .ok (.iconst 1, 1) := by decide +kernel
theorem dX11_best_105 : decode cX11_best 105 = .ok (.iadd, 1) := by decide +kernel
theorem dX11_best_106 : decode cX11_best 106 = .ok (.goto 5, 3) := by decide +kernel
theorem dX11_best_109 : decode cX11_best 109 = .ok (.iload 6, 2) := by decide +kernel
theorem dX11_best_111 : decode cX11_best 111 = .ok (.istore 7, 2) := by decide +kernel
theorem dX11_best_113 : decode cX11_best 113 = .ok (.iload 7, 2) := by decide +kernel
theorem dX11_best_115 : decode cX11_best 115 = .ok (.aload_n 0, 1) := by decide +kernel
theorem dX11_best_116 : decode cX11_best 116 = .ok (.getfield 50, 3) := by decide +kernel
theorem dX11_best_119 : decode cX11_best 119 = .ok (.if_icmp .ge 137, 3) := by decide +kernel
theorem dX11_best_122 : decode cX11_best 122 = .ok (.iload_n 1, 1) := by decide +kernel
theorem dX11_best_123 : decode cX11_best 123 = .ok (.iconst 1, 1) := by decide +kernel
theorem dX11_best_124 : decode cX11_best 124 = .ok (.if_icmp .gt 10, 3) := by decide +kernel
theorem dX11_best_127 : decode cX11_best 127 = .ok (.iload 7, 2) := by decide +kernel
theorem dX11_best_129 : decode cX11_best 129 = .ok (.iload 6, 2) := by decide +kernel
theorem dX11_best_131 : decode cX11_best 131 = .ok (.if_icmp .ne 125, 3) := by decide +kernel
theorem dX11_best_134 : decode cX11_best 134 = .ok (.iload_n 1, 1) := by decide +kernel
theorem dX11_best_135 : decode cX11_best 135 = .ok (.iconst 2, 1) := by decide +kernel
theorem dX11_best_136 : decode cX11_best 136 = .ok (.if_icmp .le 10, 3) := by decide +kernel
theorem dX11_best_139 : decode cX11_best 139 = .ok (.iload 7, 2) := by decide +kernel
theorem dX11_best_141 : decode cX11_best 141 = .ok (.iconst 1, 1) := by decide +kernel
theorem dX11_best_142 : decode cX11_best 142 = .ok (.iadd, 1) := by decide +kernel
theorem dX11_best_143 : decode cX11_best 143 = .ok (.goto 5, 3) := by decide +kernel
theorem dX11_best_146 : decode cX11_best 146 = .ok (.iload 7, 2) := by decide +kernel
theorem dX11_best_148 : decode cX11_best 148 = .ok (.istore 8, 2) := by decide +kernel
theorem dX11_best_150 : decode cX11_best 150 = .ok (.iload 8, 2) := by decide +kernel
theorem dX11_best_152 : decode cX11_best 152 = .ok (.aload_n 0, 1) := by decide +kernel
theorem dX11_best_153 : decode cX11_best 153 = .ok (.getfield 50, 3) := by decide +kernel
theorem dX11_best_156 : decode cX11_best 156 = .ok (.if_icmp .ge 94, 3) := by decide +kernel
theorem dX11_best_159 : decode cX11_best 159 = .ok (.iload_n 1, 1) := by decide +kernel
theorem dX11_best_160 : decode cX11_best 160 = .ok (.iconst 2, 1) := by decide +kernel
theorem dX11_best_161 : decode cX11_best 161 = .ok (.if_icmp .gt 10, 3) := by decide +kernel
theorem dX11_best_164 : decode cX11_best 164 = .ok (.iload 8, 2) := by decide +kernel
theorem dX11_best_166 : decode cX11_best 166 = .ok (.iload 7, 2) := by decide +kernel
theorem dX11_best_168 : decode cX11_best 168 = .ok (.if_icmp .ne 82, 3) := by decide +kernel
theorem dX11_best_171 : decode cX11_best 171 = .ok (.aload_n 0, 1) := by decide +kernel
theorem dX11_best_172 : decode cX11_best 172 = .ok (.getfield 19, 3) := by decide +kernel
theorem dX11_best_175 : decode cX11_best 175 = .ok (.iload 6, 2) := by decide +kernel
theorem dX11_best_177 : decode cX11_best 177 = .ok (.baload, 1) := by decide +kernel
theorem dX11_best_178 : decode cX11_best 178 = .ok (.ifCond .eq 66, 3) := by decide +kernel
theorem dX11_best_181 : decode cX11_best 181 = .ok (.aload_n 0, 1) := by decide +kernel
theorem dX11_best_182 : decode cX11_best 182 = .ok (.getfield 19, 3) := by decide +kernel
theorem dX11_best_185 : decode cX11_best 185 = .ok (.iload 7, 2) := by decide +kernel
theorem dX11_best_187 : decode cX11_best 187 = .ok (.baload, 1) := by decide +kernel
theorem dX11_best_188 : decode cX11_best 188 = .ok (.ifCond .eq 56, 3) := by decide +kernel
theorem dX11_best_191 : decode cX11_best 191 = .ok (.aload_n 0, 1) := by decide +kernel
theorem dX11_best_192 : decode cX11_best 192 = .ok (.getfield 19, 3) := by decide +kernel
theorem dX11_best_195 : decode cX11_best 195 = .ok (.iload 8, 2) := by decide +kernel
theorem dX11_best_197 : decode cX11_best 197 = .ok (.baload, 1) := by decide +kernel
theorem dX11_best_198 : decode cX11_best 198 = .ok (.ifCond .ne 6, 3) := by decide +kernel
theorem dX11_best_201 : decode cX11_best 201 = .ok (.goto 43, 3) := by decide +kernel
theorem dX11_best_204 : decode cX11_best 204 = .ok (.aload_n 0, 1) := by decide +kernel
theorem dX11_best_205 : decode cX11_best 205 = .ok (.iload 6, 2) := by decide +kernel
theorem dX11_best_207 : decode cX11_best 207 = .ok (.iload 7, 2) := by decide +kernel
theorem dX11_best_209 : decode cX11_best 209 = .ok (.iload 8, 2) := by decide +kernel
theorem dX11_best_211 : decode cX11_best 211 = .ok (.invokevirtual 122, 3) := by decide +kernel
theorem dX11_best_214 : decode cX11_best 214 = .ok (.istore 9, 2) := by decide +kernel
theorem dX11_best_216 : decode cX11_best 216 = .ok (.iload_n 2, 1) := by decide +kernel
theorem dX11_best_217 : decode cX11_best 217 = .ok (.iconst (-1), 1) := by decide +kernel
theorem dX11_best_218 : decode cX11_best 218 = .ok (.if_icmp .eq 12, 3) := by decide +kernel
theorem dX11_best_221 : decode cX11_best 221 = .ok (.iload 9, 2) := by decide +kernel
theorem dX11_best_223 : decode cX11_best 223 = .ok (.iload_n 2, 1) := by decide +kernel
theorem dX11_best_224 : decode cX11_best 224 = .ok (.if_icmp .lt 6, 3) := by decide +kernel
theorem dX11_best_227 : decode cX11_best 227 = .ok (.goto 17, 3) := by decide +kernel
theorem dX11_best_230 : decode cX11_best 230 = .ok (.iload 9, 2) := by decide +kernel
theorem dX11_best_232 : decode cX11_best 232 = .ok (.istore_n 2, 1) := by decide +kernel
theorem dX11_best_233 : decode cX11_best 233 = .ok (.iload 6, 2) := by decide +kernel
theorem dX11_best_235 : decode cX11_best 235 = .ok (.istore_n 3, 1) := by decide +kernel
theorem dX11_best_236 : decode cX11_best 236 = .ok (.iload 7, 2) := by decide +kernel
theorem dX11_best_238 : decode cX11_best 238 = .ok (.istore 4, 2) := by decide +kernel
theorem dX11_best_240 : decode cX11_best 240 = .ok (.iload 8, 2) := by decide +kernel
theorem dX11_best_242 : decode cX11_best 242 = .ok (.istore 5, 2) := by decide +kernel
theorem dX11_best_244 : decode cX11_best 244 = .ok (.iinc 8 1, 3) := by decide +kernel
theorem dX11_best_247 : decode cX11_best 247 = .ok (.goto (-97), 3) := by decide +kernel
theorem dX11_best_250 : decode cX11_best 250 = .ok (.iinc 7 1, 3) := by decide +kernel
theorem dX11_best_253 : decode cX11_best 253 = .ok (.goto (-140), 3) := by decide +kernel
theorem dX11_best_256 : decode cX11_best 256 = .ok (.iinc 6 1, 3) := by decide +kernel
theorem dX11_best_259 : decode cX11_best 259 = .ok (.goto (-171), 3) := by decide +kernel
theorem dX11_best_262 : decode cX11_best 262 = .ok (.aload_n 0, 1) := by decide +kernel
theorem dX11_best_263 : decode cX11_best 263 = .ok (.iconst 0, 1) := by decide +kernel
theorem dX11_best_264 : decode cX11_best 264 = .ok (.putfield 93, 3) := by decide +kernel
theorem dX11_best_267 : decode cX11_best 267 = .ok (.aload_n 0, 1) := by decide +kernel
theorem dX11_best_268 : decode cX11_best 268 = .ok (.iload_n 3, 1) := by decide +kernel
theorem dX11_best_269 : decode cX11_best 269 = .ok (.iconst 0, 1) := by decide +kernel
theorem dX11_best_270 : decode cX11_best 270 = .ok (.invokevirtual 103, 3) := by decide +kernel
theorem dX11_best_273 : decode cX11_best 273 = .ok (.iload_n 1, 1) := by decide +kernel
theorem dX11_best_274 : decode cX11_best 274 = .ok (.iconst 1, 1) := by decide +kernel
theorem dX11_best_275 : decode cX11_best 275 = .ok (.if_icmp .le 10, 3) := by decide +kernel
theorem dX11_best_278 : decode cX11_best 278 = .ok (.aload_n 0, 1) := by decide +kernel
theorem dX11_best_279 : decode cX11_best 279 = .ok (.iload 4, 2) := by decide +kernel
theorem dX11_best_281 : decode cX11_best 281 = .ok (.iconst 0, 1) := by decide +kernel
theorem dX11_best_282 : decode cX11_best 282 = .ok (.invokevirtual 103, 3) := by decide +kernel
theorem dX11_best_285 : decode cX11_best 285 = .ok (.iload_n 1, 1) := by decide +kernel
theorem dX11_best_286 : decode cX11_best 286 = .ok (.iconst 2, 1) := by decide +kernel
theorem dX11_best_287 : decode cX11_best 287 = .ok (.if_icmp .le 10, 3) := by decide +kernel
theorem dX11_best_290 : decode cX11_best 290 = .ok (.aload_n 0, 1) := by decide +kernel
theorem dX11_best_291 : decode cX11_best 291 = .ok (.iload 5, 2) := by decide +kernel
theorem dX11_best_293 : decode cX11_best 293 = .ok (.iconst 0, 1) := by decide +kernel
theorem dX11_best_294 : decode cX11_best 294 = .ok (.invokevirtual 103, 3) := by decide +kernel
theorem dX11_best_297 : decode cX11_best 297 = .ok (.iload_n 2, 1) := by decide +kernel
theorem dX11_best_298 : decode cX11_best 298 = .ok (.ireturn, 1) := by decide +kernel
theorem dX11_joins_0 : decode cX11_joins 0 = .ok (.aload_n 0, 1) := by decide +kernel
theorem dX11_joins_1 : decode cX11_joins 1 = .ok (.getfield 41, 3) := by decide +kernel
theorem dX11_joins_4 : decode cX11_joins 4 = .ok (.iload_n 1, 1) := by decide +kernel
theorem dX11_joins_5 : decode cX11_joins 5 = .ok (.iaload, 1) := by decide +kernel
theorem dX11_joins_6 : decode cX11_joins 6 = .ok (.aload_n 0, 1) := by decide +kernel
theorem dX11_joins_7 : decode cX11_joins 7 = .ok (.getfield 41, 3) := by decide +kernel
theorem dX11_joins_10 : decode cX11_joins 10 = .ok (.iload_n 2, 1) := by decide +kernel
theorem dX11_joins_11 : decode cX11_joins 11 = .ok (.iaload, 1) := by decide +kernel
theorem dX11_joins_12 : decode cX11_joins 12 = .ok (.if_icmp .le 12, 3) := by decide +kernel
theorem dX11_joins_15 : decode cX11_joins 15 = .ok (.aload_n 0, 1) := by decide +kernel
theorem dX11_joins_16 : decode cX11_joins 16 = .ok (.getfield 41, 3) := by decide +kernel
theorem dX11_joins_19 : decode cX11_joins 19 = .ok (.iload_n 1, 1) := by decide +kernel
theorem dX11_joins_20 : decode cX11_joins 20 = .ok (.iaload, 1) := by decide +kernel
theorem dX11_joins_21 : decode cX11_joins 21 = .ok (.goto 9, 3) := by decide +kernel
theorem dX11_joins_24 : decode cX11_joins 24 = .ok (.aload_n 0, 1) := by decide +kernel
theorem dX11_joins_25 : decode cX11_joins 25 = .ok (.getfield 41, 3) := by decide +kernel
theorem dX11_joins_28 : decode cX11_joins 28 = .ok (.iload_n 2, 1) := by decide +kernel
theorem dX11_joins_29 : decode cX11_joins 29 = .ok (.iaload, 1) := by decide +kernel
theorem dX11_joins_30 : decode cX11_joins 30 = .ok (.istore_n 3, 1) := by decide +kernel
theorem dX11_joins_31 : decode cX11_joins 31 = .ok (.aload_n 0, 1) := by decide +kernel
theorem dX11_joins_32 : decode cX11_joins 32 = .ok (.getfield 41, 3) := by decide +kernel
theorem dX11_joins_35 : decode cX11_joins 35 = .ok (.iload_n 1, 1) := by decide +kernel
theorem dX11_joins_36 : decode cX11_joins 36 = .ok (.iaload, 1) := by decide +kernel
theorem dX11_joins_37 : decode cX11_joins 37 = .ok (.aload_n 0, 1) := by decide +kernel
theorem dX11_joins_38 : decode cX11_joins 38 = .ok (.getfield 41, 3) := by decide +kernel
theorem dX11_joins_41 : decode cX11_joins 41 = .ok (.iload_n 2, 1) := by decide +kernel
theorem dX11_joins_42 : decode cX11_joins 42 = .ok (.iaload, 1) := by decide +kernel
theorem dX11_joins_43 : decode cX11_joins 43 = .ok (.if_icmp .le 12, 3) := by decide +kernel
theorem dX11_joins_46 : decode cX11_joins 46 = .ok (.aload_n 0, 1) := by decide +kernel
theorem dX11_joins_47 : decode cX11_joins 47 = .ok (.getfield 41, 3) := by decide +kernel
theorem dX11_joins_50 : decode cX11_joins 50 = .ok (.iload_n 2, 1) := by decide +kernel
theorem dX11_joins_51 : decode cX11_joins 51 = .ok (.iaload, 1) := by decide +kernel
theorem dX11_joins_52 : decode cX11_joins 52 = .ok (.goto 9, 3) := by decide +kernel
theorem dX11_joins_55 : decode cX11_joins 55 = .ok (.aload_n 0, 1) := by decide +kernel
theorem dX11_joins_56 : decode cX11_joins 56 = .ok (.getfield 41, 3) := by decide +kernel
theorem dX11_joins_59 : decode cX11_joins 59 = .ok (.iload_n 1, 1) := by decide +kernel
theorem dX11_joins_60 : decode cX11_joins 60 = .ok (.iaload, 1) := by decide +kernel
theorem dX11_joins_61 : decode cX11_joins 61 = .ok (.istore 4, 2) := by decide +kernel
theorem dX11_joins_63 : decode cX11_joins 63 = .ok (.iconst 0, 1) := by decide +kernel
theorem dX11_joins_64 : decode cX11_joins 64 = .ok (.istore 5, 2) := by decide +kernel
theorem dX11_joins_66 : decode cX11_joins 66 = .ok (.iload 5, 2) := by decide +kernel
theorem dX11_joins_68 : decode cX11_joins 68 = .ok (.aload_n 0, 1) := by decide +kernel
theorem dX11_joins_69 : decode cX11_joins 69 = .ok (.getfield 50, 3) := by decide +kernel
theorem dX11_joins_72 : decode cX11_joins 72 = .ok (.if_icmp .ge 39, 3) := by decide +kernel
theorem dX11_joins_75 : decode cX11_joins 75 = .ok (.aload_n 0, 1) := by decide +kernel
theorem dX11_joins_76 : decode cX11_joins 76 = .ok (.getfield 41, 3) := by decide +kernel
theorem dX11_joins_79 : decode cX11_joins 79 = .ok (.iload 5, 2) := by decide +kernel
theorem dX11_joins_81 : decode cX11_joins 81 = .ok (.aload_n 0, 1) := by decide +kernel
theorem dX11_joins_82 : decode cX11_joins 82 = .ok (.getfield 41, 3) := by decide +kernel
theorem dX11_joins_85 : decode cX11_joins 85 = .ok (.iload 5, 2) := by decide +kernel
theorem dX11_joins_87 : decode cX11_joins 87 = .ok (.iaload, 1) := by decide +kernel
theorem dX11_joins_88 : decode cX11_joins 88 = .ok (.iload_n 3, 1) := by decide +kernel
theorem dX11_joins_89 : decode cX11_joins 89 = .ok (.if_icmp .ne 8, 3) := by decide +kernel
theorem dX11_joins_92 : decode cX11_joins 92 = .ok (.iload 4, 2) := by decide +kernel
theorem dX11_joins_94 : decode cX11_joins 94 = .ok (.goto 10, 3) := by decide +kernel
theorem dX11_joins_97 : decode cX11_joins 97 = .ok (.aload_n 0, 1) := by decide +kernel
theorem dX11_joins_98 : decode cX11_joins 98 = .ok (.getfield 41, 3) := by decide +kernel
theorem dX11_joins_101 : decode cX11_joins 101 = .ok (.iload 5, 2) := by decide +kernel
theorem dX11_joins_103 : decode cX11_joins 103 = .ok (.iaload, 1) := by decide +kernel
theorem dX11_joins_104 : decode cX11_joins 104 = .ok (.iastore, 1) := by decide +kernel
theorem dX11_joins_105 : decode cX11_joins 105 = .ok (.iinc 5 1, 3) := by decide +kernel
theorem dX11_joins_108 : decode cX11_joins 108 = .ok (.goto (-42), 3) := by decide +kernel
theorem dX11_joins_111 : decode cX11_joins 111 = .ok (.return_, 1) := by decide +kernel
theorem dX11_alonePieces_0 : decode cX11_alonePieces 0 = .ok (.iconst 0, 1) := by decide +kernel
theorem dX11_alonePieces_1 : decode cX11_alonePieces 1 = .ok (.istore_n 1, 1) := by decide +kernel
theorem dX11_alonePieces_2 : decode cX11_alonePieces 2 = .ok (.iload_n 1, 1) := by decide +kernel
theorem dX11_alonePieces_3 : decode cX11_alonePieces 3 = .ok (.bipush 60, 2) := by decide +kernel
theorem dX11_alonePieces_5 : decode cX11_alonePieces 5 = .ok (.if_icmp .ge 16, 3) := by decide +kernel
theorem dX11_alonePieces_8 : decode cX11_alonePieces 8 = .ok (.aload_n 0, 1) := by decide +kernel
theorem dX11_alonePieces_9 : decode cX11_alonePieces 9 = .ok (.getfield 41, 3) := by decide +kernel
theorem dX11_alonePieces_12 : decode cX11_alonePieces 12 = .ok (.iload_n 1, 1) := by decide +kernel
theorem dX11_alonePieces_13 : decode cX11_alonePieces 13 = .ok (.iload_n 1, 1) := by decide +kernel
theorem dX11_alonePieces_14 : decode cX11_alonePieces 14 = .ok (.iastore, 1) := by decide +kernel
theorem dX11_alonePieces_15 : decode cX11_alonePieces 15 = .ok (.iinc 1 1, 3) := by decide +kernel
theorem dX11_alonePieces_18 : decode cX11_alonePieces 18 = .ok (.goto (-16), 3) := by decide +kernel
theorem dX11_alonePieces_21 : decode cX11_alonePieces 21 = .ok (.return_, 1) := by decide +kernel
theorem dX11_chains_0 : decode cX11_chains 0 = .ok (.aload_n 0, 1) := by decide +kernel
theorem dX11_chains_1 : decode cX11_chains 1 = .ok (.invokevirtual 126, 3) := by decide +kernel
theorem dX11_chains_4 : decode cX11_chains 4 = .ok (.aload_n 0, 1) := by decide +kernel
theorem dX11_chains_5 : decode cX11_chains 5 = .ok (.iconst 0, 1) := by decide +kernel
theorem dX11_chains_6 : decode cX11_chains 6 = .ok (.putfield 129, 3) := by decide +kernel
theorem dX11_chains_9 : decode cX11_chains 9 = .ok (.aload_n 0, 1) := by decide +kernel
theorem dX11_chains_10 : decode cX11_chains 10 = .ok (.invokevirtual 112, 3) := by decide +kernel
theorem dX11_chains_13 : decode cX11_chains 13 = .ok (.istore_n 1, 1) := by decide +kernel
theorem dX11_chains_14 : decode cX11_chains 14 = .ok (.aload_n 0, 1) := by decide +kernel
theorem dX11_chains_15 : decode cX11_chains 15 = .ok (.getfield 129, 3) := by decide +kernel
theorem dX11_chains_18 : decode cX11_chains 18 = .ok (.iconst 1, 1) := by decide +kernel
theorem dX11_chains_19 : decode cX11_chains 19 = .ok (.iadd, 1) := by decide +kernel
theorem dX11_chains_20 : decode cX11_chains 20 = .ok (.iload_n 1, 1) := by decide +kernel
theorem dX11_chains_21 : decode cX11_chains 21 = .ok (.if_icmp .ge 153, 3) := by decide +kernel
theorem dX11_chains_24 : decode cX11_chains 24 = .ok (.iconst (-1), 1) := by decide +kernel
theorem dX11_chains_25 : decode cX11_chains 25 = .ok (.istore_n 2, 1) := by decide +kernel
theorem dX11_chains_26 : decode cX11_chains 26 = .ok (.iconst (-1), 1) := by decide +kernel
theorem dX11_chains_27 : decode cX11_chains 27 = .ok (.istore_n 3, 1) := by decide +kernel
theorem dX11_chains_28 : decode cX11_chains 28 = .ok (.iconst 0, 1) := by decide +kernel
theorem dX11_chains_29 : decode cX11_chains 29 = .ok (.istore 4, 2) := by decide +kernel
theorem dX11_chains_31 : decode cX11_chains 31 = .ok (.iload 4, 2) := by decide +kernel
theorem dX11_chains_33 : decode cX11_chains 33 = .ok (.aload_n 0, 1) := by decide +kernel
theorem dX11_chains_34 : decode cX11_chains 34 = .ok (.getfield 50, 3) := by decide +kernel
theorem dX11_chains_37 : decode cX11_chains 37 = .ok (.if_icmp .ge 98, 3) := by decide +kernel
theorem dX11_chains_40 : decode cX11_chains 40 = .ok (.iload 4, 2) := by decide +kernel
theorem dX11_chains_42 : decode cX11_chains 42 = .ok (.iconst 1, 1) := by decide +kernel
theorem dX11_chains_43 : decode cX11_chains 43 = .ok (.iadd, 1) := by decide +kernel
theorem dX11_chains_44 : decode cX11_chains 44 = .ok (.istore 5, 2) := by decide +kernel
theorem dX11_chains_46 : decode cX11_chains 46 = .ok (.iload 5, 2) := by decide +kernel
theorem dX11_chains_48 : decode cX11_chains 48 = .ok (.aload_n 0, 1) := by decide +kernel
theorem dX11_chains_49 : decode cX11_chains 49 = .ok (.getfield 50, 3) := by decide +kernel
theorem dX11_chains_52 : decode cX11_chains 52 = .ok (.if_icmp .ge 77, 3) := by decide +kernel
theorem dX11_chains_55 : decode cX11_chains 55 = .ok (.aload_n 0, 1) := by decide +kernel
theorem dX11_chains_56 : decode cX11_chains 56 = .ok (.getfield 19, 3) := by decide +kernel
theorem dX11_chains_59 : decode cX11_chains 59 = .ok (.iload 4, 2) := by decide +kernel
theorem dX11_chains_61 : decode cX11_chains 61 = .ok (.baload, 1) := by decide +kernel
theorem dX11_chains_62 : decode cX11_chains 62 = .ok (.ifCond .eq 61, 3) := by decide +kernel
theorem dX11_chains_65 : decode cX11_chains 65 = .ok (.aload_n 0, 1) := by decide +kernel
theorem dX11_chains_66 : decode cX11_chains 66 = .ok (.getfield 19, 3) := by decide +kernel
theorem dX11_chains_69 : decode cX11_chains 69 = .ok (.iload 5, 2) := by decide +kernel
theorem dX11_chains_71 : decode cX11_chains 71 = .ok (.baload, 1) := by decide +kernel
theorem dX11_chains_72 : decode cX11_chains 72 = .ok (.ifCond .eq 51, 3) := by decide +kernel
theorem dX11_chains_75 : decode cX11_chains 75 = .ok (.aload_n 0, 1) := by decide +kernel
theorem dX11_chains_76 : decode cX11_chains 76 = .ok (.getfield 41, 3) := by decide +kernel
theorem dX11_chains_79 : decode cX11_chains 79 = .ok (.iload 4, 2) := by decide +kernel
theorem dX11_chains_81 : decode cX11_chains 81 = .ok (.iaload, 1) := by decide +kernel
theorem dX11_chains_82 : decode cX11_chains 82 = .ok (.aload_n 0, 1) := by decide +kernel
theorem dX11_chains_83 : decode cX11_chains 83 = .ok (.getfield 41, 3) := by decide +kernel
theorem dX11_chains_86 : decode cX11_chains 86 = .ok (.iload 5, 2) := by decide +kernel
theorem dX11_chains_88 : decode cX11_chains 88 = .ok (.iaload, 1) := by decide +kernel
theorem dX11_chains_89 : decode cX11_chains 89 = .ok (.if_icmp .eq 34, 3) := by decide +kernel
theorem dX11_chains_92 : decode cX11_chains 92 = .ok (.iload_n 2, 1) := by decide +kernel
theorem dX11_chains_93 : decode cX11_chains 93 = .ok (.iconst (-1), 1) := by decide +kernel
theorem dX11_chains_94 : decode cX11_chains 94 = .ok (.if_icmp .eq 23, 3) := by decide +kernel
theorem dX11_chains_97 : decode cX11_chains 97 = .ok (.aload_n 0, 1) := by decide +kernel
theorem dX11_chains_98 : decode cX11_chains 98 = .ok (.iload 4, 2) := by decide +kernel
theorem dX11_chains_100 : decode cX11_chains 100 = .ok (.iload 5, 2) := by decide +kernel
theorem dX11_chains_102 : decode cX11_chains 102 = .ok (.invokevirtual 86, 3) := by decide +kernel
theorem dX11_chains_105 : decode cX11_chains 105 = .ok (.aload_n 0, 1) := by decide +kernel
theorem dX11_chains_106 : decode cX11_chains 106 = .ok (.iload_n 2, 1) := by decide +kernel
theorem dX11_chains_107 : decode cX11_chains 107 = .ok (.iload_n 3, 1) := by decide +kernel
theorem dX11_chains_108 : decode cX11_chains 108 = .ok (.invokevirtual 86, 3) := by decide +kernel
theorem dX11_chains_111 : decode cX11_chains 111 = .ok (.if_icmp .lt 6, 3) := by decide +kernel
theorem dX11_chains_114 : decode cX11_chains 114 = .ok (.goto 9, 3) := by decide +kernel
theorem dX11_chains_117 : decode cX11_chains 117 = .ok (.iload 4, 2) := by decide +kernel
theorem dX11_chains_119 : decode cX11_chains 119 = .ok (.istore_n 2, 1) := by decide +kernel
theorem dX11_chains_120 : decode cX11_chains 120 = .ok (.iload 5, 2) := by decide +kernel
theorem dX11_chains_122 : decode cX11_chains 122 = .ok (.istore_n 3, 1) := by decide +kernel
theorem dX11_chains_123 : decode cX11_chains 123 = .ok (.iinc 5 1, 3) := by decide +kernel
theorem dX11_chains_126 : decode cX11_chains 126 = .ok (.goto (-80), 3) := by decide +kernel
theorem dX11_chains_129 : decode cX11_chains 129 = .ok (.iinc 4 1, 3) := by decide +kernel
theorem dX11_chains_132 : decode cX11_chains 132 = .ok (.goto (-101), 3) := by decide +kernel
theorem dX11_chains_135 : decode cX11_chains 135 = .ok (.aload_n 0, 1) := by decide +kernel
theorem dX11_chains_136 : decode cX11_chains 136 = .ok (.getfield 44, 3) := by decide +kernel
theorem dX11_chains_139 : decode cX11_chains 139 = .ok (.aload_n 0, 1) := by decide +kernel
theorem dX11_chains_140 : decode cX11_chains 140 = .ok (.getfield 129, 3) := by decide +kernel
theorem dX11_chains_143 : decode cX11_chains 143 = .ok (.iload_n 2, 1) := by decide +kernel
theorem dX11_chains_144 : decode cX11_chains 144 = .ok (.iastore, 1) := by decide +kernel
theorem dX11_chains_145 : decode cX11_chains 145 = .ok (.aload_n 0, 1) := by decide +kernel
theorem dX11_chains_146 : decode cX11_chains 146 = .ok (.getfield 47, 3) := by decide +kernel
theorem dX11_chains_149 : decode cX11_chains 149 = .ok (.aload_n 0, 1) := by decide +kernel
theorem dX11_chains_150 : decode cX11_chains 150 = .ok (.getfield 129, 3) := by decide +kernel
theorem dX11_chains_153 : decode cX11_chains 153 = .ok (.iload_n 3, 1) := by decide +kernel
theorem dX11_chains_154 : decode cX11_chains 154 = .ok (.iastore, 1) := by decide +kernel
theorem dX11_chains_155 : decode cX11_chains 155 = .ok (.aload_n 0, 1) := by decide +kernel
theorem dX11_chains_156 : decode cX11_chains 156 = .ok (.dup, 1) := by decide +kernel
theorem dX11_chains_157 : decode cX11_chains 157 = .ok (.getfield 129, 3) := by decide +kernel
theorem dX11_chains_160 : decode cX11_chains 160 = .ok (.iconst 1, 1) := by decide +kernel
theorem dX11_chains_161 : decode cX11_chains 161 = .ok (.iadd, 1) := by decide +kernel
theorem dX11_chains_162 : decode cX11_chains 162 = .ok (.putfield 129, 3) := by decide +kernel
theorem dX11_chains_165 : decode cX11_chains 165 = .ok (.aload_n 0, 1) := by decide +kernel
theorem dX11_chains_166 : decode cX11_chains 166 = .ok (.iload_n 2, 1) := by decide +kernel
theorem dX11_chains_167 : decode cX11_chains 167 = .ok (.iload_n 3, 1) := by decide +kernel
theorem dX11_chains_168 : decode cX11_chains 168 = .ok (.invokevirtual 132, 3) := by decide +kernel
theorem dX11_chains_171 : decode cX11_chains 171 = .ok (.goto (-157), 3) := by decide +kernel
theorem dX11_chains_174 : decode cX11_chains 174 = .ok (.return_, 1) := by decide +kernel
theorem dX11_chain_0 : decode cX11_chain 0 = .ok (.iload_n 1, 1) := by decide +kernel
theorem dX11_chain_1 : decode cX11_chain 1 = .ok (.iconst 0, 1) := by decide +kernel
theorem dX11_chain_2 : decode cX11_chain 2 = .ok (.iconst 1, 1) := by decide +kernel
theorem dX11_chain_3 : decode cX11_chain 3 = .ok (.invokestatic 54, 3) := by decide +kernel
theorem dX11_chain_6 : decode cX11_chain 6 = .ok (.ifCond .eq 10, 3) := by decide +kernel
theorem dX11_chain_9 : decode cX11_chain 9 = .ok (.aload_n 0, 1) := by decide +kernel
theorem dX11_chain_10 : decode cX11_chain 10 = .ok (.invokevirtual 89, 3) := by decide +kernel
theorem dX11_chain_13 : decode cX11_chain 13 = .ok (.ifCond .ne 7, 3) := by decide +kernel
theorem dX11_chain_16 : decode cX11_chain 16 = .ok (.ldc2_w 135, 3) := by decide +kernel
theorem dX11_chain_19 : decode cX11_chain 19 = .ok (.lreturn, 1) := by decide +kernel
theorem dX11_chain_20 : decode cX11_chain 20 = .ok (.aload_n 0, 1) := by decide +kernel
theorem dX11_chain_21 : decode cX11_chain 21 = .ok (.invokevirtual 137, 3) := by decide +kernel
theorem dX11_chain_24 : decode cX11_chain 24 = .ok (.lconst 0, 1) := by decide +kernel
theorem dX11_chain_25 : decode cX11_chain 25 = .ok (.lstore_n 2, 1) := by decide +kernel
theorem dX11_chain_26 : decode cX11_chain 26 = .ok (.iconst 0, 1) := by decide +kernel
theorem dX11_chain_27 : decode cX11_chain 27 = .ok (.istore 4, 2) := by decide +kernel
theorem dX11_chain_29 : decode cX11_chain 29 = .ok (.iload 4, 2) := by decide +kernel
theorem dX11_chain_31 : decode cX11_chain 31 = .ok (.aload_n 0, 1) := by decide +kernel
theorem dX11_chain_32 : decode cX11_chain 32 = .ok (.getfield 129, 3) := by decide +kernel
theorem dX11_chain_35 : decode cX11_chain 35 = .ok (.if_icmp .ge 31, 3) := by decide +kernel
theorem dX11_chain_38 : decode cX11_chain 38 = .ok (.lload_n 2, 1) := by decide +kernel
theorem dX11_chain_39 : decode cX11_chain 39 = .ok (.aload_n 0, 1) := by decide +kernel
theorem dX11_chain_40 : decode cX11_chain 40 = .ok (.aload_n 0, 1) := by decide +kernel
theorem dX11_chain_41 : decode cX11_chain 41 = .ok (.getfield 44, 3) := by decide +kernel
theorem dX11_chain_44 : decode cX11_chain 44 = .ok (.iload 4, 2) := by decide +kernel
theorem dX11_chain_46 : decode cX11_chain 46 = .ok (.iaload, 1) := by decide +kernel
theorem dX11_chain_47 : decode cX11_chain 47 = .ok (.aload_n 0, 1) := by decide +kernel
theorem dX11_chain_48 : decode cX11_chain 48 = .ok (.getfield 47, 3) := by decide +kernel
theorem dX11_chain_51 : decode cX11_chain 51 = .ok (.iload 4, 2) := by decide +kernel
theorem dX11_chain_53 : decode cX11_chain 53 = .ok (.iaload, 1) := by decide +kernel
theorem dX11_chain_54 : decode cX11_chain 54 = .ok (.invokevirtual 86, 3) := by decide +kernel
theorem dX11_chain_57 : decode cX11_chain 57 = .ok (.i2l, 1) := by decide +kernel
theorem dX11_chain_58 : decode cX11_chain 58 = .ok (.ladd, 1) := by decide +kernel
theorem dX11_chain_59 : decode cX11_chain 59 = .ok (.lstore_n 2, 1) := by decide +kernel
theorem dX11_chain_60 : decode cX11_chain 60 = .ok (.iinc 4 1, 3) := by decide +kernel
theorem dX11_chain_63 : decode cX11_chain 63 = .ok (.goto (-34), 3) := by decide +kernel
theorem dX11_chain_66 : decode cX11_chain 66 = .ok (.iload_n 1, 1) := by decide +kernel
theorem dX11_chain_67 : decode cX11_chain 67 = .ok (.ifCond .ne 11, 3) := by decide +kernel
theorem dX11_chain_70 : decode cX11_chain 70 = .ok (.aload_n 0, 1) := by decide +kernel
theorem dX11_chain_71 : decode cX11_chain 71 = .ok (.getfield 129, 3) := by decide +kernel
theorem dX11_chain_74 : decode cX11_chain 74 = .ok (.i2l, 1) := by decide +kernel
theorem dX11_chain_75 : decode cX11_chain 75 = .ok (.goto 4, 3) := by decide +kernel
theorem dX11_chain_78 : decode cX11_chain 78 = .ok (.lload_n 2, 1) := by decide +kernel
theorem dX11_chain_79 : decode cX11_chain 79 = .ok (.lreturn, 1) := by decide +kernel
theorem dX11_pair_0 : decode cX11_pair 0 = .ok (.iload_n 2, 1) := by decide +kernel
theorem dX11_pair_1 : decode cX11_pair 1 = .ok (.iconst 0, 1) := by decide +kernel
theorem dX11_pair_2 : decode cX11_pair 2 = .ok (.iconst 2, 1) := by decide +kernel
theorem dX11_pair_3 : decode cX11_pair 3 = .ok (.invokestatic 54, 3) := by decide +kernel
theorem dX11_pair_6 : decode cX11_pair 6 = .ok (.ifCond .eq 10, 3) := by decide +kernel
theorem dX11_pair_9 : decode cX11_pair 9 = .ok (.aload_n 0, 1) := by decide +kernel
theorem dX11_pair_10 : decode cX11_pair 10 = .ok (.invokevirtual 89, 3) := by decide +kernel
theorem dX11_pair_13 : decode cX11_pair 13 = .ok (.ifCond .ne 5, 3) := by decide +kernel
theorem dX11_pair_16 : decode cX11_pair 16 = .ok (.iconst (-1), 1) := by decide +kernel
theorem dX11_pair_17 : decode cX11_pair 17 = .ok (.ireturn, 1) := by decide +kernel
theorem dX11_pair_18 : decode cX11_pair 18 = .ok (.aload_n 0, 1) := by decide +kernel
theorem dX11_pair_19 : decode cX11_pair 19 = .ok (.invokevirtual 137, 3) := by decide +kernel
theorem dX11_pair_22 : decode cX11_pair 22 = .ok (.iload_n 1, 1) := by decide +kernel
theorem dX11_pair_23 : decode cX11_pair 23 = .ok (.iconst 0, 1) := by decide +kernel
theorem dX11_pair_24 : decode cX11_pair 24 = .ok (.aload_n 0, 1) := by decide +kernel
theorem dX11_pair_25 : decode cX11_pair 25 = .ok (.getfield 129, 3) := by decide +kernel
theorem dX11_pair_28 : decode cX11_pair 28 = .ok (.iconst 1, 1) := by decide +kernel
theorem dX11_pair_29 : decode cX11_pair 29 = .ok (.isub, 1) := by decide +kernel
theorem dX11_pair_30 : decode cX11_pair 30 = .ok (.invokestatic 54, 3) := by decide +kernel
theorem dX11_pair_33 : decode cX11_pair 33 = .ok (.ifCond .ne 5, 3) := by decide +kernel
theorem dX11_pair_36 : decode cX11_pair 36 = .ok (.iconst (-1), 1) := by decide +kernel
theorem dX11_pair_37 : decode cX11_pair 37 = .ok (.ireturn, 1) := by decide +kernel
theorem dX11_pair_38 : decode cX11_pair 38 = .ok (.iload_n 2, 1) := by decide +kernel
theorem dX11_pair_39 : decode cX11_pair 39 = .ok (.ifCond .ne 12, 3) := by decide +kernel
theorem dX11_pair_42 : decode cX11_pair 42 = .ok (.aload_n 0, 1) := by decide +kernel
theorem dX11_pair_43 : decode cX11_pair 43 = .ok (.getfield 44, 3) := by decide +kernel
theorem dX11_pair_46 : decode cX11_pair 46 = .ok (.iload_n 1, 1) := by decide +kernel
theorem dX11_pair_47 : decode cX11_pair 47 = .ok (.iaload, 1) := by decide +kernel
theorem dX11_pair_48 : decode cX11_pair 48 = .ok (.goto 33, 3) := by decide +kernel
theorem dX11_pair_51 : decode cX11_pair 51 = .ok (.iload_n 2, 1) := by decide +kernel
theorem dX11_pair_52 : decode cX11_pair 52 = .ok (.iconst 1, 1) := by decide +kernel
theorem dX11_pair_53 : decode cX11_pair 53 = .ok (.if_icmp .ne 12, 3) := by decide +kernel
theorem dX11_pair_56 : decode cX11_pair 56 = .ok (.aload_n 0, 1) := by decide +kernel
theorem dX11_pair_57 : decode cX11_pair 57 = .ok (.getfield 47, 3) := by decide +kernel
theorem dX11_pair_60 : decode cX11_pair 60 = .ok (.iload_n 1, 1) := by decide +kernel
theorem dX11_pair_61 : decode cX11_pair 61 = .ok (.iaload, 1) := by decide +kernel
theorem dX11_pair_62 : decode cX11_pair 62 = .ok (.goto 19, 3) := by decide +kernel
theorem dX11_pair_65 : decode cX11_pair 65 = .ok (.aload_n 0, 1) := by decide +kernel
theorem dX11_pair_66 : decode cX11_pair 66 = .ok (.aload_n 0, 1) := by decide +kernel
theorem dX11_pair_67 : decode cX11_pair 67 = .ok (.getfield 44, 3) := by decide +kernel
theorem dX11_pair_70 : decode cX11_pair 70 = .ok (.iload_n 1, 1) := by decide +kernel
theorem dX11_pair_71 : decode cX11_pair 71 = .ok (.iaload, 1) := by decide +kernel
theorem dX11_pair_72 : decode cX11_pair 72 = .ok (.aload_n 0, 1) := by decide +kernel
theorem dX11_pair_73 : decode cX11_pair 73 = .ok (.getfield 47, 3) := by decide +kernel
theorem dX11_pair_76 : decode cX11_pair 76 = .ok (.iload_n 1, 1) := by decide +kernel
theorem dX11_pair_77 : decode cX11_pair 77 = .ok (.iaload, 1) := by decide +kernel
theorem dX11_pair_78 : decode cX11_pair 78 = .ok (.invokevirtual 86, 3) := by decide +kernel
theorem dX11_pair_81 : decode cX11_pair 81 = .ok (.ireturn, 1) := by decide +kernel
theorem dX11_pieces_0 : decode cX11_pieces 0 = .ok (.aload_n 0, 1) := by decide +kernel
theorem dX11_pieces_1 : decode cX11_pieces 1 = .ok (.invokevirtual 126, 3) := by decide +kernel
theorem dX11_pieces_4 : decode cX11_pieces 4 = .ok (.iconst 0, 1) := by decide +kernel
theorem dX11_pieces_5 : decode cX11_pieces 5 = .ok (.istore_n 2, 1) := by decide +kernel
theorem dX11_pieces_6 : decode cX11_pieces 6 = .ok (.iload_n 2, 1) := by decide +kernel
theorem dX11_pieces_7 : decode cX11_pieces 7 = .ok (.aload_n 0, 1) := by decide +kernel
theorem dX11_pieces_8 : decode cX11_pieces 8 = .ok (.getfield 50, 3) := by decide +kernel
theorem dX11_pieces_11 : decode cX11_pieces 11 = .ok (.if_icmp .ge 76, 3) := by decide +kernel
theorem dX11_pieces_14 : decode cX11_pieces 14 = .ok (.iload_n 2, 1) := by decide +kernel
theorem dX11_pieces_15 : decode cX11_pieces 15 = .ok (.iconst 1, 1) := by decide +kernel
theorem dX11_pieces_16 : decode cX11_pieces 16 = .ok (.iadd, 1) := by decide +kernel
theorem dX11_pieces_17 : decode cX11_pieces 17 = .ok (.istore_n 3, 1) := by decide +kernel
theorem dX11_pieces_18 : decode cX11_pieces 18 = .ok (.iload_n 3, 1) := by decide +kernel
theorem dX11_pieces_19 : decode cX11_pieces 19 = .ok (.aload_n 0, 1) := by decide +kernel
theorem dX11_pieces_20 : decode cX11_pieces 20 = .ok (.getfield 50, 3) := by decide +kernel
theorem dX11_pieces_23 : decode cX11_pieces 23 = .ok (.if_icmp .ge 58, 3) := by decide +kernel
theorem dX11_pieces_26 : decode cX11_pieces 26 = .ok (.aload_n 0, 1) := by decide +kernel
theorem dX11_pieces_27 : decode cX11_pieces 27 = .ok (.getfield 19, 3) := by decide +kernel
theorem dX11_pieces_30 : decode cX11_pieces 30 = .ok (.iload_n 2, 1) := by decide +kernel
theorem dX11_pieces_31 : decode cX11_pieces 31 = .ok (.baload, 1) := by decide +kernel
theorem dX11_pieces_32 : decode cX11_pieces 32 = .ok (.ifCond .eq 43, 3) := by decide +kernel
theorem dX11_pieces_35 : decode cX11_pieces 35 = .ok (.aload_n 0, 1) := by decide +kernel
theorem dX11_pieces_36 : decode cX11_pieces 36 = .ok (.getfield 19, 3) := by decide +kernel
theorem dX11_pieces_39 : decode cX11_pieces 39 = .ok (.iload_n 3, 1) := by decide +kernel
theorem dX11_pieces_40 : decode cX11_pieces 40 = .ok (.baload, 1) := by decide +kernel
theorem dX11_pieces_41 : decode cX11_pieces 41 = .ok (.ifCond .eq 34, 3) := by decide +kernel
theorem dX11_pieces_44 : decode cX11_pieces 44 = .ok (.aload_n 0, 1) := by decide +kernel
theorem dX11_pieces_45 : decode cX11_pieces 45 = .ok (.getfield 41, 3) := by decide +kernel
theorem dX11_pieces_48 : decode cX11_pieces 48 = .ok (.iload_n 2, 1) := by decide +kernel
theorem dX11_pieces_49 : decode cX11_pieces 49 = .ok (.iaload, 1) := by decide +kernel
theorem dX11_pieces_50 : decode cX11_pieces 50 = .ok (.aload_n 0, 1) := by decide +kernel
theorem dX11_pieces_51 : decode cX11_pieces 51 = .ok (.getfield 41, 3) := by decide +kernel
theorem dX11_pieces_54 : decode cX11_pieces 54 = .ok (.iload_n 3, 1) := by decide +kernel
theorem dX11_pieces_55 : decode cX11_pieces 55 = .ok (.iaload, 1) := by decide +kernel
theorem dX11_pieces_56 : decode cX11_pieces 56 = .ok (.if_icmp .eq 19, 3) := by decide +kernel
theorem dX11_pieces_59 : decode cX11_pieces 59 = .ok (.aload_n 0, 1) := by decide +kernel
theorem dX11_pieces_60 : decode cX11_pieces 60 = .ok (.iload_n 2, 1) := by decide +kernel
theorem dX11_pieces_61 : decode cX11_pieces 61 = .ok (.iload_n 3, 1) := by decide +kernel
theorem dX11_pieces_62 : decode cX11_pieces 62 = .ok (.invokevirtual 86, 3) := by decide +kernel
theorem dX11_pieces_65 : decode cX11_pieces 65 = .ok (.iload_n 1, 1) := by decide +kernel
theorem dX11_pieces_66 : decode cX11_pieces 66 = .ok (.if_icmp .gt 9, 3) := by decide +kernel
theorem dX11_pieces_69 : decode cX11_pieces 69 = .ok (.aload_n 0, 1) := by decide +kernel
theorem dX11_pieces_70 : decode cX11_pieces 70 = .ok (.iload_n 2, 1) := by decide +kernel
theorem dX11_pieces_71 : decode cX11_pieces 71 = .ok (.iload_n 3, 1) := by decide +kernel
theorem dX11_pieces_72 : decode cX11_pieces 72 = .ok (.invokevirtual 132, 3) := by decide +kernel
theorem dX11_pieces_75 : decode cX11_pieces 75 = .ok (.iinc 3 1, 3) := by decide +kernel
theorem dX11_pieces_78 : decode cX11_pieces 78 = .ok (.goto (-60), 3) := by decide +kernel
theorem dX11_pieces_81 : decode cX11_pieces 81 = .ok (.iinc 2 1, 3) := by decide +kernel
theorem dX11_pieces_84 : decode cX11_pieces 84 = .ok (.goto (-78), 3) := by decide +kernel
theorem dX11_pieces_87 : decode cX11_pieces 87 = .ok (.return_, 1) := by decide +kernel
theorem dX11_clusters_0 : decode cX11_clusters 0 = .ok (.iload_n 1, 1) := by decide +kernel
theorem dX11_clusters_1 : decode cX11_clusters 1 = .ok (.ifCond .lt 10, 3) := by decide +kernel
theorem dX11_clusters_4 : decode cX11_clusters 4 = .ok (.aload_n 0, 1) := by decide +kernel
theorem dX11_clusters_5 : decode cX11_clusters 5 = .ok (.invokevirtual 89, 3) := by decide +kernel
theorem dX11_clusters_8 : decode cX11_clusters 8 = .ok (.ifCond .ne 5, 3) := by decide +kernel
theorem dX11_clusters_11 : decode cX11_clusters 11 = .ok (.iconst (-1), 1) := by decide +kernel
theorem dX11_clusters_12 : decode cX11_clusters 12 = .ok (.ireturn, 1) := by decide +kernel
theorem dX11_clusters_13 : decode cX11_clusters 13 = .ok (.aload_n 0, 1) := by decide +kernel
theorem dX11_clusters_14 : decode cX11_clusters 14 = .ok (.iload_n 1, 1) := by decide +kernel
theorem dX11_clusters_15 : decode cX11_clusters 15 = .ok (.invokevirtual 140, 3) := by decide +kernel
theorem dX11_clusters_18 : decode cX11_clusters 18 = .ok (.iconst 0, 1) := by decide +kernel
theorem dX11_clusters_19 : decode cX11_clusters 19 = .ok (.istore_n 2, 1) := by decide +kernel
theorem dX11_clusters_20 : decode cX11_clusters 20 = .ok (.iconst 0, 1) := by decide +kernel
theorem dX11_clusters_21 : decode cX11_clusters 21 = .ok (.istore_n 3, 1) := by decide +kernel
theorem dX11_clusters_22 : decode cX11_clusters 22 = .ok (.iload_n 3, 1) := by decide +kernel
theorem dX11_clusters_23 : decode cX11_clusters 23 = .ok (.aload_n 0, 1) := by decide +kernel
theorem dX11_clusters_24 : decode cX11_clusters 24 = .ok (.getfield 50, 3) := by decide +kernel
theorem dX11_clusters_27 : decode cX11_clusters 27 = .ok (.if_icmp .ge 36, 3) := by decide +kernel
theorem dX11_clusters_30 : decode cX11_clusters 30 = .ok (.iload_n 2, 1) := by decide +kernel
theorem dX11_clusters_31 : decode cX11_clusters 31 = .ok (.aload_n 0, 1) := by decide +kernel
theorem dX11_clusters_32 : decode cX11_clusters 32 = .ok (.getfield 19, 3) := by decide +kernel
theorem dX11_clusters_35 : decode cX11_clusters 35 = .ok (.iload_n 3, 1) := by decide +kernel
theorem dX11_clusters_36 : decode cX11_clusters 36 = .ok (.baload, 1) := by decide +kernel
theorem dX11_clusters_37 : decode cX11_clusters 37 = .ok (.ifCond .eq 17, 3) := by decide +kernel
theorem dX11_clusters_40 : decode cX11_clusters 40 = .ok (.aload_n 0, 1) := by decide +kernel
theorem dX11_clusters_41 : decode cX11_clusters 41 = .ok (.getfield 41, 3) := by decide +kernel
theorem dX11_clusters_44 : decode cX11_clusters 44 = .ok (.iload_n 3, 1) := by decide +kernel
theorem dX11_clusters_45 : decode cX11_clusters 45 = .ok (.iaload, 1) := by decide +kernel
theorem dX11_clusters_46 : decode cX11_clusters 46 = .ok (.iload_n 3, 1) := by decide +kernel
theorem dX11_clusters_47 : decode cX11_clusters 47 = .ok (.if_icmp .ne 7, 3) := by decide +kernel
theorem dX11_clusters_50 : decode cX11_clusters 50 = .ok (.iconst 1, 1) := by decide +kernel
theorem dX11_clusters_51 : decode cX11_clusters 51 = .ok (.goto 4, 3) := by decide +kernel
theorem dX11_clusters_54 : decode cX11_clusters 54 = .ok (.iconst 0, 1) := by decide +kernel
theorem dX11_clusters_55 : decode cX11_clusters 55 = .ok (.iadd, 1) := by decide +kernel
theorem dX11_clusters_56 : decode cX11_clusters 56 = .ok (.istore_n 2, 1) := by decide +kernel
theorem dX11_clusters_57 : decode cX11_clusters 57 = .ok (.iinc 3 1, 3) := by decide +kernel
theorem dX11_clusters_60 : decode cX11_clusters 60 = .ok (.goto (-38), 3) := by decide +kernel
theorem dX11_clusters_63 : decode cX11_clusters 63 = .ok (.iload_n 2, 1) := by decide +kernel
theorem dX11_clusters_64 : decode cX11_clusters 64 = .ok (.ireturn, 1) := by decide +kernel
theorem dX11_cluster_0 : decode cX11_cluster 0 = .ok (.aload_n 0, 1) := by decide +kernel
theorem dX11_cluster_1 : decode cX11_cluster 1 = .ok (.iload_n 1, 1) := by decide +kernel
theorem dX11_cluster_2 : decode cX11_cluster 2 = .ok (.invokevirtual 58, 3) := by decide +kernel
theorem dX11_cluster_5 : decode cX11_cluster 5 = .ok (.ifCond .eq 23, 3) := by decide +kernel
theorem dX11_cluster_8 : decode cX11_cluster 8 = .ok (.aload_n 0, 1) := by decide +kernel
theorem dX11_cluster_9 : decode cX11_cluster 9 = .ok (.getfield 19, 3) := by decide +kernel
theorem dX11_cluster_12 : decode cX11_cluster 12 = .ok (.iload_n 1, 1) := by decide +kernel
theorem dX11_cluster_13 : decode cX11_cluster 13 = .ok (.baload, 1) := by decide +kernel
theorem dX11_cluster_14 : decode cX11_cluster 14 = .ok (.ifCond .eq 14, 3) := by decide +kernel
theorem dX11_cluster_17 : decode cX11_cluster 17 = .ok (.iload_n 2, 1) := by decide +kernel
theorem dX11_cluster_18 : decode cX11_cluster 18 = .ok (.ifCond .lt 10, 3) := by decide +kernel
theorem dX11_cluster_21 : decode cX11_cluster 21 = .ok (.aload_n 0, 1) := by decide +kernel
theorem dX11_cluster_22 : decode cX11_cluster 22 = .ok (.invokevirtual 89, 3) := by decide +kernel
theorem dX11_cluster_25 : decode cX11_cluster 25 = .ok (.ifCond .ne 5, 3) := by decide +kernel
theorem dX11_cluster_28 : decode cX11_cluster 28 = .ok (.iconst (-1), 1) := by decide +kernel
theorem dX11_cluster_29 : decode cX11_cluster 29 = .ok (.ireturn, 1) := by decide +kernel
theorem dX11_cluster_30 : decode cX11_cluster 30 = .ok (.aload_n 0, 1) := by decide +kernel
theorem dX11_cluster_31 : decode cX11_cluster 31 = .ok (.iload_n 2, 1) := by decide +kernel
theorem dX11_cluster_32 : decode cX11_cluster 32 = .ok (.invokevirtual 140, 3) := by decide +kernel
theorem dX11_cluster_35 : decode cX11_cluster 35 = .ok (.aload_n 0, 1) := by decide +kernel
theorem dX11_cluster_36 : decode cX11_cluster 36 = .ok (.getfield 41, 3) := by decide +kernel
theorem dX11_cluster_39 : decode cX11_cluster 39 = .ok (.iload_n 1, 1) := by decide +kernel
theorem dX11_cluster_40 : decode cX11_cluster 40 = .ok (.iaload, 1) := by decide +kernel
theorem dX11_cluster_41 : decode cX11_cluster 41 = .ok (.ireturn, 1) := by decide +kernel
theorem dX11_net_0 : decode cX11_net 0 = .ok (.iload_n 1, 1) := by decide +kernel
theorem dX11_net_1 : decode cX11_net 1 = .ok (.ifCond .lt 10, 3) := by decide +kernel
theorem dX11_net_4 : decode cX11_net 4 = .ok (.aload_n 0, 1) := by decide +kernel
theorem dX11_net_5 : decode cX11_net 5 = .ok (.invokevirtual 89, 3) := by decide +kernel
theorem dX11_net_8 : decode cX11_net 8 = .ok (.ifCond .ne 5, 3) := by decide +kernel
theorem dX11_net_11 : decode cX11_net 11 = .ok (.iconst (-1), 1) := by decide +kernel
theorem dX11_net_12 : decode cX11_net 12 = .ok (.ireturn, 1) := by decide +kernel
theorem dX11_net_13 : decode cX11_net 13 = .ok (.aload_n 0, 1) := by decide +kernel
theorem dX11_net_14 : decode cX11_net 14 = .ok (.iconst 0, 1) := by decide +kernel
theorem dX11_net_15 : decode cX11_net 15 = .ok (.putfield 93, 3) := by decide +kernel
theorem dX11_net_18 : decode cX11_net 18 = .ok (.iconst 0, 1) := by decide +kernel
theorem dX11_net_19 : decode cX11_net 19 = .ok (.istore_n 2, 1) := by decide +kernel
theorem dX11_net_20 : decode cX11_net 20 = .ok (.iload_n 2, 1) := by decide +kernel
theorem dX11_net_21 : decode cX11_net 21 = .ok (.aload_n 0, 1) := by decide +kernel
theorem dX11_net_22 : decode cX11_net 22 = .ok (.getfield 50, 3) := by decide +kernel
theorem dX11_net_25 : decode cX11_net 25 = .ok (.if_icmp .ge 49, 3) := by decide +kernel
theorem dX11_net_28 : decode cX11_net 28 = .ok (.aload_n 0, 1) := by decide +kernel
theorem dX11_net_29 : decode cX11_net 29 = .ok (.getfield 19, 3) := by decide +kernel
theorem dX11_net_32 : decode cX11_net 32 = .ok (.iload_n 2, 1) := by decide +kernel
theorem dX11_net_33 : decode cX11_net 33 = .ok (.baload, 1) := by decide +kernel
theorem dX11_net_34 : decode cX11_net 34 = .ok (.ifCond .eq 12, 3) := by decide +kernel
theorem dX11_net_37 : decode cX11_net 37 = .ok (.aload_n 0, 1) := by decide +kernel
theorem dX11_net_38 : decode cX11_net 38 = .ok (.iload_n 2, 1) := by decide +kernel
theorem dX11_net_39 : decode cX11_net 39 = .ok (.invokevirtual 116, 3) := by decide +kernel
theorem dX11_net_42 : decode cX11_net 42 = .ok (.iload_n 1, 1) := by decide +kernel
theorem dX11_net_43 : decode cX11_net 43 = .ok (.if_icmp .gt 19, 3) := by decide +kernel
theorem dX11_net_46 : decode cX11_net 46 = .ok (.aload_n 0, 1) := by decide +kernel
theorem dX11_net_47 : decode cX11_net 47 = .ok (.getfield 19, 3) := by decide +kernel
theorem dX11_net_50 : decode cX11_net 50 = .ok (.iload_n 2, 1) := by decide +kernel
theorem dX11_net_51 : decode cX11_net 51 = .ok (.baload, 1) := by decide +kernel
theorem dX11_net_52 : decode cX11_net 52 = .ok (.ifCond .eq 16, 3) := by decide +kernel
theorem dX11_net_55 : decode cX11_net 55 = .ok (.aload_n 0, 1) := by decide +kernel
theorem dX11_net_56 : decode cX11_net 56 = .ok (.getfield 93, 3) := by decide +kernel
theorem dX11_net_59 : decode cX11_net 59 = .ok (.ifCond .ne 9, 3) := by decide +kernel
theorem dX11_net_62 : decode cX11_net 62 = .ok (.aload_n 0, 1) := by decide +kernel
theorem dX11_net_63 : decode cX11_net 63 = .ok (.iload_n 2, 1) := by decide +kernel
theorem dX11_net_64 : decode cX11_net 64 = .ok (.iconst 0, 1) := by decide +kernel
theorem dX11_net_65 : decode cX11_net 65 = .ok (.invokevirtual 103, 3) := by decide +kernel
theorem dX11_net_68 : decode cX11_net 68 = .ok (.iinc 2 1, 3) := by decide +kernel
theorem dX11_net_71 : decode cX11_net 71 = .ok (.goto (-51), 3) := by decide +kernel
theorem dX11_net_74 : decode cX11_net 74 = .ok (.aload_n 0, 1) := by decide +kernel
theorem dX11_net_75 : decode cX11_net 75 = .ok (.getfield 93, 3) := by decide +kernel
theorem dX11_net_78 : decode cX11_net 78 = .ok (.ireturn, 1) := by decide +kernel
theorem dX11_middle_0 : decode cX11_middle 0 = .ok (.iload_n 1, 1) := by decide +kernel
theorem dX11_middle_1 : decode cX11_middle 1 = .ok (.iconst 0, 1) := by decide +kernel
theorem dX11_middle_2 : decode cX11_middle 2 = .ok (.iconst 1, 1) := by decide +kernel
theorem dX11_middle_3 : decode cX11_middle 3 = .ok (.invokestatic 54, 3) := by decide +kernel
theorem dX11_middle_6 : decode cX11_middle 6 = .ok (.ifCond .eq 17, 3) := by decide +kernel
theorem dX11_middle_9 : decode cX11_middle 9 = .ok (.aload_n 0, 1) := by decide +kernel
theorem dX11_middle_10 : decode cX11_middle 10 = .ok (.invokevirtual 112, 3) := by decide +kernel
theorem dX11_middle_13 : decode cX11_middle 13 = .ok (.ifCond .eq 10, 3) := by decide +kernel
theorem dX11_middle_16 : decode cX11_middle 16 = .ok (.aload_n 0, 1) := by decide +kernel
theorem dX11_middle_17 : decode cX11_middle 17 = .ok (.invokevirtual 89, 3) := by decide +kernel
theorem dX11_middle_20 : decode cX11_middle 20 = .ok (.ifCond .ne 7, 3) := by decide +kernel
theorem dX11_middle_23 : decode cX11_middle 23 = .ok (.ldc2_w 135, 3) := by decide +kernel
theorem dX11_middle_26 : decode cX11_middle 26 = .ok (.lreturn, 1) := by decide +kernel
theorem dX11_middle_27 : decode cX11_middle 27 = .ok (.iconst (-1), 1) := by decide +kernel
theorem dX11_middle_28 : decode cX11_middle 28 = .ok (.istore_n 2, 1) := by decide +kernel
theorem dX11_middle_29 : decode cX11_middle 29 = .ok (.lconst 0, 1) := by decide +kernel
theorem dX11_middle_30 : decode cX11_middle 30 = .ok (.lstore_n 3, 1) := by decide +kernel
theorem dX11_middle_31 : decode cX11_middle 31 = .ok (.iconst 0, 1) := by decide +kernel
theorem dX11_middle_32 : decode cX11_middle 32 = .ok (.istore 5, 2) := by decide +kernel
theorem dX11_middle_34 : decode cX11_middle 34 = .ok (.iload 5, 2) := by decide +kernel
theorem dX11_middle_36 : decode cX11_middle 36 = .ok (.aload_n 0, 1) := by decide +kernel
theorem dX11_middle_37 : decode cX11_middle 37 = .ok (.getfield 50, 3) := by decide +kernel
theorem dX11_middle_40 : decode cX11_middle 40 = .ok (.if_icmp .ge 92, 3) := by decide +kernel
theorem dX11_middle_43 : decode cX11_middle 43 = .ok (.aload_n 0, 1) := by decide +kernel
theorem dX11_middle_44 : decode cX11_middle 44 = .ok (.getfield 19, 3) := by decide +kernel
theorem dX11_middle_47 : decode cX11_middle 47 = .ok (.iload 5, 2) := by decide +kernel
theorem dX11_middle_49 : decode cX11_middle 49 = .ok (.baload, 1) := by decide +kernel
theorem dX11_middle_50 : decode cX11_middle 50 = .ok (.ifCond .ne 6, 3) := by decide +kernel
theorem dX11_middle_53 : decode cX11_middle 53 = .ok (.goto 73, 3) := by decide +kernel
theorem dX11_middle_56 : decode cX11_middle 56 = .ok (.lconst 0, 1) := by decide +kernel
theorem dX11_middle_57 : decode cX11_middle 57 = .ok (.lstore 6, 2) := by decide +kernel
theorem dX11_middle_59 : decode cX11_middle 59 = .ok (.iconst 0, 1) := by decide +kernel
theorem dX11_middle_60 : decode cX11_middle 60 = .ok (.istore 8, 2) := by decide +kernel
theorem dX11_middle_62 : decode cX11_middle 62 = .ok (.iload 8, 2) := by decide +kernel
theorem dX11_middle_64 : decode cX11_middle 64 = .ok (.aload_n 0, 1) := by decide +kernel
theorem dX11_middle_65 : decode cX11_middle 65 = .ok (.getfield 50, 3) := by decide +kernel
theorem dX11_middle_68 : decode cX11_middle 68 = .ok (.if_icmp .ge 37, 3) := by decide +kernel
theorem dX11_middle_71 : decode cX11_middle 71 = .ok (.lload 6, 2) := by decide +kernel
theorem dX11_middle_73 : decode cX11_middle 73 = .ok (.aload_n 0, 1) := by decide +kernel
theorem dX11_middle_74 : decode cX11_middle 74 = .ok (.getfield 19, 3) := by decide +kernel
theorem dX11_middle_77 : decode cX11_middle 77 = .ok (.iload 8, 2) := by decide +kernel
theorem dX11_middle_79 : decode cX11_middle 79 = .ok (.baload, 1) := by decide +kernel
theorem dX11_middle_80 : decode cX11_middle 80 = .ok (.ifCond .eq 15, 3) := by decide +kernel
theorem dX11_middle_83 : decode cX11_middle 83 = .ok (.aload_n 0, 1) := by decide +kernel
theorem dX11_middle_84 : decode cX11_middle 84 = .ok (.iload 5, 2) := by decide +kernel
theorem dX11_middle_86 : decode cX11_middle 86 = .ok (.iload 8, 2) := by decide +kernel
theorem dX11_middle_88 : decode cX11_middle 88 = .ok (.invokevirtual 86, 3) := by decide +kernel
theorem dX11_middle_91 : decode cX11_middle 91 = .ok (.i2l, 1) := by decide +kernel
theorem dX11_middle_92 : decode cX11_middle 92 = .ok (.goto 4, 3) := by decide +kernel
theorem dX11_middle_95 : decode cX11_middle 95 = .ok (.lconst 0, 1) := by decide +kernel
theorem dX11_middle_96 : decode cX11_middle 96 = .ok (.ladd, 1) := by decide +kernel
theorem dX11_middle_97 : decode cX11_middle 97 = .ok (.lstore 6, 2) := by decide +kernel
theorem dX11_middle_99 : decode cX11_middle 99 = .ok (.iinc 8 1, 3) := by decide +kernel
theorem dX11_middle_102 : decode cX11_middle 102 = .ok (.goto (-40), 3) := by decide +kernel
theorem dX11_middle_105 : decode cX11_middle 105 = .ok (.iload_n 2, 1) := by decide +kernel
theorem dX11_middle_106 : decode cX11_middle 106 = .ok (.iconst (-1), 1) := by decide +kernel
theorem dX11_middle_107 : decode cX11_middle 107 = .ok (.if_icmp .eq 13, 3) := by decide +kernel
theorem dX11_middle_110 : decode cX11_middle 110 = .ok (.lload 6, 2) := by decide +kernel
theorem dX11_middle_112 : decode cX11_middle 112 = .ok (.lload_n 3, 1) := by decide +kernel
theorem dX11_middle_113 : decode cX11_middle 113 = .ok (.lcmp, 1) := by decide +kernel
theorem dX11_middle_114 : decode cX11_middle 114 = .ok (.ifCond .lt 6, 3) := by decide +kernel
theorem dX11_middle_117 : decode cX11_middle 117 = .ok (.goto 9, 3) := by decide +kernel
theorem dX11_middle_120 : decode cX11_middle 120 = .ok (.iload 5, 2) := by decide +kernel
theorem dX11_middle_122 : decode cX11_middle 122 = .ok (.istore_n 2, 1) := by decide +kernel
theorem dX11_middle_123 : decode cX11_middle 123 = .ok (.lload 6, 2) := by decide +kernel
theorem dX11_middle_125 : decode cX11_middle 125 = .ok (.lstore_n 3, 1) := by decide +kernel
theorem dX11_middle_126 : decode cX11_middle 126 = .ok (.iinc 5 1, 3) := by decide +kernel
theorem dX11_middle_129 : decode cX11_middle 129 = .ok (.goto (-95), 3) := by decide +kernel
theorem dX11_middle_132 : decode cX11_middle 132 = .ok (.iload_n 1, 1) := by decide +kernel
theorem dX11_middle_133 : decode cX11_middle 133 = .ok (.ifCond .ne 8, 3) := by decide +kernel
theorem dX11_middle_136 : decode cX11_middle 136 = .ok (.iload_n 2, 1) := by decide +kernel
theorem dX11_middle_137 : decode cX11_middle 137 = .ok (.i2l, 1) := by decide +kernel
theorem dX11_middle_138 : decode cX11_middle 138 = .ok (.goto 4, 3) := by decide +kernel
theorem dX11_middle_141 : decode cX11_middle 141 = .ok (.lload_n 3, 1) := by decide +kernel
theorem dX11_middle_142 : decode cX11_middle 142 = .ok (.lreturn, 1) := by decide +kernel
theorem dX11_count_0 : decode cX11_count 0 = .ok (.iload_n 1, 1) := by decide +kernel
theorem dX11_count_1 : decode cX11_count 1 = .ok (.bipush 10, 2) := by decide +kernel
theorem dX11_count_3 : decode cX11_count 3 = .ok (.isub, 1) := by decide +kernel
theorem dX11_count_4 : decode cX11_count 4 = .ok (.iconst 0, 1) := by decide +kernel
theorem dX11_count_5 : decode cX11_count 5 = .ok (.aload_n 0, 1) := by decide +kernel
theorem dX11_count_6 : decode cX11_count 6 = .ok (.getfield 50, 3) := by decide +kernel
theorem dX11_count_9 : decode cX11_count 9 = .ok (.iconst 1, 1) := by decide +kernel
theorem dX11_count_10 : decode cX11_count 10 = .ok (.isub, 1) := by decide +kernel
theorem dX11_count_11 : decode cX11_count 11 = .ok (.invokestatic 54, 3) := by decide +kernel
theorem dX11_count_14 : decode cX11_count 14 = .ok (.ifCond .eq 13, 3) := by decide +kernel
theorem dX11_count_17 : decode cX11_count 17 = .ok (.aload_n 0, 1) := by decide +kernel
theorem dX11_count_18 : decode cX11_count 18 = .ok (.getfield 7, 3) := by decide +kernel
theorem dX11_count_21 : decode cX11_count 21 = .ok (.iload_n 1, 1) := by decide +kernel
theorem dX11_count_22 : decode cX11_count 22 = .ok (.bipush 10, 2) := by decide +kernel
theorem dX11_count_24 : decode cX11_count 24 = .ok (.isub, 1) := by decide +kernel
theorem dX11_count_25 : decode cX11_count 25 = .ok (.iaload, 1) := by decide +kernel
theorem dX11_count_26 : decode cX11_count 26 = .ok (.ireturn, 1) := by decide +kernel
theorem dX11_count_27 : decode cX11_count 27 = .ok (.iconst 0, 1) := by decide +kernel
theorem dX11_count_28 : decode cX11_count 28 = .ok (.istore_n 2, 1) := by decide +kernel
theorem dX11_count_29 : decode cX11_count 29 = .ok (.iload_n 1, 1) := by decide +kernel
theorem dX11_count_30 : decode cX11_count 30 = .ok (.tableswitch 140 0 4 #[34, 39, 44, 49, 54], 34) := by decide +kernel
theorem dX11_count_64 : decode cX11_count 64 = .ok (.aload_n 0, 1) := by decide +kernel
theorem dX11_count_65 : decode cX11_count 65 = .ok (.getfield 50, 3) := by decide +kernel
theorem dX11_count_68 : decode cX11_count 68 = .ok (.ireturn, 1) := by decide +kernel
theorem dX11_count_69 : decode cX11_count 69 = .ok (.aload_n 0, 1) := by decide +kernel
theorem dX11_count_70 : decode cX11_count 70 = .ok (.invokevirtual 112, 3) := by decide +kernel
theorem dX11_count_73 : decode cX11_count 73 = .ok (.ireturn, 1) := by decide +kernel
theorem dX11_count_74 : decode cX11_count 74 = .ok (.aload_n 0, 1) := by decide +kernel
theorem dX11_count_75 : decode cX11_count 75 = .ok (.getfield 63, 3) := by decide +kernel
theorem dX11_count_78 : decode cX11_count 78 = .ok (.ireturn, 1) := by decide +kernel
theorem dX11_count_79 : decode cX11_count 79 = .ok (.aload_n 0, 1) := by decide +kernel
theorem dX11_count_80 : decode cX11_count 80 = .ok (.getfield 93, 3) := by decide +kernel
theorem dX11_count_83 : decode cX11_count 83 = .ok (.ireturn, 1) := by decide +kernel
theorem dX11_count_84 : decode cX11_count 84 = .ok (.iconst 0, 1) := by decide +kernel
theorem dX11_count_85 : decode cX11_count 85 = .ok (.istore_n 3, 1) := by decide +kernel
theorem dX11_count_86 : decode cX11_count 86 = .ok (.iload_n 3, 1) := by decide +kernel
theorem dX11_count_87 : decode cX11_count 87 = .ok (.aload_n 0, 1) := by decide +kernel
theorem dX11_count_88 : decode cX11_count 88 = .ok (.getfield 50, 3) := by decide +kernel
theorem dX11_count_91 : decode cX11_count 91 = .ok (.if_icmp .ge 66, 3) := by decide +kernel
theorem dX11_count_94 : decode cX11_count 94 = .ok (.iconst 0, 1) := by decide +kernel
theorem dX11_count_95 : decode cX11_count 95 = .ok (.istore 4, 2) := by decide +kernel
theorem dX11_count_97 : decode cX11_count 97 = .ok (.iload 4, 2) := by decide +kernel
theorem dX11_count_99 : decode cX11_count 99 = .ok (.iload_n 3, 1) := by decide +kernel
theorem dX11_count_100 : decode cX11_count 100 = .ok (.if_icmp .ge 51, 3) := by decide +kernel
theorem dX11_count_103 : decode cX11_count 103 = .ok (.aload_n 0, 1) := by decide +kernel
theorem dX11_count_104 : decode cX11_count 104 = .ok (.getfield 19, 3) := by decide +kernel
theorem dX11_count_107 : decode cX11_count 107 = .ok (.iload_n 3, 1) := by decide +kernel
theorem dX11_count_108 : decode cX11_count 108 = .ok (.baload, 1) := by decide +kernel
theorem dX11_count_109 : decode cX11_count 109 = .ok (.ifCond .eq 34, 3) := by decide +kernel
theorem dX11_count_112 : decode cX11_count 112 = .ok (.aload_n 0, 1) := by decide +kernel
theorem dX11_count_113 : decode cX11_count 113 = .ok (.getfield 19, 3) := by decide +kernel
theorem dX11_count_116 : decode cX11_count 116 = .ok (.iload 4, 2) := by decide +kernel
theorem dX11_count_118 : decode cX11_count 118 = .ok (.baload, 1) := by decide +kernel
theorem dX11_count_119 : decode cX11_count 119 = .ok (.ifCond .eq 24, 3) := by decide +kernel
theorem dX11_count_122 : decode cX11_count 122 = .ok (.aload_n 0, 1) := by decide +kernel
theorem dX11_count_123 : decode cX11_count 123 = .ok (.iload_n 3, 1) := by decide +kernel
theorem dX11_count_124 : decode cX11_count 124 = .ok (.iload 4, 2) := by decide +kernel
theorem dX11_count_126 : decode cX11_count 126 = .ok (.invokevirtual 86, 3) := by decide +kernel
theorem dX11_count_129 : decode cX11_count 129 = .ok (.iload_n 2, 1) := by decide +kernel
theorem dX11_count_130 : decode cX11_count 130 = .ok (.if_icmp .le 13, 3) := by decide +kernel
theorem dX11_count_133 : decode cX11_count 133 = .ok (.aload_n 0, 1) := by decide +kernel
theorem dX11_count_134 : decode cX11_count 134 = .ok (.iload_n 3, 1) := by decide +kernel
theorem dX11_count_135 : decode cX11_count 135 = .ok (.iload 4, 2) := by decide +kernel
theorem dX11_count_137 : decode cX11_count 137 = .ok (.invokevirtual 86, 3) := by decide +kernel
theorem dX11_count_140 : decode cX11_count 140 = .ok (.goto 4, 3) := by decide +kernel
theorem dX11_count_143 : decode cX11_count 143 = .ok (.iload_n 2, 1) := by decide +kernel
theorem dX11_count_144 : decode cX11_count 144 = .ok (.istore_n 2, 1) := by decide +kernel
theorem dX11_count_145 : decode cX11_count 145 = .ok (.iinc 4 1, 3) := by decide +kernel
theorem dX11_count_148 : decode cX11_count 148 = .ok (.goto (-51), 3) := by decide +kernel
theorem dX11_count_151 : decode cX11_count 151 = .ok (.iinc 3 1, 3) := by decide +kernel
theorem dX11_count_154 : decode cX11_count 154 = .ok (.goto (-68), 3) := by decide +kernel
theorem dX11_count_157 : decode cX11_count 157 = .ok (.aload_n 0, 1) := by decide +kernel
theorem dX11_count_158 : decode cX11_count 158 = .ok (.invokevirtual 89, 3) := by decide +kernel
theorem dX11_count_161 : decode cX11_count 161 = .ok (.ifCond .eq 7, 3) := by decide +kernel
theorem dX11_count_164 : decode cX11_count 164 = .ok (.iload_n 2, 1) := by decide +kernel
theorem dX11_count_165 : decode cX11_count 165 = .ok (.goto 4, 3) := by decide +kernel
theorem dX11_count_168 : decode cX11_count 168 = .ok (.iconst (-1), 1) := by decide +kernel
theorem dX11_count_169 : decode cX11_count 169 = .ok (.ireturn, 1) := by decide +kernel
theorem dX11_count_170 : decode cX11_count 170 = .ok (.iconst (-1), 1) := by decide +kernel
theorem dX11_count_171 : decode cX11_count 171 = .ok (.ireturn, 1) := by decide +kernel
theorem dJ9_abs_0f7a4_0 : decode cJ9_abs_0f7a4 0 = .ok (.iload_n 0, 1) := by decide +kernel
theorem dJ9_abs_0f7a4_1 : decode cJ9_abs_0f7a4 1 = .ok (.ifCond .ge 8, 3) := by decide +kernel
theorem dJ9_abs_0f7a4_4 : decode cJ9_abs_0f7a4 4 = .ok (.iload_n 0, 1) := by decide +kernel
theorem dJ9_abs_0f7a4_5 : decode cJ9_abs_0f7a4 5 = .ok (.ineg, 1) := by decide +kernel
theorem dJ9_abs_0f7a4_6 : decode cJ9_abs_0f7a4 6 = .ok (.goto 4, 3) := by decide +kernel
theorem dJ9_abs_0f7a4_9 : decode cJ9_abs_0f7a4 9 = .ok (.iload_n 0, 1) := by decide +kernel
theorem dJ9_abs_0f7a4_10 : decode cJ9_abs_0f7a4 10 = .ok (.ireturn, 1) := by decide +kernel
theorem dJ9_max_7cf53_0 : decode cJ9_max_7cf53 0 = .ok (.iload_n 0, 1) := by decide +kernel
theorem dJ9_max_7cf53_1 : decode cJ9_max_7cf53 1 = .ok (.iload_n 1, 1) := by decide +kernel
theorem dJ9_max_7cf53_2 : decode cJ9_max_7cf53 2 = .ok (.if_icmp .lt 7, 3) := by decide +kernel
theorem dJ9_max_7cf53_5 : decode cJ9_max_7cf53 5 = .ok (.iload_n 0, 1) := by decide +kernel
theorem dJ9_max_7cf53_6 : decode cJ9_max_7cf53 6 = .ok (.goto 4, 3) := by decide +kernel
theorem dJ9_max_7cf53_9 : decode cJ9_max_7cf53 9 = .ok (.iload_n 1, 1) := by decide +kernel
theorem dJ9_max_7cf53_10 : decode cJ9_max_7cf53 10 = .ok (.ireturn, 1) := by decide +kernel
theorem dJ9_min_7cf53_0 : decode cJ9_min_7cf53 0 = .ok (.iload_n 0, 1) := by decide +kernel
theorem dJ9_min_7cf53_1 : decode cJ9_min_7cf53 1 = .ok (.iload_n 1, 1) := by decide +kernel
theorem dJ9_min_7cf53_2 : decode cJ9_min_7cf53 2 = .ok (.if_icmp .gt 7, 3) := by decide +kernel
theorem dJ9_min_7cf53_5 : decode cJ9_min_7cf53 5 = .ok (.iload_n 0, 1) := by decide +kernel
theorem dJ9_min_7cf53_6 : decode cJ9_min_7cf53 6 = .ok (.goto 4, 3) := by decide +kernel
theorem dJ9_min_7cf53_9 : decode cJ9_min_7cf53 9 = .ok (.iload_n 1, 1) := by decide +kernel
theorem dJ9_min_7cf53_10 : decode cJ9_min_7cf53 10 = .ok (.ireturn, 1) := by decide +kernel
theorem dJ7_fill_53178_0 : decode cJ7_fill_53178 0 = .ok (.iconst 0, 1) := by decide +kernel
theorem dJ7_fill_53178_1 : decode cJ7_fill_53178 1 = .ok (.istore_n 2, 1) := by decide +kernel
theorem dJ7_fill_53178_2 : decode cJ7_fill_53178 2 = .ok (.aload_n 0, 1) := by decide +kernel
theorem dJ7_fill_53178_3 : decode cJ7_fill_53178 3 = .ok (.arraylength, 1) := by decide +kernel
theorem dJ7_fill_53178_4 : decode cJ7_fill_53178 4 = .ok (.istore_n 3, 1) := by decide +kernel
theorem dJ7_fill_53178_5 : decode cJ7_fill_53178 5 = .ok (.iload_n 2, 1) := by decide +kernel
theorem dJ7_fill_53178_6 : decode cJ7_fill_53178 6 = .ok (.iload_n 3, 1) := by decide +kernel
theorem dJ7_fill_53178_7 : decode cJ7_fill_53178 7 = .ok (.if_icmp .ge 13, 3) := by decide +kernel
theorem dJ7_fill_53178_10 : decode cJ7_fill_53178 10 = .ok (.aload_n 0, 1) := by decide +kernel
theorem dJ7_fill_53178_11 : decode cJ7_fill_53178 11 = .ok (.iload_n 2, 1) := by decide +kernel
theorem dJ7_fill_53178_12 : decode cJ7_fill_53178 12 = .ok (.iload_n 1, 1) := by decide +kernel
theorem dJ7_fill_53178_13 : decode cJ7_fill_53178 13 = .ok (.iastore, 1) := by decide +kernel
theorem dJ7_fill_53178_14 : decode cJ7_fill_53178 14 = .ok (.iinc 2 1, 3) := by decide +kernel
theorem dJ7_fill_53178_17 : decode cJ7_fill_53178 17 = .ok (.goto (-12), 3) := by decide +kernel
theorem dJ7_fill_53178_20 : decode cJ7_fill_53178 20 = .ok (.return_, 1) := by decide +kernel
theorem dL_law_0 : decode cL_law 0 = .ok (.new 7, 3) := by decide +kernel
theorem dL_law_3 : decode cL_law 3 = .ok (.dup, 1) := by decide +kernel
theorem dL_law_4 : decode cL_law 4 = .ok (.invokespecial 9, 3) := by decide +kernel
theorem dL_law_7 : decode cL_law 7 = .ok (.astore_n 1, 1) := by decide +kernel
theorem dL_law_8 : decode cL_law 8 = .ok (.new 10, 3) := by decide +kernel
theorem dL_law_11 : decode cL_law 11 = .ok (.dup, 1) := by decide +kernel
theorem dL_law_12 : decode cL_law 12 = .ok (.invokespecial 12, 3) := by decide +kernel
theorem dL_law_15 : decode cL_law 15 = .ok (.astore_n 2, 1) := by decide +kernel
theorem dL_law_16 : decode cL_law 16 = .ok (.iconst 0, 1) := by decide +kernel
theorem dL_law_17 : decode cL_law 17 = .ok (.istore_n 3, 1) := by decide +kernel
theorem dL_law_18 : decode cL_law 18 = .ok (.iload_n 3, 1) := by decide +kernel
theorem dL_law_19 : decode cL_law 19 = .ok (.aload_n 0, 1) := by decide +kernel
theorem dL_law_20 : decode cL_law 20 = .ok (.arraylength, 1) := by decide +kernel
theorem dL_law_21 : decode cL_law 21 = .ok (.iconst 4, 1) := by decide +kernel
theorem dL_law_22 : decode cL_law 22 = .ok (.isub, 1) := by decide +kernel
theorem dL_law_23 : decode cL_law 23 = .ok (.if_icmp .gt 781, 3) := by decide +kernel
theorem dL_law_26 : decode cL_law 26 = .ok (.aload_n 0, 1) := by decide +kernel
theorem dL_law_27 : decode cL_law 27 = .ok (.iload_n 3, 1) := by decide +kernel
theorem dL_law_28 : decode cL_law 28 = .ok (.iaload, 1) := by decide +kernel
theorem dL_law_29 : decode cL_law 29 = .ok (.bipush 31, 2) := by decide +kernel
theorem dL_law_31 : decode cL_law 31 = .ok (.iand, 1) := by decide +kernel
theorem dL_law_32 : decode cL_law 32 = .ok (.tableswitch 766 0 23 #[112, 135, 178, 221, 244, 277, 290, 313, 336, 359, 382, 415, 448, 481, 514, 537, 560, 583, 607, 640, 663, 696, 719, 743], 112) := by decide +kernel
theorem dL_law_144 : decode cL_law 144 = .ok (.aload_n 1, 1) := by decide +kernel
theorem dL_law_145 : decode cL_law 145 = .ok (.aload_n 0, 1) := by decide +kernel
theorem dL_law_146 : decode cL_law 146 = .ok (.iload_n 3, 1) := by decide +kernel
theorem dL_law_147 : decode cL_law 147 = .ok (.iconst 1, 1) := by decide +kernel
theorem dL_law_148 : decode cL_law 148 = .ok (.iadd, 1) := by decide +kernel
theorem dL_law_149 : decode cL_law 149 = .ok (.iaload, 1) := by decide +kernel
theorem dL_law_150 : decode cL_law 150 = .ok (.invokevirtual 13, 3) := by decide +kernel
theorem dL_law_153 : decode cL_law 153 = .ok (.aload_n 2, 1) := by decide +kernel
theorem dL_law_154 : decode cL_law 154 = .ok (.aload_n 0, 1) := by decide +kernel
theorem dL_law_155 : decode cL_law 155 = .ok (.iload_n 3, 1) := by decide +kernel
theorem dL_law_156 : decode cL_law 156 = .ok (.iconst 1, 1) := by decide +kernel
theorem dL_law_157 : decode cL_law 157 = .ok (.iadd, 1) := by decide +kernel
theorem dL_law_158 : decode cL_law 158 = .ok (.iaload, 1) := by decide +kernel
theorem dL_law_159 : decode cL_law 159 = .ok (.invokevirtual 17, 3) := by decide +kernel
theorem dL_law_162 : decode cL_law 162 = .ok (.if_icmp .eq 636, 3) := by decide +kernel
theorem dL_law_165 : decode cL_law 165 = .ok (.iconst 0, 1) := by decide +kernel
theorem dL_law_166 : decode cL_law 166 = .ok (.ireturn, 1) := by decide +kernel
theorem dL_law_167 : decode cL_law 167 = .ok (.aload_n 1, 1) := by decide +kernel
theorem dL_law_168 : decode cL_law 168 = .ok (.aload_n 0, 1) := by decide +kernel
theorem dL_law_169 : decode cL_law 169 = .ok (.iload_n 3, 1) := by decide +kernel
theorem dL_law_170 : decode cL_law 170 = .ok (.iconst 1, 1) := by decide +kernel
theorem dL_law_171 : decode cL_law 171 = .ok (.iadd, 1) := by decide +kernel
theorem dL_law_172 : decode cL_law 172 = .ok (.iaload, 1) := by decide +kernel
theorem dL_law_173 : decode cL_law 173 = .ok (.aload_n 0, 1) := by decide +kernel
theorem dL_law_174 : decode cL_law 174 = .ok (.iload_n 3, 1) := by decide +kernel
theorem dL_law_175 : decode cL_law 175 = .ok (.iconst 2, 1) := by decide +kernel
theorem dL_law_176 : decode cL_law 176 = .ok (.iadd, 1) := by decide +kernel
theorem dL_law_177 : decode cL_law 177 = .ok (.iaload, 1) := by decide +kernel
theorem dL_law_178 : decode cL_law 178 = .ok (.aload_n 0, 1) := by decide +kernel
theorem dL_law_179 : decode cL_law 179 = .ok (.iload_n 3, 1) := by decide +kernel
theorem dL_law_180 : decode cL_law 180 = .ok (.iconst 3, 1) := by decide +kernel
theorem dL_law_181 : decode cL_law 181 = .ok (.iadd, 1) := by decide +kernel
theorem dL_law_182 : decode cL_law 182 = .ok (.iaload, 1) := by decide +kernel
theorem dL_law_183 : decode cL_law 183 = .ok (.invokevirtual 18, 3) := by decide +kernel
theorem dL_law_186 : decode cL_law 186 = .ok (.aload_n 2, 1) := by decide +kernel
theorem dL_law_187 : decode cL_law 187 = .ok (.aload_n 0, 1) := by decide +kernel
theorem dL_law_188 : decode cL_law 188 = .ok (.iload_n 3, 1) := by decide +kernel
theorem dL_law_189 : decode cL_law 189 = .ok (.iconst 1, 1) := by decide +kernel
theorem dL_law_190 : decode cL_law 190 = .ok (.iadd, 1) := by decide +kernel
theorem dL_law_191 : decode cL_law 191 = .ok (.iaload, 1) := by decide +kernel
theorem dL_law_192 : decode cL_law 192 = .ok (.aload_n 0, 1) := by decide +kernel
theorem dL_law_193 : decode cL_law 193 = .ok (.iload_n 3, 1) := by decide +kernel
theorem dL_law_194 : decode cL_law 194 = .ok (.iconst 2, 1) := by decide +kernel
theorem dL_law_195 : decode cL_law 195 = .ok (.iadd, 1) := by decide +kernel
theorem dL_law_196 : decode cL_law 196 = .ok (.iaload, 1) := by decide +kernel
theorem dL_law_197 : decode cL_law 197 = .ok (.aload_n 0, 1) := by decide +kernel
theorem dL_law_198 : decode cL_law 198 = .ok (.iload_n 3, 1) := by decide +kernel
theorem dL_law_199 : decode cL_law 199 = .ok (.iconst 3, 1) := by decide +kernel
theorem dL_law_200 : decode cL_law 200 = .ok (.iadd, 1) := by decide +kernel
theorem dL_law_201 : decode cL_law 201 = .ok (.iaload, 1) := by decide +kernel
theorem dL_law_202 : decode cL_law 202 = .ok (.invokevirtual 22, 3) := by decide +kernel
theorem dL_law_205 : decode cL_law 205 = .ok (.if_icmp .eq 593, 3) := by decide +kernel
theorem dL_law_208 : decode cL_law 208 = .ok (.iconst 0, 1) := by decide +kernel
theorem dL_law_209 : decode cL_law 209 = .ok (.ireturn, 1) := by decide +kernel
theorem dL_law_210 : decode cL_law 210 = .ok (.aload_n 1, 1) := by decide +kernel
theorem dL_law_211 : decode cL_law 211 = .ok (.aload_n 0, 1) := by decide +kernel
theorem dL_law_212 : decode cL_law 212 = .ok (.iload_n 3, 1) := by decide +kernel
theorem dL_law_213 : decode cL_law 213 = .ok (.iconst 1, 1) := by decide +kernel
theorem dL_law_214 : decode cL_law 214 = .ok (.iadd, 1) := by decide +kernel
theorem dL_law_215 : decode cL_law 215 = .ok (.iaload, 1) := by decide +kernel
theorem dL_law_216 : decode cL_law 216 = .ok (.aload_n 0, 1) := by decide +kernel
theorem dL_law_217 : decode cL_law 217 = .ok (.iload_n 3, 1) := by decide +kernel
theorem dL_law_218 : decode cL_law 218 = .ok (.iconst 2, 1) := by decide +kernel
theorem dL_law_219 : decode cL_law 219 = .ok (.iadd, 1) := by decide +kernel
theorem dL_law_220 : decode cL_law 220 = .ok (.iaload, 1) := by decide +kernel
theorem dL_law_221 : decode cL_law 221 = .ok (.aload_n 0, 1) := by decide +kernel
theorem dL_law_222 : decode cL_law 222 = .ok (.iload_n 3, 1) := by decide +kernel
theorem dL_law_223 : decode cL_law 223 = .ok (.iconst 3, 1) := by decide +kernel
theorem dL_law_224 : decode cL_law 224 = .ok (.iadd, 1) := by decide +kernel
theorem dL_law_225 : decode cL_law 225 = .ok (.iaload, 1) := by decide +kernel
theorem dL_law_226 : decode cL_law 226 = .ok (.invokevirtual 23, 3) := by decide +kernel
theorem dL_law_229 : decode cL_law 229 = .ok (.aload_n 2, 1) := by decide +kernel
theorem dL_law_230 : decode cL_law 230 = .ok (.aload_n 0, 1) := by decide +kernel
theorem dL_law_231 : decode cL_law 231 = .ok (.iload_n 3, 1) := by decide +kernel
theorem dL_law_232 : decode cL_law 232 = .ok (.iconst 1, 1) := by decide +kernel
theorem dL_law_233 : decode cL_law 233 = .ok (.iadd, 1) := by decide +kernel
theorem dL_law_234 : decode cL_law 234 = .ok (.iaload, 1) := by decide +kernel
theorem dL_law_235 : decode cL_law 235 = .ok (.aload_n 0, 1) := by decide +kernel
theorem dL_law_236 : decode cL_law 236 = .ok (.iload_n 3, 1) := by decide +kernel
theorem dL_law_237 : decode cL_law 237 = .ok (.iconst 2, 1) := by decide +kernel
theorem dL_law_238 : decode cL_law 238 = .ok (.iadd, 1) := by decide +kernel
theorem dL_law_239 : decode cL_law 239 = .ok (.iaload, 1) := by decide +kernel
theorem dL_law_240 : decode cL_law 240 = .ok (.aload_n 0, 1) := by decide +kernel
theorem dL_law_241 : decode cL_law 241 = .ok (.iload_n 3, 1) := by decide +kernel
theorem dL_law_242 : decode cL_law 242 = .ok (.iconst 3, 1) := by decide +kernel
theorem dL_law_243 : decode cL_law 243 = .ok (.iadd, 1) := by decide +kernel
theorem dL_law_244 : decode cL_law 244 = .ok (.iaload, 1) := by decide +kernel
theorem dL_law_245 : decode cL_law 245 = .ok (.invokevirtual 26, 3) := by decide +kernel
theorem dL_law_248 : decode cL_law 248 = .ok (.if_icmp .eq 550, 3) := by decide +kernel
theorem dL_law_251 : decode cL_law 251 = .ok (.iconst 0, 1) := by decide +kernel
theorem dL_law_252 : decode cL_law 252 = .ok (.ireturn, 1) := by decide +kernel
theorem dL_law_253 : decode cL_law 253 = .ok (.aload_n 1, 1) := by decide +kernel
theorem dL_law_254 : decode cL_law 254 = .ok (.aload_n 0, 1) := by decide +kernel
theorem dL_law_255 : decode cL_law 255 = .ok (.iload_n 3, 1) := by decide +kernel
theorem dL_law_256 : decode cL_law 256 = .ok (.iconst 1, 1) := by decide +kernel
theorem dL_law_257 : decode cL_law 257 = .ok (.iadd, 1) := by decide +kernel
theorem dL_law_258 : decode cL_law 258 = .ok (.iaload, 1) := by decide +kernel
theorem dL_law_259 : decode cL_law 259 = .ok (.invokevirtual 27, 3) := by decide +kernel
theorem dL_law_262 : decode cL_law 262 = .ok (.aload_n 2, 1) := by decide +kernel
theorem dL_law_263 : decode cL_law 263 = .ok (.aload_n 0, 1) := by decide +kernel
theorem dL_law_264 : decode cL_law 264 = .ok (.iload_n 3, 1) := by decide +kernel
theorem dL_law_265 : decode cL_law 265 = .ok (.iconst 1, 1) := by decide +kernel
theorem dL_law_266 : decode cL_law 266 = .ok (.iadd, 1) := by decide +kernel
theorem dL_law_267 : decode cL_law 267 = .ok (.iaload, 1) := by decide +kernel
theorem dL_law_268 : decode cL_law 268 = .ok (.invokevirtual 31, 3) := by decide +kernel
theorem dL_law_271 : decode cL_law 271 = .ok (.if_icmp .eq 527, 3) := by decide +kernel
theorem dL_law_274 : decode cL_law 274 = .ok (.iconst 0, 1) := by decide +kernel
theorem dL_law_275 : decode cL_law 275 = .ok (.ireturn, 1) := by decide +kernel
theorem dL_law_276 : decode cL_law 276 = .ok (.aload_n 1, 1) := by decide +kernel
theorem dL_law_277 : decode cL_law 277 = .ok (.aload_n 0, 1) := by decide +kernel
theorem dL_law_278 : decode cL_law 278 = .ok (.iload_n 3, 1) := by decide +kernel
theorem dL_law_279 : decode cL_law 279 = .ok (.iconst 1, 1) := by decide +kernel
theorem dL_law_280 : decode cL_law 280 = .ok (.iadd, 1) := by decide +kernel
theorem dL_law_281 : decode cL_law 281 = .ok (.iaload, 1) := by decide +kernel
theorem dL_law_282 : decode cL_law 282 = .ok (.aload_n 0, 1) := by decide +kernel
theorem dL_law_283 : decode cL_law 283 = .ok (.iload_n 3, 1) := by decide +kernel
theorem dL_law_284 : decode cL_law 284 = .ok (.iconst 2, 1) := by decide +kernel
theorem dL_law_285 : decode cL_law 285 = .ok (.iadd, 1) := by decide +kernel
theorem dL_law_286 : decode cL_law 286 = .ok (.iaload, 1) := by decide +kernel
theorem dL_law_287 : decode cL_law 287 = .ok (.invokevirtual 32, 3) := by decide +kernel
theorem dL_law_290 : decode cL_law 290 = .ok (.aload_n 2, 1) := by decide +kernel
theorem dL_law_291 : decode cL_law 291 = .ok (.aload_n 0, 1) := by decide +kernel
theorem dL_law_292 : decode cL_law 292 = .ok (.iload_n 3, 1) := by decide +kernel
theorem dL_law_293 : decode cL_law 293 = .ok (.iconst 1, 1) := by decide +kernel
theorem dL_law_294 : decode cL_law 294 = .ok (.iadd, 1) := by decide +kernel
theorem dL_law_295 : decode cL_law 295 = .ok (.iaload, 1) := by decide +kernel
theorem dL_law_296 : decode cL_law 296 = .ok (.aload_n 0, 1) := by decide +kernel
theorem dL_law_297 : decode cL_law 297 = .ok (.iload_n 3, 1) := by decide +kernel
theorem dL_law_298 : decode cL_law 298 = .ok (.iconst 2, 1) := by decide +kernel
theorem dL_law_299 : decode cL_law 299 = .ok (.iadd, 1) := by decide +kernel
theorem dL_law_300 : decode cL_law 300 = .ok (.iaload, 1) := by decide +kernel
theorem dL_law_301 : decode cL_law 301 = .ok (.invokevirtual 36, 3) := by decide +kernel
theorem dL_law_304 : decode cL_law 304 = .ok (.if_icmp .eq 494, 3) := by decide +kernel
theorem dL_law_307 : decode cL_law 307 = .ok (.iconst 0, 1) := by decide +kernel
theorem dL_law_308 : decode cL_law 308 = .ok (.ireturn, 1) := by decide +kernel
theorem dL_law_309 : decode cL_law 309 = .ok (.aload_n 1, 1) := by decide +kernel
theorem dL_law_310 : decode cL_law 310 = .ok (.invokevirtual 37, 3) := by decide +kernel
theorem dL_law_313 : decode cL_law 313 = .ok (.aload_n 2, 1) := by decide +kernel
theorem dL_law_314 : decode cL_law 314 = .ok (.invokevirtual 41, 3) := by decide +kernel
theorem dL_law_317 : decode cL_law 317 = .ok (.if_icmp .eq 481, 3) := by decide +kernel
theorem dL_law_320 : decode cL_law 320 = .ok (.iconst 0, 1) := by decide +kernel
theorem dL_law_321 : decode cL_law 321 = .ok (.ireturn, 1) := by decide +kernel
theorem dL_law_322 : decode cL_law 322 = .ok (.aload_n 1, 1) := by decide +kernel
theorem dL_law_323 : decode cL_law 323 = .ok (.aload_n 0, 1) := by decide +kernel
theorem dL_law_324 : decode cL_law 324 = .ok (.iload_n 3, 1) := by decide +kernel
theorem dL_law_325 : decode cL_law 325 = .ok (.iconst 1, 1) := by decide +kernel
theorem dL_law_326 : decode cL_law 326 = .ok (.iadd, 1) := by decide +kernel
theorem dL_law_327 : decode cL_law 327 = .ok (.iaload, 1) := by decide +kernel
theorem dL_law_328 : decode cL_law 328 = .ok (.invokevirtual 42, 3) := by decide +kernel
theorem dL_law_331 : decode cL_law 331 = .ok (.aload_n 2, 1) := by decide +kernel
theorem dL_law_332 : decode cL_law 332 = .ok (.aload_n 0, 1) := by decide +kernel
theorem dL_law_333 : decode cL_law 333 = .ok (.iload_n 3, 1) := by decide +kernel
theorem dL_law_334 : decode cL_law 334 = .ok (.iconst 1, 1) := by decide +kernel
theorem dL_law_335 : decode cL_law 335 = .ok (.iadd, 1) := by decide +kernel
theorem dL_law_336 : decode cL_law 336 = .ok (.iaload, 1) := by decide +kernel
theorem dL_law_337 : decode cL_law 337 = .ok (.invokevirtual 45, 3) := by decide +kernel
theorem dL_law_340 : decode cL_law 340 = .ok (.if_icmp .eq 458, 3) := by decide +kernel
theorem dL_law_343 : decode cL_law 343 = .ok (.iconst 0, 1) := by decide +kernel
theorem dL_law_344 : decode cL_law 344 = .ok (.ireturn, 1) := by decide +kernel
theorem dL_law_345 : decode cL_law 345 = .ok (.aload_n 1, 1) := by decide +kernel
theorem dL_law_346 : decode cL_law 346 = .ok (.aload_n 0, 1) := by decide +kernel
theorem dL_law_347 : decode cL_law 347 = .ok (.iload_n 3, 1) := by decide +kernel
theorem dL_law_348 : decode cL_law 348 = .ok (.iconst 1, 1) := by decide +kernel
theorem dL_law_349 : decode cL_law 349 = .ok (.iadd, 1) := by decide +kernel
theorem dL_law_350 : decode cL_law 350 = .ok (.iaload, 1) := by decide +kernel
theorem dL_law_351 : decode cL_law 351 = .ok (.invokevirtual 46, 3) := by decide +kernel
theorem dL_law_354 : decode cL_law 354 = .ok (.aload_n 2, 1) := by decide +kernel
theorem dL_law_355 : decode cL_law 355 = .ok (.aload_n 0, 1) := by decide +kernel
theorem dL_law_356 : decode cL_law 356 = .ok (.iload_n 3, 1) := by decide +kernel
theorem dL_law_357 : decode cL_law 357 = .ok (.iconst 1, 1) := by decide +kernel
theorem dL_law_358 : decode cL_law 358 = .ok (.iadd, 1) := by decide +kernel
theorem dL_law_359 : decode cL_law 359 = .ok (.iaload, 1) := by decide +kernel
theorem dL_law_360 : decode cL_law 360 = .ok (.invokevirtual 49, 3) := by decide +kernel
theorem dL_law_363 : decode cL_law 363 = .ok (.if_icmp .eq 435, 3) := by decide +kernel
theorem dL_law_366 : decode cL_law 366 = .ok (.iconst 0, 1) := by decide +kernel
theorem dL_law_367 : decode cL_law 367 = .ok (.ireturn, 1) := by decide +kernel
theorem dL_law_368 : decode cL_law 368 = .ok (.aload_n 1, 1) := by decide +kernel
theorem dL_law_369 : decode cL_law 369 = .ok (.aload_n 0, 1) := by decide +kernel
theorem dL_law_370 : decode cL_law 370 = .ok (.iload_n 3, 1) := by decide +kernel
theorem dL_law_371 : decode cL_law 371 = .ok (.iconst 1, 1) := by decide +kernel
theorem dL_law_372 : decode cL_law 372 = .ok (.iadd, 1) := by decide +kernel
theorem dL_law_373 : decode cL_law 373 = .ok (.iaload, 1) := by decide +kernel
theorem dL_law_374 : decode cL_law 374 = .ok (.invokevirtual 50, 3) := by decide +kernel
theorem dL_law_377 : decode cL_law 377 = .ok (.aload_n 2, 1) := by decide +kernel
theorem dL_law_378 : decode cL_law 378 = .ok (.aload_n 0, 1) := by decide +kernel
theorem dL_law_379 : decode cL_law 379 = .ok (.iload_n 3, 1) := by decide +kernel
theorem dL_law_380 : decode cL_law 380 = .ok (.iconst 1, 1) := by decide +kernel
theorem dL_law_381 : decode cL_law 381 = .ok (.iadd, 1) := by decide +kernel
theorem dL_law_382 : decode cL_law 382 = .ok (.iaload, 1) := by decide +kernel
theorem dL_law_383 : decode cL_law 383 = .ok (.invokevirtual 53, 3) := by decide +kernel
theorem dL_law_386 : decode cL_law 386 = .ok (.if_icmp .eq 412, 3) := by decide +kernel
theorem dL_law_389 : decode cL_law 389 = .ok (.iconst 0, 1) := by decide +kernel
theorem dL_law_390 : decode cL_law 390 = .ok (.ireturn, 1) := by decide +kernel
theorem dL_law_391 : decode cL_law 391 = .ok (.aload_n 1, 1) := by decide +kernel
theorem dL_law_392 : decode cL_law 392 = .ok (.aload_n 0, 1) := by decide +kernel
theorem dL_law_393 : decode cL_law 393 = .ok (.iload_n 3, 1) := by decide +kernel
theorem dL_law_394 : decode cL_law 394 = .ok (.iconst 1, 1) := by decide +kernel
theorem dL_law_395 : decode cL_law 395 = .ok (.iadd, 1) := by decide +kernel
theorem dL_law_396 : decode cL_law 396 = .ok (.iaload, 1) := by decide +kernel
theorem dL_law_397 : decode cL_law 397 = .ok (.invokevirtual 54, 3) := by decide +kernel
theorem dL_law_400 : decode cL_law 400 = .ok (.aload_n 2, 1) := by decide +kernel
theorem dL_law_401 : decode cL_law 401 = .ok (.aload_n 0, 1) := by decide +kernel
theorem dL_law_402 : decode cL_law 402 = .ok (.iload_n 3, 1) := by decide +kernel
theorem dL_law_403 : decode cL_law 403 = .ok (.iconst 1, 1) := by decide +kernel
theorem dL_law_404 : decode cL_law 404 = .ok (.iadd, 1) := by decide +kernel
theorem dL_law_405 : decode cL_law 405 = .ok (.iaload, 1) := by decide +kernel
theorem dL_law_406 : decode cL_law 406 = .ok (.invokevirtual 57, 3) := by decide +kernel
theorem dL_law_409 : decode cL_law 409 = .ok (.if_icmp .eq 389, 3) := by decide +kernel
theorem dL_law_412 : decode cL_law 412 = .ok (.iconst 0, 1) := by decide +kernel
theorem dL_law_413 : decode cL_law 413 = .ok (.ireturn, 1) := by decide +kernel
theorem dL_law_414 : decode cL_law 414 = .ok (.aload_n 1, 1) := by decide +kernel
theorem dL_law_415 : decode cL_law 415 = .ok (.aload_n 0, 1) := by decide +kernel
theorem dL_law_416 : decode cL_law 416 = .ok (.iload_n 3, 1) := by decide +kernel
theorem dL_law_417 : decode cL_law 417 = .ok (.iconst 1, 1) := by decide +kernel
theorem dL_law_418 : decode cL_law 418 = .ok (.iadd, 1) := by decide +kernel
theorem dL_law_419 : decode cL_law 419 = .ok (.iaload, 1) := by decide +kernel
theorem dL_law_420 : decode cL_law 420 = .ok (.aload_n 0, 1) := by decide +kernel
theorem dL_law_421 : decode cL_law 421 = .ok (.iload_n 3, 1) := by decide +kernel
theorem dL_law_422 : decode cL_law 422 = .ok (.iconst 2, 1) := by decide +kernel
theorem dL_law_423 : decode cL_law 423 = .ok (.iadd, 1) := by decide +kernel
theorem dL_law_424 : decode cL_law 424 = .ok (.iaload, 1) := by decide +kernel
theorem dL_law_425 : decode cL_law 425 = .ok (.invokevirtual 58, 3) := by decide +kernel
theorem dL_law_428 : decode cL_law 428 = .ok (.aload_n 2, 1) := by decide +kernel
theorem dL_law_429 : decode cL_law 429 = .ok (.aload_n 0, 1) := by decide +kernel
theorem dL_law_430 : decode cL_law 430 = .ok (.iload_n 3, 1) := by decide +kernel
theorem dL_law_431 : decode cL_law 431 = .ok (.iconst 1, 1) := by decide +kernel
theorem dL_law_432 : decode cL_law 432 = .ok (.iadd, 1) := by decide +kernel
theorem dL_law_433 : decode cL_law 433 = .ok (.iaload, 1) := by decide +kernel
theorem dL_law_434 : decode cL_law 434 = .ok (.aload_n 0, 1) := by decide +kernel
theorem dL_law_435 : decode cL_law 435 = .ok (.iload_n 3, 1) := by decide +kernel
theorem dL_law_436 : decode cL_law 436 = .ok (.iconst 2, 1) := by decide +kernel
theorem dL_law_437 : decode cL_law 437 = .ok (.iadd, 1) := by decide +kernel
theorem dL_law_438 : decode cL_law 438 = .ok (.iaload, 1) := by decide +kernel
theorem dL_law_439 : decode cL_law 439 = .ok (.invokevirtual 61, 3) := by decide +kernel
theorem dL_law_442 : decode cL_law 442 = .ok (.if_icmp .eq 356, 3) := by decide +kernel
theorem dL_law_445 : decode cL_law 445 = .ok (.iconst 0, 1) := by decide +kernel
theorem dL_law_446 : decode cL_law 446 = .ok (.ireturn, 1) := by decide +kernel
theorem dL_law_447 : decode cL_law 447 = .ok (.aload_n 1, 1) := by decide +kernel
theorem dL_law_448 : decode cL_law 448 = .ok (.aload_n 0, 1) := by decide +kernel
theorem dL_law_449 : decode cL_law 449 = .ok (.iload_n 3, 1) := by decide +kernel
theorem dL_law_450 : decode cL_law 450 = .ok (.iconst 1, 1) := by decide +kernel
theorem dL_law_451 : decode cL_law 451 = .ok (.iadd, 1) := by decide +kernel
theorem dL_law_452 : decode cL_law 452 = .ok (.iaload, 1) := by decide +kernel
theorem dL_law_453 : decode cL_law 453 = .ok (.aload_n 0, 1) := by decide +kernel
theorem dL_law_454 : decode cL_law 454 = .ok (.iload_n 3, 1) := by decide +kernel
theorem dL_law_455 : decode cL_law 455 = .ok (.iconst 2, 1) := by decide +kernel
theorem dL_law_456 : decode cL_law 456 = .ok (.iadd, 1) := by decide +kernel
theorem dL_law_457 : decode cL_law 457 = .ok (.iaload, 1) := by decide +kernel
theorem dL_law_458 : decode cL_law 458 = .ok (.invokevirtual 62, 3) := by decide +kernel
theorem dL_law_461 : decode cL_law 461 = .ok (.aload_n 2, 1) := by decide +kernel
theorem dL_law_462 : decode cL_law 462 = .ok (.aload_n 0, 1) := by decide +kernel
theorem dL_law_463 : decode cL_law 463 = .ok (.iload_n 3, 1) := by decide +kernel
theorem dL_law_464 : decode cL_law 464 = .ok (.iconst 1, 1) := by decide +kernel
theorem dL_law_465 : decode cL_law 465 = .ok (.iadd, 1) := by decide +kernel
theorem dL_law_466 : decode cL_law 466 = .ok (.iaload, 1) := by decide +kernel
theorem dL_law_467 : decode cL_law 467 = .ok (.aload_n 0, 1) := by decide +kernel
theorem dL_law_468 : decode cL_law 468 = .ok (.iload_n 3, 1) := by decide +kernel
theorem dL_law_469 : decode cL_law 469 = .ok (.iconst 2, 1) := by decide +kernel
theorem dL_law_470 : decode cL_law 470 = .ok (.iadd, 1) := by decide +kernel
theorem dL_law_471 : decode cL_law 471 = .ok (.iaload, 1) := by decide +kernel
theorem dL_law_472 : decode cL_law 472 = .ok (.invokevirtual 65, 3) := by decide +kernel
theorem dL_law_475 : decode cL_law 475 = .ok (.if_icmp .eq 323, 3) := by decide +kernel
theorem dL_law_478 : decode cL_law 478 = .ok (.iconst 0, 1) := by decide +kernel
theorem dL_law_479 : decode cL_law 479 = .ok (.ireturn, 1) := by decide +kernel
theorem dL_law_480 : decode cL_law 480 = .ok (.aload_n 1, 1) := by decide +kernel
theorem dL_law_481 : decode cL_law 481 = .ok (.aload_n 0, 1) := by decide +kernel
theorem dL_law_482 : decode cL_law 482 = .ok (.iload_n 3, 1) := by decide +kernel
theorem dL_law_483 : decode cL_law 483 = .ok (.iconst 1, 1) := by decide +kernel
theorem dL_law_484 : decode cL_law 484 = .ok (.iadd, 1) := by decide +kernel
theorem dL_law_485 : decode cL_law 485 = .ok (.iaload, 1) := by decide +kernel
theorem dL_law_486 : decode cL_law 486 = .ok (.aload_n 0, 1) := by decide +kernel
theorem dL_law_487 : decode cL_law 487 = .ok (.iload_n 3, 1) := by decide +kernel
theorem dL_law_488 : decode cL_law 488 = .ok (.iconst 2, 1) := by decide +kernel
theorem dL_law_489 : decode cL_law 489 = .ok (.iadd, 1) := by decide +kernel
theorem dL_law_490 : decode cL_law 490 = .ok (.iaload, 1) := by decide +kernel
theorem dL_law_491 : decode cL_law 491 = .ok (.invokevirtual 66, 3) := by decide +kernel
theorem dL_law_494 : decode cL_law 494 = .ok (.aload_n 2, 1) := by decide +kernel
theorem dL_law_495 : decode cL_law 495 = .ok (.aload_n 0, 1) := by decide +kernel
theorem dL_law_496 : decode cL_law 496 = .ok (.iload_n 3, 1) := by decide +kernel
theorem dL_law_497 : decode cL_law 497 = .ok (.iconst 1, 1) := by decide +kernel
theorem dL_law_498 : decode cL_law 498 = .ok (.iadd, 1) := by decide +kernel
theorem dL_law_499 : decode cL_law 499 = .ok (.iaload, 1) := by decide +kernel
theorem dL_law_500 : decode cL_law 500 = .ok (.aload_n 0, 1) := by decide +kernel
theorem dL_law_501 : decode cL_law 501 = .ok (.iload_n 3, 1) := by decide +kernel
theorem dL_law_502 : decode cL_law 502 = .ok (.iconst 2, 1) := by decide +kernel
theorem dL_law_503 : decode cL_law 503 = .ok (.iadd, 1) := by decide +kernel
theorem dL_law_504 : decode cL_law 504 = .ok (.iaload, 1) := by decide +kernel
theorem dL_law_505 : decode cL_law 505 = .ok (.invokevirtual 69, 3) := by decide +kernel
theorem dL_law_508 : decode cL_law 508 = .ok (.if_icmp .eq 290, 3) := by decide +kernel
theorem dL_law_511 : decode cL_law 511 = .ok (.iconst 0, 1) := by decide +kernel
theorem dL_law_512 : decode cL_law 512 = .ok (.ireturn, 1) := by decide +kernel
theorem dL_law_513 : decode cL_law 513 = .ok (.aload_n 1, 1) := by decide +kernel
theorem dL_law_514 : decode cL_law 514 = .ok (.aload_n 0, 1) := by decide +kernel
theorem dL_law_515 : decode cL_law 515 = .ok (.iload_n 3, 1) := by decide +kernel
theorem dL_law_516 : decode cL_law 516 = .ok (.iconst 1, 1) := by decide +kernel
theorem dL_law_517 : decode cL_law 517 = .ok (.iadd, 1) := by decide +kernel
theorem dL_law_518 : decode cL_law 518 = .ok (.iaload, 1) := by decide +kernel
theorem dL_law_519 : decode cL_law 519 = .ok (.aload_n 0, 1) := by decide +kernel
theorem dL_law_520 : decode cL_law 520 = .ok (.iload_n 3, 1) := by decide +kernel
theorem dL_law_521 : decode cL_law 521 = .ok (.iconst 2, 1) := by decide +kernel
theorem dL_law_522 : decode cL_law 522 = .ok (.iadd, 1) := by decide +kernel
theorem dL_law_523 : decode cL_law 523 = .ok (.iaload, 1) := by decide +kernel
theorem dL_law_524 : decode cL_law 524 = .ok (.invokevirtual 70, 3) := by decide +kernel
theorem dL_law_527 : decode cL_law 527 = .ok (.aload_n 2, 1) := by decide +kernel
theorem dL_law_528 : decode cL_law 528 = .ok (.aload_n 0, 1) := by decide +kernel
theorem dL_law_529 : decode cL_law 529 = .ok (.iload_n 3, 1) := by decide +kernel
theorem dL_law_530 : decode cL_law 530 = .ok (.iconst 1, 1) := by decide +kernel
theorem dL_law_531 : decode cL_law 531 = .ok (.iadd, 1) := by decide +kernel
theorem dL_law_532 : decode cL_law 532 = .ok (.iaload, 1) := by decide +kernel
theorem dL_law_533 : decode cL_law 533 = .ok (.aload_n 0, 1) := by decide +kernel
theorem dL_law_534 : decode cL_law 534 = .ok (.iload_n 3, 1) := by decide +kernel
theorem dL_law_535 : decode cL_law 535 = .ok (.iconst 2, 1) := by decide +kernel
theorem dL_law_536 : decode cL_law 536 = .ok (.iadd, 1) := by decide +kernel
theorem dL_law_537 : decode cL_law 537 = .ok (.iaload, 1) := by decide +kernel
theorem dL_law_538 : decode cL_law 538 = .ok (.invokevirtual 73, 3) := by decide +kernel
theorem dL_law_541 : decode cL_law 541 = .ok (.if_icmp .eq 257, 3) := by decide +kernel
theorem dL_law_544 : decode cL_law 544 = .ok (.iconst 0, 1) := by decide +kernel
theorem dL_law_545 : decode cL_law 545 = .ok (.ireturn, 1) := by decide +kernel
theorem dL_law_546 : decode cL_law 546 = .ok (.aload_n 1, 1) := by decide +kernel
theorem dL_law_547 : decode cL_law 547 = .ok (.aload_n 0, 1) := by decide +kernel
theorem dL_law_548 : decode cL_law 548 = .ok (.iload_n 3, 1) := by decide +kernel
theorem dL_law_549 : decode cL_law 549 = .ok (.iconst 1, 1) := by decide +kernel
theorem dL_law_550 : decode cL_law 550 = .ok (.iadd, 1) := by decide +kernel
theorem dL_law_551 : decode cL_law 551 = .ok (.iaload, 1) := by decide +kernel
theorem dL_law_552 : decode cL_law 552 = .ok (.invokevirtual 74, 3) := by decide +kernel
theorem dL_law_555 : decode cL_law 555 = .ok (.aload_n 2, 1) := by decide +kernel
theorem dL_law_556 : decode cL_law 556 = .ok (.aload_n 0, 1) := by decide +kernel
theorem dL_law_557 : decode cL_law 557 = .ok (.iload_n 3, 1) := by decide +kernel
theorem dL_law_558 : decode cL_law 558 = .ok (.iconst 1, 1) := by decide +kernel
theorem dL_law_559 : decode cL_law 559 = .ok (.iadd, 1) := by decide +kernel
theorem dL_law_560 : decode cL_law 560 = .ok (.iaload, 1) := by decide +kernel
theorem dL_law_561 : decode cL_law 561 = .ok (.invokevirtual 77, 3) := by decide +kernel
theorem dL_law_564 : decode cL_law 564 = .ok (.if_icmp .eq 234, 3) := by decide +kernel
theorem dL_law_567 : decode cL_law 567 = .ok (.iconst 0, 1) := by decide +kernel
theorem dL_law_568 : decode cL_law 568 = .ok (.ireturn, 1) := by decide +kernel
theorem dL_law_569 : decode cL_law 569 = .ok (.aload_n 1, 1) := by decide +kernel
theorem dL_law_570 : decode cL_law 570 = .ok (.aload_n 0, 1) := by decide +kernel
theorem dL_law_571 : decode cL_law 571 = .ok (.iload_n 3, 1) := by decide +kernel
theorem dL_law_572 : decode cL_law 572 = .ok (.iconst 1, 1) := by decide +kernel
theorem dL_law_573 : decode cL_law 573 = .ok (.iadd, 1) := by decide +kernel
theorem dL_law_574 : decode cL_law 574 = .ok (.iaload, 1) := by decide +kernel
theorem dL_law_575 : decode cL_law 575 = .ok (.invokevirtual 78, 3) := by decide +kernel
theorem dL_law_578 : decode cL_law 578 = .ok (.aload_n 2, 1) := by decide +kernel
theorem dL_law_579 : decode cL_law 579 = .ok (.aload_n 0, 1) := by decide +kernel
theorem dL_law_580 : decode cL_law 580 = .ok (.iload_n 3, 1) := by decide +kernel
theorem dL_law_581 : decode cL_law 581 = .ok (.iconst 1, 1) := by decide +kernel
theorem dL_law_582 : decode cL_law 582 = .ok (.iadd, 1) := by decide +kernel
theorem dL_law_583 : decode cL_law 583 = .ok (.iaload, 1) := by decide +kernel
theorem dL_law_584 : decode cL_law 584 = .ok (.invokevirtual 81, 3) := by decide +kernel
theorem dL_law_587 : decode cL_law 587 = .ok (.if_icmp .eq 211, 3) := by decide +kernel
theorem dL_law_590 : decode cL_law 590 = .ok (.iconst 0, 1) := by decide +kernel
theorem dL_law_591 : decode cL_law 591 = .ok (.ireturn, 1) := by decide +kernel
theorem dL_law_592 : decode cL_law 592 = .ok (.aload_n 1, 1) := by decide +kernel
theorem dL_law_593 : decode cL_law 593 = .ok (.aload_n 0, 1) := by decide +kernel
theorem dL_law_594 : decode cL_law 594 = .ok (.iload_n 3, 1) := by decide +kernel
theorem dL_law_595 : decode cL_law 595 = .ok (.iconst 1, 1) := by decide +kernel
theorem dL_law_596 : decode cL_law 596 = .ok (.iadd, 1) := by decide +kernel
theorem dL_law_597 : decode cL_law 597 = .ok (.iaload, 1) := by decide +kernel
theorem dL_law_598 : decode cL_law 598 = .ok (.invokevirtual 82, 3) := by decide +kernel
theorem dL_law_601 : decode cL_law 601 = .ok (.aload_n 2, 1) := by decide +kernel
theorem dL_law_602 : decode cL_law 602 = .ok (.aload_n 0, 1) := by decide +kernel
theorem dL_law_603 : decode cL_law 603 = .ok (.iload_n 3, 1) := by decide +kernel
theorem dL_law_604 : decode cL_law 604 = .ok (.iconst 1, 1) := by decide +kernel
theorem dL_law_605 : decode cL_law 605 = .ok (.iadd, 1) := by decide +kernel
theorem dL_law_606 : decode cL_law 606 = .ok (.iaload, 1) := by decide +kernel
theorem dL_law_607 : decode cL_law 607 = .ok (.invokevirtual 85, 3) := by decide +kernel
theorem dL_law_610 : decode cL_law 610 = .ok (.if_icmp .eq 188, 3) := by decide +kernel
theorem dL_law_613 : decode cL_law 613 = .ok (.iconst 0, 1) := by decide +kernel
theorem dL_law_614 : decode cL_law 614 = .ok (.ireturn, 1) := by decide +kernel
theorem dL_law_615 : decode cL_law 615 = .ok (.aload_n 1, 1) := by decide +kernel
theorem dL_law_616 : decode cL_law 616 = .ok (.aload_n 0, 1) := by decide +kernel
theorem dL_law_617 : decode cL_law 617 = .ok (.iload_n 3, 1) := by decide +kernel
theorem dL_law_618 : decode cL_law 618 = .ok (.iconst 1, 1) := by decide +kernel
theorem dL_law_619 : decode cL_law 619 = .ok (.iadd, 1) := by decide +kernel
theorem dL_law_620 : decode cL_law 620 = .ok (.iaload, 1) := by decide +kernel
theorem dL_law_621 : decode cL_law 621 = .ok (.invokevirtual 86, 3) := by decide +kernel
theorem dL_law_624 : decode cL_law 624 = .ok (.aload_n 2, 1) := by decide +kernel
theorem dL_law_625 : decode cL_law 625 = .ok (.aload_n 0, 1) := by decide +kernel
theorem dL_law_626 : decode cL_law 626 = .ok (.iload_n 3, 1) := by decide +kernel
theorem dL_law_627 : decode cL_law 627 = .ok (.iconst 1, 1) := by decide +kernel
theorem dL_law_628 : decode cL_law 628 = .ok (.iadd, 1) := by decide +kernel
theorem dL_law_629 : decode cL_law 629 = .ok (.iaload, 1) := by decide +kernel
theorem dL_law_630 : decode cL_law 630 = .ok (.invokevirtual 90, 3) := by decide +kernel
theorem dL_law_633 : decode cL_law 633 = .ok (.lcmp, 1) := by decide +kernel
theorem dL_law_634 : decode cL_law 634 = .ok (.ifCond .eq 164, 3) := by decide +kernel
theorem dL_law_637 : decode cL_law 637 = .ok (.iconst 0, 1) := by decide +kernel
theorem dL_law_638 : decode cL_law 638 = .ok (.ireturn, 1) := by decide +kernel
theorem dL_law_639 : decode cL_law 639 = .ok (.aload_n 1, 1) := by decide +kernel
theorem dL_law_640 : decode cL_law 640 = .ok (.aload_n 0, 1) := by decide +kernel
theorem dL_law_641 : decode cL_law 641 = .ok (.iload_n 3, 1) := by decide +kernel
theorem dL_law_642 : decode cL_law 642 = .ok (.iconst 1, 1) := by decide +kernel
theorem dL_law_643 : decode cL_law 643 = .ok (.iadd, 1) := by decide +kernel
theorem dL_law_644 : decode cL_law 644 = .ok (.iaload, 1) := by decide +kernel
theorem dL_law_645 : decode cL_law 645 = .ok (.aload_n 0, 1) := by decide +kernel
theorem dL_law_646 : decode cL_law 646 = .ok (.iload_n 3, 1) := by decide +kernel
theorem dL_law_647 : decode cL_law 647 = .ok (.iconst 2, 1) := by decide +kernel
theorem dL_law_648 : decode cL_law 648 = .ok (.iadd, 1) := by decide +kernel
theorem dL_law_649 : decode cL_law 649 = .ok (.iaload, 1) := by decide +kernel
theorem dL_law_650 : decode cL_law 650 = .ok (.invokevirtual 91, 3) := by decide +kernel
theorem dL_law_653 : decode cL_law 653 = .ok (.aload_n 2, 1) := by decide +kernel
theorem dL_law_654 : decode cL_law 654 = .ok (.aload_n 0, 1) := by decide +kernel
theorem dL_law_655 : decode cL_law 655 = .ok (.iload_n 3, 1) := by decide +kernel
theorem dL_law_656 : decode cL_law 656 = .ok (.iconst 1, 1) := by decide +kernel
theorem dL_law_657 : decode cL_law 657 = .ok (.iadd, 1) := by decide +kernel
theorem dL_law_658 : decode cL_law 658 = .ok (.iaload, 1) := by decide +kernel
theorem dL_law_659 : decode cL_law 659 = .ok (.aload_n 0, 1) := by decide +kernel
theorem dL_law_660 : decode cL_law 660 = .ok (.iload_n 3, 1) := by decide +kernel
theorem dL_law_661 : decode cL_law 661 = .ok (.iconst 2, 1) := by decide +kernel
theorem dL_law_662 : decode cL_law 662 = .ok (.iadd, 1) := by decide +kernel
theorem dL_law_663 : decode cL_law 663 = .ok (.iaload, 1) := by decide +kernel
theorem dL_law_664 : decode cL_law 664 = .ok (.invokevirtual 94, 3) := by decide +kernel
theorem dL_law_667 : decode cL_law 667 = .ok (.if_icmp .eq 131, 3) := by decide +kernel
theorem dL_law_670 : decode cL_law 670 = .ok (.iconst 0, 1) := by decide +kernel
theorem dL_law_671 : decode cL_law 671 = .ok (.ireturn, 1) := by decide +kernel
theorem dL_law_672 : decode cL_law 672 = .ok (.aload_n 1, 1) := by decide +kernel
theorem dL_law_673 : decode cL_law 673 = .ok (.aload_n 0, 1) := by decide +kernel
theorem dL_law_674 : decode cL_law 674 = .ok (.iload_n 3, 1) := by decide +kernel
theorem dL_law_675 : decode cL_law 675 = .ok (.iconst 1, 1) := by decide +kernel
theorem dL_law_676 : decode cL_law 676 = .ok (.iadd, 1) := by decide +kernel
theorem dL_law_677 : decode cL_law 677 = .ok (.iaload, 1) := by decide +kernel
theorem dL_law_678 : decode cL_law 678 = .ok (.invokevirtual 95, 3) := by decide +kernel
theorem dL_law_681 : decode cL_law 681 = .ok (.aload_n 2, 1) := by decide +kernel
theorem dL_law_682 : decode cL_law 682 = .ok (.aload_n 0, 1) := by decide +kernel
theorem dL_law_683 : decode cL_law 683 = .ok (.iload_n 3, 1) := by decide +kernel
theorem dL_law_684 : decode cL_law 684 = .ok (.iconst 1, 1) := by decide +kernel
theorem dL_law_685 : decode cL_law 685 = .ok (.iadd, 1) := by decide +kernel
theorem dL_law_686 : decode cL_law 686 = .ok (.iaload, 1) := by decide +kernel
theorem dL_law_687 : decode cL_law 687 = .ok (.invokevirtual 98, 3) := by decide +kernel
theorem dL_law_690 : decode cL_law 690 = .ok (.if_icmp .eq 108, 3) := by decide +kernel
theorem dL_law_693 : decode cL_law 693 = .ok (.iconst 0, 1) := by decide +kernel
theorem dL_law_694 : decode cL_law 694 = .ok (.ireturn, 1) := by decide +kernel
theorem dL_law_695 : decode cL_law 695 = .ok (.aload_n 1, 1) := by decide +kernel
theorem dL_law_696 : decode cL_law 696 = .ok (.aload_n 0, 1) := by decide +kernel
theorem dL_law_697 : decode cL_law 697 = .ok (.iload_n 3, 1) := by decide +kernel
theorem dL_law_698 : decode cL_law 698 = .ok (.iconst 1, 1) := by decide +kernel
theorem dL_law_699 : decode cL_law 699 = .ok (.iadd, 1) := by decide +kernel
theorem dL_law_700 : decode cL_law 700 = .ok (.iaload, 1) := by decide +kernel
theorem dL_law_701 : decode cL_law 701 = .ok (.aload_n 0, 1) := by decide +kernel
theorem dL_law_702 : decode cL_law 702 = .ok (.iload_n 3, 1) := by decide +kernel
theorem dL_law_703 : decode cL_law 703 = .ok (.iconst 2, 1) := by decide +kernel
theorem dL_law_704 : decode cL_law 704 = .ok (.iadd, 1) := by decide +kernel
theorem dL_law_705 : decode cL_law 705 = .ok (.iaload, 1) := by decide +kernel
theorem dL_law_706 : decode cL_law 706 = .ok (.invokevirtual 99, 3) := by decide +kernel
theorem dL_law_709 : decode cL_law 709 = .ok (.aload_n 2, 1) := by decide +kernel
theorem dL_law_710 : decode cL_law 710 = .ok (.aload_n 0, 1) := by decide +kernel
theorem dL_law_711 : decode cL_law 711 = .ok (.iload_n 3, 1) := by decide +kernel
theorem dL_law_712 : decode cL_law 712 = .ok (.iconst 1, 1) := by decide +kernel
theorem dL_law_713 : decode cL_law 713 = .ok (.iadd, 1) := by decide +kernel
theorem dL_law_714 : decode cL_law 714 = .ok (.iaload, 1) := by decide +kernel
theorem dL_law_715 : decode cL_law 715 = .ok (.aload_n 0, 1) := by decide +kernel
theorem dL_law_716 : decode cL_law 716 = .ok (.iload_n 3, 1) := by decide +kernel
theorem dL_law_717 : decode cL_law 717 = .ok (.iconst 2, 1) := by decide +kernel
theorem dL_law_718 : decode cL_law 718 = .ok (.iadd, 1) := by decide +kernel
theorem dL_law_719 : decode cL_law 719 = .ok (.iaload, 1) := by decide +kernel
theorem dL_law_720 : decode cL_law 720 = .ok (.invokevirtual 102, 3) := by decide +kernel
theorem dL_law_723 : decode cL_law 723 = .ok (.if_icmp .eq 75, 3) := by decide +kernel
theorem dL_law_726 : decode cL_law 726 = .ok (.iconst 0, 1) := by decide +kernel
theorem dL_law_727 : decode cL_law 727 = .ok (.ireturn, 1) := by decide +kernel
theorem dL_law_728 : decode cL_law 728 = .ok (.aload_n 1, 1) := by decide +kernel
theorem dL_law_729 : decode cL_law 729 = .ok (.aload_n 0, 1) := by decide +kernel
theorem dL_law_730 : decode cL_law 730 = .ok (.iload_n 3, 1) := by decide +kernel
theorem dL_law_731 : decode cL_law 731 = .ok (.iconst 1, 1) := by decide +kernel
theorem dL_law_732 : decode cL_law 732 = .ok (.iadd, 1) := by decide +kernel
theorem dL_law_733 : decode cL_law 733 = .ok (.iaload, 1) := by decide +kernel
theorem dL_law_734 : decode cL_law 734 = .ok (.invokevirtual 103, 3) := by decide +kernel
theorem dL_law_737 : decode cL_law 737 = .ok (.aload_n 2, 1) := by decide +kernel
theorem dL_law_738 : decode cL_law 738 = .ok (.aload_n 0, 1) := by decide +kernel
theorem dL_law_739 : decode cL_law 739 = .ok (.iload_n 3, 1) := by decide +kernel
theorem dL_law_740 : decode cL_law 740 = .ok (.iconst 1, 1) := by decide +kernel
theorem dL_law_741 : decode cL_law 741 = .ok (.iadd, 1) := by decide +kernel
theorem dL_law_742 : decode cL_law 742 = .ok (.iaload, 1) := by decide +kernel
theorem dL_law_743 : decode cL_law 743 = .ok (.invokevirtual 106, 3) := by decide +kernel
theorem dL_law_746 : decode cL_law 746 = .ok (.if_icmp .eq 52, 3) := by decide +kernel
theorem dL_law_749 : decode cL_law 749 = .ok (.iconst 0, 1) := by decide +kernel
theorem dL_law_750 : decode cL_law 750 = .ok (.ireturn, 1) := by decide +kernel
theorem dL_law_751 : decode cL_law 751 = .ok (.aload_n 1, 1) := by decide +kernel
theorem dL_law_752 : decode cL_law 752 = .ok (.aload_n 0, 1) := by decide +kernel
theorem dL_law_753 : decode cL_law 753 = .ok (.iload_n 3, 1) := by decide +kernel
theorem dL_law_754 : decode cL_law 754 = .ok (.iconst 1, 1) := by decide +kernel
theorem dL_law_755 : decode cL_law 755 = .ok (.iadd, 1) := by decide +kernel
theorem dL_law_756 : decode cL_law 756 = .ok (.iaload, 1) := by decide +kernel
theorem dL_law_757 : decode cL_law 757 = .ok (.invokevirtual 107, 3) := by decide +kernel
theorem dL_law_760 : decode cL_law 760 = .ok (.aload_n 2, 1) := by decide +kernel
theorem dL_law_761 : decode cL_law 761 = .ok (.aload_n 0, 1) := by decide +kernel
theorem dL_law_762 : decode cL_law 762 = .ok (.iload_n 3, 1) := by decide +kernel
theorem dL_law_763 : decode cL_law 763 = .ok (.iconst 1, 1) := by decide +kernel
theorem dL_law_764 : decode cL_law 764 = .ok (.iadd, 1) := by decide +kernel
theorem dL_law_765 : decode cL_law 765 = .ok (.iaload, 1) := by decide +kernel
theorem dL_law_766 : decode cL_law 766 = .ok (.invokevirtual 110, 3) := by decide +kernel
theorem dL_law_769 : decode cL_law 769 = .ok (.lcmp, 1) := by decide +kernel
theorem dL_law_770 : decode cL_law 770 = .ok (.ifCond .eq 28, 3) := by decide +kernel
theorem dL_law_773 : decode cL_law 773 = .ok (.iconst 0, 1) := by decide +kernel
theorem dL_law_774 : decode cL_law 774 = .ok (.ireturn, 1) := by decide +kernel
theorem dL_law_775 : decode cL_law 775 = .ok (.aload_n 1, 1) := by decide +kernel
theorem dL_law_776 : decode cL_law 776 = .ok (.aload_n 0, 1) := by decide +kernel
theorem dL_law_777 : decode cL_law 777 = .ok (.iload_n 3, 1) := by decide +kernel
theorem dL_law_778 : decode cL_law 778 = .ok (.iconst 1, 1) := by decide +kernel
theorem dL_law_779 : decode cL_law 779 = .ok (.iadd, 1) := by decide +kernel
theorem dL_law_780 : decode cL_law 780 = .ok (.iaload, 1) := by decide +kernel
theorem dL_law_781 : decode cL_law 781 = .ok (.invokevirtual 111, 3) := by decide +kernel
theorem dL_law_784 : decode cL_law 784 = .ok (.aload_n 2, 1) := by decide +kernel
theorem dL_law_785 : decode cL_law 785 = .ok (.aload_n 0, 1) := by decide +kernel
theorem dL_law_786 : decode cL_law 786 = .ok (.iload_n 3, 1) := by decide +kernel
theorem dL_law_787 : decode cL_law 787 = .ok (.iconst 1, 1) := by decide +kernel
theorem dL_law_788 : decode cL_law 788 = .ok (.iadd, 1) := by decide +kernel
theorem dL_law_789 : decode cL_law 789 = .ok (.iaload, 1) := by decide +kernel
theorem dL_law_790 : decode cL_law 790 = .ok (.invokevirtual 114, 3) := by decide +kernel
theorem dL_law_793 : decode cL_law 793 = .ok (.if_icmp .eq 5, 3) := by decide +kernel
theorem dL_law_796 : decode cL_law 796 = .ok (.iconst 0, 1) := by decide +kernel
theorem dL_law_797 : decode cL_law 797 = .ok (.ireturn, 1) := by decide +kernel
theorem dL_law_798 : decode cL_law 798 = .ok (.iinc 3 4, 3) := by decide +kernel
theorem dL_law_801 : decode cL_law 801 = .ok (.goto (-783), 3) := by decide +kernel
theorem dL_law_804 : decode cL_law 804 = .ok (.iconst 1, 1) := by decide +kernel
theorem dL_law_805 : decode cL_law 805 = .ok (.ireturn, 1) := by decide +kernel
end
section
def lw_g : List Cond := lw_tbl.filter goodWord
theorem gi_all : GoodIn lw_g lw_g := fun w h => ⟨h, good_of_word (List.mem_filter.mp h).2⟩
theorem gi_tbl : ∀ w ∈ lw_g, w ∈ lw_tbl := fun w h => (List.mem_filter.mp h).1
theorem tw_se_X3_remember : Cond.selects RX3 yX3_remember yX3_remember ∈ lw_g := List.mem_filter.mpr ⟨List.mem_of_getElem? (i := 0) (by decide +kernel), rfl⟩
theorem tw_se_X3_measure : Cond.selects RX3 yX3_measure yX3_measure ∈ lw_g := List.mem_filter.mpr ⟨List.mem_of_getElem? (i := 1) (by decide +kernel), rfl⟩
theorem tw_se_X8_difference : Cond.selects RX8 yX8_difference yX8_difference ∈ lw_g := List.mem_filter.mpr ⟨List.mem_of_getElem? (i := 2) (by decide +kernel), rfl⟩
theorem tw_se_X8_hasBefore : Cond.selects RX8 yX8_hasBefore yX8_hasBefore ∈ lw_g := List.mem_filter.mpr ⟨List.mem_of_getElem? (i := 3) (by decide +kernel), rfl⟩
theorem tw_se_X9_findBreakers : Cond.selects RX9 yX9_findBreakers yX9_findBreakers ∈ lw_g := List.mem_filter.mpr ⟨List.mem_of_getElem? (i := 4) (by decide +kernel), rfl⟩
theorem tw_se_X9_endBeyond : Cond.selects RX9 yX9_endBeyond yX9_endBeyond ∈ lw_g := List.mem_filter.mpr ⟨List.mem_of_getElem? (i := 5) (by decide +kernel), rfl⟩
theorem tw_se_X5_spotOf : Cond.selects RX5 yX5_spotOf yX5_spotOf ∈ lw_g := List.mem_filter.mpr ⟨List.mem_of_getElem? (i := 6) (by decide +kernel), rfl⟩
theorem tw_se_X10_rankNearFirst : Cond.selects RX10 yX10_rankNearFirst yX10_rankNearFirst ∈ lw_g := List.mem_filter.mpr ⟨List.mem_of_getElem? (i := 7) (by decide +kernel), rfl⟩
theorem tw_se_X10_takeRanked : Cond.selects RX10 yX10_takeRanked yX10_takeRanked ∈ lw_g := List.mem_filter.mpr ⟨List.mem_of_getElem? (i := 8) (by decide +kernel), rfl⟩
theorem tw_se_X10_rankFarFirst : Cond.selects RX10 yX10_rankFarFirst yX10_rankFarFirst ∈ lw_g := List.mem_filter.mpr ⟨List.mem_of_getElem? (i := 9) (by decide +kernel), rfl⟩
theorem tw_se_X10_openBook : Cond.selects RX10 yX10_openBook yX10_openBook ∈ lw_g := List.mem_filter.mpr ⟨List.mem_of_getElem? (i := 10) (by decide +kernel), rfl⟩
theorem tw_se_X10_closestKey : Cond.selects RX10 yX10_closestKey yX10_closestKey ∈ lw_g := List.mem_filter.mpr ⟨List.mem_of_getElem? (i := 11) (by decide +kernel), rfl⟩
theorem tw_se_X1_closeGaps : Cond.selects RX1 yX1_closeGaps yX1_closeGaps ∈ lw_g := List.mem_filter.mpr ⟨List.mem_of_getElem? (i := 12) (by decide +kernel), rfl⟩
theorem tw_se_X1_farthestLoose : Cond.selects RX1 yX1_farthestLoose yX1_farthestLoose ∈ lw_g := List.mem_filter.mpr ⟨List.mem_of_getElem? (i := 13) (by decide +kernel), rfl⟩
theorem tw_se_X0_tryLast : Cond.selects RX0 yX0_tryLast yX0_tryLast ∈ lw_g := List.mem_filter.mpr ⟨List.mem_of_getElem? (i := 14) (by decide +kernel), rfl⟩
theorem tw_se_X0_reachOf : Cond.selects RX0 yX0_reachOf yX0_reachOf ∈ lw_g := List.mem_filter.mpr ⟨List.mem_of_getElem? (i := 15) (by decide +kernel), rfl⟩
theorem tw_se_X0_gapWith : Cond.selects RX0 yX0_gapWith yX0_gapWith ∈ lw_g := List.mem_filter.mpr ⟨List.mem_of_getElem? (i := 16) (by decide +kernel), rfl⟩
theorem tw_se_X0_tryTwos : Cond.selects RX0 yX0_tryTwos yX0_tryTwos ∈ lw_g := List.mem_filter.mpr ⟨List.mem_of_getElem? (i := 17) (by decide +kernel), rfl⟩
theorem tw_se_X0_pick : Cond.selects RX0 yX0_pick yX0_pick ∈ lw_g := List.mem_filter.mpr ⟨List.mem_of_getElem? (i := 18) (by decide +kernel), rfl⟩
theorem tw_se_X0_tryThrees : Cond.selects RX0 yX0_tryThrees yX0_tryThrees ∈ lw_g := List.mem_filter.mpr ⟨List.mem_of_getElem? (i := 19) (by decide +kernel), rfl⟩
theorem tw_se_X2_reachFrom : Cond.selects RX2 yX2_reachFrom yX2_reachFrom ∈ lw_g := List.mem_filter.mpr ⟨List.mem_of_getElem? (i := 20) (by decide +kernel), rfl⟩
theorem tw_se_X2_leastLoose : Cond.selects RX2 yX2_leastLoose yX2_leastLoose ∈ lw_g := List.mem_filter.mpr ⟨List.mem_of_getElem? (i := 21) (by decide +kernel), rfl⟩
theorem tw_se_X6_join : Cond.selects RX6 yX6_join yX6_join ∈ lw_g := List.mem_filter.mpr ⟨List.mem_of_getElem? (i := 22) (by decide +kernel), rfl⟩
theorem tw_se_X10_isBeyondResults : Cond.selects RX10 yX10_isBeyondResults yX10_isBeyondResults ∈ lw_g := List.mem_filter.mpr ⟨List.mem_of_getElem? (i := 23) (by decide +kernel), rfl⟩
theorem tw_se_X10_sumFrom : Cond.selects RX10 yX10_sumFrom yX10_sumFrom ∈ lw_g := List.mem_filter.mpr ⟨List.mem_of_getElem? (i := 24) (by decide +kernel), rfl⟩
theorem tw_se_X10_greatestInBook : Cond.selects RX10 yX10_greatestInBook yX10_greatestInBook ∈ lw_g := List.mem_filter.mpr ⟨List.mem_of_getElem? (i := 25) (by decide +kernel), rfl⟩
theorem tw_se_X10_lengthAsked : Cond.selects RX10 yX10_lengthAsked yX10_lengthAsked ∈ lw_g := List.mem_filter.mpr ⟨List.mem_of_getElem? (i := 26) (by decide +kernel), rfl⟩
theorem tw_se_X11_isThing : Cond.selects RX11 yX11_isThing yX11_isThing ∈ lw_g := List.mem_filter.mpr ⟨List.mem_of_getElem? (i := 27) (by decide +kernel), rfl⟩
theorem tw_se_X11_far : Cond.selects RX11 yX11_far yX11_far ∈ lw_g := List.mem_filter.mpr ⟨List.mem_of_getElem? (i := 28) (by decide +kernel), rfl⟩
theorem tw_se_X11_unlike : Cond.selects RX11 yX11_unlike yX11_unlike ∈ lw_g := List.mem_filter.mpr ⟨List.mem_of_getElem? (i := 29) (by decide +kernel), rfl⟩
theorem tw_se_X11_edits : Cond.selects RX11 yX11_edits yX11_edits ∈ lw_g := List.mem_filter.mpr ⟨List.mem_of_getElem? (i := 30) (by decide +kernel), rfl⟩
theorem tw_se_X11_alone : Cond.selects RX11 yX11_alone yX11_alone ∈ lw_g := List.mem_filter.mpr ⟨List.mem_of_getElem? (i := 31) (by decide +kernel), rfl⟩
theorem tw_se_X11_has : Cond.selects RX11 yX11_has yX11_has ∈ lw_g := List.mem_filter.mpr ⟨List.mem_of_getElem? (i := 32) (by decide +kernel), rfl⟩
theorem tw_se_X11_holds : Cond.selects RX11 yX11_holds yX11_holds ∈ lw_g := List.mem_filter.mpr ⟨List.mem_of_getElem? (i := 33) (by decide +kernel), rfl⟩
theorem tw_se_X11_those : Cond.selects RX11 yX11_those yX11_those ∈ lw_g := List.mem_filter.mpr ⟨List.mem_of_getElem? (i := 34) (by decide +kernel), rfl⟩
theorem tw_se_X11_takesNone : Cond.selects RX11 yX11_takesNone yX11_takesNone ∈ lw_g := List.mem_filter.mpr ⟨List.mem_of_getElem? (i := 35) (by decide +kernel), rfl⟩
theorem tw_se_X11_next : Cond.selects RX11 yX11_next yX11_next ∈ lw_g := List.mem_filter.mpr ⟨List.mem_of_getElem? (i := 36) (by decide +kernel), rfl⟩
theorem tw_se_X11_gives : Cond.selects RX11 yX11_gives yX11_gives ∈ lw_g := List.mem_filter.mpr ⟨List.mem_of_getElem? (i := 37) (by decide +kernel), rfl⟩
theorem tw_se_X11_inBook : Cond.selects RX11 yX11_inBook yX11_inBook ∈ lw_g := List.mem_filter.mpr ⟨List.mem_of_getElem? (i := 38) (by decide +kernel), rfl⟩
theorem tw_se_X11_fromResults : Cond.selects RX11 yX11_fromResults yX11_fromResults ∈ lw_g := List.mem_filter.mpr ⟨List.mem_of_getElem? (i := 39) (by decide +kernel), rfl⟩
theorem tw_se_X11_radius : Cond.selects RX11 yX11_radius yX11_radius ∈ lw_g := List.mem_filter.mpr ⟨List.mem_of_getElem? (i := 40) (by decide +kernel), rfl⟩
theorem tw_se_X11_radiusOf : Cond.selects RX11 yX11_radiusOf yX11_radiusOf ∈ lw_g := List.mem_filter.mpr ⟨List.mem_of_getElem? (i := 41) (by decide +kernel), rfl⟩
theorem tw_se_X11_chains : Cond.selects RX11 yX11_chains yX11_chains ∈ lw_g := List.mem_filter.mpr ⟨List.mem_of_getElem? (i := 42) (by decide +kernel), rfl⟩
theorem tw_se_X11_alonePieces : Cond.selects RX11 yX11_alonePieces yX11_alonePieces ∈ lw_g := List.mem_filter.mpr ⟨List.mem_of_getElem? (i := 43) (by decide +kernel), rfl⟩
theorem tw_se_X11_joins : Cond.selects RX11 yX11_joins yX11_joins ∈ lw_g := List.mem_filter.mpr ⟨List.mem_of_getElem? (i := 44) (by decide +kernel), rfl⟩
theorem tw_se_X11_pieces : Cond.selects RX11 yX11_pieces yX11_pieces ∈ lw_g := List.mem_filter.mpr ⟨List.mem_of_getElem? (i := 45) (by decide +kernel), rfl⟩
theorem tw_in_L : Cond.initialized RL ∈ lw_g := List.mem_filter.mpr ⟨List.mem_of_getElem? (i := 46) (by decide +kernel), rfl⟩
theorem tw_in_X10 : Cond.initialized RX10 ∈ lw_g := List.mem_filter.mpr ⟨List.mem_of_getElem? (i := 47) (by decide +kernel), rfl⟩
theorem tw_in_X8 : Cond.initialized RX8 ∈ lw_g := List.mem_filter.mpr ⟨List.mem_of_getElem? (i := 48) (by decide +kernel), rfl⟩
theorem tw_in_X9 : Cond.initialized RX9 ∈ lw_g := List.mem_filter.mpr ⟨List.mem_of_getElem? (i := 49) (by decide +kernel), rfl⟩
theorem tw_in_X3 : Cond.initialized RX3 ∈ lw_g := List.mem_filter.mpr ⟨List.mem_of_getElem? (i := 50) (by decide +kernel), rfl⟩
theorem tw_in_J7 : Cond.initialized RJ7 ∈ lw_g := List.mem_filter.mpr ⟨List.mem_of_getElem? (i := 51) (by decide +kernel), rfl⟩
theorem tw_in_X5 : Cond.initialized RX5 ∈ lw_g := List.mem_filter.mpr ⟨List.mem_of_getElem? (i := 52) (by decide +kernel), rfl⟩
theorem tw_in_X7 : Cond.initialized RX7 ∈ lw_g := List.mem_filter.mpr ⟨List.mem_of_getElem? (i := 53) (by decide +kernel), rfl⟩
theorem tw_in_X4 : Cond.initialized RX4 ∈ lw_g := List.mem_filter.mpr ⟨List.mem_of_getElem? (i := 54) (by decide +kernel), rfl⟩
theorem tw_in_X2 : Cond.initialized RX2 ∈ lw_g := List.mem_filter.mpr ⟨List.mem_of_getElem? (i := 55) (by decide +kernel), rfl⟩
theorem tw_in_X6 : Cond.initialized RX6 ∈ lw_g := List.mem_filter.mpr ⟨List.mem_of_getElem? (i := 56) (by decide +kernel), rfl⟩
theorem tw_in_X1 : Cond.initialized RX1 ∈ lw_g := List.mem_filter.mpr ⟨List.mem_of_getElem? (i := 57) (by decide +kernel), rfl⟩
theorem tw_in_X0 : Cond.initialized RX0 ∈ lw_g := List.mem_filter.mpr ⟨List.mem_of_getElem? (i := 58) (by decide +kernel), rfl⟩
theorem tw_in_X11 : Cond.initialized RX11 ∈ lw_g := List.mem_filter.mpr ⟨List.mem_of_getElem? (i := 59) (by decide +kernel), rfl⟩
theorem tw_in_J9 : Cond.initialized RJ9 ∈ lw_g := List.mem_filter.mpr ⟨List.mem_of_getElem? (i := 60) (by decide +kernel), rfl⟩
theorem tw_in_J10 : Cond.initialized RJ10 ∈ lw_g := List.mem_filter.mpr ⟨List.mem_of_getElem? (i := 61) (by decide +kernel), rfl⟩
theorem tw_cl_L_7 : Cond.classLink RL 7 RX10 ∈ lw_g := List.mem_filter.mpr ⟨List.mem_of_getElem? (i := 62) (by decide +kernel), rfl⟩
theorem tw_ib_X10 : Cond.instantiable RX10 10 ∈ lw_g := List.mem_filter.mpr ⟨List.mem_of_getElem? (i := 63) (by decide +kernel), rfl⟩
theorem tw_ml_L_9 : Cond.methodLink RL 9 yX10_init ∈ lw_g := List.mem_filter.mpr ⟨List.mem_of_getElem? (i := 64) (by decide +kernel), rfl⟩
theorem tw_im_X10_init : Cond.instanceMethod yX10_init ∈ lw_g := List.mem_filter.mpr ⟨List.mem_of_getElem? (i := 65) (by decide +kernel), rfl⟩
theorem tw_co_X10_init : Cond.code yX10_init cX10_init 1 none ∈ lw_g := List.mem_filter.mpr ⟨List.mem_of_getElem? (i := 66) (by decide +kernel), rfl⟩
theorem tw_ml_X10_1 : Cond.methodLink RX10 1 objectInit ∈ lw_g := List.mem_filter.mpr ⟨List.mem_of_getElem? (i := 67) (by decide +kernel), rfl⟩
theorem tw_im_objectInit : Cond.instanceMethod objectInit ∈ lw_g := List.mem_filter.mpr ⟨List.mem_of_getElem? (i := 68) (by decide +kernel), rfl⟩
theorem tw_co_objectInit : Cond.code objectInit ⟨#[0xb1]⟩ 1 none ∈ lw_g := List.mem_filter.mpr ⟨List.mem_of_getElem? (i := 69) (by decide +kernel), rfl⟩
theorem tw_cl_X10_7 : Cond.classLink RX10 7 RX8 ∈ lw_g := List.mem_filter.mpr ⟨List.mem_of_getElem? (i := 70) (by decide +kernel), rfl⟩
theorem tw_ib_X8 : Cond.instantiable RX8 4 ∈ lw_g := List.mem_filter.mpr ⟨List.mem_of_getElem? (i := 71) (by decide +kernel), rfl⟩
theorem tw_im_X8_init : Cond.instanceMethod yX8_init ∈ lw_g := List.mem_filter.mpr ⟨List.mem_of_getElem? (i := 73) (by decide +kernel), rfl⟩
theorem tw_co_X8_init : Cond.code yX8_init cX8_init 1 none ∈ lw_g := List.mem_filter.mpr ⟨List.mem_of_getElem? (i := 74) (by decide +kernel), rfl⟩
theorem tw_ml_X8_3 : Cond.methodLink RX8 3 objectInit ∈ lw_g := List.mem_filter.mpr ⟨List.mem_of_getElem? (i := 75) (by decide +kernel), rfl⟩
theorem tw_fl_X8_9 : Cond.fieldLink RX8 9 "NearBook$Rows" "lengths" "[I" ∈ lw_g := List.mem_filter.mpr ⟨List.mem_of_getElem? (i := 76) (by decide +kernel), rfl⟩
theorem tw_fl_X8_15 : Cond.fieldLink RX8 15 "NearBook$Rows" "places" "[I" ∈ lw_g := List.mem_filter.mpr ⟨List.mem_of_getElem? (i := 77) (by decide +kernel), rfl⟩
theorem tw_fl_X8_18 : Cond.fieldLink RX8 18 "NearBook$Rows" "line" "[I" ∈ lw_g := List.mem_filter.mpr ⟨List.mem_of_getElem? (i := 78) (by decide +kernel), rfl⟩
theorem tw_fl_X8_21 : Cond.fieldLink RX8 21 "NearBook$Rows" "size" "I" ∈ lw_g := List.mem_filter.mpr ⟨List.mem_of_getElem? (i := 79) (by decide +kernel), rfl⟩
theorem tw_ac_int : Cond.arrayClass .int ∈ lw_g := List.mem_filter.mpr ⟨List.mem_of_getElem? (i := 89) (by decide +kernel), rfl⟩
theorem tw_cl_X10_16 : Cond.classLink RX10 16 RX9 ∈ lw_g := List.mem_filter.mpr ⟨List.mem_of_getElem? (i := 90) (by decide +kernel), rfl⟩
theorem tw_ib_X9 : Cond.instantiable RX9 4 ∈ lw_g := List.mem_filter.mpr ⟨List.mem_of_getElem? (i := 91) (by decide +kernel), rfl⟩
theorem tw_im_X9_init : Cond.instanceMethod yX9_init ∈ lw_g := List.mem_filter.mpr ⟨List.mem_of_getElem? (i := 93) (by decide +kernel), rfl⟩
theorem tw_co_X9_init : Cond.code yX9_init cX9_init 1 none ∈ lw_g := List.mem_filter.mpr ⟨List.mem_of_getElem? (i := 94) (by decide +kernel), rfl⟩
theorem tw_ml_X9_3 : Cond.methodLink RX9 3 objectInit ∈ lw_g := List.mem_filter.mpr ⟨List.mem_of_getElem? (i := 95) (by decide +kernel), rfl⟩
theorem tw_fl_X9_9 : Cond.fieldLink RX9 9 "NearBook$Table" "told" "[I" ∈ lw_g := List.mem_filter.mpr ⟨List.mem_of_getElem? (i := 96) (by decide +kernel), rfl⟩
theorem tw_fl_X9_15 : Cond.fieldLink RX9 15 "NearBook$Table" "breakers" "[I" ∈ lw_g := List.mem_filter.mpr ⟨List.mem_of_getElem? (i := 97) (by decide +kernel), rfl⟩
theorem tw_fl_X9_18 : Cond.fieldLink RX9 18 "NearBook$Table" "broken" "Z" ∈ lw_g := List.mem_filter.mpr ⟨List.mem_of_getElem? (i := 98) (by decide +kernel), rfl⟩
theorem tw_fl_X9_22 : Cond.fieldLink RX9 22 "NearBook$Table" "checkedThings" "I" ∈ lw_g := List.mem_filter.mpr ⟨List.mem_of_getElem? (i := 99) (by decide +kernel), rfl⟩
theorem tw_cl_X10_23 : Cond.classLink RX10 23 RX3 ∈ lw_g := List.mem_filter.mpr ⟨List.mem_of_getElem? (i := 109) (by decide +kernel), rfl⟩
theorem tw_ib_X3 : Cond.instantiable RX3 4 ∈ lw_g := List.mem_filter.mpr ⟨List.mem_of_getElem? (i := 110) (by decide +kernel), rfl⟩
theorem tw_ml_X10_25 : Cond.methodLink RX10 25 yX3_init ∈ lw_g := List.mem_filter.mpr ⟨List.mem_of_getElem? (i := 111) (by decide +kernel), rfl⟩
theorem tw_im_X3_init : Cond.instanceMethod yX3_init ∈ lw_g := List.mem_filter.mpr ⟨List.mem_of_getElem? (i := 112) (by decide +kernel), rfl⟩
theorem tw_co_X3_init : Cond.code yX3_init cX3_init 3 none ∈ lw_g := List.mem_filter.mpr ⟨List.mem_of_getElem? (i := 113) (by decide +kernel), rfl⟩
theorem tw_ml_X3_3 : Cond.methodLink RX3 3 objectInit ∈ lw_g := List.mem_filter.mpr ⟨List.mem_of_getElem? (i := 114) (by decide +kernel), rfl⟩
theorem tw_ml_X3_27 : Cond.methodLink RX3 27 yJ7_fill_53178 ∈ lw_g := List.mem_filter.mpr ⟨List.mem_of_getElem? (i := 115) (by decide +kernel), rfl⟩
theorem tw_sm_J7_fill_53178 : Cond.static yJ7_fill_53178 ∈ lw_g := List.mem_filter.mpr ⟨List.mem_of_getElem? (i := 116) (by decide +kernel), rfl⟩
theorem tw_co_J7_fill_53178 : Cond.code yJ7_fill_53178 cJ7_fill_53178 4 none ∈ lw_g := List.mem_filter.mpr ⟨List.mem_of_getElem? (i := 117) (by decide +kernel), rfl⟩
theorem tw_fl_X3_19 : Cond.fieldLink RX3 19 "NearBook$Distances" "rows" "LNearBook$Rows;" ∈ lw_g := List.mem_filter.mpr ⟨List.mem_of_getElem? (i := 118) (by decide +kernel), rfl⟩
theorem tw_fl_X3_23 : Cond.fieldLink RX3 23 "NearBook$Distances" "table" "LNearBook$Table;" ∈ lw_g := List.mem_filter.mpr ⟨List.mem_of_getElem? (i := 119) (by decide +kernel), rfl⟩
theorem tw_fl_X3_9 : Cond.fieldLink RX3 9 "NearBook$Distances" "known" "[I" ∈ lw_g := List.mem_filter.mpr ⟨List.mem_of_getElem? (i := 120) (by decide +kernel), rfl⟩
theorem tw_fl_X3_15 : Cond.fieldLink RX3 15 "NearBook$Distances" "kind" "I" ∈ lw_g := List.mem_filter.mpr ⟨List.mem_of_getElem? (i := 121) (by decide +kernel), rfl⟩
theorem tw_cl_X10_32 : Cond.classLink RX10 32 RX5 ∈ lw_g := List.mem_filter.mpr ⟨List.mem_of_getElem? (i := 131) (by decide +kernel), rfl⟩
theorem tw_ib_X5 : Cond.instantiable RX5 2 ∈ lw_g := List.mem_filter.mpr ⟨List.mem_of_getElem? (i := 132) (by decide +kernel), rfl⟩
theorem tw_im_X5_init : Cond.instanceMethod yX5_init ∈ lw_g := List.mem_filter.mpr ⟨List.mem_of_getElem? (i := 134) (by decide +kernel), rfl⟩
theorem tw_co_X5_init : Cond.code yX5_init cX5_init 1 none ∈ lw_g := List.mem_filter.mpr ⟨List.mem_of_getElem? (i := 135) (by decide +kernel), rfl⟩
theorem tw_ml_X5_3 : Cond.methodLink RX5 3 objectInit ∈ lw_g := List.mem_filter.mpr ⟨List.mem_of_getElem? (i := 136) (by decide +kernel), rfl⟩
theorem tw_fl_X5_9 : Cond.fieldLink RX5 9 "NearBook$Members" "numbers" "[I" ∈ lw_g := List.mem_filter.mpr ⟨List.mem_of_getElem? (i := 137) (by decide +kernel), rfl⟩
theorem tw_fl_X5_15 : Cond.fieldLink RX5 15 "NearBook$Members" "size" "I" ∈ lw_g := List.mem_filter.mpr ⟨List.mem_of_getElem? (i := 138) (by decide +kernel), rfl⟩
theorem tw_cl_X10_39 : Cond.classLink RX10 39 RX7 ∈ lw_g := List.mem_filter.mpr ⟨List.mem_of_getElem? (i := 144) (by decide +kernel), rfl⟩
theorem tw_ib_X7 : Cond.instantiable RX7 3 ∈ lw_g := List.mem_filter.mpr ⟨List.mem_of_getElem? (i := 145) (by decide +kernel), rfl⟩
theorem tw_im_X7_init : Cond.instanceMethod yX7_init ∈ lw_g := List.mem_filter.mpr ⟨List.mem_of_getElem? (i := 147) (by decide +kernel), rfl⟩
theorem tw_co_X7_init : Cond.code yX7_init cX7_init 1 none ∈ lw_g := List.mem_filter.mpr ⟨List.mem_of_getElem? (i := 148) (by decide +kernel), rfl⟩
theorem tw_ml_X7_3 : Cond.methodLink RX7 3 objectInit ∈ lw_g := List.mem_filter.mpr ⟨List.mem_of_getElem? (i := 149) (by decide +kernel), rfl⟩
theorem tw_fl_X7_9 : Cond.fieldLink RX7 9 "NearBook$Results" "things" "[I" ∈ lw_g := List.mem_filter.mpr ⟨List.mem_of_getElem? (i := 150) (by decide +kernel), rfl⟩
theorem tw_fl_X7_15 : Cond.fieldLink RX7 15 "NearBook$Results" "apart" "[I" ∈ lw_g := List.mem_filter.mpr ⟨List.mem_of_getElem? (i := 151) (by decide +kernel), rfl⟩
theorem tw_fl_X7_18 : Cond.fieldLink RX7 18 "NearBook$Results" "size" "I" ∈ lw_g := List.mem_filter.mpr ⟨List.mem_of_getElem? (i := 152) (by decide +kernel), rfl⟩
theorem tw_cl_X10_46 : Cond.classLink RX10 46 RX4 ∈ lw_g := List.mem_filter.mpr ⟨List.mem_of_getElem? (i := 160) (by decide +kernel), rfl⟩
theorem tw_ib_X4 : Cond.instantiable RX4 2 ∈ lw_g := List.mem_filter.mpr ⟨List.mem_of_getElem? (i := 161) (by decide +kernel), rfl⟩
theorem tw_im_X4_init : Cond.instanceMethod yX4_init ∈ lw_g := List.mem_filter.mpr ⟨List.mem_of_getElem? (i := 163) (by decide +kernel), rfl⟩
theorem tw_co_X4_init : Cond.code yX4_init cX4_init 1 none ∈ lw_g := List.mem_filter.mpr ⟨List.mem_of_getElem? (i := 164) (by decide +kernel), rfl⟩
theorem tw_ml_X4_3 : Cond.methodLink RX4 3 objectInit ∈ lw_g := List.mem_filter.mpr ⟨List.mem_of_getElem? (i := 165) (by decide +kernel), rfl⟩
theorem tw_fl_X4_9 : Cond.fieldLink RX4 9 "NearBook$Keys" "keys" "[I" ∈ lw_g := List.mem_filter.mpr ⟨List.mem_of_getElem? (i := 166) (by decide +kernel), rfl⟩
theorem tw_fl_X4_15 : Cond.fieldLink RX4 15 "NearBook$Keys" "size" "I" ∈ lw_g := List.mem_filter.mpr ⟨List.mem_of_getElem? (i := 167) (by decide +kernel), rfl⟩
theorem tw_cl_X10_53 : Cond.classLink RX10 53 RX2 ∈ lw_g := List.mem_filter.mpr ⟨List.mem_of_getElem? (i := 173) (by decide +kernel), rfl⟩
theorem tw_ib_X2 : Cond.instantiable RX2 4 ∈ lw_g := List.mem_filter.mpr ⟨List.mem_of_getElem? (i := 174) (by decide +kernel), rfl⟩
theorem tw_ml_X10_55 : Cond.methodLink RX10 55 yX2_init ∈ lw_g := List.mem_filter.mpr ⟨List.mem_of_getElem? (i := 175) (by decide +kernel), rfl⟩
theorem tw_im_X2_init : Cond.instanceMethod yX2_init ∈ lw_g := List.mem_filter.mpr ⟨List.mem_of_getElem? (i := 176) (by decide +kernel), rfl⟩
theorem tw_co_X2_init : Cond.code yX2_init cX2_init 3 none ∈ lw_g := List.mem_filter.mpr ⟨List.mem_of_getElem? (i := 177) (by decide +kernel), rfl⟩
theorem tw_ml_X2_5 : Cond.methodLink RX2 5 objectInit ∈ lw_g := List.mem_filter.mpr ⟨List.mem_of_getElem? (i := 178) (by decide +kernel), rfl⟩
theorem tw_cl_X2_11 : Cond.classLink RX2 11 RX4 ∈ lw_g := List.mem_filter.mpr ⟨List.mem_of_getElem? (i := 179) (by decide +kernel), rfl⟩
theorem tw_fl_X2_24 : Cond.fieldLink RX2 24 "NearBook$Chain" "members" "LNearBook$Members;" ∈ lw_g := List.mem_filter.mpr ⟨List.mem_of_getElem? (i := 181) (by decide +kernel), rfl⟩
theorem tw_fl_X2_28 : Cond.fieldLink RX2 28 "NearBook$Chain" "distances" "LNearBook$Distances;" ∈ lw_g := List.mem_filter.mpr ⟨List.mem_of_getElem? (i := 182) (by decide +kernel), rfl⟩
theorem tw_fl_X2_14 : Cond.fieldLink RX2 14 "NearBook$Chain" "taken" "LNearBook$Keys;" ∈ lw_g := List.mem_filter.mpr ⟨List.mem_of_getElem? (i := 183) (by decide +kernel), rfl⟩
theorem tw_fl_X2_20 : Cond.fieldLink RX2 20 "NearBook$Chain" "nearestLink" "[I" ∈ lw_g := List.mem_filter.mpr ⟨List.mem_of_getElem? (i := 184) (by decide +kernel), rfl⟩
theorem tw_cl_X10_62 : Cond.classLink RX10 62 RX6 ∈ lw_g := List.mem_filter.mpr ⟨List.mem_of_getElem? (i := 194) (by decide +kernel), rfl⟩
theorem tw_ib_X6 : Cond.instantiable RX6 3 ∈ lw_g := List.mem_filter.mpr ⟨List.mem_of_getElem? (i := 195) (by decide +kernel), rfl⟩
theorem tw_ml_X10_64 : Cond.methodLink RX10 64 yX6_init ∈ lw_g := List.mem_filter.mpr ⟨List.mem_of_getElem? (i := 196) (by decide +kernel), rfl⟩
theorem tw_im_X6_init : Cond.instanceMethod yX6_init ∈ lw_g := List.mem_filter.mpr ⟨List.mem_of_getElem? (i := 197) (by decide +kernel), rfl⟩
theorem tw_co_X6_init : Cond.code yX6_init cX6_init 3 none ∈ lw_g := List.mem_filter.mpr ⟨List.mem_of_getElem? (i := 198) (by decide +kernel), rfl⟩
theorem tw_ml_X6_3 : Cond.methodLink RX6 3 objectInit ∈ lw_g := List.mem_filter.mpr ⟨List.mem_of_getElem? (i := 199) (by decide +kernel), rfl⟩
theorem tw_fl_X6_15 : Cond.fieldLink RX6 15 "NearBook$Pieces" "members" "LNearBook$Members;" ∈ lw_g := List.mem_filter.mpr ⟨List.mem_of_getElem? (i := 200) (by decide +kernel), rfl⟩
theorem tw_fl_X6_19 : Cond.fieldLink RX6 19 "NearBook$Pieces" "distances" "LNearBook$Distances;" ∈ lw_g := List.mem_filter.mpr ⟨List.mem_of_getElem? (i := 201) (by decide +kernel), rfl⟩
theorem tw_fl_X6_9 : Cond.fieldLink RX6 9 "NearBook$Pieces" "lowest" "[I" ∈ lw_g := List.mem_filter.mpr ⟨List.mem_of_getElem? (i := 202) (by decide +kernel), rfl⟩
theorem tw_cl_X10_69 : Cond.classLink RX10 69 RX1 ∈ lw_g := List.mem_filter.mpr ⟨List.mem_of_getElem? (i := 210) (by decide +kernel), rfl⟩
theorem tw_ib_X1 : Cond.instantiable RX1 3 ∈ lw_g := List.mem_filter.mpr ⟨List.mem_of_getElem? (i := 211) (by decide +kernel), rfl⟩
theorem tw_ml_X10_71 : Cond.methodLink RX10 71 yX1_init ∈ lw_g := List.mem_filter.mpr ⟨List.mem_of_getElem? (i := 212) (by decide +kernel), rfl⟩
theorem tw_im_X1_init : Cond.instanceMethod yX1_init ∈ lw_g := List.mem_filter.mpr ⟨List.mem_of_getElem? (i := 213) (by decide +kernel), rfl⟩
theorem tw_co_X1_init : Cond.code yX1_init cX1_init 3 none ∈ lw_g := List.mem_filter.mpr ⟨List.mem_of_getElem? (i := 214) (by decide +kernel), rfl⟩
theorem tw_ml_X1_3 : Cond.methodLink RX1 3 objectInit ∈ lw_g := List.mem_filter.mpr ⟨List.mem_of_getElem? (i := 215) (by decide +kernel), rfl⟩
theorem tw_fl_X1_15 : Cond.fieldLink RX1 15 "NearBook$Centres" "members" "LNearBook$Members;" ∈ lw_g := List.mem_filter.mpr ⟨List.mem_of_getElem? (i := 216) (by decide +kernel), rfl⟩
theorem tw_fl_X1_19 : Cond.fieldLink RX1 19 "NearBook$Centres" "distances" "LNearBook$Distances;" ∈ lw_g := List.mem_filter.mpr ⟨List.mem_of_getElem? (i := 217) (by decide +kernel), rfl⟩
theorem tw_fl_X1_9 : Cond.fieldLink RX1 9 "NearBook$Centres" "gaps" "[I" ∈ lw_g := List.mem_filter.mpr ⟨List.mem_of_getElem? (i := 218) (by decide +kernel), rfl⟩
theorem tw_cl_X10_76 : Cond.classLink RX10 76 RX0 ∈ lw_g := List.mem_filter.mpr ⟨List.mem_of_getElem? (i := 226) (by decide +kernel), rfl⟩
theorem tw_ib_X0 : Cond.instantiable RX0 7 ∈ lw_g := List.mem_filter.mpr ⟨List.mem_of_getElem? (i := 227) (by decide +kernel), rfl⟩
theorem tw_ml_X10_78 : Cond.methodLink RX10 78 yX0_init ∈ lw_g := List.mem_filter.mpr ⟨List.mem_of_getElem? (i := 228) (by decide +kernel), rfl⟩
theorem tw_im_X0_init : Cond.instanceMethod yX0_init ∈ lw_g := List.mem_filter.mpr ⟨List.mem_of_getElem? (i := 229) (by decide +kernel), rfl⟩
theorem tw_co_X0_init : Cond.code yX0_init cX0_init 3 none ∈ lw_g := List.mem_filter.mpr ⟨List.mem_of_getElem? (i := 230) (by decide +kernel), rfl⟩
theorem tw_ml_X0_3 : Cond.methodLink RX0 3 objectInit ∈ lw_g := List.mem_filter.mpr ⟨List.mem_of_getElem? (i := 231) (by decide +kernel), rfl⟩
theorem tw_fl_X0_28 : Cond.fieldLink RX0 28 "NearBook$BestCentres" "members" "LNearBook$Members;" ∈ lw_g := List.mem_filter.mpr ⟨List.mem_of_getElem? (i := 232) (by decide +kernel), rfl⟩
theorem tw_fl_X0_32 : Cond.fieldLink RX0 32 "NearBook$BestCentres" "distances" "LNearBook$Distances;" ∈ lw_g := List.mem_filter.mpr ⟨List.mem_of_getElem? (i := 233) (by decide +kernel), rfl⟩
theorem tw_fl_X0_9 : Cond.fieldLink RX0 9 "NearBook$BestCentres" "gaps" "[I" ∈ lw_g := List.mem_filter.mpr ⟨List.mem_of_getElem? (i := 234) (by decide +kernel), rfl⟩
theorem tw_fl_X0_15 : Cond.fieldLink RX0 15 "NearBook$BestCentres" "picked" "[I" ∈ lw_g := List.mem_filter.mpr ⟨List.mem_of_getElem? (i := 235) (by decide +kernel), rfl⟩
theorem tw_fl_X0_18 : Cond.fieldLink RX0 18 "NearBook$BestCentres" "best" "[I" ∈ lw_g := List.mem_filter.mpr ⟨List.mem_of_getElem? (i := 236) (by decide +kernel), rfl⟩
theorem tw_fl_X0_21 : Cond.fieldLink RX0 21 "NearBook$BestCentres" "radius" "I" ∈ lw_g := List.mem_filter.mpr ⟨List.mem_of_getElem? (i := 237) (by decide +kernel), rfl⟩
theorem tw_fl_X0_25 : Cond.fieldLink RX0 25 "NearBook$BestCentres" "suspect" "I" ∈ lw_g := List.mem_filter.mpr ⟨List.mem_of_getElem? (i := 238) (by decide +kernel), rfl⟩
theorem tw_fl_X10_10 : Cond.fieldLink RX10 10 "NearBook" "rows" "LNearBook$Rows;" ∈ lw_g := List.mem_filter.mpr ⟨List.mem_of_getElem? (i := 254) (by decide +kernel), rfl⟩
theorem tw_fl_X10_19 : Cond.fieldLink RX10 19 "NearBook" "table" "LNearBook$Table;" ∈ lw_g := List.mem_filter.mpr ⟨List.mem_of_getElem? (i := 255) (by decide +kernel), rfl⟩
theorem tw_fl_X10_28 : Cond.fieldLink RX10 28 "NearBook" "distances" "LNearBook$Distances;" ∈ lw_g := List.mem_filter.mpr ⟨List.mem_of_getElem? (i := 256) (by decide +kernel), rfl⟩
theorem tw_fl_X10_35 : Cond.fieldLink RX10 35 "NearBook" "members" "LNearBook$Members;" ∈ lw_g := List.mem_filter.mpr ⟨List.mem_of_getElem? (i := 257) (by decide +kernel), rfl⟩
theorem tw_fl_X10_42 : Cond.fieldLink RX10 42 "NearBook" "results" "LNearBook$Results;" ∈ lw_g := List.mem_filter.mpr ⟨List.mem_of_getElem? (i := 258) (by decide +kernel), rfl⟩
theorem tw_fl_X10_49 : Cond.fieldLink RX10 49 "NearBook" "ranked" "LNearBook$Keys;" ∈ lw_g := List.mem_filter.mpr ⟨List.mem_of_getElem? (i := 259) (by decide +kernel), rfl⟩
theorem tw_fl_X10_58 : Cond.fieldLink RX10 58 "NearBook" "links" "LNearBook$Chain;" ∈ lw_g := List.mem_filter.mpr ⟨List.mem_of_getElem? (i := 260) (by decide +kernel), rfl⟩
theorem tw_fl_X10_65 : Cond.fieldLink RX10 65 "NearBook" "pieces" "LNearBook$Pieces;" ∈ lw_g := List.mem_filter.mpr ⟨List.mem_of_getElem? (i := 261) (by decide +kernel), rfl⟩
theorem tw_fl_X10_72 : Cond.fieldLink RX10 72 "NearBook" "spread" "LNearBook$Centres;" ∈ lw_g := List.mem_filter.mpr ⟨List.mem_of_getElem? (i := 262) (by decide +kernel), rfl⟩
theorem tw_fl_X10_79 : Cond.fieldLink RX10 79 "NearBook" "search" "LNearBook$BestCentres;" ∈ lw_g := List.mem_filter.mpr ⟨List.mem_of_getElem? (i := 263) (by decide +kernel), rfl⟩
theorem tw_ml_L_13 : Cond.methodLink RL 13 yX10_thing ∈ lw_g := List.mem_filter.mpr ⟨List.mem_of_getElem? (i := 285) (by decide +kernel), rfl⟩
theorem tw_im_X10_thing : Cond.instanceMethod yX10_thing ∈ lw_g := List.mem_filter.mpr ⟨List.mem_of_getElem? (i := 286) (by decide +kernel), rfl⟩
theorem tw_se_X10_thing : Cond.selects RX10 yX10_thing yX10_thing ∈ lw_g := List.mem_filter.mpr ⟨List.mem_of_getElem? (i := 287) (by decide +kernel), rfl⟩
theorem tw_co_X10_thing : Cond.code yX10_thing cX10_thing 2 (some .int) ∈ lw_g := List.mem_filter.mpr ⟨List.mem_of_getElem? (i := 288) (by decide +kernel), rfl⟩
theorem tw_ml_X10_83 : Cond.methodLink RX10 83 yX8_size ∈ lw_g := List.mem_filter.mpr ⟨List.mem_of_getElem? (i := 289) (by decide +kernel), rfl⟩
theorem tw_im_X8_size : Cond.instanceMethod yX8_size ∈ lw_g := List.mem_filter.mpr ⟨List.mem_of_getElem? (i := 290) (by decide +kernel), rfl⟩
theorem tw_se_X8_size : Cond.selects RX8 yX8_size yX8_size ∈ lw_g := List.mem_filter.mpr ⟨List.mem_of_getElem? (i := 291) (by decide +kernel), rfl⟩
theorem tw_co_X8_size : Cond.code yX8_size cX8_size 1 (some .int) ∈ lw_g := List.mem_filter.mpr ⟨List.mem_of_getElem? (i := 292) (by decide +kernel), rfl⟩
theorem tw_ml_X10_87 : Cond.methodLink RX10 87 yX8_append ∈ lw_g := List.mem_filter.mpr ⟨List.mem_of_getElem? (i := 293) (by decide +kernel), rfl⟩
theorem tw_im_X8_append : Cond.instanceMethod yX8_append ∈ lw_g := List.mem_filter.mpr ⟨List.mem_of_getElem? (i := 294) (by decide +kernel), rfl⟩
theorem tw_se_X8_append : Cond.selects RX8 yX8_append yX8_append ∈ lw_g := List.mem_filter.mpr ⟨List.mem_of_getElem? (i := 295) (by decide +kernel), rfl⟩
theorem tw_co_X8_append : Cond.code yX8_append cX8_append 2 (some .int) ∈ lw_g := List.mem_filter.mpr ⟨List.mem_of_getElem? (i := 296) (by decide +kernel), rfl⟩
theorem tw_ml_L_18 : Cond.methodLink RL 18 yX10_value ∈ lw_g := List.mem_filter.mpr ⟨List.mem_of_getElem? (i := 297) (by decide +kernel), rfl⟩
theorem tw_im_X10_value : Cond.instanceMethod yX10_value ∈ lw_g := List.mem_filter.mpr ⟨List.mem_of_getElem? (i := 298) (by decide +kernel), rfl⟩
theorem tw_se_X10_value : Cond.selects RX10 yX10_value yX10_value ∈ lw_g := List.mem_filter.mpr ⟨List.mem_of_getElem? (i := 299) (by decide +kernel), rfl⟩
theorem tw_co_X10_value : Cond.code yX10_value cX10_value 4 (some .boolean) ∈ lw_g := List.mem_filter.mpr ⟨List.mem_of_getElem? (i := 300) (by decide +kernel), rfl⟩
theorem tw_ml_X10_91 : Cond.methodLink RX10 91 yX8_holds ∈ lw_g := List.mem_filter.mpr ⟨List.mem_of_getElem? (i := 301) (by decide +kernel), rfl⟩
theorem tw_im_X8_holds : Cond.instanceMethod yX8_holds ∈ lw_g := List.mem_filter.mpr ⟨List.mem_of_getElem? (i := 302) (by decide +kernel), rfl⟩
theorem tw_se_X8_holds : Cond.selects RX8 yX8_holds yX8_holds ∈ lw_g := List.mem_filter.mpr ⟨List.mem_of_getElem? (i := 303) (by decide +kernel), rfl⟩
theorem tw_co_X8_holds : Cond.code yX8_holds cX8_holds 2 (some .boolean) ∈ lw_g := List.mem_filter.mpr ⟨List.mem_of_getElem? (i := 304) (by decide +kernel), rfl⟩
theorem tw_ml_X10_95 : Cond.methodLink RX10 95 yX8_lengthOf ∈ lw_g := List.mem_filter.mpr ⟨List.mem_of_getElem? (i := 305) (by decide +kernel), rfl⟩
theorem tw_im_X8_lengthOf : Cond.instanceMethod yX8_lengthOf ∈ lw_g := List.mem_filter.mpr ⟨List.mem_of_getElem? (i := 306) (by decide +kernel), rfl⟩
theorem tw_se_X8_lengthOf : Cond.selects RX8 yX8_lengthOf yX8_lengthOf ∈ lw_g := List.mem_filter.mpr ⟨List.mem_of_getElem? (i := 307) (by decide +kernel), rfl⟩
theorem tw_co_X8_lengthOf : Cond.code yX8_lengthOf cX8_lengthOf 2 (some .int) ∈ lw_g := List.mem_filter.mpr ⟨List.mem_of_getElem? (i := 308) (by decide +kernel), rfl⟩
theorem tw_ml_X10_98 : Cond.methodLink RX10 98 yX8_change ∈ lw_g := List.mem_filter.mpr ⟨List.mem_of_getElem? (i := 309) (by decide +kernel), rfl⟩
theorem tw_im_X8_change : Cond.instanceMethod yX8_change ∈ lw_g := List.mem_filter.mpr ⟨List.mem_of_getElem? (i := 310) (by decide +kernel), rfl⟩
theorem tw_se_X8_change : Cond.selects RX8 yX8_change yX8_change ∈ lw_g := List.mem_filter.mpr ⟨List.mem_of_getElem? (i := 311) (by decide +kernel), rfl⟩
theorem tw_co_X8_change : Cond.code yX8_change cX8_change 4 none ∈ lw_g := List.mem_filter.mpr ⟨List.mem_of_getElem? (i := 312) (by decide +kernel), rfl⟩
theorem tw_ml_X10_102 : Cond.methodLink RX10 102 yX3_forgetAllOf ∈ lw_g := List.mem_filter.mpr ⟨List.mem_of_getElem? (i := 313) (by decide +kernel), rfl⟩
theorem tw_im_X3_forgetAllOf : Cond.instanceMethod yX3_forgetAllOf ∈ lw_g := List.mem_filter.mpr ⟨List.mem_of_getElem? (i := 314) (by decide +kernel), rfl⟩
theorem tw_se_X3_forgetAllOf : Cond.selects RX3 yX3_forgetAllOf yX3_forgetAllOf ∈ lw_g := List.mem_filter.mpr ⟨List.mem_of_getElem? (i := 315) (by decide +kernel), rfl⟩
theorem tw_co_X3_forgetAllOf : Cond.code yX3_forgetAllOf cX3_forgetAllOf 3 none ∈ lw_g := List.mem_filter.mpr ⟨List.mem_of_getElem? (i := 316) (by decide +kernel), rfl⟩
theorem tw_ml_X3_33 : Cond.methodLink RX3 33 yX3_remember ∈ lw_g := List.mem_filter.mpr ⟨List.mem_of_getElem? (i := 317) (by decide +kernel), rfl⟩
theorem tw_im_X3_remember : Cond.instanceMethod yX3_remember ∈ lw_g := List.mem_filter.mpr ⟨List.mem_of_getElem? (i := 319) (by decide +kernel), rfl⟩
theorem tw_co_X3_remember : Cond.code yX3_remember cX3_remember 4 none ∈ lw_g := List.mem_filter.mpr ⟨List.mem_of_getElem? (i := 320) (by decide +kernel), rfl⟩
theorem tw_ml_L_23 : Cond.methodLink RL 23 yX10_tell ∈ lw_g := List.mem_filter.mpr ⟨List.mem_of_getElem? (i := 321) (by decide +kernel), rfl⟩
theorem tw_im_X10_tell : Cond.instanceMethod yX10_tell ∈ lw_g := List.mem_filter.mpr ⟨List.mem_of_getElem? (i := 322) (by decide +kernel), rfl⟩
theorem tw_se_X10_tell : Cond.selects RX10 yX10_tell yX10_tell ∈ lw_g := List.mem_filter.mpr ⟨List.mem_of_getElem? (i := 323) (by decide +kernel), rfl⟩
theorem tw_co_X10_tell : Cond.code yX10_tell cX10_tell 4 (some .boolean) ∈ lw_g := List.mem_filter.mpr ⟨List.mem_of_getElem? (i := 324) (by decide +kernel), rfl⟩
theorem tw_cn_X10_106 : Cond.constant RX10 106 (100000) ∈ lw_g := List.mem_filter.mpr ⟨List.mem_of_getElem? (i := 325) (by decide +kernel), rfl⟩
theorem tw_ml_X10_107 : Cond.methodLink RX10 107 yX9_write ∈ lw_g := List.mem_filter.mpr ⟨List.mem_of_getElem? (i := 326) (by decide +kernel), rfl⟩
theorem tw_im_X9_write : Cond.instanceMethod yX9_write ∈ lw_g := List.mem_filter.mpr ⟨List.mem_of_getElem? (i := 327) (by decide +kernel), rfl⟩
theorem tw_se_X9_write : Cond.selects RX9 yX9_write yX9_write ∈ lw_g := List.mem_filter.mpr ⟨List.mem_of_getElem? (i := 328) (by decide +kernel), rfl⟩
theorem tw_co_X9_write : Cond.code yX9_write cX9_write 4 none ∈ lw_g := List.mem_filter.mpr ⟨List.mem_of_getElem? (i := 329) (by decide +kernel), rfl⟩
theorem tw_ml_X10_110 : Cond.methodLink RX10 110 yX3_forgetPair ∈ lw_g := List.mem_filter.mpr ⟨List.mem_of_getElem? (i := 330) (by decide +kernel), rfl⟩
theorem tw_im_X3_forgetPair : Cond.instanceMethod yX3_forgetPair ∈ lw_g := List.mem_filter.mpr ⟨List.mem_of_getElem? (i := 331) (by decide +kernel), rfl⟩
theorem tw_se_X3_forgetPair : Cond.selects RX3 yX3_forgetPair yX3_forgetPair ∈ lw_g := List.mem_filter.mpr ⟨List.mem_of_getElem? (i := 332) (by decide +kernel), rfl⟩
theorem tw_co_X3_forgetPair : Cond.code yX3_forgetPair cX3_forgetPair 3 none ∈ lw_g := List.mem_filter.mpr ⟨List.mem_of_getElem? (i := 333) (by decide +kernel), rfl⟩
theorem tw_ml_L_27 : Cond.methodLink RL 27 yX10_kind ∈ lw_g := List.mem_filter.mpr ⟨List.mem_of_getElem? (i := 334) (by decide +kernel), rfl⟩
theorem tw_im_X10_kind : Cond.instanceMethod yX10_kind ∈ lw_g := List.mem_filter.mpr ⟨List.mem_of_getElem? (i := 335) (by decide +kernel), rfl⟩
theorem tw_se_X10_kind : Cond.selects RX10 yX10_kind yX10_kind ∈ lw_g := List.mem_filter.mpr ⟨List.mem_of_getElem? (i := 336) (by decide +kernel), rfl⟩
theorem tw_co_X10_kind : Cond.code yX10_kind cX10_kind 2 (some .boolean) ∈ lw_g := List.mem_filter.mpr ⟨List.mem_of_getElem? (i := 337) (by decide +kernel), rfl⟩
theorem tw_ml_X10_114 : Cond.methodLink RX10 114 yX3_useKind ∈ lw_g := List.mem_filter.mpr ⟨List.mem_of_getElem? (i := 338) (by decide +kernel), rfl⟩
theorem tw_im_X3_useKind : Cond.instanceMethod yX3_useKind ∈ lw_g := List.mem_filter.mpr ⟨List.mem_of_getElem? (i := 339) (by decide +kernel), rfl⟩
theorem tw_se_X3_useKind : Cond.selects RX3 yX3_useKind yX3_useKind ∈ lw_g := List.mem_filter.mpr ⟨List.mem_of_getElem? (i := 340) (by decide +kernel), rfl⟩
theorem tw_co_X3_useKind : Cond.code yX3_useKind cX3_useKind 2 none ∈ lw_g := List.mem_filter.mpr ⟨List.mem_of_getElem? (i := 341) (by decide +kernel), rfl⟩
theorem tw_ml_L_32 : Cond.methodLink RL 32 yX10_distance ∈ lw_g := List.mem_filter.mpr ⟨List.mem_of_getElem? (i := 342) (by decide +kernel), rfl⟩
theorem tw_im_X10_distance : Cond.instanceMethod yX10_distance ∈ lw_g := List.mem_filter.mpr ⟨List.mem_of_getElem? (i := 343) (by decide +kernel), rfl⟩
theorem tw_se_X10_distance : Cond.selects RX10 yX10_distance yX10_distance ∈ lw_g := List.mem_filter.mpr ⟨List.mem_of_getElem? (i := 344) (by decide +kernel), rfl⟩
theorem tw_co_X10_distance : Cond.code yX10_distance cX10_distance 3 (some .int) ∈ lw_g := List.mem_filter.mpr ⟨List.mem_of_getElem? (i := 345) (by decide +kernel), rfl⟩
theorem tw_ml_X10_117 : Cond.methodLink RX10 117 yX3_between ∈ lw_g := List.mem_filter.mpr ⟨List.mem_of_getElem? (i := 346) (by decide +kernel), rfl⟩
theorem tw_im_X3_between : Cond.instanceMethod yX3_between ∈ lw_g := List.mem_filter.mpr ⟨List.mem_of_getElem? (i := 347) (by decide +kernel), rfl⟩
theorem tw_se_X3_between : Cond.selects RX3 yX3_between yX3_between ∈ lw_g := List.mem_filter.mpr ⟨List.mem_of_getElem? (i := 348) (by decide +kernel), rfl⟩
theorem tw_co_X3_between : Cond.code yX3_between cX3_between 4 (some .int) ∈ lw_g := List.mem_filter.mpr ⟨List.mem_of_getElem? (i := 349) (by decide +kernel), rfl⟩
theorem tw_ml_X3_49 : Cond.methodLink RX3 49 yX3_measure ∈ lw_g := List.mem_filter.mpr ⟨List.mem_of_getElem? (i := 350) (by decide +kernel), rfl⟩
theorem tw_im_X3_measure : Cond.instanceMethod yX3_measure ∈ lw_g := List.mem_filter.mpr ⟨List.mem_of_getElem? (i := 352) (by decide +kernel), rfl⟩
theorem tw_co_X3_measure : Cond.code yX3_measure cX3_measure 3 (some .int) ∈ lw_g := List.mem_filter.mpr ⟨List.mem_of_getElem? (i := 353) (by decide +kernel), rfl⟩
theorem tw_ml_X3_64 : Cond.methodLink RX3 64 yX8_fewestEdits ∈ lw_g := List.mem_filter.mpr ⟨List.mem_of_getElem? (i := 354) (by decide +kernel), rfl⟩
theorem tw_im_X8_fewestEdits : Cond.instanceMethod yX8_fewestEdits ∈ lw_g := List.mem_filter.mpr ⟨List.mem_of_getElem? (i := 355) (by decide +kernel), rfl⟩
theorem tw_se_X8_fewestEdits : Cond.selects RX8 yX8_fewestEdits yX8_fewestEdits ∈ lw_g := List.mem_filter.mpr ⟨List.mem_of_getElem? (i := 356) (by decide +kernel), rfl⟩
theorem tw_co_X8_fewestEdits : Cond.code yX8_fewestEdits cX8_fewestEdits 9 (some .int) ∈ lw_g := List.mem_filter.mpr ⟨List.mem_of_getElem? (i := 357) (by decide +kernel), rfl⟩
theorem tw_ml_X8_35 : Cond.methodLink RX8 35 Lib.Math.min.name ∈ lw_g := List.mem_filter.mpr ⟨List.mem_of_getElem? (i := 358) (by decide +kernel), rfl⟩
theorem tw_sm_Lib_Math_min_name : Cond.static Lib.Math.min.name ∈ lw_g := List.mem_filter.mpr ⟨List.mem_of_getElem? (i := 359) (by decide +kernel), rfl⟩
theorem tw_co_Lib_Math_min_name : Cond.code Lib.Math.min.name Lib.Math.min.code 2 (some .int) ∈ lw_g := List.mem_filter.mpr ⟨List.mem_of_getElem? (i := 360) (by decide +kernel), rfl⟩
theorem tw_ml_X3_67 : Cond.methodLink RX3 67 yX8_sumOfDifferences ∈ lw_g := List.mem_filter.mpr ⟨List.mem_of_getElem? (i := 361) (by decide +kernel), rfl⟩
theorem tw_im_X8_sumOfDifferences : Cond.instanceMethod yX8_sumOfDifferences ∈ lw_g := List.mem_filter.mpr ⟨List.mem_of_getElem? (i := 362) (by decide +kernel), rfl⟩
theorem tw_se_X8_sumOfDifferences : Cond.selects RX8 yX8_sumOfDifferences yX8_sumOfDifferences ∈ lw_g := List.mem_filter.mpr ⟨List.mem_of_getElem? (i := 363) (by decide +kernel), rfl⟩
theorem tw_co_X8_sumOfDifferences : Cond.code yX8_sumOfDifferences cX8_sumOfDifferences 5 (some .int) ∈ lw_g := List.mem_filter.mpr ⟨List.mem_of_getElem? (i := 364) (by decide +kernel), rfl⟩
theorem tw_ml_X8_25 : Cond.methodLink RX8 25 yX8_difference ∈ lw_g := List.mem_filter.mpr ⟨List.mem_of_getElem? (i := 365) (by decide +kernel), rfl⟩
theorem tw_im_X8_difference : Cond.instanceMethod yX8_difference ∈ lw_g := List.mem_filter.mpr ⟨List.mem_of_getElem? (i := 367) (by decide +kernel), rfl⟩
theorem tw_co_X8_difference : Cond.code yX8_difference cX8_difference 4 (some .int) ∈ lw_g := List.mem_filter.mpr ⟨List.mem_of_getElem? (i := 368) (by decide +kernel), rfl⟩
theorem tw_ml_X8_42 : Cond.methodLink RX8 42 Lib.Math.abs.name ∈ lw_g := List.mem_filter.mpr ⟨List.mem_of_getElem? (i := 369) (by decide +kernel), rfl⟩
theorem tw_sm_Lib_Math_abs_name : Cond.static Lib.Math.abs.name ∈ lw_g := List.mem_filter.mpr ⟨List.mem_of_getElem? (i := 370) (by decide +kernel), rfl⟩
theorem tw_co_Lib_Math_abs_name : Cond.code Lib.Math.abs.name Lib.Math.abs.code 1 (some .int) ∈ lw_g := List.mem_filter.mpr ⟨List.mem_of_getElem? (i := 371) (by decide +kernel), rfl⟩
theorem tw_ml_X3_70 : Cond.methodLink RX3 70 yX8_greatestDifference ∈ lw_g := List.mem_filter.mpr ⟨List.mem_of_getElem? (i := 372) (by decide +kernel), rfl⟩
theorem tw_im_X8_greatestDifference : Cond.instanceMethod yX8_greatestDifference ∈ lw_g := List.mem_filter.mpr ⟨List.mem_of_getElem? (i := 373) (by decide +kernel), rfl⟩
theorem tw_se_X8_greatestDifference : Cond.selects RX8 yX8_greatestDifference yX8_greatestDifference ∈ lw_g := List.mem_filter.mpr ⟨List.mem_of_getElem? (i := 374) (by decide +kernel), rfl⟩
theorem tw_co_X8_greatestDifference : Cond.code yX8_greatestDifference cX8_greatestDifference 5 (some .int) ∈ lw_g := List.mem_filter.mpr ⟨List.mem_of_getElem? (i := 375) (by decide +kernel), rfl⟩
theorem tw_ml_X8_29 : Cond.methodLink RX8 29 Lib.Math.max.name ∈ lw_g := List.mem_filter.mpr ⟨List.mem_of_getElem? (i := 376) (by decide +kernel), rfl⟩
theorem tw_sm_Lib_Math_max_name : Cond.static Lib.Math.max.name ∈ lw_g := List.mem_filter.mpr ⟨List.mem_of_getElem? (i := 377) (by decide +kernel), rfl⟩
theorem tw_co_Lib_Math_max_name : Cond.code Lib.Math.max.name Lib.Math.max.code 2 (some .int) ∈ lw_g := List.mem_filter.mpr ⟨List.mem_of_getElem? (i := 378) (by decide +kernel), rfl⟩
theorem tw_ml_X3_73 : Cond.methodLink RX3 73 yX8_valuesMissing ∈ lw_g := List.mem_filter.mpr ⟨List.mem_of_getElem? (i := 379) (by decide +kernel), rfl⟩
theorem tw_im_X8_valuesMissing : Cond.instanceMethod yX8_valuesMissing ∈ lw_g := List.mem_filter.mpr ⟨List.mem_of_getElem? (i := 380) (by decide +kernel), rfl⟩
theorem tw_se_X8_valuesMissing : Cond.selects RX8 yX8_valuesMissing yX8_valuesMissing ∈ lw_g := List.mem_filter.mpr ⟨List.mem_of_getElem? (i := 381) (by decide +kernel), rfl⟩
theorem tw_co_X8_valuesMissing : Cond.code yX8_valuesMissing cX8_valuesMissing 6 (some .int) ∈ lw_g := List.mem_filter.mpr ⟨List.mem_of_getElem? (i := 382) (by decide +kernel), rfl⟩
theorem tw_ml_X8_38 : Cond.methodLink RX8 38 yX8_hasBefore ∈ lw_g := List.mem_filter.mpr ⟨List.mem_of_getElem? (i := 383) (by decide +kernel), rfl⟩
theorem tw_im_X8_hasBefore : Cond.instanceMethod yX8_hasBefore ∈ lw_g := List.mem_filter.mpr ⟨List.mem_of_getElem? (i := 385) (by decide +kernel), rfl⟩
theorem tw_co_X8_hasBefore : Cond.code yX8_hasBefore cX8_hasBefore 5 (some .boolean) ∈ lw_g := List.mem_filter.mpr ⟨List.mem_of_getElem? (i := 386) (by decide +kernel), rfl⟩
theorem tw_ml_X3_76 : Cond.methodLink RX3 76 yX9_read ∈ lw_g := List.mem_filter.mpr ⟨List.mem_of_getElem? (i := 387) (by decide +kernel), rfl⟩
theorem tw_im_X9_read : Cond.instanceMethod yX9_read ∈ lw_g := List.mem_filter.mpr ⟨List.mem_of_getElem? (i := 388) (by decide +kernel), rfl⟩
theorem tw_se_X9_read : Cond.selects RX9 yX9_read yX9_read ∈ lw_g := List.mem_filter.mpr ⟨List.mem_of_getElem? (i := 389) (by decide +kernel), rfl⟩
theorem tw_co_X9_read : Cond.code yX9_read cX9_read 3 (some .int) ∈ lw_g := List.mem_filter.mpr ⟨List.mem_of_getElem? (i := 390) (by decide +kernel), rfl⟩
theorem tw_ml_X3_79 : Cond.methodLink RX3 79 yX8_unlikePlaces ∈ lw_g := List.mem_filter.mpr ⟨List.mem_of_getElem? (i := 391) (by decide +kernel), rfl⟩
theorem tw_im_X8_unlikePlaces : Cond.instanceMethod yX8_unlikePlaces ∈ lw_g := List.mem_filter.mpr ⟨List.mem_of_getElem? (i := 392) (by decide +kernel), rfl⟩
theorem tw_se_X8_unlikePlaces : Cond.selects RX8 yX8_unlikePlaces yX8_unlikePlaces ∈ lw_g := List.mem_filter.mpr ⟨List.mem_of_getElem? (i := 393) (by decide +kernel), rfl⟩
theorem tw_co_X8_unlikePlaces : Cond.code yX8_unlikePlaces cX8_unlikePlaces 5 (some .int) ∈ lw_g := List.mem_filter.mpr ⟨List.mem_of_getElem? (i := 394) (by decide +kernel), rfl⟩
theorem tw_ml_L_37 : Cond.methodLink RL 37 yX10_law ∈ lw_g := List.mem_filter.mpr ⟨List.mem_of_getElem? (i := 395) (by decide +kernel), rfl⟩
theorem tw_im_X10_law : Cond.instanceMethod yX10_law ∈ lw_g := List.mem_filter.mpr ⟨List.mem_of_getElem? (i := 396) (by decide +kernel), rfl⟩
theorem tw_se_X10_law : Cond.selects RX10 yX10_law yX10_law ∈ lw_g := List.mem_filter.mpr ⟨List.mem_of_getElem? (i := 397) (by decide +kernel), rfl⟩
theorem tw_co_X10_law : Cond.code yX10_law cX10_law 1 (some .int) ∈ lw_g := List.mem_filter.mpr ⟨List.mem_of_getElem? (i := 398) (by decide +kernel), rfl⟩
theorem tw_ml_X10_121 : Cond.methodLink RX10 121 yX3_lawHolds ∈ lw_g := List.mem_filter.mpr ⟨List.mem_of_getElem? (i := 399) (by decide +kernel), rfl⟩
theorem tw_im_X3_lawHolds : Cond.instanceMethod yX3_lawHolds ∈ lw_g := List.mem_filter.mpr ⟨List.mem_of_getElem? (i := 400) (by decide +kernel), rfl⟩
theorem tw_se_X3_lawHolds : Cond.selects RX3 yX3_lawHolds yX3_lawHolds ∈ lw_g := List.mem_filter.mpr ⟨List.mem_of_getElem? (i := 401) (by decide +kernel), rfl⟩
theorem tw_co_X3_lawHolds : Cond.code yX3_lawHolds cX3_lawHolds 1 (some .boolean) ∈ lw_g := List.mem_filter.mpr ⟨List.mem_of_getElem? (i := 402) (by decide +kernel), rfl⟩
theorem tw_ml_X3_37 : Cond.methodLink RX3 37 yX8_size ∈ lw_g := List.mem_filter.mpr ⟨List.mem_of_getElem? (i := 403) (by decide +kernel), rfl⟩
theorem tw_ml_X3_43 : Cond.methodLink RX3 43 yX9_lawHolds ∈ lw_g := List.mem_filter.mpr ⟨List.mem_of_getElem? (i := 404) (by decide +kernel), rfl⟩
theorem tw_im_X9_lawHolds : Cond.instanceMethod yX9_lawHolds ∈ lw_g := List.mem_filter.mpr ⟨List.mem_of_getElem? (i := 405) (by decide +kernel), rfl⟩
theorem tw_se_X9_lawHolds : Cond.selects RX9 yX9_lawHolds yX9_lawHolds ∈ lw_g := List.mem_filter.mpr ⟨List.mem_of_getElem? (i := 406) (by decide +kernel), rfl⟩
theorem tw_co_X9_lawHolds : Cond.code yX9_lawHolds cX9_lawHolds 2 (some .boolean) ∈ lw_g := List.mem_filter.mpr ⟨List.mem_of_getElem? (i := 407) (by decide +kernel), rfl⟩
theorem tw_ml_X9_26 : Cond.methodLink RX9 26 yX9_findBreakers ∈ lw_g := List.mem_filter.mpr ⟨List.mem_of_getElem? (i := 408) (by decide +kernel), rfl⟩
theorem tw_im_X9_findBreakers : Cond.instanceMethod yX9_findBreakers ∈ lw_g := List.mem_filter.mpr ⟨List.mem_of_getElem? (i := 410) (by decide +kernel), rfl⟩
theorem tw_co_X9_findBreakers : Cond.code yX9_findBreakers cX9_findBreakers 5 (some .boolean) ∈ lw_g := List.mem_filter.mpr ⟨List.mem_of_getElem? (i := 411) (by decide +kernel), rfl⟩
theorem tw_ml_X9_30 : Cond.methodLink RX9 30 yX9_endBeyond ∈ lw_g := List.mem_filter.mpr ⟨List.mem_of_getElem? (i := 412) (by decide +kernel), rfl⟩
theorem tw_im_X9_endBeyond : Cond.instanceMethod yX9_endBeyond ∈ lw_g := List.mem_filter.mpr ⟨List.mem_of_getElem? (i := 414) (by decide +kernel), rfl⟩
theorem tw_co_X9_endBeyond : Cond.code yX9_endBeyond cX9_endBeyond 8 (some .int) ∈ lw_g := List.mem_filter.mpr ⟨List.mem_of_getElem? (i := 415) (by decide +kernel), rfl⟩
theorem tw_ml_L_42 : Cond.methodLink RL 42 yX10_three ∈ lw_g := List.mem_filter.mpr ⟨List.mem_of_getElem? (i := 416) (by decide +kernel), rfl⟩
theorem tw_im_X10_three : Cond.instanceMethod yX10_three ∈ lw_g := List.mem_filter.mpr ⟨List.mem_of_getElem? (i := 417) (by decide +kernel), rfl⟩
theorem tw_se_X10_three : Cond.selects RX10 yX10_three yX10_three ∈ lw_g := List.mem_filter.mpr ⟨List.mem_of_getElem? (i := 418) (by decide +kernel), rfl⟩
theorem tw_co_X10_three : Cond.code yX10_three cX10_three 2 (some .int) ∈ lw_g := List.mem_filter.mpr ⟨List.mem_of_getElem? (i := 419) (by decide +kernel), rfl⟩
theorem tw_ml_X10_125 : Cond.methodLink RX10 125 yX9_breaker ∈ lw_g := List.mem_filter.mpr ⟨List.mem_of_getElem? (i := 420) (by decide +kernel), rfl⟩
theorem tw_im_X9_breaker : Cond.instanceMethod yX9_breaker ∈ lw_g := List.mem_filter.mpr ⟨List.mem_of_getElem? (i := 421) (by decide +kernel), rfl⟩
theorem tw_se_X9_breaker : Cond.selects RX9 yX9_breaker yX9_breaker ∈ lw_g := List.mem_filter.mpr ⟨List.mem_of_getElem? (i := 422) (by decide +kernel), rfl⟩
theorem tw_co_X9_breaker : Cond.code yX9_breaker cX9_breaker 2 (some .int) ∈ lw_g := List.mem_filter.mpr ⟨List.mem_of_getElem? (i := 423) (by decide +kernel), rfl⟩
theorem tw_ml_L_46 : Cond.methodLink RL 46 yX10_put ∈ lw_g := List.mem_filter.mpr ⟨List.mem_of_getElem? (i := 424) (by decide +kernel), rfl⟩
theorem tw_im_X10_put : Cond.instanceMethod yX10_put ∈ lw_g := List.mem_filter.mpr ⟨List.mem_of_getElem? (i := 425) (by decide +kernel), rfl⟩
theorem tw_se_X10_put : Cond.selects RX10 yX10_put yX10_put ∈ lw_g := List.mem_filter.mpr ⟨List.mem_of_getElem? (i := 426) (by decide +kernel), rfl⟩
theorem tw_co_X10_put : Cond.code yX10_put cX10_put 2 (some .boolean) ∈ lw_g := List.mem_filter.mpr ⟨List.mem_of_getElem? (i := 427) (by decide +kernel), rfl⟩
theorem tw_ml_X10_128 : Cond.methodLink RX10 128 yX5_holds ∈ lw_g := List.mem_filter.mpr ⟨List.mem_of_getElem? (i := 428) (by decide +kernel), rfl⟩
theorem tw_im_X5_holds : Cond.instanceMethod yX5_holds ∈ lw_g := List.mem_filter.mpr ⟨List.mem_of_getElem? (i := 429) (by decide +kernel), rfl⟩
theorem tw_se_X5_holds : Cond.selects RX5 yX5_holds yX5_holds ∈ lw_g := List.mem_filter.mpr ⟨List.mem_of_getElem? (i := 430) (by decide +kernel), rfl⟩
theorem tw_co_X5_holds : Cond.code yX5_holds cX5_holds 3 (some .boolean) ∈ lw_g := List.mem_filter.mpr ⟨List.mem_of_getElem? (i := 431) (by decide +kernel), rfl⟩
theorem tw_ml_X5_19 : Cond.methodLink RX5 19 yX5_spotOf ∈ lw_g := List.mem_filter.mpr ⟨List.mem_of_getElem? (i := 432) (by decide +kernel), rfl⟩
theorem tw_im_X5_spotOf : Cond.instanceMethod yX5_spotOf ∈ lw_g := List.mem_filter.mpr ⟨List.mem_of_getElem? (i := 434) (by decide +kernel), rfl⟩
theorem tw_co_X5_spotOf : Cond.code yX5_spotOf cX5_spotOf 3 (some .int) ∈ lw_g := List.mem_filter.mpr ⟨List.mem_of_getElem? (i := 435) (by decide +kernel), rfl⟩
theorem tw_ml_X10_129 : Cond.methodLink RX10 129 yX5_insert ∈ lw_g := List.mem_filter.mpr ⟨List.mem_of_getElem? (i := 436) (by decide +kernel), rfl⟩
theorem tw_im_X5_insert : Cond.instanceMethod yX5_insert ∈ lw_g := List.mem_filter.mpr ⟨List.mem_of_getElem? (i := 437) (by decide +kernel), rfl⟩
theorem tw_se_X5_insert : Cond.selects RX5 yX5_insert yX5_insert ∈ lw_g := List.mem_filter.mpr ⟨List.mem_of_getElem? (i := 438) (by decide +kernel), rfl⟩
theorem tw_co_X5_insert : Cond.code yX5_insert cX5_insert 4 none ∈ lw_g := List.mem_filter.mpr ⟨List.mem_of_getElem? (i := 439) (by decide +kernel), rfl⟩
theorem tw_ml_L_50 : Cond.methodLink RL 50 yX10_drop ∈ lw_g := List.mem_filter.mpr ⟨List.mem_of_getElem? (i := 440) (by decide +kernel), rfl⟩
theorem tw_im_X10_drop : Cond.instanceMethod yX10_drop ∈ lw_g := List.mem_filter.mpr ⟨List.mem_of_getElem? (i := 441) (by decide +kernel), rfl⟩
theorem tw_se_X10_drop : Cond.selects RX10 yX10_drop yX10_drop ∈ lw_g := List.mem_filter.mpr ⟨List.mem_of_getElem? (i := 442) (by decide +kernel), rfl⟩
theorem tw_co_X10_drop : Cond.code yX10_drop cX10_drop 2 (some .boolean) ∈ lw_g := List.mem_filter.mpr ⟨List.mem_of_getElem? (i := 443) (by decide +kernel), rfl⟩
theorem tw_ml_X10_132 : Cond.methodLink RX10 132 yX5_remove ∈ lw_g := List.mem_filter.mpr ⟨List.mem_of_getElem? (i := 444) (by decide +kernel), rfl⟩
theorem tw_im_X5_remove : Cond.instanceMethod yX5_remove ∈ lw_g := List.mem_filter.mpr ⟨List.mem_of_getElem? (i := 445) (by decide +kernel), rfl⟩
theorem tw_se_X5_remove : Cond.selects RX5 yX5_remove yX5_remove ∈ lw_g := List.mem_filter.mpr ⟨List.mem_of_getElem? (i := 446) (by decide +kernel), rfl⟩
theorem tw_co_X5_remove : Cond.code yX5_remove cX5_remove 3 none ∈ lw_g := List.mem_filter.mpr ⟨List.mem_of_getElem? (i := 447) (by decide +kernel), rfl⟩
theorem tw_ml_L_54 : Cond.methodLink RL 54 yX10_has ∈ lw_g := List.mem_filter.mpr ⟨List.mem_of_getElem? (i := 448) (by decide +kernel), rfl⟩
theorem tw_im_X10_has : Cond.instanceMethod yX10_has ∈ lw_g := List.mem_filter.mpr ⟨List.mem_of_getElem? (i := 449) (by decide +kernel), rfl⟩
theorem tw_se_X10_has : Cond.selects RX10 yX10_has yX10_has ∈ lw_g := List.mem_filter.mpr ⟨List.mem_of_getElem? (i := 450) (by decide +kernel), rfl⟩
theorem tw_co_X10_has : Cond.code yX10_has cX10_has 2 (some .int) ∈ lw_g := List.mem_filter.mpr ⟨List.mem_of_getElem? (i := 451) (by decide +kernel), rfl⟩
theorem tw_ml_L_58 : Cond.methodLink RL 58 yX10_nearest ∈ lw_g := List.mem_filter.mpr ⟨List.mem_of_getElem? (i := 452) (by decide +kernel), rfl⟩
theorem tw_im_X10_nearest : Cond.instanceMethod yX10_nearest ∈ lw_g := List.mem_filter.mpr ⟨List.mem_of_getElem? (i := 453) (by decide +kernel), rfl⟩
theorem tw_se_X10_nearest : Cond.selects RX10 yX10_nearest yX10_nearest ∈ lw_g := List.mem_filter.mpr ⟨List.mem_of_getElem? (i := 454) (by decide +kernel), rfl⟩
theorem tw_co_X10_nearest : Cond.code yX10_nearest cX10_nearest 3 (some .int) ∈ lw_g := List.mem_filter.mpr ⟨List.mem_of_getElem? (i := 455) (by decide +kernel), rfl⟩
theorem tw_ml_X10_135 : Cond.methodLink RX10 135 yX10_isHowMany ∈ lw_g := List.mem_filter.mpr ⟨List.mem_of_getElem? (i := 456) (by decide +kernel), rfl⟩
theorem tw_sm_X10_isHowMany : Cond.static yX10_isHowMany ∈ lw_g := List.mem_filter.mpr ⟨List.mem_of_getElem? (i := 457) (by decide +kernel), rfl⟩
theorem tw_co_X10_isHowMany : Cond.code yX10_isHowMany cX10_isHowMany 1 (some .boolean) ∈ lw_g := List.mem_filter.mpr ⟨List.mem_of_getElem? (i := 458) (by decide +kernel), rfl⟩
theorem tw_ml_X10_138 : Cond.methodLink RX10 138 yX10_rankNearFirst ∈ lw_g := List.mem_filter.mpr ⟨List.mem_of_getElem? (i := 459) (by decide +kernel), rfl⟩
theorem tw_im_X10_rankNearFirst : Cond.instanceMethod yX10_rankNearFirst ∈ lw_g := List.mem_filter.mpr ⟨List.mem_of_getElem? (i := 461) (by decide +kernel), rfl⟩
theorem tw_co_X10_rankNearFirst : Cond.code yX10_rankNearFirst cX10_rankNearFirst 6 none ∈ lw_g := List.mem_filter.mpr ⟨List.mem_of_getElem? (i := 462) (by decide +kernel), rfl⟩
theorem tw_ml_X10_230 : Cond.methodLink RX10 230 yX4_clear ∈ lw_g := List.mem_filter.mpr ⟨List.mem_of_getElem? (i := 463) (by decide +kernel), rfl⟩
theorem tw_im_X4_clear : Cond.instanceMethod yX4_clear ∈ lw_g := List.mem_filter.mpr ⟨List.mem_of_getElem? (i := 464) (by decide +kernel), rfl⟩
theorem tw_se_X4_clear : Cond.selects RX4 yX4_clear yX4_clear ∈ lw_g := List.mem_filter.mpr ⟨List.mem_of_getElem? (i := 465) (by decide +kernel), rfl⟩
theorem tw_co_X4_clear : Cond.code yX4_clear cX4_clear 1 none ∈ lw_g := List.mem_filter.mpr ⟨List.mem_of_getElem? (i := 466) (by decide +kernel), rfl⟩
theorem tw_ml_X10_154 : Cond.methodLink RX10 154 yX5_size ∈ lw_g := List.mem_filter.mpr ⟨List.mem_of_getElem? (i := 467) (by decide +kernel), rfl⟩
theorem tw_im_X5_size : Cond.instanceMethod yX5_size ∈ lw_g := List.mem_filter.mpr ⟨List.mem_of_getElem? (i := 468) (by decide +kernel), rfl⟩
theorem tw_se_X5_size : Cond.selects RX5 yX5_size yX5_size ∈ lw_g := List.mem_filter.mpr ⟨List.mem_of_getElem? (i := 469) (by decide +kernel), rfl⟩
theorem tw_co_X5_size : Cond.code yX5_size cX5_size 1 (some .int) ∈ lw_g := List.mem_filter.mpr ⟨List.mem_of_getElem? (i := 470) (by decide +kernel), rfl⟩
theorem tw_ml_X10_200 : Cond.methodLink RX10 200 yX5_at ∈ lw_g := List.mem_filter.mpr ⟨List.mem_of_getElem? (i := 471) (by decide +kernel), rfl⟩
theorem tw_im_X5_at : Cond.instanceMethod yX5_at ∈ lw_g := List.mem_filter.mpr ⟨List.mem_of_getElem? (i := 472) (by decide +kernel), rfl⟩
theorem tw_se_X5_at : Cond.selects RX5 yX5_at yX5_at ∈ lw_g := List.mem_filter.mpr ⟨List.mem_of_getElem? (i := 473) (by decide +kernel), rfl⟩
theorem tw_co_X5_at : Cond.code yX5_at cX5_at 2 (some .int) ∈ lw_g := List.mem_filter.mpr ⟨List.mem_of_getElem? (i := 474) (by decide +kernel), rfl⟩
theorem tw_ml_X10_231 : Cond.methodLink RX10 231 yX4_insert ∈ lw_g := List.mem_filter.mpr ⟨List.mem_of_getElem? (i := 475) (by decide +kernel), rfl⟩
theorem tw_im_X4_insert : Cond.instanceMethod yX4_insert ∈ lw_g := List.mem_filter.mpr ⟨List.mem_of_getElem? (i := 476) (by decide +kernel), rfl⟩
theorem tw_se_X4_insert : Cond.selects RX4 yX4_insert yX4_insert ∈ lw_g := List.mem_filter.mpr ⟨List.mem_of_getElem? (i := 477) (by decide +kernel), rfl⟩
theorem tw_co_X4_insert : Cond.code yX4_insert cX4_insert 3 none ∈ lw_g := List.mem_filter.mpr ⟨List.mem_of_getElem? (i := 478) (by decide +kernel), rfl⟩
theorem tw_ml_X10_141 : Cond.methodLink RX10 141 yX10_takeRanked ∈ lw_g := List.mem_filter.mpr ⟨List.mem_of_getElem? (i := 479) (by decide +kernel), rfl⟩
theorem tw_im_X10_takeRanked : Cond.instanceMethod yX10_takeRanked ∈ lw_g := List.mem_filter.mpr ⟨List.mem_of_getElem? (i := 481) (by decide +kernel), rfl⟩
theorem tw_co_X10_takeRanked : Cond.code yX10_takeRanked cX10_takeRanked 6 (some .int) ∈ lw_g := List.mem_filter.mpr ⟨List.mem_of_getElem? (i := 482) (by decide +kernel), rfl⟩
theorem tw_ml_X10_180 : Cond.methodLink RX10 180 yX4_size ∈ lw_g := List.mem_filter.mpr ⟨List.mem_of_getElem? (i := 483) (by decide +kernel), rfl⟩
theorem tw_im_X4_size : Cond.instanceMethod yX4_size ∈ lw_g := List.mem_filter.mpr ⟨List.mem_of_getElem? (i := 484) (by decide +kernel), rfl⟩
theorem tw_se_X4_size : Cond.selects RX4 yX4_size yX4_size ∈ lw_g := List.mem_filter.mpr ⟨List.mem_of_getElem? (i := 485) (by decide +kernel), rfl⟩
theorem tw_co_X4_size : Cond.code yX4_size cX4_size 1 (some .int) ∈ lw_g := List.mem_filter.mpr ⟨List.mem_of_getElem? (i := 486) (by decide +kernel), rfl⟩
theorem tw_ml_X10_164 : Cond.methodLink RX10 164 Lib.Math.min.name ∈ lw_g := List.mem_filter.mpr ⟨List.mem_of_getElem? (i := 487) (by decide +kernel), rfl⟩
theorem tw_ml_X10_197 : Cond.methodLink RX10 197 yX7_clear ∈ lw_g := List.mem_filter.mpr ⟨List.mem_of_getElem? (i := 488) (by decide +kernel), rfl⟩
theorem tw_im_X7_clear : Cond.instanceMethod yX7_clear ∈ lw_g := List.mem_filter.mpr ⟨List.mem_of_getElem? (i := 489) (by decide +kernel), rfl⟩
theorem tw_se_X7_clear : Cond.selects RX7 yX7_clear yX7_clear ∈ lw_g := List.mem_filter.mpr ⟨List.mem_of_getElem? (i := 490) (by decide +kernel), rfl⟩
theorem tw_co_X7_clear : Cond.code yX7_clear cX7_clear 1 none ∈ lw_g := List.mem_filter.mpr ⟨List.mem_of_getElem? (i := 491) (by decide +kernel), rfl⟩
theorem tw_ml_X10_185 : Cond.methodLink RX10 185 yX4_at ∈ lw_g := List.mem_filter.mpr ⟨List.mem_of_getElem? (i := 492) (by decide +kernel), rfl⟩
theorem tw_im_X4_at : Cond.instanceMethod yX4_at ∈ lw_g := List.mem_filter.mpr ⟨List.mem_of_getElem? (i := 493) (by decide +kernel), rfl⟩
theorem tw_se_X4_at : Cond.selects RX4 yX4_at yX4_at ∈ lw_g := List.mem_filter.mpr ⟨List.mem_of_getElem? (i := 494) (by decide +kernel), rfl⟩
theorem tw_co_X4_at : Cond.code yX4_at cX4_at 2 (some .int) ∈ lw_g := List.mem_filter.mpr ⟨List.mem_of_getElem? (i := 495) (by decide +kernel), rfl⟩
theorem tw_ml_X10_205 : Cond.methodLink RX10 205 yX7_append ∈ lw_g := List.mem_filter.mpr ⟨List.mem_of_getElem? (i := 496) (by decide +kernel), rfl⟩
theorem tw_im_X7_append : Cond.instanceMethod yX7_append ∈ lw_g := List.mem_filter.mpr ⟨List.mem_of_getElem? (i := 497) (by decide +kernel), rfl⟩
theorem tw_se_X7_append : Cond.selects RX7 yX7_append yX7_append ∈ lw_g := List.mem_filter.mpr ⟨List.mem_of_getElem? (i := 498) (by decide +kernel), rfl⟩
theorem tw_co_X7_append : Cond.code yX7_append cX7_append 3 none ∈ lw_g := List.mem_filter.mpr ⟨List.mem_of_getElem? (i := 499) (by decide +kernel), rfl⟩
theorem tw_ml_L_62 : Cond.methodLink RL 62 yX10_within ∈ lw_g := List.mem_filter.mpr ⟨List.mem_of_getElem? (i := 500) (by decide +kernel), rfl⟩
theorem tw_im_X10_within : Cond.instanceMethod yX10_within ∈ lw_g := List.mem_filter.mpr ⟨List.mem_of_getElem? (i := 501) (by decide +kernel), rfl⟩
theorem tw_se_X10_within : Cond.selects RX10 yX10_within yX10_within ∈ lw_g := List.mem_filter.mpr ⟨List.mem_of_getElem? (i := 502) (by decide +kernel), rfl⟩
theorem tw_co_X10_within : Cond.code yX10_within cX10_within 3 (some .int) ∈ lw_g := List.mem_filter.mpr ⟨List.mem_of_getElem? (i := 503) (by decide +kernel), rfl⟩
theorem tw_ml_L_66 : Cond.methodLink RL 66 yX10_farthest ∈ lw_g := List.mem_filter.mpr ⟨List.mem_of_getElem? (i := 504) (by decide +kernel), rfl⟩
theorem tw_im_X10_farthest : Cond.instanceMethod yX10_farthest ∈ lw_g := List.mem_filter.mpr ⟨List.mem_of_getElem? (i := 505) (by decide +kernel), rfl⟩
theorem tw_se_X10_farthest : Cond.selects RX10 yX10_farthest yX10_farthest ∈ lw_g := List.mem_filter.mpr ⟨List.mem_of_getElem? (i := 506) (by decide +kernel), rfl⟩
theorem tw_co_X10_farthest : Cond.code yX10_farthest cX10_farthest 3 (some .int) ∈ lw_g := List.mem_filter.mpr ⟨List.mem_of_getElem? (i := 507) (by decide +kernel), rfl⟩
theorem tw_ml_X10_144 : Cond.methodLink RX10 144 yX10_rankFarFirst ∈ lw_g := List.mem_filter.mpr ⟨List.mem_of_getElem? (i := 508) (by decide +kernel), rfl⟩
theorem tw_im_X10_rankFarFirst : Cond.instanceMethod yX10_rankFarFirst ∈ lw_g := List.mem_filter.mpr ⟨List.mem_of_getElem? (i := 510) (by decide +kernel), rfl⟩
theorem tw_co_X10_rankFarFirst : Cond.code yX10_rankFarFirst cX10_rankFarFirst 5 none ∈ lw_g := List.mem_filter.mpr ⟨List.mem_of_getElem? (i := 511) (by decide +kernel), rfl⟩
theorem tw_ml_L_70 : Cond.methodLink RL 70 yX10_result ∈ lw_g := List.mem_filter.mpr ⟨List.mem_of_getElem? (i := 512) (by decide +kernel), rfl⟩
theorem tw_im_X10_result : Cond.instanceMethod yX10_result ∈ lw_g := List.mem_filter.mpr ⟨List.mem_of_getElem? (i := 513) (by decide +kernel), rfl⟩
theorem tw_se_X10_result : Cond.selects RX10 yX10_result yX10_result ∈ lw_g := List.mem_filter.mpr ⟨List.mem_of_getElem? (i := 514) (by decide +kernel), rfl⟩
theorem tw_co_X10_result : Cond.code yX10_result cX10_result 3 (some .int) ∈ lw_g := List.mem_filter.mpr ⟨List.mem_of_getElem? (i := 515) (by decide +kernel), rfl⟩
theorem tw_ml_X10_147 : Cond.methodLink RX10 147 yX7_size ∈ lw_g := List.mem_filter.mpr ⟨List.mem_of_getElem? (i := 516) (by decide +kernel), rfl⟩
theorem tw_im_X7_size : Cond.instanceMethod yX7_size ∈ lw_g := List.mem_filter.mpr ⟨List.mem_of_getElem? (i := 517) (by decide +kernel), rfl⟩
theorem tw_se_X7_size : Cond.selects RX7 yX7_size yX7_size ∈ lw_g := List.mem_filter.mpr ⟨List.mem_of_getElem? (i := 518) (by decide +kernel), rfl⟩
theorem tw_co_X7_size : Cond.code yX7_size cX7_size 1 (some .int) ∈ lw_g := List.mem_filter.mpr ⟨List.mem_of_getElem? (i := 519) (by decide +kernel), rfl⟩
theorem tw_ml_X10_148 : Cond.methodLink RX10 148 yX7_thingAt ∈ lw_g := List.mem_filter.mpr ⟨List.mem_of_getElem? (i := 520) (by decide +kernel), rfl⟩
theorem tw_im_X7_thingAt : Cond.instanceMethod yX7_thingAt ∈ lw_g := List.mem_filter.mpr ⟨List.mem_of_getElem? (i := 521) (by decide +kernel), rfl⟩
theorem tw_se_X7_thingAt : Cond.selects RX7 yX7_thingAt yX7_thingAt ∈ lw_g := List.mem_filter.mpr ⟨List.mem_of_getElem? (i := 522) (by decide +kernel), rfl⟩
theorem tw_co_X7_thingAt : Cond.code yX7_thingAt cX7_thingAt 2 (some .int) ∈ lw_g := List.mem_filter.mpr ⟨List.mem_of_getElem? (i := 523) (by decide +kernel), rfl⟩
theorem tw_ml_X10_151 : Cond.methodLink RX10 151 yX7_distanceAt ∈ lw_g := List.mem_filter.mpr ⟨List.mem_of_getElem? (i := 524) (by decide +kernel), rfl⟩
theorem tw_im_X7_distanceAt : Cond.instanceMethod yX7_distanceAt ∈ lw_g := List.mem_filter.mpr ⟨List.mem_of_getElem? (i := 525) (by decide +kernel), rfl⟩
theorem tw_se_X7_distanceAt : Cond.selects RX7 yX7_distanceAt yX7_distanceAt ∈ lw_g := List.mem_filter.mpr ⟨List.mem_of_getElem? (i := 526) (by decide +kernel), rfl⟩
theorem tw_co_X7_distanceAt : Cond.code yX7_distanceAt cX7_distanceAt 2 (some .int) ∈ lw_g := List.mem_filter.mpr ⟨List.mem_of_getElem? (i := 527) (by decide +kernel), rfl⟩
theorem tw_ml_L_74 : Cond.methodLink RL 74 yX10_closest ∈ lw_g := List.mem_filter.mpr ⟨List.mem_of_getElem? (i := 528) (by decide +kernel), rfl⟩
theorem tw_im_X10_closest : Cond.instanceMethod yX10_closest ∈ lw_g := List.mem_filter.mpr ⟨List.mem_of_getElem? (i := 529) (by decide +kernel), rfl⟩
theorem tw_se_X10_closest : Cond.selects RX10 yX10_closest yX10_closest ∈ lw_g := List.mem_filter.mpr ⟨List.mem_of_getElem? (i := 530) (by decide +kernel), rfl⟩
theorem tw_co_X10_closest : Cond.code yX10_closest cX10_closest 2 (some .int) ∈ lw_g := List.mem_filter.mpr ⟨List.mem_of_getElem? (i := 531) (by decide +kernel), rfl⟩
theorem tw_ml_X10_155 : Cond.methodLink RX10 155 yX10_openBook ∈ lw_g := List.mem_filter.mpr ⟨List.mem_of_getElem? (i := 532) (by decide +kernel), rfl⟩
theorem tw_im_X10_openBook : Cond.instanceMethod yX10_openBook ∈ lw_g := List.mem_filter.mpr ⟨List.mem_of_getElem? (i := 534) (by decide +kernel), rfl⟩
theorem tw_co_X10_openBook : Cond.code yX10_openBook cX10_openBook 3 (some .boolean) ∈ lw_g := List.mem_filter.mpr ⟨List.mem_of_getElem? (i := 535) (by decide +kernel), rfl⟩
theorem tw_ml_X10_158 : Cond.methodLink RX10 158 yX10_closestKey ∈ lw_g := List.mem_filter.mpr ⟨List.mem_of_getElem? (i := 536) (by decide +kernel), rfl⟩
theorem tw_im_X10_closestKey : Cond.instanceMethod yX10_closestKey ∈ lw_g := List.mem_filter.mpr ⟨List.mem_of_getElem? (i := 538) (by decide +kernel), rfl⟩
theorem tw_co_X10_closestKey : Cond.code yX10_closestKey cX10_closestKey 4 (some .int) ∈ lw_g := List.mem_filter.mpr ⟨List.mem_of_getElem? (i := 539) (by decide +kernel), rfl⟩
theorem tw_cn_X10_226 : Cond.constant RX10 226 (2147483647) ∈ lw_g := List.mem_filter.mpr ⟨List.mem_of_getElem? (i := 540) (by decide +kernel), rfl⟩
theorem tw_ml_X10_227 : Cond.methodLink RX10 227 yX3_pairKey ∈ lw_g := List.mem_filter.mpr ⟨List.mem_of_getElem? (i := 541) (by decide +kernel), rfl⟩
theorem tw_im_X3_pairKey : Cond.instanceMethod yX3_pairKey ∈ lw_g := List.mem_filter.mpr ⟨List.mem_of_getElem? (i := 542) (by decide +kernel), rfl⟩
theorem tw_se_X3_pairKey : Cond.selects RX3 yX3_pairKey yX3_pairKey ∈ lw_g := List.mem_filter.mpr ⟨List.mem_of_getElem? (i := 543) (by decide +kernel), rfl⟩
theorem tw_co_X3_pairKey : Cond.code yX3_pairKey cX3_pairKey 4 (some .int) ∈ lw_g := List.mem_filter.mpr ⟨List.mem_of_getElem? (i := 544) (by decide +kernel), rfl⟩
theorem tw_ml_X3_53 : Cond.methodLink RX3 53 Lib.Math.min.name ∈ lw_g := List.mem_filter.mpr ⟨List.mem_of_getElem? (i := 545) (by decide +kernel), rfl⟩
theorem tw_ml_X3_58 : Cond.methodLink RX3 58 Lib.Math.max.name ∈ lw_g := List.mem_filter.mpr ⟨List.mem_of_getElem? (i := 546) (by decide +kernel), rfl⟩
theorem tw_ml_X3_61 : Cond.methodLink RX3 61 yX3_at ∈ lw_g := List.mem_filter.mpr ⟨List.mem_of_getElem? (i := 547) (by decide +kernel), rfl⟩
theorem tw_im_X3_at : Cond.instanceMethod yX3_at ∈ lw_g := List.mem_filter.mpr ⟨List.mem_of_getElem? (i := 548) (by decide +kernel), rfl⟩
theorem tw_se_X3_at : Cond.selects RX3 yX3_at yX3_at ∈ lw_g := List.mem_filter.mpr ⟨List.mem_of_getElem? (i := 549) (by decide +kernel), rfl⟩
theorem tw_co_X3_at : Cond.code yX3_at cX3_at 3 (some .int) ∈ lw_g := List.mem_filter.mpr ⟨List.mem_of_getElem? (i := 550) (by decide +kernel), rfl⟩
theorem tw_ml_X10_161 : Cond.methodLink RX10 161 yX10_partOfPair ∈ lw_g := List.mem_filter.mpr ⟨List.mem_of_getElem? (i := 551) (by decide +kernel), rfl⟩
theorem tw_sm_X10_partOfPair : Cond.static yX10_partOfPair ∈ lw_g := List.mem_filter.mpr ⟨List.mem_of_getElem? (i := 552) (by decide +kernel), rfl⟩
theorem tw_co_X10_partOfPair : Cond.code yX10_partOfPair cX10_partOfPair 2 (some .int) ∈ lw_g := List.mem_filter.mpr ⟨List.mem_of_getElem? (i := 553) (by decide +kernel), rfl⟩
theorem tw_ml_L_78 : Cond.methodLink RL 78 yX10_centres ∈ lw_g := List.mem_filter.mpr ⟨List.mem_of_getElem? (i := 554) (by decide +kernel), rfl⟩
theorem tw_im_X10_centres : Cond.instanceMethod yX10_centres ∈ lw_g := List.mem_filter.mpr ⟨List.mem_of_getElem? (i := 555) (by decide +kernel), rfl⟩
theorem tw_se_X10_centres : Cond.selects RX10 yX10_centres yX10_centres ∈ lw_g := List.mem_filter.mpr ⟨List.mem_of_getElem? (i := 556) (by decide +kernel), rfl⟩
theorem tw_co_X10_centres : Cond.code yX10_centres cX10_centres 2 (some .int) ∈ lw_g := List.mem_filter.mpr ⟨List.mem_of_getElem? (i := 557) (by decide +kernel), rfl⟩
theorem tw_ml_X10_169 : Cond.methodLink RX10 169 yX1_take ∈ lw_g := List.mem_filter.mpr ⟨List.mem_of_getElem? (i := 558) (by decide +kernel), rfl⟩
theorem tw_im_X1_take : Cond.instanceMethod yX1_take ∈ lw_g := List.mem_filter.mpr ⟨List.mem_of_getElem? (i := 559) (by decide +kernel), rfl⟩
theorem tw_se_X1_take : Cond.selects RX1 yX1_take yX1_take ∈ lw_g := List.mem_filter.mpr ⟨List.mem_of_getElem? (i := 560) (by decide +kernel), rfl⟩
theorem tw_co_X1_take : Cond.code yX1_take cX1_take 6 (some .int) ∈ lw_g := List.mem_filter.mpr ⟨List.mem_of_getElem? (i := 561) (by decide +kernel), rfl⟩
theorem tw_ml_X1_23 : Cond.methodLink RX1 23 yX7_clear ∈ lw_g := List.mem_filter.mpr ⟨List.mem_of_getElem? (i := 562) (by decide +kernel), rfl⟩
theorem tw_cn_X1_28 : Cond.constant RX1 28 (100000) ∈ lw_g := List.mem_filter.mpr ⟨List.mem_of_getElem? (i := 563) (by decide +kernel), rfl⟩
theorem tw_ml_X1_29 : Cond.methodLink RX1 29 yJ7_fill_53178 ∈ lw_g := List.mem_filter.mpr ⟨List.mem_of_getElem? (i := 564) (by decide +kernel), rfl⟩
theorem tw_ml_X1_35 : Cond.methodLink RX1 35 yX5_at ∈ lw_g := List.mem_filter.mpr ⟨List.mem_of_getElem? (i := 565) (by decide +kernel), rfl⟩
theorem tw_ml_X1_41 : Cond.methodLink RX1 41 yX7_append ∈ lw_g := List.mem_filter.mpr ⟨List.mem_of_getElem? (i := 566) (by decide +kernel), rfl⟩
theorem tw_ml_X1_45 : Cond.methodLink RX1 45 yX1_closeGaps ∈ lw_g := List.mem_filter.mpr ⟨List.mem_of_getElem? (i := 567) (by decide +kernel), rfl⟩
theorem tw_im_X1_closeGaps : Cond.instanceMethod yX1_closeGaps ∈ lw_g := List.mem_filter.mpr ⟨List.mem_of_getElem? (i := 569) (by decide +kernel), rfl⟩
theorem tw_co_X1_closeGaps : Cond.code yX1_closeGaps cX1_closeGaps 3 none ∈ lw_g := List.mem_filter.mpr ⟨List.mem_of_getElem? (i := 570) (by decide +kernel), rfl⟩
theorem tw_ml_X1_59 : Cond.methodLink RX1 59 yX5_size ∈ lw_g := List.mem_filter.mpr ⟨List.mem_of_getElem? (i := 571) (by decide +kernel), rfl⟩
theorem tw_ml_X1_62 : Cond.methodLink RX1 62 yX3_at ∈ lw_g := List.mem_filter.mpr ⟨List.mem_of_getElem? (i := 572) (by decide +kernel), rfl⟩
theorem tw_ml_X1_66 : Cond.methodLink RX1 66 Lib.Math.min.name ∈ lw_g := List.mem_filter.mpr ⟨List.mem_of_getElem? (i := 573) (by decide +kernel), rfl⟩
theorem tw_ml_X1_49 : Cond.methodLink RX1 49 yX1_farthestLoose ∈ lw_g := List.mem_filter.mpr ⟨List.mem_of_getElem? (i := 574) (by decide +kernel), rfl⟩
theorem tw_im_X1_farthestLoose : Cond.instanceMethod yX1_farthestLoose ∈ lw_g := List.mem_filter.mpr ⟨List.mem_of_getElem? (i := 576) (by decide +kernel), rfl⟩
theorem tw_co_X1_farthestLoose : Cond.code yX1_farthestLoose cX1_farthestLoose 3 (some .int) ∈ lw_g := List.mem_filter.mpr ⟨List.mem_of_getElem? (i := 577) (by decide +kernel), rfl⟩
theorem tw_ml_X1_53 : Cond.methodLink RX1 53 Lib.Math.max.name ∈ lw_g := List.mem_filter.mpr ⟨List.mem_of_getElem? (i := 578) (by decide +kernel), rfl⟩
theorem tw_ml_L_82 : Cond.methodLink RL 82 yX10_best ∈ lw_g := List.mem_filter.mpr ⟨List.mem_of_getElem? (i := 579) (by decide +kernel), rfl⟩
theorem tw_im_X10_best : Cond.instanceMethod yX10_best ∈ lw_g := List.mem_filter.mpr ⟨List.mem_of_getElem? (i := 580) (by decide +kernel), rfl⟩
theorem tw_se_X10_best : Cond.selects RX10 yX10_best yX10_best ∈ lw_g := List.mem_filter.mpr ⟨List.mem_of_getElem? (i := 581) (by decide +kernel), rfl⟩
theorem tw_co_X10_best : Cond.code yX10_best cX10_best 2 (some .int) ∈ lw_g := List.mem_filter.mpr ⟨List.mem_of_getElem? (i := 582) (by decide +kernel), rfl⟩
theorem tw_ml_X10_173 : Cond.methodLink RX10 173 yX0_take ∈ lw_g := List.mem_filter.mpr ⟨List.mem_of_getElem? (i := 583) (by decide +kernel), rfl⟩
theorem tw_im_X0_take : Cond.instanceMethod yX0_take ∈ lw_g := List.mem_filter.mpr ⟨List.mem_of_getElem? (i := 584) (by decide +kernel), rfl⟩
theorem tw_se_X0_take : Cond.selects RX0 yX0_take yX0_take ∈ lw_g := List.mem_filter.mpr ⟨List.mem_of_getElem? (i := 585) (by decide +kernel), rfl⟩
theorem tw_co_X0_take : Cond.code yX0_take cX0_take 4 (some .int) ∈ lw_g := List.mem_filter.mpr ⟨List.mem_of_getElem? (i := 586) (by decide +kernel), rfl⟩
theorem tw_cn_X0_36 : Cond.constant RX0 36 (100000) ∈ lw_g := List.mem_filter.mpr ⟨List.mem_of_getElem? (i := 587) (by decide +kernel), rfl⟩
theorem tw_ml_X0_37 : Cond.methodLink RX0 37 yJ7_fill_53178 ∈ lw_g := List.mem_filter.mpr ⟨List.mem_of_getElem? (i := 588) (by decide +kernel), rfl⟩
theorem tw_cn_X0_43 : Cond.constant RX0 43 (100001) ∈ lw_g := List.mem_filter.mpr ⟨List.mem_of_getElem? (i := 589) (by decide +kernel), rfl⟩
theorem tw_ml_X0_44 : Cond.methodLink RX0 44 yX0_tryLast ∈ lw_g := List.mem_filter.mpr ⟨List.mem_of_getElem? (i := 590) (by decide +kernel), rfl⟩
theorem tw_im_X0_tryLast : Cond.instanceMethod yX0_tryLast ∈ lw_g := List.mem_filter.mpr ⟨List.mem_of_getElem? (i := 592) (by decide +kernel), rfl⟩
theorem tw_co_X0_tryLast : Cond.code yX0_tryLast cX0_tryLast 5 none ∈ lw_g := List.mem_filter.mpr ⟨List.mem_of_getElem? (i := 593) (by decide +kernel), rfl⟩
theorem tw_ml_X0_62 : Cond.methodLink RX0 62 yX5_size ∈ lw_g := List.mem_filter.mpr ⟨List.mem_of_getElem? (i := 594) (by decide +kernel), rfl⟩
theorem tw_ml_X0_71 : Cond.methodLink RX0 71 yX5_at ∈ lw_g := List.mem_filter.mpr ⟨List.mem_of_getElem? (i := 595) (by decide +kernel), rfl⟩
theorem tw_ml_X0_75 : Cond.methodLink RX0 75 yX0_reachOf ∈ lw_g := List.mem_filter.mpr ⟨List.mem_of_getElem? (i := 596) (by decide +kernel), rfl⟩
theorem tw_im_X0_reachOf : Cond.instanceMethod yX0_reachOf ∈ lw_g := List.mem_filter.mpr ⟨List.mem_of_getElem? (i := 598) (by decide +kernel), rfl⟩
theorem tw_co_X0_reachOf : Cond.code yX0_reachOf cX0_reachOf 5 (some .int) ∈ lw_g := List.mem_filter.mpr ⟨List.mem_of_getElem? (i := 599) (by decide +kernel), rfl⟩
theorem tw_ml_X0_84 : Cond.methodLink RX0 84 yX0_gapWith ∈ lw_g := List.mem_filter.mpr ⟨List.mem_of_getElem? (i := 600) (by decide +kernel), rfl⟩
theorem tw_im_X0_gapWith : Cond.instanceMethod yX0_gapWith ∈ lw_g := List.mem_filter.mpr ⟨List.mem_of_getElem? (i := 602) (by decide +kernel), rfl⟩
theorem tw_co_X0_gapWith : Cond.code yX0_gapWith cX0_gapWith 5 (some .int) ∈ lw_g := List.mem_filter.mpr ⟨List.mem_of_getElem? (i := 603) (by decide +kernel), rfl⟩
theorem tw_ml_X0_88 : Cond.methodLink RX0 88 yX3_at ∈ lw_g := List.mem_filter.mpr ⟨List.mem_of_getElem? (i := 604) (by decide +kernel), rfl⟩
theorem tw_ml_X0_78 : Cond.methodLink RX0 78 arraycopyName ∈ lw_g := List.mem_filter.mpr ⟨List.mem_of_getElem? (i := 605) (by decide +kernel), rfl⟩
theorem tw_sm_arraycopyName : Cond.static arraycopyName ∈ lw_g := List.mem_filter.mpr ⟨List.mem_of_getElem? (i := 606) (by decide +kernel), rfl⟩
theorem tw_na_arraycopyName : Cond.native arraycopyName ∈ lw_g := List.mem_filter.mpr ⟨List.mem_of_getElem? (i := 607) (by decide +kernel), rfl⟩
theorem tw_ml_X0_48 : Cond.methodLink RX0 48 yX0_tryTwos ∈ lw_g := List.mem_filter.mpr ⟨List.mem_of_getElem? (i := 608) (by decide +kernel), rfl⟩
theorem tw_im_X0_tryTwos : Cond.instanceMethod yX0_tryTwos ∈ lw_g := List.mem_filter.mpr ⟨List.mem_of_getElem? (i := 610) (by decide +kernel), rfl⟩
theorem tw_co_X0_tryTwos : Cond.code yX0_tryTwos cX0_tryTwos 2 none ∈ lw_g := List.mem_filter.mpr ⟨List.mem_of_getElem? (i := 611) (by decide +kernel), rfl⟩
theorem tw_ml_X0_68 : Cond.methodLink RX0 68 yX0_pick ∈ lw_g := List.mem_filter.mpr ⟨List.mem_of_getElem? (i := 612) (by decide +kernel), rfl⟩
theorem tw_im_X0_pick : Cond.instanceMethod yX0_pick ∈ lw_g := List.mem_filter.mpr ⟨List.mem_of_getElem? (i := 614) (by decide +kernel), rfl⟩
theorem tw_co_X0_pick : Cond.code yX0_pick cX0_pick 5 none ∈ lw_g := List.mem_filter.mpr ⟨List.mem_of_getElem? (i := 615) (by decide +kernel), rfl⟩
theorem tw_ml_X0_51 : Cond.methodLink RX0 51 yX0_tryThrees ∈ lw_g := List.mem_filter.mpr ⟨List.mem_of_getElem? (i := 616) (by decide +kernel), rfl⟩
theorem tw_im_X0_tryThrees : Cond.instanceMethod yX0_tryThrees ∈ lw_g := List.mem_filter.mpr ⟨List.mem_of_getElem? (i := 618) (by decide +kernel), rfl⟩
theorem tw_co_X0_tryThrees : Cond.code yX0_tryThrees cX0_tryThrees 3 none ∈ lw_g := List.mem_filter.mpr ⟨List.mem_of_getElem? (i := 619) (by decide +kernel), rfl⟩
theorem tw_ml_X0_54 : Cond.methodLink RX0 54 yX7_clear ∈ lw_g := List.mem_filter.mpr ⟨List.mem_of_getElem? (i := 620) (by decide +kernel), rfl⟩
theorem tw_ml_X0_59 : Cond.methodLink RX0 59 yX7_append ∈ lw_g := List.mem_filter.mpr ⟨List.mem_of_getElem? (i := 621) (by decide +kernel), rfl⟩
theorem tw_ml_L_86 : Cond.methodLink RL 86 yX10_chain ∈ lw_g := List.mem_filter.mpr ⟨List.mem_of_getElem? (i := 622) (by decide +kernel), rfl⟩
theorem tw_im_X10_chain : Cond.instanceMethod yX10_chain ∈ lw_g := List.mem_filter.mpr ⟨List.mem_of_getElem? (i := 623) (by decide +kernel), rfl⟩
theorem tw_se_X10_chain : Cond.selects RX10 yX10_chain yX10_chain ∈ lw_g := List.mem_filter.mpr ⟨List.mem_of_getElem? (i := 624) (by decide +kernel), rfl⟩
theorem tw_co_X10_chain : Cond.code yX10_chain cX10_chain 3 (some .long) ∈ lw_g := List.mem_filter.mpr ⟨List.mem_of_getElem? (i := 625) (by decide +kernel), rfl⟩
theorem tw_ml_X10_176 : Cond.methodLink RX10 176 yX2_hangTogether ∈ lw_g := List.mem_filter.mpr ⟨List.mem_of_getElem? (i := 627) (by decide +kernel), rfl⟩
theorem tw_im_X2_hangTogether : Cond.instanceMethod yX2_hangTogether ∈ lw_g := List.mem_filter.mpr ⟨List.mem_of_getElem? (i := 628) (by decide +kernel), rfl⟩
theorem tw_se_X2_hangTogether : Cond.selects RX2 yX2_hangTogether yX2_hangTogether ∈ lw_g := List.mem_filter.mpr ⟨List.mem_of_getElem? (i := 629) (by decide +kernel), rfl⟩
theorem tw_co_X2_hangTogether : Cond.code yX2_hangTogether cX2_hangTogether 3 (some (.object "NearBook$Keys")) ∈ lw_g := List.mem_filter.mpr ⟨List.mem_of_getElem? (i := 630) (by decide +kernel), rfl⟩
theorem tw_ml_X2_32 : Cond.methodLink RX2 32 yX4_clear ∈ lw_g := List.mem_filter.mpr ⟨List.mem_of_getElem? (i := 631) (by decide +kernel), rfl⟩
theorem tw_cn_X2_35 : Cond.constant RX2 35 (2147483646) ∈ lw_g := List.mem_filter.mpr ⟨List.mem_of_getElem? (i := 632) (by decide +kernel), rfl⟩
theorem tw_ml_X2_36 : Cond.methodLink RX2 36 yJ7_fill_53178 ∈ lw_g := List.mem_filter.mpr ⟨List.mem_of_getElem? (i := 633) (by decide +kernel), rfl⟩
theorem tw_ml_X2_42 : Cond.methodLink RX2 42 yX5_size ∈ lw_g := List.mem_filter.mpr ⟨List.mem_of_getElem? (i := 634) (by decide +kernel), rfl⟩
theorem tw_cn_X2_48 : Cond.constant RX2 48 (2147483647) ∈ lw_g := List.mem_filter.mpr ⟨List.mem_of_getElem? (i := 635) (by decide +kernel), rfl⟩
theorem tw_ml_X2_49 : Cond.methodLink RX2 49 yX2_reachFrom ∈ lw_g := List.mem_filter.mpr ⟨List.mem_of_getElem? (i := 636) (by decide +kernel), rfl⟩
theorem tw_im_X2_reachFrom : Cond.instanceMethod yX2_reachFrom ∈ lw_g := List.mem_filter.mpr ⟨List.mem_of_getElem? (i := 638) (by decide +kernel), rfl⟩
theorem tw_co_X2_reachFrom : Cond.code yX2_reachFrom cX2_reachFrom 4 none ∈ lw_g := List.mem_filter.mpr ⟨List.mem_of_getElem? (i := 639) (by decide +kernel), rfl⟩
theorem tw_ml_X2_59 : Cond.methodLink RX2 59 yX5_at ∈ lw_g := List.mem_filter.mpr ⟨List.mem_of_getElem? (i := 640) (by decide +kernel), rfl⟩
theorem tw_ml_X2_63 : Cond.methodLink RX2 63 yX3_pairKey ∈ lw_g := List.mem_filter.mpr ⟨List.mem_of_getElem? (i := 641) (by decide +kernel), rfl⟩
theorem tw_ml_X2_69 : Cond.methodLink RX2 69 Lib.Math.min.name ∈ lw_g := List.mem_filter.mpr ⟨List.mem_of_getElem? (i := 642) (by decide +kernel), rfl⟩
theorem tw_ml_X2_53 : Cond.methodLink RX2 53 yX2_leastLoose ∈ lw_g := List.mem_filter.mpr ⟨List.mem_of_getElem? (i := 643) (by decide +kernel), rfl⟩
theorem tw_im_X2_leastLoose : Cond.instanceMethod yX2_leastLoose ∈ lw_g := List.mem_filter.mpr ⟨List.mem_of_getElem? (i := 645) (by decide +kernel), rfl⟩
theorem tw_co_X2_leastLoose : Cond.code yX2_leastLoose cX2_leastLoose 3 (some .int) ∈ lw_g := List.mem_filter.mpr ⟨List.mem_of_getElem? (i := 646) (by decide +kernel), rfl⟩
theorem tw_ml_X2_56 : Cond.methodLink RX2 56 yX4_insert ∈ lw_g := List.mem_filter.mpr ⟨List.mem_of_getElem? (i := 647) (by decide +kernel), rfl⟩
theorem tw_ml_X10_181 : Cond.methodLink RX10 181 yX10_sumOfPairs ∈ lw_g := List.mem_filter.mpr ⟨List.mem_of_getElem? (i := 648) (by decide +kernel), rfl⟩
theorem tw_sm_X10_sumOfPairs : Cond.static yX10_sumOfPairs ∈ lw_g := List.mem_filter.mpr ⟨List.mem_of_getElem? (i := 649) (by decide +kernel), rfl⟩
theorem tw_co_X10_sumOfPairs : Cond.code yX10_sumOfPairs cX10_sumOfPairs 4 (some .long) ∈ lw_g := List.mem_filter.mpr ⟨List.mem_of_getElem? (i := 650) (by decide +kernel), rfl⟩
theorem tw_ml_L_91 : Cond.methodLink RL 91 yX10_pair ∈ lw_g := List.mem_filter.mpr ⟨List.mem_of_getElem? (i := 651) (by decide +kernel), rfl⟩
theorem tw_im_X10_pair : Cond.instanceMethod yX10_pair ∈ lw_g := List.mem_filter.mpr ⟨List.mem_of_getElem? (i := 652) (by decide +kernel), rfl⟩
theorem tw_se_X10_pair : Cond.selects RX10 yX10_pair yX10_pair ∈ lw_g := List.mem_filter.mpr ⟨List.mem_of_getElem? (i := 653) (by decide +kernel), rfl⟩
theorem tw_co_X10_pair : Cond.code yX10_pair cX10_pair 4 (some .int) ∈ lw_g := List.mem_filter.mpr ⟨List.mem_of_getElem? (i := 654) (by decide +kernel), rfl⟩
theorem tw_ml_L_95 : Cond.methodLink RL 95 yX10_clusters ∈ lw_g := List.mem_filter.mpr ⟨List.mem_of_getElem? (i := 655) (by decide +kernel), rfl⟩
theorem tw_im_X10_clusters : Cond.instanceMethod yX10_clusters ∈ lw_g := List.mem_filter.mpr ⟨List.mem_of_getElem? (i := 656) (by decide +kernel), rfl⟩
theorem tw_se_X10_clusters : Cond.selects RX10 yX10_clusters yX10_clusters ∈ lw_g := List.mem_filter.mpr ⟨List.mem_of_getElem? (i := 657) (by decide +kernel), rfl⟩
theorem tw_co_X10_clusters : Cond.code yX10_clusters cX10_clusters 2 (some .int) ∈ lw_g := List.mem_filter.mpr ⟨List.mem_of_getElem? (i := 658) (by decide +kernel), rfl⟩
theorem tw_ml_X10_188 : Cond.methodLink RX10 188 yX6_gather ∈ lw_g := List.mem_filter.mpr ⟨List.mem_of_getElem? (i := 659) (by decide +kernel), rfl⟩
theorem tw_im_X6_gather : Cond.instanceMethod yX6_gather ∈ lw_g := List.mem_filter.mpr ⟨List.mem_of_getElem? (i := 660) (by decide +kernel), rfl⟩
theorem tw_se_X6_gather : Cond.selects RX6 yX6_gather yX6_gather ∈ lw_g := List.mem_filter.mpr ⟨List.mem_of_getElem? (i := 661) (by decide +kernel), rfl⟩
theorem tw_co_X6_gather : Cond.code yX6_gather cX6_gather 4 none ∈ lw_g := List.mem_filter.mpr ⟨List.mem_of_getElem? (i := 662) (by decide +kernel), rfl⟩
theorem tw_ml_X6_23 : Cond.methodLink RX6 23 yX5_size ∈ lw_g := List.mem_filter.mpr ⟨List.mem_of_getElem? (i := 663) (by decide +kernel), rfl⟩
theorem tw_ml_X6_29 : Cond.methodLink RX6 29 yX5_at ∈ lw_g := List.mem_filter.mpr ⟨List.mem_of_getElem? (i := 664) (by decide +kernel), rfl⟩
theorem tw_ml_X6_33 : Cond.methodLink RX6 33 yX3_at ∈ lw_g := List.mem_filter.mpr ⟨List.mem_of_getElem? (i := 665) (by decide +kernel), rfl⟩
theorem tw_ml_X6_38 : Cond.methodLink RX6 38 yX6_join ∈ lw_g := List.mem_filter.mpr ⟨List.mem_of_getElem? (i := 666) (by decide +kernel), rfl⟩
theorem tw_im_X6_join : Cond.instanceMethod yX6_join ∈ lw_g := List.mem_filter.mpr ⟨List.mem_of_getElem? (i := 668) (by decide +kernel), rfl⟩
theorem tw_co_X6_join : Cond.code yX6_join cX6_join 6 none ∈ lw_g := List.mem_filter.mpr ⟨List.mem_of_getElem? (i := 669) (by decide +kernel), rfl⟩
theorem tw_ml_X6_42 : Cond.methodLink RX6 42 Lib.Math.min.name ∈ lw_g := List.mem_filter.mpr ⟨List.mem_of_getElem? (i := 670) (by decide +kernel), rfl⟩
theorem tw_ml_X6_47 : Cond.methodLink RX6 47 Lib.Math.max.name ∈ lw_g := List.mem_filter.mpr ⟨List.mem_of_getElem? (i := 671) (by decide +kernel), rfl⟩
theorem tw_ml_X10_191 : Cond.methodLink RX10 191 yX6_howMany ∈ lw_g := List.mem_filter.mpr ⟨List.mem_of_getElem? (i := 672) (by decide +kernel), rfl⟩
theorem tw_im_X6_howMany : Cond.instanceMethod yX6_howMany ∈ lw_g := List.mem_filter.mpr ⟨List.mem_of_getElem? (i := 673) (by decide +kernel), rfl⟩
theorem tw_se_X6_howMany : Cond.selects RX6 yX6_howMany yX6_howMany ∈ lw_g := List.mem_filter.mpr ⟨List.mem_of_getElem? (i := 674) (by decide +kernel), rfl⟩
theorem tw_co_X6_howMany : Cond.code yX6_howMany cX6_howMany 3 (some .int) ∈ lw_g := List.mem_filter.mpr ⟨List.mem_of_getElem? (i := 675) (by decide +kernel), rfl⟩
theorem tw_ml_L_99 : Cond.methodLink RL 99 yX10_cluster ∈ lw_g := List.mem_filter.mpr ⟨List.mem_of_getElem? (i := 676) (by decide +kernel), rfl⟩
theorem tw_im_X10_cluster : Cond.instanceMethod yX10_cluster ∈ lw_g := List.mem_filter.mpr ⟨List.mem_of_getElem? (i := 677) (by decide +kernel), rfl⟩
theorem tw_se_X10_cluster : Cond.selects RX10 yX10_cluster yX10_cluster ∈ lw_g := List.mem_filter.mpr ⟨List.mem_of_getElem? (i := 678) (by decide +kernel), rfl⟩
theorem tw_co_X10_cluster : Cond.code yX10_cluster cX10_cluster 3 (some .int) ∈ lw_g := List.mem_filter.mpr ⟨List.mem_of_getElem? (i := 679) (by decide +kernel), rfl⟩
theorem tw_ml_X10_194 : Cond.methodLink RX10 194 yX6_lowestWith ∈ lw_g := List.mem_filter.mpr ⟨List.mem_of_getElem? (i := 680) (by decide +kernel), rfl⟩
theorem tw_im_X6_lowestWith : Cond.instanceMethod yX6_lowestWith ∈ lw_g := List.mem_filter.mpr ⟨List.mem_of_getElem? (i := 681) (by decide +kernel), rfl⟩
theorem tw_se_X6_lowestWith : Cond.selects RX6 yX6_lowestWith yX6_lowestWith ∈ lw_g := List.mem_filter.mpr ⟨List.mem_of_getElem? (i := 682) (by decide +kernel), rfl⟩
theorem tw_co_X6_lowestWith : Cond.code yX6_lowestWith cX6_lowestWith 2 (some .int) ∈ lw_g := List.mem_filter.mpr ⟨List.mem_of_getElem? (i := 683) (by decide +kernel), rfl⟩
theorem tw_ml_L_103 : Cond.methodLink RL 103 yX10_net ∈ lw_g := List.mem_filter.mpr ⟨List.mem_of_getElem? (i := 684) (by decide +kernel), rfl⟩
theorem tw_im_X10_net : Cond.instanceMethod yX10_net ∈ lw_g := List.mem_filter.mpr ⟨List.mem_of_getElem? (i := 685) (by decide +kernel), rfl⟩
theorem tw_se_X10_net : Cond.selects RX10 yX10_net yX10_net ∈ lw_g := List.mem_filter.mpr ⟨List.mem_of_getElem? (i := 686) (by decide +kernel), rfl⟩
theorem tw_co_X10_net : Cond.code yX10_net cX10_net 4 (some .int) ∈ lw_g := List.mem_filter.mpr ⟨List.mem_of_getElem? (i := 687) (by decide +kernel), rfl⟩
theorem tw_ml_X10_201 : Cond.methodLink RX10 201 yX10_isBeyondResults ∈ lw_g := List.mem_filter.mpr ⟨List.mem_of_getElem? (i := 688) (by decide +kernel), rfl⟩
theorem tw_im_X10_isBeyondResults : Cond.instanceMethod yX10_isBeyondResults ∈ lw_g := List.mem_filter.mpr ⟨List.mem_of_getElem? (i := 690) (by decide +kernel), rfl⟩
theorem tw_co_X10_isBeyondResults : Cond.code yX10_isBeyondResults cX10_isBeyondResults 4 (some .boolean) ∈ lw_g := List.mem_filter.mpr ⟨List.mem_of_getElem? (i := 691) (by decide +kernel), rfl⟩
theorem tw_ml_X10_219 : Cond.methodLink RX10 219 yX3_at ∈ lw_g := List.mem_filter.mpr ⟨List.mem_of_getElem? (i := 692) (by decide +kernel), rfl⟩
theorem tw_ml_L_107 : Cond.methodLink RL 107 yX10_middle ∈ lw_g := List.mem_filter.mpr ⟨List.mem_of_getElem? (i := 693) (by decide +kernel), rfl⟩
theorem tw_im_X10_middle : Cond.instanceMethod yX10_middle ∈ lw_g := List.mem_filter.mpr ⟨List.mem_of_getElem? (i := 694) (by decide +kernel), rfl⟩
theorem tw_se_X10_middle : Cond.selects RX10 yX10_middle yX10_middle ∈ lw_g := List.mem_filter.mpr ⟨List.mem_of_getElem? (i := 695) (by decide +kernel), rfl⟩
theorem tw_co_X10_middle : Cond.code yX10_middle cX10_middle 6 (some .long) ∈ lw_g := List.mem_filter.mpr ⟨List.mem_of_getElem? (i := 696) (by decide +kernel), rfl⟩
theorem tw_ml_X10_207 : Cond.methodLink RX10 207 yX10_sumFrom ∈ lw_g := List.mem_filter.mpr ⟨List.mem_of_getElem? (i := 697) (by decide +kernel), rfl⟩
theorem tw_im_X10_sumFrom : Cond.instanceMethod yX10_sumFrom ∈ lw_g := List.mem_filter.mpr ⟨List.mem_of_getElem? (i := 699) (by decide +kernel), rfl⟩
theorem tw_co_X10_sumFrom : Cond.code yX10_sumFrom cX10_sumFrom 4 (some .int) ∈ lw_g := List.mem_filter.mpr ⟨List.mem_of_getElem? (i := 700) (by decide +kernel), rfl⟩
theorem tw_ml_L_111 : Cond.methodLink RL 111 yX10_count ∈ lw_g := List.mem_filter.mpr ⟨List.mem_of_getElem? (i := 701) (by decide +kernel), rfl⟩
theorem tw_im_X10_count : Cond.instanceMethod yX10_count ∈ lw_g := List.mem_filter.mpr ⟨List.mem_of_getElem? (i := 702) (by decide +kernel), rfl⟩
theorem tw_se_X10_count : Cond.selects RX10 yX10_count yX10_count ∈ lw_g := List.mem_filter.mpr ⟨List.mem_of_getElem? (i := 703) (by decide +kernel), rfl⟩
theorem tw_co_X10_count : Cond.code yX10_count cX10_count 2 (some .int) ∈ lw_g := List.mem_filter.mpr ⟨List.mem_of_getElem? (i := 704) (by decide +kernel), rfl⟩
theorem tw_ml_X10_210 : Cond.methodLink RX10 210 yX3_kindAtHand ∈ lw_g := List.mem_filter.mpr ⟨List.mem_of_getElem? (i := 705) (by decide +kernel), rfl⟩
theorem tw_im_X3_kindAtHand : Cond.instanceMethod yX3_kindAtHand ∈ lw_g := List.mem_filter.mpr ⟨List.mem_of_getElem? (i := 706) (by decide +kernel), rfl⟩
theorem tw_se_X3_kindAtHand : Cond.selects RX3 yX3_kindAtHand yX3_kindAtHand ∈ lw_g := List.mem_filter.mpr ⟨List.mem_of_getElem? (i := 707) (by decide +kernel), rfl⟩
theorem tw_co_X3_kindAtHand : Cond.code yX3_kindAtHand cX3_kindAtHand 1 (some .int) ∈ lw_g := List.mem_filter.mpr ⟨List.mem_of_getElem? (i := 708) (by decide +kernel), rfl⟩
theorem tw_ml_X10_213 : Cond.methodLink RX10 213 yX10_greatestInBook ∈ lw_g := List.mem_filter.mpr ⟨List.mem_of_getElem? (i := 709) (by decide +kernel), rfl⟩
theorem tw_im_X10_greatestInBook : Cond.instanceMethod yX10_greatestInBook ∈ lw_g := List.mem_filter.mpr ⟨List.mem_of_getElem? (i := 711) (by decide +kernel), rfl⟩
theorem tw_co_X10_greatestInBook : Cond.code yX10_greatestInBook cX10_greatestInBook 4 (some .int) ∈ lw_g := List.mem_filter.mpr ⟨List.mem_of_getElem? (i := 712) (by decide +kernel), rfl⟩
theorem tw_ml_X10_221 : Cond.methodLink RX10 221 Lib.Math.max.name ∈ lw_g := List.mem_filter.mpr ⟨List.mem_of_getElem? (i := 713) (by decide +kernel), rfl⟩
theorem tw_ml_X10_216 : Cond.methodLink RX10 216 yX10_lengthAsked ∈ lw_g := List.mem_filter.mpr ⟨List.mem_of_getElem? (i := 714) (by decide +kernel), rfl⟩
theorem tw_im_X10_lengthAsked : Cond.instanceMethod yX10_lengthAsked ∈ lw_g := List.mem_filter.mpr ⟨List.mem_of_getElem? (i := 716) (by decide +kernel), rfl⟩
theorem tw_co_X10_lengthAsked : Cond.code yX10_lengthAsked cX10_lengthAsked 2 (some .int) ∈ lw_g := List.mem_filter.mpr ⟨List.mem_of_getElem? (i := 717) (by decide +kernel), rfl⟩
theorem tw_cl_L_10 : Cond.classLink RL 10 RX11 ∈ lw_g := List.mem_filter.mpr ⟨List.mem_of_getElem? (i := 718) (by decide +kernel), rfl⟩
theorem tw_ib_X11 : Cond.instantiable RX11 17 ∈ lw_g := List.mem_filter.mpr ⟨List.mem_of_getElem? (i := 719) (by decide +kernel), rfl⟩
theorem tw_ml_L_12 : Cond.methodLink RL 12 yX11_init ∈ lw_g := List.mem_filter.mpr ⟨List.mem_of_getElem? (i := 720) (by decide +kernel), rfl⟩
theorem tw_im_X11_init : Cond.instanceMethod yX11_init ∈ lw_g := List.mem_filter.mpr ⟨List.mem_of_getElem? (i := 721) (by decide +kernel), rfl⟩
theorem tw_co_X11_init : Cond.code yX11_init cX11_init 1 none ∈ lw_g := List.mem_filter.mpr ⟨List.mem_of_getElem? (i := 722) (by decide +kernel), rfl⟩
theorem tw_ml_X11_1 : Cond.methodLink RX11 1 objectInit ∈ lw_g := List.mem_filter.mpr ⟨List.mem_of_getElem? (i := 723) (by decide +kernel), rfl⟩
theorem tw_fl_X11_50 : Cond.fieldLink RX11 50 "NearBookModel" "things" "I" ∈ lw_g := List.mem_filter.mpr ⟨List.mem_of_getElem? (i := 724) (by decide +kernel), rfl⟩
theorem tw_fl_X11_63 : Cond.fieldLink RX11 63 "NearBookModel" "kind" "I" ∈ lw_g := List.mem_filter.mpr ⟨List.mem_of_getElem? (i := 725) (by decide +kernel), rfl⟩
theorem tw_fl_X11_7 : Cond.fieldLink RX11 7 "NearBookModel" "long8" "[I" ∈ lw_g := List.mem_filter.mpr ⟨List.mem_of_getElem? (i := 726) (by decide +kernel), rfl⟩
theorem tw_fl_X11_13 : Cond.fieldLink RX11 13 "NearBookModel" "value" "[I" ∈ lw_g := List.mem_filter.mpr ⟨List.mem_of_getElem? (i := 727) (by decide +kernel), rfl⟩
theorem tw_fl_X11_16 : Cond.fieldLink RX11 16 "NearBookModel" "told" "[I" ∈ lw_g := List.mem_filter.mpr ⟨List.mem_of_getElem? (i := 728) (by decide +kernel), rfl⟩
theorem tw_fl_X11_19 : Cond.fieldLink RX11 19 "NearBookModel" "isIn" "[Z" ∈ lw_g := List.mem_filter.mpr ⟨List.mem_of_getElem? (i := 729) (by decide +kernel), rfl⟩
theorem tw_fl_X11_93 : Cond.fieldLink RX11 93 "NearBookModel" "results" "I" ∈ lw_g := List.mem_filter.mpr ⟨List.mem_of_getElem? (i := 730) (by decide +kernel), rfl⟩
theorem tw_fl_X11_23 : Cond.fieldLink RX11 23 "NearBookModel" "result" "[I" ∈ lw_g := List.mem_filter.mpr ⟨List.mem_of_getElem? (i := 731) (by decide +kernel), rfl⟩
theorem tw_fl_X11_26 : Cond.fieldLink RX11 26 "NearBookModel" "away" "[I" ∈ lw_g := List.mem_filter.mpr ⟨List.mem_of_getElem? (i := 732) (by decide +kernel), rfl⟩
theorem tw_fl_X11_29 : Cond.fieldLink RX11 29 "NearBookModel" "cost" "[I" ∈ lw_g := List.mem_filter.mpr ⟨List.mem_of_getElem? (i := 733) (by decide +kernel), rfl⟩
theorem tw_fl_X11_32 : Cond.fieldLink RX11 32 "NearBookModel" "breaks" "[I" ∈ lw_g := List.mem_filter.mpr ⟨List.mem_of_getElem? (i := 734) (by decide +kernel), rfl⟩
theorem tw_fl_X11_35 : Cond.fieldLink RX11 35 "NearBookModel" "isTaken" "[Z" ∈ lw_g := List.mem_filter.mpr ⟨List.mem_of_getElem? (i := 735) (by decide +kernel), rfl⟩
theorem tw_fl_X11_38 : Cond.fieldLink RX11 38 "NearBookModel" "all" "[I" ∈ lw_g := List.mem_filter.mpr ⟨List.mem_of_getElem? (i := 736) (by decide +kernel), rfl⟩
theorem tw_fl_X11_41 : Cond.fieldLink RX11 41 "NearBookModel" "piece" "[I" ∈ lw_g := List.mem_filter.mpr ⟨List.mem_of_getElem? (i := 737) (by decide +kernel), rfl⟩
theorem tw_fl_X11_129 : Cond.fieldLink RX11 129 "NearBookModel" "pairs" "I" ∈ lw_g := List.mem_filter.mpr ⟨List.mem_of_getElem? (i := 738) (by decide +kernel), rfl⟩
theorem tw_fl_X11_44 : Cond.fieldLink RX11 44 "NearBookModel" "pairLow" "[I" ∈ lw_g := List.mem_filter.mpr ⟨List.mem_of_getElem? (i := 739) (by decide +kernel), rfl⟩
theorem tw_fl_X11_47 : Cond.fieldLink RX11 47 "NearBookModel" "pairHigh" "[I" ∈ lw_g := List.mem_filter.mpr ⟨List.mem_of_getElem? (i := 740) (by decide +kernel), rfl⟩
theorem tw_ac_boolean : Cond.arrayClass .boolean ∈ lw_g := List.mem_filter.mpr ⟨List.mem_of_getElem? (i := 776) (by decide +kernel), rfl⟩
theorem tw_ml_L_17 : Cond.methodLink RL 17 yX11_thing ∈ lw_g := List.mem_filter.mpr ⟨List.mem_of_getElem? (i := 777) (by decide +kernel), rfl⟩
theorem tw_im_X11_thing : Cond.instanceMethod yX11_thing ∈ lw_g := List.mem_filter.mpr ⟨List.mem_of_getElem? (i := 778) (by decide +kernel), rfl⟩
theorem tw_se_X11_thing : Cond.selects RX11 yX11_thing yX11_thing ∈ lw_g := List.mem_filter.mpr ⟨List.mem_of_getElem? (i := 779) (by decide +kernel), rfl⟩
theorem tw_co_X11_thing : Cond.code yX11_thing cX11_thing 2 (some .int) ∈ lw_g := List.mem_filter.mpr ⟨List.mem_of_getElem? (i := 780) (by decide +kernel), rfl⟩
theorem tw_ml_X11_54 : Cond.methodLink RX11 54 yX11_lies ∈ lw_g := List.mem_filter.mpr ⟨List.mem_of_getElem? (i := 781) (by decide +kernel), rfl⟩
theorem tw_sm_X11_lies : Cond.static yX11_lies ∈ lw_g := List.mem_filter.mpr ⟨List.mem_of_getElem? (i := 782) (by decide +kernel), rfl⟩
theorem tw_co_X11_lies : Cond.code yX11_lies cX11_lies 3 (some .boolean) ∈ lw_g := List.mem_filter.mpr ⟨List.mem_of_getElem? (i := 783) (by decide +kernel), rfl⟩
theorem tw_ml_L_22 : Cond.methodLink RL 22 yX11_value ∈ lw_g := List.mem_filter.mpr ⟨List.mem_of_getElem? (i := 784) (by decide +kernel), rfl⟩
theorem tw_im_X11_value : Cond.instanceMethod yX11_value ∈ lw_g := List.mem_filter.mpr ⟨List.mem_of_getElem? (i := 785) (by decide +kernel), rfl⟩
theorem tw_se_X11_value : Cond.selects RX11 yX11_value yX11_value ∈ lw_g := List.mem_filter.mpr ⟨List.mem_of_getElem? (i := 786) (by decide +kernel), rfl⟩
theorem tw_co_X11_value : Cond.code yX11_value cX11_value 4 (some .boolean) ∈ lw_g := List.mem_filter.mpr ⟨List.mem_of_getElem? (i := 787) (by decide +kernel), rfl⟩
theorem tw_ml_X11_58 : Cond.methodLink RX11 58 yX11_isThing ∈ lw_g := List.mem_filter.mpr ⟨List.mem_of_getElem? (i := 788) (by decide +kernel), rfl⟩
theorem tw_im_X11_isThing : Cond.instanceMethod yX11_isThing ∈ lw_g := List.mem_filter.mpr ⟨List.mem_of_getElem? (i := 790) (by decide +kernel), rfl⟩
theorem tw_co_X11_isThing : Cond.code yX11_isThing cX11_isThing 2 (some .boolean) ∈ lw_g := List.mem_filter.mpr ⟨List.mem_of_getElem? (i := 791) (by decide +kernel), rfl⟩
theorem tw_ml_L_26 : Cond.methodLink RL 26 yX11_tell ∈ lw_g := List.mem_filter.mpr ⟨List.mem_of_getElem? (i := 792) (by decide +kernel), rfl⟩
theorem tw_im_X11_tell : Cond.instanceMethod yX11_tell ∈ lw_g := List.mem_filter.mpr ⟨List.mem_of_getElem? (i := 793) (by decide +kernel), rfl⟩
theorem tw_se_X11_tell : Cond.selects RX11 yX11_tell yX11_tell ∈ lw_g := List.mem_filter.mpr ⟨List.mem_of_getElem? (i := 794) (by decide +kernel), rfl⟩
theorem tw_co_X11_tell : Cond.code yX11_tell cX11_tell 4 (some .boolean) ∈ lw_g := List.mem_filter.mpr ⟨List.mem_of_getElem? (i := 795) (by decide +kernel), rfl⟩
theorem tw_cn_X11_62 : Cond.constant RX11 62 (100000) ∈ lw_g := List.mem_filter.mpr ⟨List.mem_of_getElem? (i := 796) (by decide +kernel), rfl⟩
theorem tw_ml_L_31 : Cond.methodLink RL 31 yX11_kind ∈ lw_g := List.mem_filter.mpr ⟨List.mem_of_getElem? (i := 797) (by decide +kernel), rfl⟩
theorem tw_im_X11_kind : Cond.instanceMethod yX11_kind ∈ lw_g := List.mem_filter.mpr ⟨List.mem_of_getElem? (i := 798) (by decide +kernel), rfl⟩
theorem tw_se_X11_kind : Cond.selects RX11 yX11_kind yX11_kind ∈ lw_g := List.mem_filter.mpr ⟨List.mem_of_getElem? (i := 799) (by decide +kernel), rfl⟩
theorem tw_co_X11_kind : Cond.code yX11_kind cX11_kind 2 (some .boolean) ∈ lw_g := List.mem_filter.mpr ⟨List.mem_of_getElem? (i := 800) (by decide +kernel), rfl⟩
theorem tw_ml_L_36 : Cond.methodLink RL 36 yX11_distance ∈ lw_g := List.mem_filter.mpr ⟨List.mem_of_getElem? (i := 801) (by decide +kernel), rfl⟩
theorem tw_im_X11_distance : Cond.instanceMethod yX11_distance ∈ lw_g := List.mem_filter.mpr ⟨List.mem_of_getElem? (i := 802) (by decide +kernel), rfl⟩
theorem tw_se_X11_distance : Cond.selects RX11 yX11_distance yX11_distance ∈ lw_g := List.mem_filter.mpr ⟨List.mem_of_getElem? (i := 803) (by decide +kernel), rfl⟩
theorem tw_co_X11_distance : Cond.code yX11_distance cX11_distance 3 (some .int) ∈ lw_g := List.mem_filter.mpr ⟨List.mem_of_getElem? (i := 804) (by decide +kernel), rfl⟩
theorem tw_ml_X11_86 : Cond.methodLink RX11 86 yX11_far ∈ lw_g := List.mem_filter.mpr ⟨List.mem_of_getElem? (i := 805) (by decide +kernel), rfl⟩
theorem tw_im_X11_far : Cond.instanceMethod yX11_far ∈ lw_g := List.mem_filter.mpr ⟨List.mem_of_getElem? (i := 807) (by decide +kernel), rfl⟩
theorem tw_co_X11_far : Cond.code yX11_far cX11_far 7 (some .int) ∈ lw_g := List.mem_filter.mpr ⟨List.mem_of_getElem? (i := 808) (by decide +kernel), rfl⟩
theorem tw_ml_X11_73 : Cond.methodLink RX11 73 yX11_size ∈ lw_g := List.mem_filter.mpr ⟨List.mem_of_getElem? (i := 809) (by decide +kernel), rfl⟩
theorem tw_sm_X11_size : Cond.static yX11_size ∈ lw_g := List.mem_filter.mpr ⟨List.mem_of_getElem? (i := 810) (by decide +kernel), rfl⟩
theorem tw_co_X11_size : Cond.code yX11_size cX11_size 1 (some .int) ∈ lw_g := List.mem_filter.mpr ⟨List.mem_of_getElem? (i := 811) (by decide +kernel), rfl⟩
theorem tw_ml_X11_77 : Cond.methodLink RX11 77 yX11_unlike ∈ lw_g := List.mem_filter.mpr ⟨List.mem_of_getElem? (i := 812) (by decide +kernel), rfl⟩
theorem tw_im_X11_unlike : Cond.instanceMethod yX11_unlike ∈ lw_g := List.mem_filter.mpr ⟨List.mem_of_getElem? (i := 814) (by decide +kernel), rfl⟩
theorem tw_co_X11_unlike : Cond.code yX11_unlike cX11_unlike 5 (some .int) ∈ lw_g := List.mem_filter.mpr ⟨List.mem_of_getElem? (i := 815) (by decide +kernel), rfl⟩
theorem tw_ml_X11_80 : Cond.methodLink RX11 80 yX11_edits ∈ lw_g := List.mem_filter.mpr ⟨List.mem_of_getElem? (i := 816) (by decide +kernel), rfl⟩
theorem tw_im_X11_edits : Cond.instanceMethod yX11_edits ∈ lw_g := List.mem_filter.mpr ⟨List.mem_of_getElem? (i := 818) (by decide +kernel), rfl⟩
theorem tw_co_X11_edits : Cond.code yX11_edits cX11_edits 6 (some .int) ∈ lw_g := List.mem_filter.mpr ⟨List.mem_of_getElem? (i := 819) (by decide +kernel), rfl⟩
theorem tw_ml_X11_66 : Cond.methodLink RX11 66 yX11_least ∈ lw_g := List.mem_filter.mpr ⟨List.mem_of_getElem? (i := 820) (by decide +kernel), rfl⟩
theorem tw_sm_X11_least : Cond.static yX11_least ∈ lw_g := List.mem_filter.mpr ⟨List.mem_of_getElem? (i := 821) (by decide +kernel), rfl⟩
theorem tw_co_X11_least : Cond.code yX11_least cX11_least 2 (some .int) ∈ lw_g := List.mem_filter.mpr ⟨List.mem_of_getElem? (i := 822) (by decide +kernel), rfl⟩
theorem tw_ml_X11_83 : Cond.methodLink RX11 83 yX11_alone ∈ lw_g := List.mem_filter.mpr ⟨List.mem_of_getElem? (i := 823) (by decide +kernel), rfl⟩
theorem tw_im_X11_alone : Cond.instanceMethod yX11_alone ∈ lw_g := List.mem_filter.mpr ⟨List.mem_of_getElem? (i := 825) (by decide +kernel), rfl⟩
theorem tw_co_X11_alone : Cond.code yX11_alone cX11_alone 6 (some .int) ∈ lw_g := List.mem_filter.mpr ⟨List.mem_of_getElem? (i := 826) (by decide +kernel), rfl⟩
theorem tw_ml_X11_70 : Cond.methodLink RX11 70 yX11_has ∈ lw_g := List.mem_filter.mpr ⟨List.mem_of_getElem? (i := 827) (by decide +kernel), rfl⟩
theorem tw_im_X11_has : Cond.instanceMethod yX11_has ∈ lw_g := List.mem_filter.mpr ⟨List.mem_of_getElem? (i := 829) (by decide +kernel), rfl⟩
theorem tw_co_X11_has : Cond.code yX11_has cX11_has 5 (some .boolean) ∈ lw_g := List.mem_filter.mpr ⟨List.mem_of_getElem? (i := 830) (by decide +kernel), rfl⟩
theorem tw_ml_L_41 : Cond.methodLink RL 41 yX11_law ∈ lw_g := List.mem_filter.mpr ⟨List.mem_of_getElem? (i := 831) (by decide +kernel), rfl⟩
theorem tw_im_X11_law : Cond.instanceMethod yX11_law ∈ lw_g := List.mem_filter.mpr ⟨List.mem_of_getElem? (i := 832) (by decide +kernel), rfl⟩
theorem tw_se_X11_law : Cond.selects RX11 yX11_law yX11_law ∈ lw_g := List.mem_filter.mpr ⟨List.mem_of_getElem? (i := 833) (by decide +kernel), rfl⟩
theorem tw_co_X11_law : Cond.code yX11_law cX11_law 1 (some .int) ∈ lw_g := List.mem_filter.mpr ⟨List.mem_of_getElem? (i := 834) (by decide +kernel), rfl⟩
theorem tw_ml_X11_89 : Cond.methodLink RX11 89 yX11_holds ∈ lw_g := List.mem_filter.mpr ⟨List.mem_of_getElem? (i := 835) (by decide +kernel), rfl⟩
theorem tw_im_X11_holds : Cond.instanceMethod yX11_holds ∈ lw_g := List.mem_filter.mpr ⟨List.mem_of_getElem? (i := 837) (by decide +kernel), rfl⟩
theorem tw_co_X11_holds : Cond.code yX11_holds cX11_holds 4 (some .boolean) ∈ lw_g := List.mem_filter.mpr ⟨List.mem_of_getElem? (i := 838) (by decide +kernel), rfl⟩
theorem tw_ml_L_45 : Cond.methodLink RL 45 yX11_three ∈ lw_g := List.mem_filter.mpr ⟨List.mem_of_getElem? (i := 839) (by decide +kernel), rfl⟩
theorem tw_im_X11_three : Cond.instanceMethod yX11_three ∈ lw_g := List.mem_filter.mpr ⟨List.mem_of_getElem? (i := 840) (by decide +kernel), rfl⟩
theorem tw_se_X11_three : Cond.selects RX11 yX11_three yX11_three ∈ lw_g := List.mem_filter.mpr ⟨List.mem_of_getElem? (i := 841) (by decide +kernel), rfl⟩
theorem tw_co_X11_three : Cond.code yX11_three cX11_three 2 (some .int) ∈ lw_g := List.mem_filter.mpr ⟨List.mem_of_getElem? (i := 842) (by decide +kernel), rfl⟩
theorem tw_ml_L_49 : Cond.methodLink RL 49 yX11_put ∈ lw_g := List.mem_filter.mpr ⟨List.mem_of_getElem? (i := 843) (by decide +kernel), rfl⟩
theorem tw_im_X11_put : Cond.instanceMethod yX11_put ∈ lw_g := List.mem_filter.mpr ⟨List.mem_of_getElem? (i := 844) (by decide +kernel), rfl⟩
theorem tw_se_X11_put : Cond.selects RX11 yX11_put yX11_put ∈ lw_g := List.mem_filter.mpr ⟨List.mem_of_getElem? (i := 845) (by decide +kernel), rfl⟩
theorem tw_co_X11_put : Cond.code yX11_put cX11_put 2 (some .boolean) ∈ lw_g := List.mem_filter.mpr ⟨List.mem_of_getElem? (i := 846) (by decide +kernel), rfl⟩
theorem tw_ml_L_53 : Cond.methodLink RL 53 yX11_drop ∈ lw_g := List.mem_filter.mpr ⟨List.mem_of_getElem? (i := 847) (by decide +kernel), rfl⟩
theorem tw_im_X11_drop : Cond.instanceMethod yX11_drop ∈ lw_g := List.mem_filter.mpr ⟨List.mem_of_getElem? (i := 848) (by decide +kernel), rfl⟩
theorem tw_se_X11_drop : Cond.selects RX11 yX11_drop yX11_drop ∈ lw_g := List.mem_filter.mpr ⟨List.mem_of_getElem? (i := 849) (by decide +kernel), rfl⟩
theorem tw_co_X11_drop : Cond.code yX11_drop cX11_drop 2 (some .boolean) ∈ lw_g := List.mem_filter.mpr ⟨List.mem_of_getElem? (i := 850) (by decide +kernel), rfl⟩
theorem tw_ml_L_57 : Cond.methodLink RL 57 yX11_has_ ∈ lw_g := List.mem_filter.mpr ⟨List.mem_of_getElem? (i := 851) (by decide +kernel), rfl⟩
theorem tw_im_X11_has_ : Cond.instanceMethod yX11_has_ ∈ lw_g := List.mem_filter.mpr ⟨List.mem_of_getElem? (i := 852) (by decide +kernel), rfl⟩
theorem tw_se_X11_has_ : Cond.selects RX11 yX11_has_ yX11_has_ ∈ lw_g := List.mem_filter.mpr ⟨List.mem_of_getElem? (i := 853) (by decide +kernel), rfl⟩
theorem tw_co_X11_has_ : Cond.code yX11_has_ cX11_has_ 2 (some .int) ∈ lw_g := List.mem_filter.mpr ⟨List.mem_of_getElem? (i := 854) (by decide +kernel), rfl⟩
theorem tw_ml_L_61 : Cond.methodLink RL 61 yX11_nearest ∈ lw_g := List.mem_filter.mpr ⟨List.mem_of_getElem? (i := 855) (by decide +kernel), rfl⟩
theorem tw_im_X11_nearest : Cond.instanceMethod yX11_nearest ∈ lw_g := List.mem_filter.mpr ⟨List.mem_of_getElem? (i := 856) (by decide +kernel), rfl⟩
theorem tw_se_X11_nearest : Cond.selects RX11 yX11_nearest yX11_nearest ∈ lw_g := List.mem_filter.mpr ⟨List.mem_of_getElem? (i := 857) (by decide +kernel), rfl⟩
theorem tw_co_X11_nearest : Cond.code yX11_nearest cX11_nearest 3 (some .int) ∈ lw_g := List.mem_filter.mpr ⟨List.mem_of_getElem? (i := 858) (by decide +kernel), rfl⟩
theorem tw_cn_X11_107 : Cond.constant RX11 107 (2147483647) ∈ lw_g := List.mem_filter.mpr ⟨List.mem_of_getElem? (i := 859) (by decide +kernel), rfl⟩
theorem tw_ml_X11_108 : Cond.methodLink RX11 108 yX11_those ∈ lw_g := List.mem_filter.mpr ⟨List.mem_of_getElem? (i := 860) (by decide +kernel), rfl⟩
theorem tw_im_X11_those : Cond.instanceMethod yX11_those ∈ lw_g := List.mem_filter.mpr ⟨List.mem_of_getElem? (i := 862) (by decide +kernel), rfl⟩
theorem tw_co_X11_those : Cond.code yX11_those cX11_those 6 (some .int) ∈ lw_g := List.mem_filter.mpr ⟨List.mem_of_getElem? (i := 863) (by decide +kernel), rfl⟩
theorem tw_ml_X11_96 : Cond.methodLink RX11 96 yX11_takesNone ∈ lw_g := List.mem_filter.mpr ⟨List.mem_of_getElem? (i := 864) (by decide +kernel), rfl⟩
theorem tw_im_X11_takesNone : Cond.instanceMethod yX11_takesNone ∈ lw_g := List.mem_filter.mpr ⟨List.mem_of_getElem? (i := 866) (by decide +kernel), rfl⟩
theorem tw_co_X11_takesNone : Cond.code yX11_takesNone cX11_takesNone 2 none ∈ lw_g := List.mem_filter.mpr ⟨List.mem_of_getElem? (i := 867) (by decide +kernel), rfl⟩
theorem tw_ml_X11_99 : Cond.methodLink RX11 99 yX11_next ∈ lw_g := List.mem_filter.mpr ⟨List.mem_of_getElem? (i := 868) (by decide +kernel), rfl⟩
theorem tw_im_X11_next : Cond.instanceMethod yX11_next ∈ lw_g := List.mem_filter.mpr ⟨List.mem_of_getElem? (i := 870) (by decide +kernel), rfl⟩
theorem tw_co_X11_next : Cond.code yX11_next cX11_next 5 (some .int) ∈ lw_g := List.mem_filter.mpr ⟨List.mem_of_getElem? (i := 871) (by decide +kernel), rfl⟩
theorem tw_ml_X11_103 : Cond.methodLink RX11 103 yX11_gives ∈ lw_g := List.mem_filter.mpr ⟨List.mem_of_getElem? (i := 872) (by decide +kernel), rfl⟩
theorem tw_im_X11_gives : Cond.instanceMethod yX11_gives ∈ lw_g := List.mem_filter.mpr ⟨List.mem_of_getElem? (i := 874) (by decide +kernel), rfl⟩
theorem tw_co_X11_gives : Cond.code yX11_gives cX11_gives 3 none ∈ lw_g := List.mem_filter.mpr ⟨List.mem_of_getElem? (i := 875) (by decide +kernel), rfl⟩
theorem tw_ml_L_65 : Cond.methodLink RL 65 yX11_within ∈ lw_g := List.mem_filter.mpr ⟨List.mem_of_getElem? (i := 876) (by decide +kernel), rfl⟩
theorem tw_im_X11_within : Cond.instanceMethod yX11_within ∈ lw_g := List.mem_filter.mpr ⟨List.mem_of_getElem? (i := 877) (by decide +kernel), rfl⟩
theorem tw_se_X11_within : Cond.selects RX11 yX11_within yX11_within ∈ lw_g := List.mem_filter.mpr ⟨List.mem_of_getElem? (i := 878) (by decide +kernel), rfl⟩
theorem tw_co_X11_within : Cond.code yX11_within cX11_within 3 (some .int) ∈ lw_g := List.mem_filter.mpr ⟨List.mem_of_getElem? (i := 879) (by decide +kernel), rfl⟩
theorem tw_ml_L_69 : Cond.methodLink RL 69 yX11_farthest ∈ lw_g := List.mem_filter.mpr ⟨List.mem_of_getElem? (i := 880) (by decide +kernel), rfl⟩
theorem tw_im_X11_farthest : Cond.instanceMethod yX11_farthest ∈ lw_g := List.mem_filter.mpr ⟨List.mem_of_getElem? (i := 881) (by decide +kernel), rfl⟩
theorem tw_se_X11_farthest : Cond.selects RX11 yX11_farthest yX11_farthest ∈ lw_g := List.mem_filter.mpr ⟨List.mem_of_getElem? (i := 882) (by decide +kernel), rfl⟩
theorem tw_co_X11_farthest : Cond.code yX11_farthest cX11_farthest 3 (some .int) ∈ lw_g := List.mem_filter.mpr ⟨List.mem_of_getElem? (i := 883) (by decide +kernel), rfl⟩
theorem tw_ml_L_73 : Cond.methodLink RL 73 yX11_result ∈ lw_g := List.mem_filter.mpr ⟨List.mem_of_getElem? (i := 884) (by decide +kernel), rfl⟩
theorem tw_im_X11_result : Cond.instanceMethod yX11_result ∈ lw_g := List.mem_filter.mpr ⟨List.mem_of_getElem? (i := 885) (by decide +kernel), rfl⟩
theorem tw_se_X11_result : Cond.selects RX11 yX11_result yX11_result ∈ lw_g := List.mem_filter.mpr ⟨List.mem_of_getElem? (i := 886) (by decide +kernel), rfl⟩
theorem tw_co_X11_result : Cond.code yX11_result cX11_result 3 (some .int) ∈ lw_g := List.mem_filter.mpr ⟨List.mem_of_getElem? (i := 887) (by decide +kernel), rfl⟩
theorem tw_ml_L_77 : Cond.methodLink RL 77 yX11_closest ∈ lw_g := List.mem_filter.mpr ⟨List.mem_of_getElem? (i := 888) (by decide +kernel), rfl⟩
theorem tw_im_X11_closest : Cond.instanceMethod yX11_closest ∈ lw_g := List.mem_filter.mpr ⟨List.mem_of_getElem? (i := 889) (by decide +kernel), rfl⟩
theorem tw_se_X11_closest : Cond.selects RX11 yX11_closest yX11_closest ∈ lw_g := List.mem_filter.mpr ⟨List.mem_of_getElem? (i := 890) (by decide +kernel), rfl⟩
theorem tw_co_X11_closest : Cond.code yX11_closest cX11_closest 6 (some .int) ∈ lw_g := List.mem_filter.mpr ⟨List.mem_of_getElem? (i := 891) (by decide +kernel), rfl⟩
theorem tw_ml_X11_112 : Cond.methodLink RX11 112 yX11_inBook ∈ lw_g := List.mem_filter.mpr ⟨List.mem_of_getElem? (i := 892) (by decide +kernel), rfl⟩
theorem tw_im_X11_inBook : Cond.instanceMethod yX11_inBook ∈ lw_g := List.mem_filter.mpr ⟨List.mem_of_getElem? (i := 894) (by decide +kernel), rfl⟩
theorem tw_co_X11_inBook : Cond.code yX11_inBook cX11_inBook 3 (some .int) ∈ lw_g := List.mem_filter.mpr ⟨List.mem_of_getElem? (i := 895) (by decide +kernel), rfl⟩
theorem tw_ml_L_81 : Cond.methodLink RL 81 yX11_centres ∈ lw_g := List.mem_filter.mpr ⟨List.mem_of_getElem? (i := 896) (by decide +kernel), rfl⟩
theorem tw_im_X11_centres : Cond.instanceMethod yX11_centres ∈ lw_g := List.mem_filter.mpr ⟨List.mem_of_getElem? (i := 897) (by decide +kernel), rfl⟩
theorem tw_se_X11_centres : Cond.selects RX11 yX11_centres yX11_centres ∈ lw_g := List.mem_filter.mpr ⟨List.mem_of_getElem? (i := 898) (by decide +kernel), rfl⟩
theorem tw_co_X11_centres : Cond.code yX11_centres cX11_centres 5 (some .int) ∈ lw_g := List.mem_filter.mpr ⟨List.mem_of_getElem? (i := 899) (by decide +kernel), rfl⟩
theorem tw_ml_X11_116 : Cond.methodLink RX11 116 yX11_fromResults ∈ lw_g := List.mem_filter.mpr ⟨List.mem_of_getElem? (i := 900) (by decide +kernel), rfl⟩
theorem tw_im_X11_fromResults : Cond.instanceMethod yX11_fromResults ∈ lw_g := List.mem_filter.mpr ⟨List.mem_of_getElem? (i := 902) (by decide +kernel), rfl⟩
theorem tw_co_X11_fromResults : Cond.code yX11_fromResults cX11_fromResults 4 (some .int) ∈ lw_g := List.mem_filter.mpr ⟨List.mem_of_getElem? (i := 903) (by decide +kernel), rfl⟩
theorem tw_ml_X11_119 : Cond.methodLink RX11 119 yX11_radius ∈ lw_g := List.mem_filter.mpr ⟨List.mem_of_getElem? (i := 904) (by decide +kernel), rfl⟩
theorem tw_im_X11_radius : Cond.instanceMethod yX11_radius ∈ lw_g := List.mem_filter.mpr ⟨List.mem_of_getElem? (i := 906) (by decide +kernel), rfl⟩
theorem tw_co_X11_radius : Cond.code yX11_radius cX11_radius 4 (some .int) ∈ lw_g := List.mem_filter.mpr ⟨List.mem_of_getElem? (i := 907) (by decide +kernel), rfl⟩
theorem tw_ml_L_85 : Cond.methodLink RL 85 yX11_best ∈ lw_g := List.mem_filter.mpr ⟨List.mem_of_getElem? (i := 908) (by decide +kernel), rfl⟩
theorem tw_im_X11_best : Cond.instanceMethod yX11_best ∈ lw_g := List.mem_filter.mpr ⟨List.mem_of_getElem? (i := 909) (by decide +kernel), rfl⟩
theorem tw_se_X11_best : Cond.selects RX11 yX11_best yX11_best ∈ lw_g := List.mem_filter.mpr ⟨List.mem_of_getElem? (i := 910) (by decide +kernel), rfl⟩
theorem tw_co_X11_best : Cond.code yX11_best cX11_best 10 (some .int) ∈ lw_g := List.mem_filter.mpr ⟨List.mem_of_getElem? (i := 911) (by decide +kernel), rfl⟩
theorem tw_ml_X11_122 : Cond.methodLink RX11 122 yX11_radiusOf ∈ lw_g := List.mem_filter.mpr ⟨List.mem_of_getElem? (i := 912) (by decide +kernel), rfl⟩
theorem tw_im_X11_radiusOf : Cond.instanceMethod yX11_radiusOf ∈ lw_g := List.mem_filter.mpr ⟨List.mem_of_getElem? (i := 914) (by decide +kernel), rfl⟩
theorem tw_co_X11_radiusOf : Cond.code yX11_radiusOf cX11_radiusOf 7 (some .int) ∈ lw_g := List.mem_filter.mpr ⟨List.mem_of_getElem? (i := 915) (by decide +kernel), rfl⟩
theorem tw_ml_L_90 : Cond.methodLink RL 90 yX11_chain ∈ lw_g := List.mem_filter.mpr ⟨List.mem_of_getElem? (i := 916) (by decide +kernel), rfl⟩
theorem tw_im_X11_chain : Cond.instanceMethod yX11_chain ∈ lw_g := List.mem_filter.mpr ⟨List.mem_of_getElem? (i := 917) (by decide +kernel), rfl⟩
theorem tw_se_X11_chain : Cond.selects RX11 yX11_chain yX11_chain ∈ lw_g := List.mem_filter.mpr ⟨List.mem_of_getElem? (i := 918) (by decide +kernel), rfl⟩
theorem tw_co_X11_chain : Cond.code yX11_chain cX11_chain 5 (some .long) ∈ lw_g := List.mem_filter.mpr ⟨List.mem_of_getElem? (i := 919) (by decide +kernel), rfl⟩
theorem tw_ml_X11_137 : Cond.methodLink RX11 137 yX11_chains ∈ lw_g := List.mem_filter.mpr ⟨List.mem_of_getElem? (i := 921) (by decide +kernel), rfl⟩
theorem tw_im_X11_chains : Cond.instanceMethod yX11_chains ∈ lw_g := List.mem_filter.mpr ⟨List.mem_of_getElem? (i := 923) (by decide +kernel), rfl⟩
theorem tw_co_X11_chains : Cond.code yX11_chains cX11_chains 6 none ∈ lw_g := List.mem_filter.mpr ⟨List.mem_of_getElem? (i := 924) (by decide +kernel), rfl⟩
theorem tw_ml_X11_126 : Cond.methodLink RX11 126 yX11_alonePieces ∈ lw_g := List.mem_filter.mpr ⟨List.mem_of_getElem? (i := 925) (by decide +kernel), rfl⟩
theorem tw_im_X11_alonePieces : Cond.instanceMethod yX11_alonePieces ∈ lw_g := List.mem_filter.mpr ⟨List.mem_of_getElem? (i := 927) (by decide +kernel), rfl⟩
theorem tw_co_X11_alonePieces : Cond.code yX11_alonePieces cX11_alonePieces 2 none ∈ lw_g := List.mem_filter.mpr ⟨List.mem_of_getElem? (i := 928) (by decide +kernel), rfl⟩
theorem tw_ml_X11_132 : Cond.methodLink RX11 132 yX11_joins ∈ lw_g := List.mem_filter.mpr ⟨List.mem_of_getElem? (i := 929) (by decide +kernel), rfl⟩
theorem tw_im_X11_joins : Cond.instanceMethod yX11_joins ∈ lw_g := List.mem_filter.mpr ⟨List.mem_of_getElem? (i := 931) (by decide +kernel), rfl⟩
theorem tw_co_X11_joins : Cond.code yX11_joins cX11_joins 6 none ∈ lw_g := List.mem_filter.mpr ⟨List.mem_of_getElem? (i := 932) (by decide +kernel), rfl⟩
theorem tw_ml_L_94 : Cond.methodLink RL 94 yX11_pair ∈ lw_g := List.mem_filter.mpr ⟨List.mem_of_getElem? (i := 933) (by decide +kernel), rfl⟩
theorem tw_im_X11_pair : Cond.instanceMethod yX11_pair ∈ lw_g := List.mem_filter.mpr ⟨List.mem_of_getElem? (i := 934) (by decide +kernel), rfl⟩
theorem tw_se_X11_pair : Cond.selects RX11 yX11_pair yX11_pair ∈ lw_g := List.mem_filter.mpr ⟨List.mem_of_getElem? (i := 935) (by decide +kernel), rfl⟩
theorem tw_co_X11_pair : Cond.code yX11_pair cX11_pair 3 (some .int) ∈ lw_g := List.mem_filter.mpr ⟨List.mem_of_getElem? (i := 936) (by decide +kernel), rfl⟩
theorem tw_ml_L_98 : Cond.methodLink RL 98 yX11_clusters ∈ lw_g := List.mem_filter.mpr ⟨List.mem_of_getElem? (i := 937) (by decide +kernel), rfl⟩
theorem tw_im_X11_clusters : Cond.instanceMethod yX11_clusters ∈ lw_g := List.mem_filter.mpr ⟨List.mem_of_getElem? (i := 938) (by decide +kernel), rfl⟩
theorem tw_se_X11_clusters : Cond.selects RX11 yX11_clusters yX11_clusters ∈ lw_g := List.mem_filter.mpr ⟨List.mem_of_getElem? (i := 939) (by decide +kernel), rfl⟩
theorem tw_co_X11_clusters : Cond.code yX11_clusters cX11_clusters 4 (some .int) ∈ lw_g := List.mem_filter.mpr ⟨List.mem_of_getElem? (i := 940) (by decide +kernel), rfl⟩
theorem tw_ml_X11_140 : Cond.methodLink RX11 140 yX11_pieces ∈ lw_g := List.mem_filter.mpr ⟨List.mem_of_getElem? (i := 941) (by decide +kernel), rfl⟩
theorem tw_im_X11_pieces : Cond.instanceMethod yX11_pieces ∈ lw_g := List.mem_filter.mpr ⟨List.mem_of_getElem? (i := 943) (by decide +kernel), rfl⟩
theorem tw_co_X11_pieces : Cond.code yX11_pieces cX11_pieces 4 none ∈ lw_g := List.mem_filter.mpr ⟨List.mem_of_getElem? (i := 944) (by decide +kernel), rfl⟩
theorem tw_ml_L_102 : Cond.methodLink RL 102 yX11_cluster ∈ lw_g := List.mem_filter.mpr ⟨List.mem_of_getElem? (i := 945) (by decide +kernel), rfl⟩
theorem tw_im_X11_cluster : Cond.instanceMethod yX11_cluster ∈ lw_g := List.mem_filter.mpr ⟨List.mem_of_getElem? (i := 946) (by decide +kernel), rfl⟩
theorem tw_se_X11_cluster : Cond.selects RX11 yX11_cluster yX11_cluster ∈ lw_g := List.mem_filter.mpr ⟨List.mem_of_getElem? (i := 947) (by decide +kernel), rfl⟩
theorem tw_co_X11_cluster : Cond.code yX11_cluster cX11_cluster 3 (some .int) ∈ lw_g := List.mem_filter.mpr ⟨List.mem_of_getElem? (i := 948) (by decide +kernel), rfl⟩
theorem tw_ml_L_106 : Cond.methodLink RL 106 yX11_net ∈ lw_g := List.mem_filter.mpr ⟨List.mem_of_getElem? (i := 949) (by decide +kernel), rfl⟩
theorem tw_im_X11_net : Cond.instanceMethod yX11_net ∈ lw_g := List.mem_filter.mpr ⟨List.mem_of_getElem? (i := 950) (by decide +kernel), rfl⟩
theorem tw_se_X11_net : Cond.selects RX11 yX11_net yX11_net ∈ lw_g := List.mem_filter.mpr ⟨List.mem_of_getElem? (i := 951) (by decide +kernel), rfl⟩
theorem tw_co_X11_net : Cond.code yX11_net cX11_net 3 (some .int) ∈ lw_g := List.mem_filter.mpr ⟨List.mem_of_getElem? (i := 952) (by decide +kernel), rfl⟩
theorem tw_ml_L_110 : Cond.methodLink RL 110 yX11_middle ∈ lw_g := List.mem_filter.mpr ⟨List.mem_of_getElem? (i := 953) (by decide +kernel), rfl⟩
theorem tw_im_X11_middle : Cond.instanceMethod yX11_middle ∈ lw_g := List.mem_filter.mpr ⟨List.mem_of_getElem? (i := 954) (by decide +kernel), rfl⟩
theorem tw_se_X11_middle : Cond.selects RX11 yX11_middle yX11_middle ∈ lw_g := List.mem_filter.mpr ⟨List.mem_of_getElem? (i := 955) (by decide +kernel), rfl⟩
theorem tw_co_X11_middle : Cond.code yX11_middle cX11_middle 9 (some .long) ∈ lw_g := List.mem_filter.mpr ⟨List.mem_of_getElem? (i := 956) (by decide +kernel), rfl⟩
theorem tw_ml_L_114 : Cond.methodLink RL 114 yX11_count ∈ lw_g := List.mem_filter.mpr ⟨List.mem_of_getElem? (i := 957) (by decide +kernel), rfl⟩
theorem tw_im_X11_count : Cond.instanceMethod yX11_count ∈ lw_g := List.mem_filter.mpr ⟨List.mem_of_getElem? (i := 958) (by decide +kernel), rfl⟩
theorem tw_se_X11_count : Cond.selects RX11 yX11_count yX11_count ∈ lw_g := List.mem_filter.mpr ⟨List.mem_of_getElem? (i := 959) (by decide +kernel), rfl⟩
theorem tw_co_X11_count : Cond.code yX11_count cX11_count 5 (some .int) ∈ lw_g := List.mem_filter.mpr ⟨List.mem_of_getElem? (i := 960) (by decide +kernel), rfl⟩
theorem inX0 : ∀ w ∈ wsX00, w ∈ lw_g := by decide +kernel
theorem inX1 : ∀ w ∈ wsX10, w ∈ lw_g := by decide +kernel
theorem inX2 : ∀ w ∈ wsX20, w ∈ lw_g := by decide +kernel
theorem inX3 : ∀ w ∈ wsX30, w ∈ lw_g := by decide +kernel
theorem inX4 : ∀ w ∈ wsX40, w ∈ lw_g := by decide +kernel
theorem inX5 : ∀ w ∈ wsX50, w ∈ lw_g := by decide +kernel
theorem inX6 : ∀ w ∈ wsX60, w ∈ lw_g := by decide +kernel
theorem inX7 : ∀ w ∈ wsX70, w ∈ lw_g := by decide +kernel
theorem inX8 : ∀ w ∈ wsX80, w ∈ lw_g := by decide +kernel
theorem inX9 : ∀ w ∈ wsX90, w ∈ lw_g := by decide +kernel
theorem inX10 : ∀ w ∈ wsX100, w ∈ lw_g := by decide +kernel
theorem inX11 : ∀ w ∈ wsX110, w ∈ lw_g := by decide +kernel
theorem inJ9 : ∀ w ∈ wsJ90, w ∈ lw_g := by decide +kernel
theorem inJ10 : ∀ w ∈ wsJ100, w ∈ lw_g := by decide +kernel
theorem inJ7 : ∀ w ∈ wsJ70, w ∈ lw_g := by decide +kernel
end
section
abbrev Ev : Type := Launch × va_G × ClassId × ClassId
abbrev Cx : Type := Program × Env × Room × State × MethodId × Array Value × List Frame × Method × Code × (State → Prop) × (Nat → Prop) × Nat
def tyl (cI cZ : ClassId) : List (ClassId × FieldType) := [(cI, .int), (cZ, .boolean)]
/-- an array of ints, of booleans, an object -/
abbrev ia (E : Ev) (a N : Nat) (f : Nat → Int32) : Nat × va_E := (a, .inl (E.2.2.1, N, .inl f))
abbrev za (E : Ev) (a N : Nat) (f : Nat → Int32) : Nat × va_E := (a, .inl (E.2.2.2, N, .inl f))
abbrev ob (a ci : Nat) (fs : List Value) : Nat × va_E := (a, .inr (ci, fs))
/-- the machine at pc with locals lv, stack st, cells ws (k cells of n slots made so far): it comes to a state with Q -/
def GW (E : Ev) (X : Cx) (k n : Nat) (ws : va_W) (lv : List (Nat × Value)) (pc : Nat) (st : List Value) : Prop :=
  match E, X with
  | (l, D, _, _), (p, e, R, s, m, args, below, meth, c, Q, A, nL) => ∀ (H : Heap) (locs : List Loc) (ls : Array Slot), va_P D vwCl ws H → va_D A ws → va_S A s.heap H locs → lv_has ls nL lv → W p l e R s m args below meth c H locs k n Q (F0 m pc ls st)
def FX (E : Ev) (X : Cx) (cc : ByteArray) (own : String) (rm : Room) (nL0 : Nat) : Prop :=
  match E, X with
  | (_, D, cI, cZ), (p, _, R, s, m, args, _, meth, c, _, A, nL) => p.tables.exec = Jvm.exec ∧ c.code = cc ∧ c.maxLocals = nL ∧ s.vm.findClass own = some m.cls ∧ (∀ w ∈ lw_g, w.before args s = true) ∧ va_K D vwCl (tyl cI cZ) s ∧ (∀ q, s.heap.size ≤ q → A q) ∧ R = rm ∧ nL = nL0 ∧ meth.locks = false
def wq (y : MethodName) (b : ByteArray) (n : Nat) (r : Option FieldType) : List Cond := .code y b n r :: lw_g
theorem fm_of_map {α β : Type} {is : List α} {f : α → Option β} {w : List β} (h : is.map f = w.map some) : is.filterMap f = w := by
  have h2 := congrArg (List.filterMap id) h
  simpa [List.filterMap_map] using h2
theorem cb_join {A0 : Nat → Prop} {D : va_G} {cl : List vw_C} {ws wc wr w1 wn : va_W} {H H1 : Heap} (hP : va_P D cl ws H) (hD : va_D A0 ws) (isC isR perm : List Nat) (hC : isC.map (fun i => ws[i]?) = wc.map some) (hR : isR.map (fun i => ws[i]?) = wr.map some) (hn : va_nd isR = true) (hdis : ∀ i ∈ isR, i ∉ isC)
    (hk : ∀ q : Nat, q < H.size → ¬ va_A wc H.size q → H1[q]? = H[q]?) (hF : ∀ q, va_A wc H.size q → A0 q) (hP1 : va_P D cl w1 H1) (hD1 : va_D (va_A wc H.size) w1) (hpn : va_nd perm = true) (hperm : perm.map (fun i => (wr ++ w1)[i]?) = wn.map some) : va_P D cl wn H1 ∧ va_D A0 wn := by
  obtain ⟨hP2, hD2⟩ := va_join hP hD isC isR hC hR hn hdis hk hF hP1 hD1
  exact ⟨hP2.sub perm (fm_of_map hperm), hD2.sub perm hpn hperm⟩
theorem gi_q {y : MethodName} {b : ByteArray} {n : Nat} {r : Option FieldType} (h : Cond.code y b n r ∈ lw_g) : GoodIn lw_g (wq y b n r) := fun w hw => gi_all w ((List.mem_cons.mp hw).elim (fun e => e ▸ h) id)
/-! contracts -/
def PcW (E : Ev) (av : List Value) (wc : va_W) (sz : Nat) : Array Value → State → Prop := va_Pc av (fun U => U.heap.size = sz ∧ va_P E.2.1 vwCl wc U.heap ∧ va_K E.2.1 vwCl (tyl E.2.2.1 E.2.2.2) U ∧ va_D (fun _ => True) wc)
def BW (E : Ev) {S : Type} (wc : va_W) (w1 : S → va_W) (sz : Nat) (u : S) (t : State) : Prop := va_P E.2.1 vwCl (w1 u) t.heap ∧ va_K E.2.1 vwCl (tyl E.2.2.1 E.2.2.2) t ∧ va_D (va_A wc sz) (w1 u)
def CTi (E : Ev) (y : MethodName) (wm : List Cond) (rm : Room) (av : List Value) (wc : va_W) {S : Type} (post : Int32 → S → Prop) (w1 : S → va_W) : Prop :=
  ∀ sz : Nat, Met E.1 y wm rm (PcW E av wc sz) (va_Qi post (BW E wc w1 sz) (va_A wc sz)) 0 0 (va_A wc sz)
def CTl (E : Ev) (y : MethodName) (wm : List Cond) (rm : Room) (av : List Value) (wc : va_W) {S : Type} (post : Int64 → S → Prop) (w1 : S → va_W) : Prop :=
  ∀ sz : Nat, Met E.1 y wm rm (PcW E av wc sz) (va_Ql post (BW E wc w1 sz) (va_A wc sz)) 0 0 (va_A wc sz)
def CTv (E : Ev) (y : MethodName) (wm : List Cond) (rm : Room) (av : List Value) (wc : va_W) {S : Type} (post : S → Prop) (w1 : S → va_W) : Prop :=
  ∀ sz : Nat, Met E.1 y wm rm (PcW E av wc sz) (va_Qv post (BW E wc w1 sz) (va_A wc sz)) 0 0 (va_A wc sz)
/-- an answer that is the cell ra -/
def CTr (E : Ev) (y : MethodName) (wm : List Cond) (rm : Room) (av : List Value) (wc : va_W) (ra : Nat) {S : Type} (post : S → Prop) (w1 : S → va_W) : Prop :=
  ∀ sz : Nat, Met E.1 y wm rm (PcW E av wc sz) (va_Qr post (fun u a t => a = ra ∧ BW E wc w1 sz u t) (va_A wc sz)) 0 0 (va_A wc sz)
/-- a method that only reads: it answers v -/
def RDi (E : Ev) (y : MethodName) (wm : List Cond) (rm : Room) (av : List Value) (wc : va_W) (v : Int32) : Prop := CTi E y wm rm av wc (fun r (_ : Unit) => r = v) (fun _ => wc)
def rmk (f lo : Nat) : Room := { frames := f, cells := 0, slots := 0, locals := lo }
def RTi (E : Ev) (X : Cx) (cc : ByteArray) {S : Type} (post : Int32 → S → Prop) (w1 : S → va_W) : Prop := ∀ (r : Int32) (u : S) (lv : List (Nat × Value)) (pc : Nat), decode cc pc = .ok (.ireturn, 1) → post r u → GW E X 0 0 (w1 u) lv pc [.int r]
def RTz (E : Ev) (X : Cx) (cc : ByteArray) {S : Type} (post : Int32 → S → Prop) (w1 : S → va_W) : Prop := ∀ (r : Int32) (u : S) (lv : List (Nat × Value)) (pc : Nat), decode cc pc = .ok (.ireturn, 1) → (r = 0 ∨ r = 1) → post r u → GW E X 0 0 (w1 u) lv pc [.int r]
def RTl (E : Ev) (X : Cx) (cc : ByteArray) {S : Type} (post : Int64 → S → Prop) (w1 : S → va_W) : Prop := ∀ (r : Int64) (u : S) (lv : List (Nat × Value)) (pc : Nat), decode cc pc = .ok (.lreturn, 1) → post r u → GW E X 0 0 (w1 u) lv pc [.long r]
def RTv (E : Ev) (X : Cx) (cc : ByteArray) {S : Type} (post : S → Prop) (w1 : S → va_W) : Prop := ∀ (u : S) (lv : List (Nat × Value)) (pc : Nat), decode cc pc = .ok (.return_, 1) → post u → GW E X 0 0 (w1 u) lv pc []
def RTr (E : Ev) (X : Cx) (cc : ByteArray) (ra : Nat) {S : Type} (post : S → Prop) (w1 : S → va_W) : Prop := ∀ (u : S) (lv : List (Nat × Value)) (pc : Nat), decode cc pc = .ok (.areturn, 1) → post u → GW E X 0 0 (w1 u) lv pc [.ref ra]
theorem PcW.blind {E : Ev} {av : List Value} {wc : va_W} {sz : Nat} : FrameBlind (PcW E av wc sz) := fun a U g mk q => by
  obtain ⟨q0, q1, qP, qK, qD⟩ := q
  exact ⟨q0, q1, qP, va_K.moved (u := U) (U := U.calling g mk a) (Vm.Alike.refl U.vm) qK, qD⟩

theorem CTi.of {E : Ev} {S : Type} {y : MethodName} {bytes : ByteArray} {nL : Nat} {rm : Room} {av : List Value} {wc : va_W} {post : Int32 → S → Prop} {w1 : S → va_W} (hy : plainName y.cls = true) (hlen : (lg_sl av).length ≤ nL)
    (body : ∀ X : Cx, FX E X bytes y.cls rm nL → RTi E X bytes post w1 → GW E X 0 0 wc (lv_args 0 av) 0 []) : CTi E y (wq y bytes nL (some .int)) rm av wc post w1 := by
  obtain ⟨l, D, cI, cZ⟩ := E
  intro sz
  refine Met.ofW (cc := bytes) (maxL := nL) (ret := (some .int)) hy rfl ?_
  intro p e s m args below meth c s₁ B hml hv
  obtain ⟨rfl, hsz, hP, hK, hD0⟩ := hv
  have hx := B.exec
  have hb := B.bytes
  have hr := B.returns
  have hts := atoms_spec (ws := wq y bytes nL (some .int)) B.pre
  have hown : s.vm.findClass y.cls = some m.cls := findClass_of_methodNamed B.named
  have hlocks := B.notSynchronized
  subst hsz
  have hD := hD0.self (sz := s.heap.size)
  have hl := lv_entry av (n := nL) hlen
  rw [lg_entry_eq]
  exact body (p, e, rm, s, m, av.toArray, below, meth, c, MQ below (va_Qi post (BW (l, D, cI, cZ) wc w1 s.heap.size) (va_A wc s.heap.size)) av.toArray s 0 0 (va_A wc s.heap.size), va_A wc s.heap.size, nL) ⟨hx, hb, hml, hown, fun w h => hts w (List.mem_cons_of_mem _ h), hK, fun q h => Or.inr h, rfl, rfl, hlocks⟩
    (fun r u lv pc hdg hp H1 locs1 ls1 hP1 hD1 hS1 _ => W.iret (v := r) hx hb hr (fun t ht hW => ⟨⟨r, u, rfl, hp, by rw [ht]; exact hP1, va_K.moved hW.alike hK, hD1⟩, hS1.F ht⟩) hS1.2.2 hdg) s.heap [] _ hP hD va_S.rf hl

theorem CTi.ofZ {E : Ev} {S : Type} {y : MethodName} {bytes : ByteArray} {nL : Nat} {rm : Room} {av : List Value} {wc : va_W} {post : Int32 → S → Prop} {w1 : S → va_W} (hy : plainName y.cls = true) (hlen : (lg_sl av).length ≤ nL)
    (body : ∀ X : Cx, FX E X bytes y.cls rm nL → RTz E X bytes post w1 → GW E X 0 0 wc (lv_args 0 av) 0 []) : CTi E y (wq y bytes nL (some .boolean)) rm av wc post w1 := by
  obtain ⟨l, D, cI, cZ⟩ := E
  intro sz
  refine Met.ofW (cc := bytes) (maxL := nL) (ret := (some .boolean)) hy rfl ?_
  intro p e s m args below meth c s₁ B hml hv
  obtain ⟨rfl, hsz, hP, hK, hD0⟩ := hv
  have hx := B.exec
  have hb := B.bytes
  have hr := B.returns
  have hts := atoms_spec (ws := wq y bytes nL (some .boolean)) B.pre
  have hown : s.vm.findClass y.cls = some m.cls := findClass_of_methodNamed B.named
  have hlocks := B.notSynchronized
  subst hsz
  have hD := hD0.self (sz := s.heap.size)
  have hl := lv_entry av (n := nL) hlen
  rw [lg_entry_eq]
  exact body (p, e, rm, s, m, av.toArray, below, meth, c, MQ below (va_Qi post (BW (l, D, cI, cZ) wc w1 s.heap.size) (va_A wc s.heap.size)) av.toArray s 0 0 (va_A wc s.heap.size), va_A wc s.heap.size, nL) ⟨hx, hb, hml, hown, fun w h => hts w (List.mem_cons_of_mem _ h), hK, fun q h => Or.inr h, rfl, rfl, hlocks⟩
    (fun r u lv pc hdg hz hp H1 locs1 ls1 hP1 hD1 hS1 _ => W.zret (v := r) hx hb hr (by rcases hz with rfl | rfl <;> rfl) (fun t ht hW => ⟨⟨r, u, rfl, hp, by rw [ht]; exact hP1, va_K.moved hW.alike hK, hD1⟩, hS1.F ht⟩) hS1.2.2 hdg) s.heap [] _ hP hD va_S.rf hl

theorem CTl.of {E : Ev} {S : Type} {y : MethodName} {bytes : ByteArray} {nL : Nat} {rm : Room} {av : List Value} {wc : va_W} {post : Int64 → S → Prop} {w1 : S → va_W} (hy : plainName y.cls = true) (hlen : (lg_sl av).length ≤ nL)
    (body : ∀ X : Cx, FX E X bytes y.cls rm nL → RTl E X bytes post w1 → GW E X 0 0 wc (lv_args 0 av) 0 []) : CTl E y (wq y bytes nL (some .long)) rm av wc post w1 := by
  obtain ⟨l, D, cI, cZ⟩ := E
  intro sz
  refine Met.ofW (cc := bytes) (maxL := nL) (ret := (some .long)) hy rfl ?_
  intro p e s m args below meth c s₁ B hml hv
  obtain ⟨rfl, hsz, hP, hK, hD0⟩ := hv
  have hx := B.exec
  have hb := B.bytes
  have hr := B.returns
  have hts := atoms_spec (ws := wq y bytes nL (some .long)) B.pre
  have hown : s.vm.findClass y.cls = some m.cls := findClass_of_methodNamed B.named
  have hlocks := B.notSynchronized
  subst hsz
  have hD := hD0.self (sz := s.heap.size)
  have hl := lv_entry av (n := nL) hlen
  rw [lg_entry_eq]
  exact body (p, e, rm, s, m, av.toArray, below, meth, c, MQ below (va_Ql post (BW (l, D, cI, cZ) wc w1 s.heap.size) (va_A wc s.heap.size)) av.toArray s 0 0 (va_A wc s.heap.size), va_A wc s.heap.size, nL) ⟨hx, hb, hml, hown, fun w h => hts w (List.mem_cons_of_mem _ h), hK, fun q h => Or.inr h, rfl, rfl, hlocks⟩
    (fun r u lv pc hdg hp H1 locs1 ls1 hP1 hD1 hS1 _ => W.lret (v := r) hx hb hr (fun t ht hW => ⟨⟨r, u, rfl, hp, by rw [ht]; exact hP1, va_K.moved hW.alike hK, hD1⟩, hS1.F ht⟩) hS1.2.2 hdg) s.heap [] _ hP hD va_S.rf hl

theorem CTv.of {E : Ev} {S : Type} {y : MethodName} {bytes : ByteArray} {nL : Nat} {rm : Room} {av : List Value} {wc : va_W} {post : S → Prop} {w1 : S → va_W} (hy : plainName y.cls = true) (hlen : (lg_sl av).length ≤ nL)
    (body : ∀ X : Cx, FX E X bytes y.cls rm nL → RTv E X bytes post w1 → GW E X 0 0 wc (lv_args 0 av) 0 []) : CTv E y (wq y bytes nL none) rm av wc post w1 := by
  obtain ⟨l, D, cI, cZ⟩ := E
  intro sz
  refine Met.ofW (cc := bytes) (maxL := nL) (ret := none) hy rfl ?_
  intro p e s m args below meth c s₁ B hml hv
  obtain ⟨rfl, hsz, hP, hK, hD0⟩ := hv
  have hx := B.exec
  have hb := B.bytes
  have hr := B.returns
  have hts := atoms_spec (ws := wq y bytes nL none) B.pre
  have hown : s.vm.findClass y.cls = some m.cls := findClass_of_methodNamed B.named
  have hlocks := B.notSynchronized
  subst hsz
  have hD := hD0.self (sz := s.heap.size)
  have hl := lv_entry av (n := nL) hlen
  rw [lg_entry_eq]
  exact body (p, e, rm, s, m, av.toArray, below, meth, c, MQ below (va_Qv post (BW (l, D, cI, cZ) wc w1 s.heap.size) (va_A wc s.heap.size)) av.toArray s 0 0 (va_A wc s.heap.size), va_A wc s.heap.size, nL) ⟨hx, hb, hml, hown, fun w h => hts w (List.mem_cons_of_mem _ h), hK, fun q h => Or.inr h, rfl, rfl, hlocks⟩
    (fun u lv pc hdg hp H1 locs1 ls1 hP1 hD1 hS1 _ => W.vret hx hb hr (fun t ht hW => ⟨⟨u, rfl, hp, by rw [ht]; exact hP1, va_K.moved hW.alike hK, hD1⟩, hS1.F ht⟩) hS1.2.2 hdg) s.heap [] _ hP hD va_S.rf hl

theorem CTr.of {E : Ev} {S : Type} {y : MethodName} {bytes : ByteArray} {nL : Nat} {rm : Room} {av : List Value} {wc : va_W} {post : S → Prop} {w1 : S → va_W} {ra : Nat} {C : String} (hy : plainName y.cls = true) (hlen : (lg_sl av).length ≤ nL)
    (body : ∀ X : Cx, FX E X bytes y.cls rm nL → RTr E X bytes ra post w1 → GW E X 0 0 wc (lv_args 0 av) 0 []) : CTr E y (wq y bytes nL (some (.object C))) rm av wc ra post w1 := by
  obtain ⟨l, D, cI, cZ⟩ := E
  intro sz
  refine Met.ofW (cc := bytes) (maxL := nL) (ret := (some (.object C))) hy rfl ?_
  intro p e s m args below meth c s₁ B hml hv
  obtain ⟨rfl, hsz, hP, hK, hD0⟩ := hv
  have hx := B.exec
  have hb := B.bytes
  have hr := B.returns
  have hts := atoms_spec (ws := wq y bytes nL (some (.object C))) B.pre
  have hown : s.vm.findClass y.cls = some m.cls := findClass_of_methodNamed B.named
  have hlocks := B.notSynchronized
  subst hsz
  have hD := hD0.self (sz := s.heap.size)
  have hl := lv_entry av (n := nL) hlen
  rw [lg_entry_eq]
  exact body (p, e, rm, s, m, av.toArray, below, meth, c, MQ below (va_Qr post (fun u a t => a = ra ∧ BW (l, D, cI, cZ) wc w1 s.heap.size u t) (va_A wc s.heap.size)) av.toArray s 0 0 (va_A wc s.heap.size), va_A wc s.heap.size, nL) ⟨hx, hb, hml, hown, fun w h => hts w (List.mem_cons_of_mem _ h), hK, fun q h => Or.inr h, rfl, rfl, hlocks⟩
    (fun u lv pc hdg hp H1 locs1 ls1 hP1 hD1 hS1 _ => W.aret (v := .ref ra) hx hb hr (Or.inl ⟨_, rfl⟩) (Or.inr ⟨_, rfl⟩) (fun t ht hW => ⟨⟨u, ra, rfl, hp, rfl, by rw [ht]; exact hP1, va_K.moved hW.alike hK, hD1⟩, hS1.F ht⟩) hS1.2.2 hdg) s.heap [] _ hP hD va_S.rf hl

section GWR
variable {E : Ev} {X : Cx} {cc : ByteArray} {own : String} {rm : Room} {nL0 k n pc : Nat} {ws : va_W} {lv : List (Nat × Value)} {st : List Value}

theorem g_iconst (F : FX E X cc own rm nL0) {z : Int} (v : Int32) (hv : Int32.ofInt z = v) (hdg : decode cc pc = .ok (.iconst z, 1)) (kk : GW E X k n ws lv (pc + 1) (.int v :: st)) : GW E X k n ws lv pc (st) := by
  obtain ⟨l, D, cI, cZ⟩ := E
  obtain ⟨p, e, R, s, m, args, below, meth, c, Q, A, nL⟩ := X
  obtain ⟨hx, hb, hml, hown, hts, hK, hA, hR, hnL, hlk⟩ := F
  subst hR
  subst hnL
  intro H locs ls hP hD hS hl
  exact lv_iconst hx hb hdg hv (kk H locs ls hP hD hS hl)

theorem g_bipush (F : FX E X cc own rm nL0) {z : Int} (v : Int32) (hv : (Int8.ofInt z).toInt32 = v) (hdg : decode cc pc = .ok (.bipush z, 2)) (kk : GW E X k n ws lv (pc + 2) (.int v :: st)) : GW E X k n ws lv pc (st) := by
  obtain ⟨l, D, cI, cZ⟩ := E
  obtain ⟨p, e, R, s, m, args, below, meth, c, Q, A, nL⟩ := X
  obtain ⟨hx, hb, hml, hown, hts, hK, hA, hR, hnL, hlk⟩ := F
  subst hR
  subst hnL
  intro H locs ls hP hD hS hl
  exact lv_bipush hx hb hdg hv (kk H locs ls hP hD hS hl)

theorem g_sipush (F : FX E X cc own rm nL0) {z : Int} (v : Int32) (hv : (Int16.ofInt z).toInt32 = v) (hdg : decode cc pc = .ok (.sipush z, 3)) (kk : GW E X k n ws lv (pc + 3) (.int v :: st)) : GW E X k n ws lv pc (st) := by
  obtain ⟨l, D, cI, cZ⟩ := E
  obtain ⟨p, e, R, s, m, args, below, meth, c, Q, A, nL⟩ := X
  obtain ⟨hx, hb, hml, hown, hts, hK, hA, hR, hnL, hlk⟩ := F
  subst hR
  subst hnL
  intro H locs ls hP hD hS hl
  exact lv_sipush hx hb hdg hv (kk H locs ls hP hD hS hl)

theorem g_lconst (F : FX E X cc own rm nL0) {z : Fin 2} (v : Int64) (hv : Int64.ofNat (z : Nat) = v) (hdg : decode cc pc = .ok (.lconst z, 1)) (kk : GW E X k n ws lv (pc + 1) (.long v :: st)) : GW E X k n ws lv pc (st) := by
  obtain ⟨l, D, cI, cZ⟩ := E
  obtain ⟨p, e, R, s, m, args, below, meth, c, Q, A, nL⟩ := X
  obtain ⟨hx, hb, hml, hown, hts, hK, hA, hR, hnL, hlk⟩ := F
  subst hR
  subst hnL
  intro H locs ls hP hD hS hl
  exact lv_lconst hx hb hdg hv (kk H locs ls hP hD hS hl)

theorem g_ldc (F : FX E X cc own rm nL0) {ix : Nat} {v : Int32} (hc : Cond.constant own ix v ∈ lw_g) (hdg : decode cc pc = .ok (.ldc ix, 2)) (kk : GW E X k n ws lv (pc + 2) (.int v :: st)) : GW E X k n ws lv pc (st) := by
  obtain ⟨l, D, cI, cZ⟩ := E
  obtain ⟨p, e, R, s, m, args, below, meth, c, Q, A, nL⟩ := X
  obtain ⟨hx, hb, hml, hown, hts, hK, hA, hR, hnL, hlk⟩ := F
  subst hR
  subst hnL
  intro H locs ls hP hD hS hl
  exact lv_ldc hx hb hown (hts _ hc) hdg (kk H locs ls hP hD hS hl)

theorem g_ldc2 (F : FX E X cc own rm nL0) {ix : Nat} {v : Int64} (hc : Cond.constantLong own ix v ∈ lw_g) (hdg : decode cc pc = .ok (.ldc2_w ix, 3)) (kk : GW E X k n ws lv (pc + 3) (.long v :: st)) : GW E X k n ws lv pc (st) := by
  obtain ⟨l, D, cI, cZ⟩ := E
  obtain ⟨p, e, R, s, m, args, below, meth, c, Q, A, nL⟩ := X
  obtain ⟨hx, hb, hml, hown, hts, hK, hA, hR, hnL, hlk⟩ := F
  subst hR
  subst hnL
  intro H locs ls hP hD hS hl
  exact lv_ldc2 hx hb hown (hts _ hc) hdg (kk H locs ls hP hD hS hl)

theorem g_iload_n (F : FX E X cc own rm nL0) {q : Fin 4} {x : Int32} (j : Nat) (hj : lv[j]? = some ((q : Nat), .int x)) (hdg : decode cc pc = .ok (.iload_n q, 1)) (kk : GW E X k n ws lv (pc + 1) (.int x :: st)) : GW E X k n ws lv pc (st) := by
  obtain ⟨l, D, cI, cZ⟩ := E
  obtain ⟨p, e, R, s, m, args, below, meth, c, Q, A, nL⟩ := X
  obtain ⟨hx, hb, hml, hown, hts, hK, hA, hR, hnL, hlk⟩ := F
  subst hR
  subst hnL
  intro H locs ls hP hD hS hl
  exact lv_iload_n hx hb hdg rfl (lv_at hl j hj) (kk H locs ls hP hD hS hl)

theorem g_iload (F : FX E X cc own rm nL0) {i : Nat} {x : Int32} (j : Nat) (hj : lv[j]? = some (i, .int x)) (hdg : decode cc pc = .ok (.iload i, 2)) (kk : GW E X k n ws lv (pc + 2) (.int x :: st)) : GW E X k n ws lv pc (st) := by
  obtain ⟨l, D, cI, cZ⟩ := E
  obtain ⟨p, e, R, s, m, args, below, meth, c, Q, A, nL⟩ := X
  obtain ⟨hx, hb, hml, hown, hts, hK, hA, hR, hnL, hlk⟩ := F
  subst hR
  subst hnL
  intro H locs ls hP hD hS hl
  exact lv_iload hx hb hdg (lv_at hl j hj) (kk H locs ls hP hD hS hl)

theorem g_istore_n (F : FX E X cc own rm nL0) {q : Fin 4} {x : Int32} (i : Nat) (lv' : List (Nat × Value)) (ks : List Nat) (hdg : decode cc pc = .ok (.istore_n q, 1)) (hi : (q : Nat) = i) (hn : i < nL0) (hv : lv_pick ((i, Value.int x) :: lv.filter (fun z => !(z.1 == i) && !(z.1 + 1 == i && z.2.category == 2))) ks = lv') (kk : GW E X k n ws lv' (pc + 1) st) : GW E X k n ws lv pc (.int x :: st) := by
  obtain ⟨l, D, cI, cZ⟩ := E
  obtain ⟨p, e, R, s, m, args, below, meth, c, Q, A, nL⟩ := X
  obtain ⟨hx, hb, hml, hown, hts, hK, hA, hR, hnL, hlk⟩ := F
  subst hR
  subst hnL
  intro H locs ls hP hD hS hl
  exact lv_istore_n hx hb hdg hi hl hn rfl (fun ls' hl' => kk H locs ls' hP hD hS (lv_sub hl' ks hv))

theorem g_istore (F : FX E X cc own rm nL0) {x : Int32} (i : Nat) (lv' : List (Nat × Value)) (ks : List Nat) (hdg : decode cc pc = .ok (.istore i, 2)) (hn : i < nL0) (hv : lv_pick ((i, Value.int x) :: lv.filter (fun z => !(z.1 == i) && !(z.1 + 1 == i && z.2.category == 2))) ks = lv') (kk : GW E X k n ws lv' (pc + 2) st) : GW E X k n ws lv pc (.int x :: st) := by
  obtain ⟨l, D, cI, cZ⟩ := E
  obtain ⟨p, e, R, s, m, args, below, meth, c, Q, A, nL⟩ := X
  obtain ⟨hx, hb, hml, hown, hts, hK, hA, hR, hnL, hlk⟩ := F
  subst hR
  subst hnL
  intro H locs ls hP hD hS hl
  exact lv_istore hx hb hdg hl hn rfl (fun ls' hl' => kk H locs ls' hP hD hS (lv_sub hl' ks hv))

theorem g_lload_n (F : FX E X cc own rm nL0) {q : Fin 4} {x : Int64} (j : Nat) (hj : lv[j]? = some ((q : Nat), .long x)) (hdg : decode cc pc = .ok (.lload_n q, 1)) (kk : GW E X k n ws lv (pc + 1) (.long x :: st)) : GW E X k n ws lv pc (st) := by
  obtain ⟨l, D, cI, cZ⟩ := E
  obtain ⟨p, e, R, s, m, args, below, meth, c, Q, A, nL⟩ := X
  obtain ⟨hx, hb, hml, hown, hts, hK, hA, hR, hnL, hlk⟩ := F
  subst hR
  subst hnL
  intro H locs ls hP hD hS hl
  exact lv_lload_n hx hb hdg rfl (lv_at hl j hj) (kk H locs ls hP hD hS hl)

theorem g_lload (F : FX E X cc own rm nL0) {i : Nat} {x : Int64} (j : Nat) (hj : lv[j]? = some (i, .long x)) (hdg : decode cc pc = .ok (.lload i, 2)) (kk : GW E X k n ws lv (pc + 2) (.long x :: st)) : GW E X k n ws lv pc (st) := by
  obtain ⟨l, D, cI, cZ⟩ := E
  obtain ⟨p, e, R, s, m, args, below, meth, c, Q, A, nL⟩ := X
  obtain ⟨hx, hb, hml, hown, hts, hK, hA, hR, hnL, hlk⟩ := F
  subst hR
  subst hnL
  intro H locs ls hP hD hS hl
  exact lv_lload hx hb hdg (lv_at hl j hj) (kk H locs ls hP hD hS hl)

theorem g_lstore_n (F : FX E X cc own rm nL0) {q : Fin 4} {x : Int64} (i : Nat) (lv' : List (Nat × Value)) (ks : List Nat) (hdg : decode cc pc = .ok (.lstore_n q, 1)) (hi : (q : Nat) = i) (hn : i + 1 < nL0) (hv : lv_pick ((i, Value.long x) :: lv.filter (fun z => !(z.1 == i) && (!(z.1 == i + 1) && !(z.1 + 1 == i && z.2.category == 2)))) ks = lv') (kk : GW E X k n ws lv' (pc + 1) st) : GW E X k n ws lv pc (.long x :: st) := by
  obtain ⟨l, D, cI, cZ⟩ := E
  obtain ⟨p, e, R, s, m, args, below, meth, c, Q, A, nL⟩ := X
  obtain ⟨hx, hb, hml, hown, hts, hK, hA, hR, hnL, hlk⟩ := F
  subst hR
  subst hnL
  intro H locs ls hP hD hS hl
  exact lv_lstore_n hx hb hdg hi hl hn rfl (fun ls' hl' => kk H locs ls' hP hD hS (lv_sub hl' ks hv))

theorem g_lstore (F : FX E X cc own rm nL0) {x : Int64} (i : Nat) (lv' : List (Nat × Value)) (ks : List Nat) (hdg : decode cc pc = .ok (.lstore i, 2)) (hn : i + 1 < nL0) (hv : lv_pick ((i, Value.long x) :: lv.filter (fun z => !(z.1 == i) && (!(z.1 == i + 1) && !(z.1 + 1 == i && z.2.category == 2)))) ks = lv') (kk : GW E X k n ws lv' (pc + 2) st) : GW E X k n ws lv pc (.long x :: st) := by
  obtain ⟨l, D, cI, cZ⟩ := E
  obtain ⟨p, e, R, s, m, args, below, meth, c, Q, A, nL⟩ := X
  obtain ⟨hx, hb, hml, hown, hts, hK, hA, hR, hnL, hlk⟩ := F
  subst hR
  subst hnL
  intro H locs ls hP hD hS hl
  exact lv_lstore hx hb hdg hl hn rfl (fun ls' hl' => kk H locs ls' hP hD hS (lv_sub hl' ks hv))

theorem g_aload_n (F : FX E X cc own rm nL0) {q : Fin 4} {x : Nat} (j : Nat) (hj : lv[j]? = some ((q : Nat), .ref x)) (hdg : decode cc pc = .ok (.aload_n q, 1)) (kk : GW E X k n ws lv (pc + 1) (.ref x :: st)) : GW E X k n ws lv pc (st) := by
  obtain ⟨l, D, cI, cZ⟩ := E
  obtain ⟨p, e, R, s, m, args, below, meth, c, Q, A, nL⟩ := X
  obtain ⟨hx, hb, hml, hown, hts, hK, hA, hR, hnL, hlk⟩ := F
  subst hR
  subst hnL
  intro H locs ls hP hD hS hl
  exact lv_aload_n hx hb hdg rfl (lv_at hl j hj) (kk H locs ls hP hD hS hl)

theorem g_aload (F : FX E X cc own rm nL0) {i : Nat} {x : Nat} (j : Nat) (hj : lv[j]? = some (i, .ref x)) (hdg : decode cc pc = .ok (.aload i, 2)) (kk : GW E X k n ws lv (pc + 2) (.ref x :: st)) : GW E X k n ws lv pc (st) := by
  obtain ⟨l, D, cI, cZ⟩ := E
  obtain ⟨p, e, R, s, m, args, below, meth, c, Q, A, nL⟩ := X
  obtain ⟨hx, hb, hml, hown, hts, hK, hA, hR, hnL, hlk⟩ := F
  subst hR
  subst hnL
  intro H locs ls hP hD hS hl
  exact lv_aload hx hb hdg (lv_at hl j hj) (kk H locs ls hP hD hS hl)

theorem g_astore_n (F : FX E X cc own rm nL0) {q : Fin 4} {x : Nat} (i : Nat) (lv' : List (Nat × Value)) (ks : List Nat) (hdg : decode cc pc = .ok (.astore_n q, 1)) (hi : (q : Nat) = i) (hn : i < nL0) (hv : lv_pick ((i, Value.ref x) :: lv.filter (fun z => !(z.1 == i) && !(z.1 + 1 == i && z.2.category == 2))) ks = lv') (kk : GW E X k n ws lv' (pc + 1) st) : GW E X k n ws lv pc (.ref x :: st) := by
  obtain ⟨l, D, cI, cZ⟩ := E
  obtain ⟨p, e, R, s, m, args, below, meth, c, Q, A, nL⟩ := X
  obtain ⟨hx, hb, hml, hown, hts, hK, hA, hR, hnL, hlk⟩ := F
  subst hR
  subst hnL
  intro H locs ls hP hD hS hl
  exact lv_astore_n hx hb hdg hi hl hn rfl (fun ls' hl' => kk H locs ls' hP hD hS (lv_sub hl' ks hv))

theorem g_astore (F : FX E X cc own rm nL0) {x : Nat} (i : Nat) (lv' : List (Nat × Value)) (ks : List Nat) (hdg : decode cc pc = .ok (.astore i, 2)) (hn : i < nL0) (hv : lv_pick ((i, Value.ref x) :: lv.filter (fun z => !(z.1 == i) && !(z.1 + 1 == i && z.2.category == 2))) ks = lv') (kk : GW E X k n ws lv' (pc + 2) st) : GW E X k n ws lv pc (.ref x :: st) := by
  obtain ⟨l, D, cI, cZ⟩ := E
  obtain ⟨p, e, R, s, m, args, below, meth, c, Q, A, nL⟩ := X
  obtain ⟨hx, hb, hml, hown, hts, hK, hA, hR, hnL, hlk⟩ := F
  subst hR
  subst hnL
  intro H locs ls hP hD hS hl
  exact lv_astore hx hb hdg hl hn rfl (fun ls' hl' => kk H locs ls' hP hD hS (lv_sub hl' ks hv))

theorem g_iinc (F : FX E X cc own rm nL0) {z : Int} {x : Int32} (v : Int32) (i j : Nat) (lv' : List (Nat × Value)) (ks : List Nat) (hdg : decode cc pc = .ok (.iinc i z, 3)) (hj : lv[j]? = some (i, .int x)) (hz : x + Int32.ofInt z = v) (hn : i < nL0) (hv : lv_pick ((i, Value.int v) :: lv.filter (fun z => !(z.1 == i) && !(z.1 + 1 == i && z.2.category == 2))) ks = lv') (kk : GW E X k n ws lv' (pc + 3) st) : GW E X k n ws lv pc st := by
  obtain ⟨l, D, cI, cZ⟩ := E
  obtain ⟨p, e, R, s, m, args, below, meth, c, Q, A, nL⟩ := X
  obtain ⟨hx, hb, hml, hown, hts, hK, hA, hR, hnL, hlk⟩ := F
  subst hR
  subst hnL
  intro H locs ls hP hD hS hl
  exact lv_iinc hx hb hdg hl hj hz hn rfl (fun ls' hl' => kk H locs ls' hP hD hS (lv_sub hl' ks hv))

theorem g_iadd (F : FX E X cc own rm nL0) {x y : Int32} (hdg : decode cc pc = .ok (.iadd, 1)) (kk : GW E X k n ws lv (pc + 1) (.int (x + y) :: st)) : GW E X k n ws lv pc (.int y :: .int x :: st) := by
  obtain ⟨l, D, cI, cZ⟩ := E
  obtain ⟨p, e, R, s, m, args, below, meth, c, Q, A, nL⟩ := X
  obtain ⟨hx, hb, hml, hown, hts, hK, hA, hR, hnL, hlk⟩ := F
  subst hR
  subst hnL
  intro H locs ls hP hD hS hl
  exact lv_iadd hx hb hdg (kk H locs ls hP hD hS hl)

theorem g_isub (F : FX E X cc own rm nL0) {x y : Int32} (hdg : decode cc pc = .ok (.isub, 1)) (kk : GW E X k n ws lv (pc + 1) (.int (x - y) :: st)) : GW E X k n ws lv pc (.int y :: .int x :: st) := by
  obtain ⟨l, D, cI, cZ⟩ := E
  obtain ⟨p, e, R, s, m, args, below, meth, c, Q, A, nL⟩ := X
  obtain ⟨hx, hb, hml, hown, hts, hK, hA, hR, hnL, hlk⟩ := F
  subst hR
  subst hnL
  intro H locs ls hP hD hS hl
  exact lv_isub hx hb hdg (kk H locs ls hP hD hS hl)

theorem g_imul (F : FX E X cc own rm nL0) {x y : Int32} (hdg : decode cc pc = .ok (.imul, 1)) (kk : GW E X k n ws lv (pc + 1) (.int (x * y) :: st)) : GW E X k n ws lv pc (.int y :: .int x :: st) := by
  obtain ⟨l, D, cI, cZ⟩ := E
  obtain ⟨p, e, R, s, m, args, below, meth, c, Q, A, nL⟩ := X
  obtain ⟨hx, hb, hml, hown, hts, hK, hA, hR, hnL, hlk⟩ := F
  subst hR
  subst hnL
  intro H locs ls hP hD hS hl
  exact lv_imul hx hb hdg (kk H locs ls hP hD hS hl)

theorem g_iand (F : FX E X cc own rm nL0) {x y : Int32} (hdg : decode cc pc = .ok (.iand, 1)) (kk : GW E X k n ws lv (pc + 1) (.int (x &&& y) :: st)) : GW E X k n ws lv pc (.int y :: .int x :: st) := by
  obtain ⟨l, D, cI, cZ⟩ := E
  obtain ⟨p, e, R, s, m, args, below, meth, c, Q, A, nL⟩ := X
  obtain ⟨hx, hb, hml, hown, hts, hK, hA, hR, hnL, hlk⟩ := F
  subst hR
  subst hnL
  intro H locs ls hP hD hS hl
  exact lv_iand hx hb hdg (kk H locs ls hP hD hS hl)

theorem g_idiv (F : FX E X cc own rm nL0) {x y : Int32} (hne : ¬ y = 0) (hdg : decode cc pc = .ok (.idiv, 1)) (kk : GW E X k n ws lv (pc + 1) (.int (x / y) :: st)) : GW E X k n ws lv pc (.int y :: .int x :: st) := by
  obtain ⟨l, D, cI, cZ⟩ := E
  obtain ⟨p, e, R, s, m, args, below, meth, c, Q, A, nL⟩ := X
  obtain ⟨hx, hb, hml, hown, hts, hK, hA, hR, hnL, hlk⟩ := F
  subst hR
  subst hnL
  intro H locs ls hP hD hS hl
  exact lv_idiv hx hb hdg hne (kk H locs ls hP hD hS hl)

theorem g_irem (F : FX E X cc own rm nL0) {x y : Int32} (hne : ¬ y = 0) (hdg : decode cc pc = .ok (.irem, 1)) (kk : GW E X k n ws lv (pc + 1) (.int (x - x / y * y) :: st)) : GW E X k n ws lv pc (.int y :: .int x :: st) := by
  obtain ⟨l, D, cI, cZ⟩ := E
  obtain ⟨p, e, R, s, m, args, below, meth, c, Q, A, nL⟩ := X
  obtain ⟨hx, hb, hml, hown, hts, hK, hA, hR, hnL, hlk⟩ := F
  subst hR
  subst hnL
  intro H locs ls hP hD hS hl
  exact lv_irem hx hb hdg hne (kk H locs ls hP hD hS hl)

theorem g_ineg (F : FX E X cc own rm nL0) {x : Int32} (hdg : decode cc pc = .ok (.ineg, 1)) (kk : GW E X k n ws lv (pc + 1) (.int (-x) :: st)) : GW E X k n ws lv pc (.int x :: st) := by
  obtain ⟨l, D, cI, cZ⟩ := E
  obtain ⟨p, e, R, s, m, args, below, meth, c, Q, A, nL⟩ := X
  obtain ⟨hx, hb, hml, hown, hts, hK, hA, hR, hnL, hlk⟩ := F
  subst hR
  subst hnL
  intro H locs ls hP hD hS hl
  exact lv_ineg hx hb hdg (kk H locs ls hP hD hS hl)

theorem g_ladd (F : FX E X cc own rm nL0) {x y : Int64} (hdg : decode cc pc = .ok (.ladd, 1)) (kk : GW E X k n ws lv (pc + 1) (.long (x + y) :: st)) : GW E X k n ws lv pc (.long y :: .long x :: st) := by
  obtain ⟨l, D, cI, cZ⟩ := E
  obtain ⟨p, e, R, s, m, args, below, meth, c, Q, A, nL⟩ := X
  obtain ⟨hx, hb, hml, hown, hts, hK, hA, hR, hnL, hlk⟩ := F
  subst hR
  subst hnL
  intro H locs ls hP hD hS hl
  exact lv_ladd hx hb hdg (kk H locs ls hP hD hS hl)

theorem g_i2l (F : FX E X cc own rm nL0) {x : Int32} (v : Int64) (hv : x.toInt64 = v) (hdg : decode cc pc = .ok (.i2l, 1)) (kk : GW E X k n ws lv (pc + 1) (.long v :: st)) : GW E X k n ws lv pc (.int x :: st) := by
  obtain ⟨l, D, cI, cZ⟩ := E
  obtain ⟨p, e, R, s, m, args, below, meth, c, Q, A, nL⟩ := X
  obtain ⟨hx, hb, hml, hown, hts, hK, hA, hR, hnL, hlk⟩ := F
  subst hR
  subst hnL
  intro H locs ls hP hD hS hl
  exact lv_i2l hx hb hdg hv (kk H locs ls hP hD hS hl)

theorem g_lcmp (F : FX E X cc own rm nL0) {x y : Int64} (hdg : decode cc pc = .ok (.lcmp, 1)) (kk : GW E X k n ws lv (pc + 1) (.int (lg_cmp x y) :: st)) : GW E X k n ws lv pc (.long y :: .long x :: st) := by
  obtain ⟨l, D, cI, cZ⟩ := E
  obtain ⟨p, e, R, s, m, args, below, meth, c, Q, A, nL⟩ := X
  obtain ⟨hx, hb, hml, hown, hts, hK, hA, hR, hnL, hlk⟩ := F
  subst hR
  subst hnL
  intro H locs ls hP hD hS hl
  exact W.lcmp hx hb hdg (kk H locs ls hP hD hS hl)

theorem g_dup (F : FX E X cc own rm nL0) {v : Value} (hc : v.category = 1) (hdg : decode cc pc = .ok (.dup, 1)) (kk : GW E X k n ws lv (pc + 1) (v :: v :: st)) : GW E X k n ws lv pc (v :: st) := by
  obtain ⟨l, D, cI, cZ⟩ := E
  obtain ⟨p, e, R, s, m, args, below, meth, c, Q, A, nL⟩ := X
  obtain ⟨hx, hb, hml, hown, hts, hK, hA, hR, hnL, hlk⟩ := F
  subst hR
  subst hnL
  intro H locs ls hP hD hS hl
  exact lv_dup hx hb hdg hc (kk H locs ls hP hD hS hl)

theorem g_pop (F : FX E X cc own rm nL0) {v : Value} (hc : v.category = 1) (hdg : decode cc pc = .ok (.pop, 1)) (kk : GW E X k n ws lv (pc + 1) (st)) : GW E X k n ws lv pc (v :: st) := by
  obtain ⟨l, D, cI, cZ⟩ := E
  obtain ⟨p, e, R, s, m, args, below, meth, c, Q, A, nL⟩ := X
  obtain ⟨hx, hb, hml, hown, hts, hK, hA, hR, hnL, hlk⟩ := F
  subst hR
  subst hnL
  intro H locs ls hP hD hS hl
  exact lv_pop hx hb hdg hc (kk H locs ls hP hD hS hl)

theorem g_dup_x1 (F : FX E X cc own rm nL0) {v w : Value} (hc : v.category = 1) (hc2 : w.category = 1) (hdg : decode cc pc = .ok (.dup_x1, 1)) (kk : GW E X k n ws lv (pc + 1) (v :: w :: v :: st)) : GW E X k n ws lv pc (v :: w :: st) := by
  obtain ⟨l, D, cI, cZ⟩ := E
  obtain ⟨p, e, R, s, m, args, below, meth, c, Q, A, nL⟩ := X
  obtain ⟨hx, hb, hml, hown, hts, hK, hA, hR, hnL, hlk⟩ := F
  subst hR
  subst hnL
  intro H locs ls hP hD hS hl
  exact lv_dup_x1 hx hb hdg hc hc2 (kk H locs ls hP hD hS hl)

theorem g_dup2 (F : FX E X cc own rm nL0) {v w : Value} (hc : v.category = 1) (hc2 : w.category = 1) (hdg : decode cc pc = .ok (.dup2, 1)) (kk : GW E X k n ws lv (pc + 1) (v :: w :: v :: w :: st)) : GW E X k n ws lv pc (v :: w :: st) := by
  obtain ⟨l, D, cI, cZ⟩ := E
  obtain ⟨p, e, R, s, m, args, below, meth, c, Q, A, nL⟩ := X
  obtain ⟨hx, hb, hml, hown, hts, hK, hA, hR, hnL, hlk⟩ := F
  subst hR
  subst hnL
  intro H locs ls hP hD hS hl
  exact lv_dup2_11 hx hb hdg hc hc2 (kk H locs ls hP hD hS hl)

theorem g_goto (F : FX E X cc own rm nL0) {off : Int} (tgt : Nat) (hdg : decode cc pc = .ok (.goto off, 3)) (ht : (pc : Int) + off = (tgt : Int)) (kk : GW E X k n ws lv tgt st) : GW E X k n ws lv pc st := by
  obtain ⟨l, D, cI, cZ⟩ := E
  obtain ⟨p, e, R, s, m, args, below, meth, c, Q, A, nL⟩ := X
  obtain ⟨hx, hb, hml, hown, hts, hK, hA, hR, hnL, hlk⟩ := F
  subst hR
  subst hnL
  intro H locs ls hP hD hS hl
  exact lv_goto hx hb hdg ht (kk H locs ls hP hD hS hl)

theorem g_if_eq (F : FX E X cc own rm nL0) {x : Int32} {off : Int} (tgt : Nat) (hdg : decode cc pc = .ok (.ifCond .eq off, 3)) (ht : (pc : Int) + off = (tgt : Int)) (kt : x = 0 → GW E X k n ws lv tgt st) (kf : ¬ x = 0 → GW E X k n ws lv (pc + 3) st) : GW E X k n ws lv pc (.int x :: st) := by
  obtain ⟨l, D, cI, cZ⟩ := E
  obtain ⟨p, e, R, s, m, args, below, meth, c, Q, A, nL⟩ := X
  obtain ⟨hx, hb, hml, hown, hts, hK, hA, hR, hnL, hlk⟩ := F
  subst hR
  subst hnL
  intro H locs ls hP hD hS hl
  exact lv_if_eq hx hb hdg ht (fun h => kt h H locs ls hP hD hS hl) (fun h => kf h H locs ls hP hD hS hl)

theorem g_icmp_eq (F : FX E X cc own rm nL0) {x y : Int32} {off : Int} (tgt : Nat) (hdg : decode cc pc = .ok (.if_icmp .eq off, 3)) (ht : (pc : Int) + off = (tgt : Int)) (kt : x = y → GW E X k n ws lv tgt st) (kf : ¬ x = y → GW E X k n ws lv (pc + 3) st) : GW E X k n ws lv pc (.int y :: .int x :: st) := by
  obtain ⟨l, D, cI, cZ⟩ := E
  obtain ⟨p, e, R, s, m, args, below, meth, c, Q, A, nL⟩ := X
  obtain ⟨hx, hb, hml, hown, hts, hK, hA, hR, hnL, hlk⟩ := F
  subst hR
  subst hnL
  intro H locs ls hP hD hS hl
  exact lv_icmp_eq hx hb hdg ht (fun h => kt h H locs ls hP hD hS hl) (fun h => kf h H locs ls hP hD hS hl)

theorem n_icmp_eq (F : FX E X cc own rm nL0) {a b : Nat} {off : Int} (tgt : Nat) (hdg : decode cc pc = .ok (.if_icmp .eq off, 3)) (ht : (pc : Int) + off = (tgt : Int)) (ha : a < 2 ^ 31) (hb2 : b < 2 ^ 31) (kt : a = b → GW E X k n ws lv tgt st) (kf : a ≠ b → GW E X k n ws lv (pc + 3) st) : GW E X k n ws lv pc (.int (nI b) :: .int (nI a) :: st) := by
  have q := nI_eq ha hb2
  exact g_icmp_eq F tgt hdg ht (fun h => kt (by rw [q] at h; omega)) (fun h => kf (by rw [q] at h; omega))

theorem g_if_ne (F : FX E X cc own rm nL0) {x : Int32} {off : Int} (tgt : Nat) (hdg : decode cc pc = .ok (.ifCond .ne off, 3)) (ht : (pc : Int) + off = (tgt : Int)) (kt : ¬ x = 0 → GW E X k n ws lv tgt st) (kf : x = 0 → GW E X k n ws lv (pc + 3) st) : GW E X k n ws lv pc (.int x :: st) := by
  obtain ⟨l, D, cI, cZ⟩ := E
  obtain ⟨p, e, R, s, m, args, below, meth, c, Q, A, nL⟩ := X
  obtain ⟨hx, hb, hml, hown, hts, hK, hA, hR, hnL, hlk⟩ := F
  subst hR
  subst hnL
  intro H locs ls hP hD hS hl
  exact lv_if_ne hx hb hdg ht (fun h => kt h H locs ls hP hD hS hl) (fun h => kf h H locs ls hP hD hS hl)

theorem g_icmp_ne (F : FX E X cc own rm nL0) {x y : Int32} {off : Int} (tgt : Nat) (hdg : decode cc pc = .ok (.if_icmp .ne off, 3)) (ht : (pc : Int) + off = (tgt : Int)) (kt : ¬ x = y → GW E X k n ws lv tgt st) (kf : x = y → GW E X k n ws lv (pc + 3) st) : GW E X k n ws lv pc (.int y :: .int x :: st) := by
  obtain ⟨l, D, cI, cZ⟩ := E
  obtain ⟨p, e, R, s, m, args, below, meth, c, Q, A, nL⟩ := X
  obtain ⟨hx, hb, hml, hown, hts, hK, hA, hR, hnL, hlk⟩ := F
  subst hR
  subst hnL
  intro H locs ls hP hD hS hl
  exact lv_icmp_ne hx hb hdg ht (fun h => kt h H locs ls hP hD hS hl) (fun h => kf h H locs ls hP hD hS hl)

theorem n_icmp_ne (F : FX E X cc own rm nL0) {a b : Nat} {off : Int} (tgt : Nat) (hdg : decode cc pc = .ok (.if_icmp .ne off, 3)) (ht : (pc : Int) + off = (tgt : Int)) (ha : a < 2 ^ 31) (hb2 : b < 2 ^ 31) (kt : a ≠ b → GW E X k n ws lv tgt st) (kf : a = b → GW E X k n ws lv (pc + 3) st) : GW E X k n ws lv pc (.int (nI b) :: .int (nI a) :: st) := by
  have q := nI_eq ha hb2
  exact g_icmp_ne F tgt hdg ht (fun h => kt (by rw [q] at h; omega)) (fun h => kf (by rw [q] at h; omega))

theorem g_if_lt (F : FX E X cc own rm nL0) {x : Int32} {off : Int} (tgt : Nat) (hdg : decode cc pc = .ok (.ifCond .lt off, 3)) (ht : (pc : Int) + off = (tgt : Int)) (kt : x < 0 → GW E X k n ws lv tgt st) (kf : ¬ x < 0 → GW E X k n ws lv (pc + 3) st) : GW E X k n ws lv pc (.int x :: st) := by
  obtain ⟨l, D, cI, cZ⟩ := E
  obtain ⟨p, e, R, s, m, args, below, meth, c, Q, A, nL⟩ := X
  obtain ⟨hx, hb, hml, hown, hts, hK, hA, hR, hnL, hlk⟩ := F
  subst hR
  subst hnL
  intro H locs ls hP hD hS hl
  exact lv_if_lt hx hb hdg ht (fun h => kt h H locs ls hP hD hS hl) (fun h => kf h H locs ls hP hD hS hl)

theorem g_icmp_lt (F : FX E X cc own rm nL0) {x y : Int32} {off : Int} (tgt : Nat) (hdg : decode cc pc = .ok (.if_icmp .lt off, 3)) (ht : (pc : Int) + off = (tgt : Int)) (kt : x < y → GW E X k n ws lv tgt st) (kf : ¬ x < y → GW E X k n ws lv (pc + 3) st) : GW E X k n ws lv pc (.int y :: .int x :: st) := by
  obtain ⟨l, D, cI, cZ⟩ := E
  obtain ⟨p, e, R, s, m, args, below, meth, c, Q, A, nL⟩ := X
  obtain ⟨hx, hb, hml, hown, hts, hK, hA, hR, hnL, hlk⟩ := F
  subst hR
  subst hnL
  intro H locs ls hP hD hS hl
  exact lv_icmp_lt hx hb hdg ht (fun h => kt h H locs ls hP hD hS hl) (fun h => kf h H locs ls hP hD hS hl)

theorem n_icmp_lt (F : FX E X cc own rm nL0) {a b : Nat} {off : Int} (tgt : Nat) (hdg : decode cc pc = .ok (.if_icmp .lt off, 3)) (ht : (pc : Int) + off = (tgt : Int)) (ha : a < 2 ^ 31) (hb2 : b < 2 ^ 31) (kt : a < b → GW E X k n ws lv tgt st) (kf : b ≤ a → GW E X k n ws lv (pc + 3) st) : GW E X k n ws lv pc (.int (nI b) :: .int (nI a) :: st) := by
  have q := nI_ltI ha hb2
  exact g_icmp_lt F tgt hdg ht (fun h => kt (by rw [q] at h; omega)) (fun h => kf (by rw [q] at h; omega))

theorem g_if_ge (F : FX E X cc own rm nL0) {x : Int32} {off : Int} (tgt : Nat) (hdg : decode cc pc = .ok (.ifCond .ge off, 3)) (ht : (pc : Int) + off = (tgt : Int)) (kt : 0 ≤ x → GW E X k n ws lv tgt st) (kf : ¬ 0 ≤ x → GW E X k n ws lv (pc + 3) st) : GW E X k n ws lv pc (.int x :: st) := by
  obtain ⟨l, D, cI, cZ⟩ := E
  obtain ⟨p, e, R, s, m, args, below, meth, c, Q, A, nL⟩ := X
  obtain ⟨hx, hb, hml, hown, hts, hK, hA, hR, hnL, hlk⟩ := F
  subst hR
  subst hnL
  intro H locs ls hP hD hS hl
  exact lv_if_ge hx hb hdg ht (fun h => kt h H locs ls hP hD hS hl) (fun h => kf h H locs ls hP hD hS hl)

theorem g_icmp_ge (F : FX E X cc own rm nL0) {x y : Int32} {off : Int} (tgt : Nat) (hdg : decode cc pc = .ok (.if_icmp .ge off, 3)) (ht : (pc : Int) + off = (tgt : Int)) (kt : y ≤ x → GW E X k n ws lv tgt st) (kf : ¬ y ≤ x → GW E X k n ws lv (pc + 3) st) : GW E X k n ws lv pc (.int y :: .int x :: st) := by
  obtain ⟨l, D, cI, cZ⟩ := E
  obtain ⟨p, e, R, s, m, args, below, meth, c, Q, A, nL⟩ := X
  obtain ⟨hx, hb, hml, hown, hts, hK, hA, hR, hnL, hlk⟩ := F
  subst hR
  subst hnL
  intro H locs ls hP hD hS hl
  exact lv_icmp_ge hx hb hdg ht (fun h => kt h H locs ls hP hD hS hl) (fun h => kf h H locs ls hP hD hS hl)

theorem n_icmp_ge (F : FX E X cc own rm nL0) {a b : Nat} {off : Int} (tgt : Nat) (hdg : decode cc pc = .ok (.if_icmp .ge off, 3)) (ht : (pc : Int) + off = (tgt : Int)) (ha : a < 2 ^ 31) (hb2 : b < 2 ^ 31) (kt : b ≤ a → GW E X k n ws lv tgt st) (kf : a < b → GW E X k n ws lv (pc + 3) st) : GW E X k n ws lv pc (.int (nI b) :: .int (nI a) :: st) := by
  have q := nI_leI hb2 ha
  exact g_icmp_ge F tgt hdg ht (fun h => kt (by rw [q] at h; omega)) (fun h => kf (by rw [q] at h; omega))

theorem g_if_gt (F : FX E X cc own rm nL0) {x : Int32} {off : Int} (tgt : Nat) (hdg : decode cc pc = .ok (.ifCond .gt off, 3)) (ht : (pc : Int) + off = (tgt : Int)) (kt : 0 < x → GW E X k n ws lv tgt st) (kf : ¬ 0 < x → GW E X k n ws lv (pc + 3) st) : GW E X k n ws lv pc (.int x :: st) := by
  obtain ⟨l, D, cI, cZ⟩ := E
  obtain ⟨p, e, R, s, m, args, below, meth, c, Q, A, nL⟩ := X
  obtain ⟨hx, hb, hml, hown, hts, hK, hA, hR, hnL, hlk⟩ := F
  subst hR
  subst hnL
  intro H locs ls hP hD hS hl
  exact lv_if_gt hx hb hdg ht (fun h => kt h H locs ls hP hD hS hl) (fun h => kf h H locs ls hP hD hS hl)

theorem g_icmp_gt (F : FX E X cc own rm nL0) {x y : Int32} {off : Int} (tgt : Nat) (hdg : decode cc pc = .ok (.if_icmp .gt off, 3)) (ht : (pc : Int) + off = (tgt : Int)) (kt : y < x → GW E X k n ws lv tgt st) (kf : ¬ y < x → GW E X k n ws lv (pc + 3) st) : GW E X k n ws lv pc (.int y :: .int x :: st) := by
  obtain ⟨l, D, cI, cZ⟩ := E
  obtain ⟨p, e, R, s, m, args, below, meth, c, Q, A, nL⟩ := X
  obtain ⟨hx, hb, hml, hown, hts, hK, hA, hR, hnL, hlk⟩ := F
  subst hR
  subst hnL
  intro H locs ls hP hD hS hl
  exact lv_icmp_gt hx hb hdg ht (fun h => kt h H locs ls hP hD hS hl) (fun h => kf h H locs ls hP hD hS hl)

theorem n_icmp_gt (F : FX E X cc own rm nL0) {a b : Nat} {off : Int} (tgt : Nat) (hdg : decode cc pc = .ok (.if_icmp .gt off, 3)) (ht : (pc : Int) + off = (tgt : Int)) (ha : a < 2 ^ 31) (hb2 : b < 2 ^ 31) (kt : b < a → GW E X k n ws lv tgt st) (kf : a ≤ b → GW E X k n ws lv (pc + 3) st) : GW E X k n ws lv pc (.int (nI b) :: .int (nI a) :: st) := by
  have q := nI_ltI hb2 ha
  exact g_icmp_gt F tgt hdg ht (fun h => kt (by rw [q] at h; omega)) (fun h => kf (by rw [q] at h; omega))

theorem g_if_le (F : FX E X cc own rm nL0) {x : Int32} {off : Int} (tgt : Nat) (hdg : decode cc pc = .ok (.ifCond .le off, 3)) (ht : (pc : Int) + off = (tgt : Int)) (kt : x ≤ 0 → GW E X k n ws lv tgt st) (kf : ¬ x ≤ 0 → GW E X k n ws lv (pc + 3) st) : GW E X k n ws lv pc (.int x :: st) := by
  obtain ⟨l, D, cI, cZ⟩ := E
  obtain ⟨p, e, R, s, m, args, below, meth, c, Q, A, nL⟩ := X
  obtain ⟨hx, hb, hml, hown, hts, hK, hA, hR, hnL, hlk⟩ := F
  subst hR
  subst hnL
  intro H locs ls hP hD hS hl
  exact lv_if_le hx hb hdg ht (fun h => kt h H locs ls hP hD hS hl) (fun h => kf h H locs ls hP hD hS hl)

theorem g_icmp_le (F : FX E X cc own rm nL0) {x y : Int32} {off : Int} (tgt : Nat) (hdg : decode cc pc = .ok (.if_icmp .le off, 3)) (ht : (pc : Int) + off = (tgt : Int)) (kt : x ≤ y → GW E X k n ws lv tgt st) (kf : ¬ x ≤ y → GW E X k n ws lv (pc + 3) st) : GW E X k n ws lv pc (.int y :: .int x :: st) := by
  obtain ⟨l, D, cI, cZ⟩ := E
  obtain ⟨p, e, R, s, m, args, below, meth, c, Q, A, nL⟩ := X
  obtain ⟨hx, hb, hml, hown, hts, hK, hA, hR, hnL, hlk⟩ := F
  subst hR
  subst hnL
  intro H locs ls hP hD hS hl
  exact lv_icmp_le hx hb hdg ht (fun h => kt h H locs ls hP hD hS hl) (fun h => kf h H locs ls hP hD hS hl)

theorem n_icmp_le (F : FX E X cc own rm nL0) {a b : Nat} {off : Int} (tgt : Nat) (hdg : decode cc pc = .ok (.if_icmp .le off, 3)) (ht : (pc : Int) + off = (tgt : Int)) (ha : a < 2 ^ 31) (hb2 : b < 2 ^ 31) (kt : a ≤ b → GW E X k n ws lv tgt st) (kf : b < a → GW E X k n ws lv (pc + 3) st) : GW E X k n ws lv pc (.int (nI b) :: .int (nI a) :: st) := by
  have q := nI_leI ha hb2
  exact g_icmp_le F tgt hdg ht (fun h => kt (by rw [q] at h; omega)) (fun h => kf (by rw [q] at h; omega))

theorem n_add (F : FX E X cc own rm nL0) {a b : Nat}  (hdg : decode cc pc = .ok (.iadd, 1)) (kk : GW E X k n ws lv (pc + 1) (.int (nI (a + b)) :: st)) : GW E X k n ws lv pc (.int (nI b) :: .int (nI a) :: st) := by
  refine g_iadd F hdg ?_
  rw [nI_add a b]
  exact kk

theorem n_sub (F : FX E X cc own rm nL0) {a b : Nat} (h : b ≤ a) (hdg : decode cc pc = .ok (.isub, 1)) (kk : GW E X k n ws lv (pc + 1) (.int (nI (a - b)) :: st)) : GW E X k n ws lv pc (.int (nI b) :: .int (nI a) :: st) := by
  refine g_isub F hdg ?_
  rw [pk_sub h]
  exact kk

theorem n_mul (F : FX E X cc own rm nL0) {a b : Nat}  (hdg : decode cc pc = .ok (.imul, 1)) (kk : GW E X k n ws lv (pc + 1) (.int (nI (a * b)) :: st)) : GW E X k n ws lv pc (.int (nI b) :: .int (nI a) :: st) := by
  refine g_imul F hdg ?_
  rw [pk_mul a b]
  exact kk

theorem n_div (F : FX E X cc own rm nL0) {a b : Nat} (ha : a < 2 ^ 31) (h0 : 0 < b) (hb2 : b < 2 ^ 31) (hdg : decode cc pc = .ok (.idiv, 1)) (kk : GW E X k n ws lv (pc + 1) (.int (nI (a / b)) :: st)) : GW E X k n ws lv pc (.int (nI b) :: .int (nI a) :: st) := by
  refine g_idiv F (nI_ne0 h0 hb2) hdg ?_
  rw [pk_div ha h0 hb2]
  exact kk

theorem n_rem (F : FX E X cc own rm nL0) {a b : Nat} (ha : a < 2 ^ 31) (h0 : 0 < b) (hb2 : b < 2 ^ 31) (hdg : decode cc pc = .ok (.irem, 1)) (kk : GW E X k n ws lv (pc + 1) (.int (nI (a % b)) :: st)) : GW E X k n ws lv pc (.int (nI b) :: .int (nI a) :: st) := by
  refine g_irem F (nI_ne0 h0 hb2) hdg ?_
  rw [pk_rem ha h0 hb2]
  exact kk

theorem n_inc (a : Nat) : nI a + Int32.ofInt 1 = nI (a + 1) := nI_1 a
theorem n_dec (a : Nat) : nI (a + 1) + Int32.ofInt (-1) = nI a := pk_m1 a
/-- the top of the stack under another name -/
theorem g_top (x : Int32) {y : Int32} (h : y = x) (kk : GW E X k n ws lv pc (.int x :: st)) : GW E X k n ws lv pc (.int y :: st) := h ▸ kk
theorem g_topl (x : Int64) {y : Int64} (h : y = x) (kk : GW E X k n ws lv pc (.long x :: st)) : GW E X k n ws lv pc (.long y :: st) := h ▸ kk
theorem g_ws (ws' : va_W) (h : ws = ws') (kk : GW E X k n ws' lv pc st) : GW E X k n ws lv pc st := h ▸ kk
theorem g_lv (ks : List Nat) (lv' : List (Nat × Value)) (h : lv_pick lv ks = lv') (kk : GW E X k n ws lv' pc st) : GW E X k n ws lv pc st := by
  obtain ⟨l, D, cI, cZ⟩ := E
  obtain ⟨p, e, R, s, m, args, below, meth, c, Q, A, nL⟩ := X
  intro H locs ls hP hD hS hl
  exact kk H locs ls hP hD hS (lv_sub hl ks h)

theorem g_iald (F : FX E X cc own rm nL0) {a N j : Nat} {f : Nat → Int32} (q0 : Nat) (hq : ws[q0]? = some (ia E a N f)) (hj : j < N) (hN : N < 2 ^ 31) (hdg : decode cc pc = .ok (.iaload, 1)) (kk : GW E X k n ws lv (pc + 1) (.int (f j) :: st)) : GW E X k n ws lv pc (.int (nI j) :: .ref a :: st) := by
  obtain ⟨l, D, cI, cZ⟩ := E
  obtain ⟨p, e, R, s, m, args, below, meth, c, Q, A, nL⟩ := X
  obtain ⟨hx, hb, hml, hown, hts, hK, hA, hR, hnL, hlk⟩ := F
  subst hR
  subst hnL
  intro H locs ls hP hD hS hl
  exact va_iald hx hb hK hP q0 0 hq rfl (vp_in_nI hj hN) hdg (by rw [nI_clamp (Nat.lt_trans hj hN)]; exact kk H locs ls hP hD hS hl)

theorem g_iast (F : FX E X cc own rm nL0) {a N j : Nat} {f : Nat → Int32} {x : Int32} (q0 : Nat) (ws' : va_W) (hq : ws[q0]? = some (ia E a N f)) (hj : j < N) (hN : N < 2 ^ 31) (hw : ws.set q0 (ia E a N (upd f j x)) = ws') (hdg : decode cc pc = .ok (.iastore, 1)) (kk : GW E X k n ws' lv (pc + 1) st) : GW E X k n ws lv pc (.int x :: .int (nI j) :: .ref a :: st) := by
  subst hw
  obtain ⟨l, D, cI, cZ⟩ := E
  obtain ⟨p, e, R, s, m, args, below, meth, c, Q, A, nL⟩ := X
  obtain ⟨hx, hb, hml, hown, hts, hK, hA, hR, hnL, hlk⟩ := F
  subst hR
  subst hnL
  intro H locs ls hP hD hS hl
  refine va_iast hx hb hK hP hD hS q0 0 hq rfl (vp_in_nI hj hN) hdg (fun H1 locs1 hP1 hD1 hS1 => ?_)
  rw [nI_clamp (Nat.lt_trans hj hN)] at hP1 hD1
  exact kk H1 locs1 ls hP1 hD1 hS1 hl

theorem g_zald (F : FX E X cc own rm nL0) {a N j : Nat} {f : Nat → Int32} (q0 : Nat) (hq : ws[q0]? = some (za E a N f)) (hj : j < N) (hN : N < 2 ^ 31) (hdg : decode cc pc = .ok (.baload, 1)) (kk : GW E X k n ws lv (pc + 1) (.int (f j) :: st)) : GW E X k n ws lv pc (.int (nI j) :: .ref a :: st) := by
  obtain ⟨l, D, cI, cZ⟩ := E
  obtain ⟨p, e, R, s, m, args, below, meth, c, Q, A, nL⟩ := X
  obtain ⟨hx, hb, hml, hown, hts, hK, hA, hR, hnL, hlk⟩ := F
  subst hR
  subst hnL
  intro H locs ls hP hD hS hl
  exact va_zald hx hb hK hP q0 1 hq rfl (vp_in_nI hj hN) hdg (by rw [nI_clamp (Nat.lt_trans hj hN)]; exact kk H locs ls hP hD hS hl)

theorem g_zast (F : FX E X cc own rm nL0) {a N j : Nat} {f : Nat → Int32} {x : Int32} (q0 : Nat) (ws' : va_W) (hq : ws[q0]? = some (za E a N f)) (hj : j < N) (hN : N < 2 ^ 31) (hz : x = 0 ∨ x = 1) (hw : ws.set q0 (za E a N (upd f j x)) = ws') (hdg : decode cc pc = .ok (.bastore, 1)) (kk : GW E X k n ws' lv (pc + 1) st) : GW E X k n ws lv pc (.int x :: .int (nI j) :: .ref a :: st) := by
  subst hw
  obtain ⟨l, D, cI, cZ⟩ := E
  obtain ⟨p, e, R, s, m, args, below, meth, c, Q, A, nL⟩ := X
  obtain ⟨hx, hb, hml, hown, hts, hK, hA, hR, hnL, hlk⟩ := F
  subst hR
  subst hnL
  intro H locs ls hP hD hS hl
  have hnz : vp_nar .boolean x = x := by rcases hz with rfl | rfl <;> rfl
  refine va_zast hx hb hK hP hD hS q0 1 hq rfl (vp_in_nI hj hN) hdg (fun H1 locs1 hP1 hD1 hS1 => ?_)
  rw [nI_clamp (Nat.lt_trans hj hN)] at hP1 hD1
  rw [hnz] at hP1 hD1
  exact kk H1 locs1 ls hP1 hD1 hS1 hl

theorem g_alen (F : FX E X cc own rm nL0) {a N : Nat} {f : Nat → Int32} (q0 : Nat) (hq : ws[q0]? = some (ia E a N f)) (hdg : decode cc pc = .ok (.arraylength, 1)) (kk : GW E X k n ws lv (pc + 1) (.int (nI N) :: st)) : GW E X k n ws lv pc (.ref a :: st) := by
  obtain ⟨l, D, cI, cZ⟩ := E
  obtain ⟨p, e, R, s, m, args, below, meth, c, Q, A, nL⟩ := X
  obtain ⟨hx, hb, hml, hown, hts, hK, hA, hR, hnL, hlk⟩ := F
  subst hR
  subst hnL
  intro H locs ls hP hD hS hl
  exact va_alen hx hb hK hP q0 0 hq (ty := .int) rfl rfl hdg (kk H locs ls hP hD hS hl)
theorem g_get (F : FX E X cc own rm nL0) {C : String} {T : u_T} {N a index : Nat} {fs : List Value} {v : Value} (ci q0 kf : Nat) (hin : ∀ w ∈ u_ws C T N, w ∈ lw_g) (hc : vwCl[ci]? = some (C, T, N)) (hq : ws[q0]? = some (ob a ci fs)) (hk : kf < N) (hlink : Cond.fieldLink own index (T kf).1 (T kf).2.1 (T kf).2.2.1 ∈ lw_g) (hv : fs[kf]? = some v) (hdg : decode cc pc = .ok (.getfield index, 3)) (kk : GW E X k n ws lv (pc + 3) (v :: st)) : GW E X k n ws lv pc (.ref a :: st) := by
  obtain ⟨l, D, cI, cZ⟩ := E
  obtain ⟨p, e, R, s, m, args, below, meth, c, Q, A, nL⟩ := X
  obtain ⟨hx, hb, hml, hown, hts, hK, hA, hR, hnL, hlk⟩ := F
  subst hR
  subst hnL
  intro H locs ls hP hD hS hl
  exact va_get hx hb hts hin hown hK hP q0 hq hc kf hk (hts _ hlink) (fun _ h9 => h9) hv hdg (kk H locs ls hP hD hS hl)
theorem g_put (F : FX E X cc own rm nL0) {C : String} {T : u_T} {N a index : Nat} {fs : List Value} {v : Value} {ty0 : Nat → FieldType} {ty : FieldType} (ci q0 kf : Nat) (ws' : va_W) (hin : ∀ w ∈ u_ws C T N, w ∈ lw_g) (hty : ∀ k, k < N → parseFieldDescriptor (T k).2.2.1 = some (ty0 k)) (hnm : ∀ a, a < N → ∀ b, b < N → a ≠ b → (T a).2.1 ≠ (T b).2.1) (hc : vwCl[ci]? = some (C, T, N)) (hq : ws[q0]? = some (ob a ci fs)) (hk : kf < N) (hlink : Cond.fieldLink own index (T kf).1 (T kf).2.1 (T kf).2.2.1 ∈ lw_g) (hfin : (T kf).2.2.2 = false) (hd : ty0 kf = ty) (hn : narrow ty v = v) (hfit : fits ty v = true) (hlen : kf < fs.length) (hw : ws.set q0 (ob a ci (fs.set kf v)) = ws') (hdg : decode cc pc = .ok (.putfield index, 3)) (kk : GW E X k n ws' lv (pc + 3) st) : GW E X k n ws lv pc (v :: .ref a :: st) := by
  subst hw
  obtain ⟨l, D, cI, cZ⟩ := E
  obtain ⟨p, e, R, s, m, args, below, meth, c, Q, A, nL⟩ := X
  obtain ⟨hx, hb, hml, hown, hts, hK, hA, hR, hnL, hlk⟩ := F
  subst hR
  subst hnL
  intro H locs ls hP hD hS hl
  exact va_put hx hb hts hin ty0 hty hnm hown hK hP hD hS q0 hq hc kf hk (hts _ hlink) (fun _ h9 => h9) hfin (by rw [← hd]; exact hty kf hk) hn hfit hlen hdg (fun H1 locs1 hP1 hD1 hS1 => kk H1 locs1 ls hP1 hD1 hS1 hl)

theorem g_mmax (F : FX E X cc own rm nL0) {x y : Int32} {index : Nat} (hlink : Cond.methodLink own index Lib.Math.max.name ∈ lw_g) (hfr : 1 ≤ rm.frames) (hlo : (st.map fun v => v.category).sum + 13 ≤ rm.locals) (hc : k ≤ rm.cells) (hs : n ≤ rm.slots) (hdg : decode cc pc = .ok (.invokestatic index, 3)) (kk : GW E X k n ws lv (pc + 3) (.int (if x < y then y else x) :: st)) : GW E X k n ws lv pc (.int y :: .int x :: st) := by
  obtain ⟨l, D, cI, cZ⟩ := E
  obtain ⟨p, e, R, s, m, args, below, meth, c, Q, A, nL⟩ := X
  obtain ⟨hx, hb, hml, hown, hts, hK, hA, hR, hnL, hlk⟩ := F
  subst hR
  subst hnL
  intro H locs ls hP hD hS hl
  exact va_mmax hx hb (hml.trans hl.1.symm) hown (hts _ hlink) (hts _ tw_sm_Lib_Math_max_name) (hts _ tw_in_J9) (hts _ tw_co_Lib_Math_max_name) hfr hlo hc hs hdg (kk H locs ls hP hD hS hl)

theorem g_mmin (F : FX E X cc own rm nL0) {x y : Int32} {index : Nat} (hlink : Cond.methodLink own index Lib.Math.min.name ∈ lw_g) (hfr : 1 ≤ rm.frames) (hlo : (st.map fun v => v.category).sum + 13 ≤ rm.locals) (hc : k ≤ rm.cells) (hs : n ≤ rm.slots) (hdg : decode cc pc = .ok (.invokestatic index, 3)) (kk : GW E X k n ws lv (pc + 3) (.int (if y < x then y else x) :: st)) : GW E X k n ws lv pc (.int y :: .int x :: st) := by
  obtain ⟨l, D, cI, cZ⟩ := E
  obtain ⟨p, e, R, s, m, args, below, meth, c, Q, A, nL⟩ := X
  obtain ⟨hx, hb, hml, hown, hts, hK, hA, hR, hnL, hlk⟩ := F
  subst hR
  subst hnL
  intro H locs ls hP hD hS hl
  exact va_mmin hx hb (hml.trans hl.1.symm) hown (hts _ hlink) (hts _ tw_sm_Lib_Math_min_name) (hts _ tw_in_J9) (hts _ tw_co_Lib_Math_min_name) hfr hlo hc hs hdg (kk H locs ls hP hD hS hl)

theorem g_mabs (F : FX E X cc own rm nL0) {x : Int32} {index : Nat} (hlink : Cond.methodLink own index Lib.Math.abs.name ∈ lw_g) (hfr : 1 ≤ rm.frames) (hlo : (st.map fun v => v.category).sum + 13 ≤ rm.locals) (hc : k ≤ rm.cells) (hs : n ≤ rm.slots) (hdg : decode cc pc = .ok (.invokestatic index, 3)) (kk : GW E X k n ws lv (pc + 3) (.int (if 0 ≤ x then x else 0 - x) :: st)) : GW E X k n ws lv pc (.int x :: st) := by
  obtain ⟨l, D, cI, cZ⟩ := E
  obtain ⟨p, e, R, s, m, args, below, meth, c, Q, A, nL⟩ := X
  obtain ⟨hx, hb, hml, hown, hts, hK, hA, hR, hnL, hlk⟩ := F
  subst hR
  subst hnL
  intro H locs ls hP hD hS hl
  exact va_mabs hx hb (hml.trans hl.1.symm) hown (hts _ hlink) (hts _ tw_sm_Lib_Math_abs_name) (hts _ tw_in_J9) (hts _ tw_co_Lib_Math_abs_name) hfr hlo hc hs hdg (kk H locs ls hP hD hS hl)
theorem n_max (a b : Nat) (ha : a < 2 ^ 31) (hb : b < 2 ^ 31) : (if nI a < nI b then nI b else nI a) = nI (Nat.max a b) := by
  simp only [nI_ltI ha hb]
  split
  · rw [show Nat.max a b = b from Nat.max_eq_right (by omega)]
  · rw [show Nat.max a b = a from Nat.max_eq_left (by omega)]
theorem n_min (a b : Nat) (ha : a < 2 ^ 31) (hb : b < 2 ^ 31) : (if nI b < nI a then nI b else nI a) = nI (Nat.min a b) := by
  simp only [nI_ltI hb ha]
  split
  · rw [show Nat.min a b = b from Nat.min_eq_right (by omega)]
  · rw [show Nat.min a b = a from Nat.min_eq_left (by omega)]

theorem n_if_eq (F : FX E X cc own rm nL0) {a : Nat} {off : Int} (tgt : Nat) (hdg : decode cc pc = .ok (.ifCond .eq off, 3)) (ht : (pc : Int) + off = (tgt : Int)) (ha : a < 2 ^ 31) (kt : a = 0 → GW E X k n ws lv tgt st) (kf : a ≠ 0 → GW E X k n ws lv (pc + 3) st) : GW E X k n ws lv pc (.int (nI a) :: st) := by
  have q := nI_eq ha (by decide : 0 < 2 ^ 31)
  rw [nI_0] at q
  exact g_if_eq F tgt hdg ht (fun h => kt (q.mp h)) (fun h => kf (fun z => h (q.mpr z)))

theorem n_if_ne (F : FX E X cc own rm nL0) {a : Nat} {off : Int} (tgt : Nat) (hdg : decode cc pc = .ok (.ifCond .ne off, 3)) (ht : (pc : Int) + off = (tgt : Int)) (ha : a < 2 ^ 31) (kt : a ≠ 0 → GW E X k n ws lv tgt st) (kf : a = 0 → GW E X k n ws lv (pc + 3) st) : GW E X k n ws lv pc (.int (nI a) :: st) := by
  have q := nI_eq ha (by decide : 0 < 2 ^ 31)
  rw [nI_0] at q
  exact g_if_ne F tgt hdg ht (fun h => kt (fun z => h (q.mpr z))) (fun h => kf (q.mp h))

theorem n_if_lt (F : FX E X cc own rm nL0) {a : Nat} {off : Int} (tgt : Nat) (hdg : decode cc pc = .ok (.ifCond .lt off, 3)) (ht : (pc : Int) + off = (tgt : Int)) (ha : a < 2 ^ 31) (kt : False → GW E X k n ws lv tgt st) (kf : True → GW E X k n ws lv (pc + 3) st) : GW E X k n ws lv pc (.int (nI a) :: st) := by
  have q := nI_ltI ha (by decide : 0 < 2 ^ 31)
  rw [nI_0] at q
  exact g_if_lt F tgt hdg ht (fun h => kt (absurd (q.mp h) (Nat.not_lt_zero a))) (fun h => kf (trivial))

theorem n_if_ge (F : FX E X cc own rm nL0) {a : Nat} {off : Int} (tgt : Nat) (hdg : decode cc pc = .ok (.ifCond .ge off, 3)) (ht : (pc : Int) + off = (tgt : Int)) (ha : a < 2 ^ 31) (kt : True → GW E X k n ws lv tgt st) (kf : False → GW E X k n ws lv (pc + 3) st) : GW E X k n ws lv pc (.int (nI a) :: st) := by
  have q := nI_leI (by decide : 0 < 2 ^ 31) ha
  rw [nI_0] at q
  exact g_if_ge F tgt hdg ht (fun h => kt (trivial)) (fun h => kf (h (q.mpr (Nat.zero_le a))))

theorem n_if_gt (F : FX E X cc own rm nL0) {a : Nat} {off : Int} (tgt : Nat) (hdg : decode cc pc = .ok (.ifCond .gt off, 3)) (ht : (pc : Int) + off = (tgt : Int)) (ha : a < 2 ^ 31) (kt : 0 < a → GW E X k n ws lv tgt st) (kf : a = 0 → GW E X k n ws lv (pc + 3) st) : GW E X k n ws lv pc (.int (nI a) :: st) := by
  have q := nI_ltI (by decide : 0 < 2 ^ 31) ha
  rw [nI_0] at q
  exact g_if_gt F tgt hdg ht (fun h => kt (q.mp h)) (fun h => kf (Nat.eq_zero_of_not_pos (fun z => h (q.mpr z))))

theorem n_if_le (F : FX E X cc own rm nL0) {a : Nat} {off : Int} (tgt : Nat) (hdg : decode cc pc = .ok (.ifCond .le off, 3)) (ht : (pc : Int) + off = (tgt : Int)) (ha : a < 2 ^ 31) (kt : a = 0 → GW E X k n ws lv tgt st) (kf : 0 < a → GW E X k n ws lv (pc + 3) st) : GW E X k n ws lv pc (.int (nI a) :: st) := by
  have q := nI_leI ha (by decide : 0 < 2 ^ 31)
  rw [nI_0] at q
  exact g_if_le F tgt hdg ht (fun h => kt (Nat.eq_zero_of_le_zero (q.mp h))) (fun h => kf (Nat.pos_of_ne_zero (fun z => h (q.mpr (Nat.le_of_eq z)))))

theorem g_tabIn (F : FX E X cc own rm nL0) {x : Int32} {dflt lo hi : Int} {offs : Array Int} {len : Nat} (tgt : Nat) (off : Int) (hdg : decode cc pc = .ok (.tableswitch dflt lo hi offs, len)) (h1 : ¬ x.toInt < lo) (h2 : ¬ hi < x.toInt) (ho : offs[(x.toInt - lo).toNat]? = some off) (ht : (pc : Int) + off = (tgt : Int)) (kk : GW E X k n ws lv tgt st) : GW E X k n ws lv pc (.int x :: st) := by
  obtain ⟨l, D, cI, cZ⟩ := E
  obtain ⟨p, e, R, s, m, args, below, meth, c, Q, A, nL⟩ := X
  obtain ⟨hx, hb, hml, hown, hts, hK, hA, hR, hnL, hlk⟩ := F
  subst hR
  subst hnL
  intro H locs ls hP hD hS hl
  exact lv_tableIn hx hb hdg h1 h2 ho ht (kk H locs ls hP hD hS hl)
theorem g_tabOut (F : FX E X cc own rm nL0) {x : Int32} {dflt lo hi : Int} {offs : Array Int} {len : Nat} (tgt : Nat) (hdg : decode cc pc = .ok (.tableswitch dflt lo hi offs, len)) (h : x.toInt < lo ∨ hi < x.toInt) (ht : (pc : Int) + dflt = (tgt : Int)) (kk : GW E X k n ws lv tgt st) : GW E X k n ws lv pc (.int x :: st) := by
  obtain ⟨l, D, cI, cZ⟩ := E
  obtain ⟨p, e, R, s, m, args, below, meth, c, Q, A, nL⟩ := X
  obtain ⟨hx, hb, hml, hown, hts, hK, hA, hR, hnL, hlk⟩ := F
  subst hR
  subst hnL
  intro H locs ls hP hD hS hl
  exact lv_tableOut hx hb hdg h ht (kk H locs ls hP hD hS hl)

theorem g_cVi (F : FX E X cc own rm nL0) {S : Type} {post : Int32 → S → Prop} {w1 : S → va_W} {y : MethodName} {bytes : ByteArray} {maxL index : Nat} {ret : Option FieldType} {rmc : Room} {C : String} {T : u_T} {N b : Nat} {fs : List Value} {As : List Value} {wc wr : va_W} (rest : List Value)
    (hM : CTi E y (wq y bytes maxL ret) rmc (.ref b :: As) wc post w1) (hG : GoodIn lw_g (wsV own index C y (wq y bytes maxL ret))) (na : Nat) (hna : As.length = na) (hd : y.cls = C ∧ y.cls ≠ "java/lang/invoke/MethodHandle" ∧ y.cls ≠ "java/lang/invoke/VarHandle" ∧ (parseMethodDescriptor y.desc).map (fun d => d.parameters.length) = some na) (hR : rmc.cells = 0 ∧ rmc.slots = 0 ∧ rmc.frames + 1 ≤ rm.frames ∧ 8 + (maxL + 11) + rmc.locals ≤ rm.locals ∧ k ≤ rm.cells ∧ n ≤ rm.slots) (ci q0 : Nat) (hc : vwCl[ci]? = some (C, T, N)) (hq : wc[q0]? = some (ob b ci fs)) (isC isR perm : List Nat) (wn : S → va_W) (hC : isC.map (fun i => ws[i]?) = wc.map some) (hRr : isR.map (fun i => ws[i]?) = wr.map some) (hn : (va_nd isC && va_nd isR && va_nd perm && isR.all (fun i => !isC.contains i)) = true) (hperm : ∀ u, perm.map (fun i => (wr ++ w1 u)[i]?) = (wn u).map some) (hs : st = As.reverse ++ .ref b :: rest) (hst : (rest.map fun v => v.category).sum ≤ 8) (hdg : decode cc pc = .ok (.invokevirtual index, 3))
    (kk : ∀ (r : Int32) (u : S), post r u → GW E X k n (wn u) lv (pc + 3) (.int r :: rest)) : GW E X k n ws lv pc st := by
  subst hs
  subst hna
  simp only [Bool.and_eq_true] at hn
  obtain ⟨⟨⟨hn1, hn2⟩, hn3⟩, hn4⟩ := hn
  have hdis : ∀ i ∈ isR, i ∉ isC := fun i h z => by
    have := List.all_eq_true.mp hn4 i h
    simp at this
    exact this z
  obtain ⟨l, D, cI, cZ⟩ := E
  obtain ⟨p, e, R, s, m, args, below, meth, c, Q, A, nL⟩ := X
  obtain ⟨hx, hb, hml, hown, hts, hK, hA, hR, hnL, hlk⟩ := F
  subst hR
  subst hnL
  intro H locs ls hP hD hS hl
  have hFc := va_free (wc := wc) hD hS hA isC hC
  have hPc : va_P D vwCl wc H := hP.sub isC (fm_of_map hC)
  have hDc := hD.sub isC hn1 hC
  have hpre : ∀ U : State, U.heap = H → s.WarmedH U.vm → PcW (l, D, cI, cZ) (.ref b :: As) wc H.size (.ref b :: As).toArray U := fun U hU hW => ⟨rfl, by rw [hU], by rw [hU]; exact hPc, va_K.moved hW.alike hK, hDc.weaken (fun _ _ _ _ => trivial)⟩
  refine va_calli (va_runV (As := As) (rest := rest) ⟨hx, hb, hml, hown, hts⟩ (hM H.size) (cwV As.length hts hG rfl hR.1 hR.2.1 hd ⟨hR.2.2.1, hR.2.2.2.1⟩) ⟨PcW.blind, va_recv hK hPc (ci := ci) (q0 := q0) hc hq, hpre⟩ rfl rfl hl.1 rfl (lv_room hst) hdg ⟨hR.2.2.2.2.1, hR.2.2.2.2.2⟩) hS (fun q _ h => hFc q h) hFc (fun r u t H1 locs1 ht hvm hw hB hz1 hk1 hS1 => ?_)
  obtain ⟨hP1, hK1, hD1⟩ := hB
  rw [ht] at hP1
  obtain ⟨hPn, hDn⟩ := cb_join hP hD isC isR perm hC hRr hn2 hdis hk1 hFc hP1 hD1 hn3 (hperm u)
  exact kk r u hw H1 locs1 ls hPn hDn hS1 hl

theorem g_cVl (F : FX E X cc own rm nL0) {S : Type} {post : Int64 → S → Prop} {w1 : S → va_W} {y : MethodName} {bytes : ByteArray} {maxL index : Nat} {ret : Option FieldType} {rmc : Room} {C : String} {T : u_T} {N b : Nat} {fs : List Value} {As : List Value} {wc wr : va_W} (rest : List Value)
    (hM : CTl E y (wq y bytes maxL ret) rmc (.ref b :: As) wc post w1) (hG : GoodIn lw_g (wsV own index C y (wq y bytes maxL ret))) (na : Nat) (hna : As.length = na) (hd : y.cls = C ∧ y.cls ≠ "java/lang/invoke/MethodHandle" ∧ y.cls ≠ "java/lang/invoke/VarHandle" ∧ (parseMethodDescriptor y.desc).map (fun d => d.parameters.length) = some na) (hR : rmc.cells = 0 ∧ rmc.slots = 0 ∧ rmc.frames + 1 ≤ rm.frames ∧ 8 + (maxL + 11) + rmc.locals ≤ rm.locals ∧ k ≤ rm.cells ∧ n ≤ rm.slots) (ci q0 : Nat) (hc : vwCl[ci]? = some (C, T, N)) (hq : wc[q0]? = some (ob b ci fs)) (isC isR perm : List Nat) (wn : S → va_W) (hC : isC.map (fun i => ws[i]?) = wc.map some) (hRr : isR.map (fun i => ws[i]?) = wr.map some) (hn : (va_nd isC && va_nd isR && va_nd perm && isR.all (fun i => !isC.contains i)) = true) (hperm : ∀ u, perm.map (fun i => (wr ++ w1 u)[i]?) = (wn u).map some) (hs : st = As.reverse ++ .ref b :: rest) (hst : (rest.map fun v => v.category).sum ≤ 8) (hdg : decode cc pc = .ok (.invokevirtual index, 3))
    (kk : ∀ (r : Int64) (u : S), post r u → GW E X k n (wn u) lv (pc + 3) (.long r :: rest)) : GW E X k n ws lv pc st := by
  subst hs
  subst hna
  simp only [Bool.and_eq_true] at hn
  obtain ⟨⟨⟨hn1, hn2⟩, hn3⟩, hn4⟩ := hn
  have hdis : ∀ i ∈ isR, i ∉ isC := fun i h z => by
    have := List.all_eq_true.mp hn4 i h
    simp at this
    exact this z
  obtain ⟨l, D, cI, cZ⟩ := E
  obtain ⟨p, e, R, s, m, args, below, meth, c, Q, A, nL⟩ := X
  obtain ⟨hx, hb, hml, hown, hts, hK, hA, hR, hnL, hlk⟩ := F
  subst hR
  subst hnL
  intro H locs ls hP hD hS hl
  have hFc := va_free (wc := wc) hD hS hA isC hC
  have hPc : va_P D vwCl wc H := hP.sub isC (fm_of_map hC)
  have hDc := hD.sub isC hn1 hC
  have hpre : ∀ U : State, U.heap = H → s.WarmedH U.vm → PcW (l, D, cI, cZ) (.ref b :: As) wc H.size (.ref b :: As).toArray U := fun U hU hW => ⟨rfl, by rw [hU], by rw [hU]; exact hPc, va_K.moved hW.alike hK, hDc.weaken (fun _ _ _ _ => trivial)⟩
  refine va_calll (va_runV (As := As) (rest := rest) ⟨hx, hb, hml, hown, hts⟩ (hM H.size) (cwV As.length hts hG rfl hR.1 hR.2.1 hd ⟨hR.2.2.1, hR.2.2.2.1⟩) ⟨PcW.blind, va_recv hK hPc (ci := ci) (q0 := q0) hc hq, hpre⟩ rfl rfl hl.1 rfl (lv_room hst) hdg ⟨hR.2.2.2.2.1, hR.2.2.2.2.2⟩) hS (fun q _ h => hFc q h) hFc (fun r u t H1 locs1 ht hvm hw hB hz1 hk1 hS1 => ?_)
  obtain ⟨hP1, hK1, hD1⟩ := hB
  rw [ht] at hP1
  obtain ⟨hPn, hDn⟩ := cb_join hP hD isC isR perm hC hRr hn2 hdis hk1 hFc hP1 hD1 hn3 (hperm u)
  exact kk r u hw H1 locs1 ls hPn hDn hS1 hl

theorem g_cVv (F : FX E X cc own rm nL0) {S : Type} {post : S → Prop} {w1 : S → va_W} {y : MethodName} {bytes : ByteArray} {maxL index : Nat} {ret : Option FieldType} {rmc : Room} {C : String} {T : u_T} {N b : Nat} {fs : List Value} {As : List Value} {wc wr : va_W} (rest : List Value)
    (hM : CTv E y (wq y bytes maxL ret) rmc (.ref b :: As) wc post w1) (hG : GoodIn lw_g (wsV own index C y (wq y bytes maxL ret))) (na : Nat) (hna : As.length = na) (hd : y.cls = C ∧ y.cls ≠ "java/lang/invoke/MethodHandle" ∧ y.cls ≠ "java/lang/invoke/VarHandle" ∧ (parseMethodDescriptor y.desc).map (fun d => d.parameters.length) = some na) (hR : rmc.cells = 0 ∧ rmc.slots = 0 ∧ rmc.frames + 1 ≤ rm.frames ∧ 8 + (maxL + 11) + rmc.locals ≤ rm.locals ∧ k ≤ rm.cells ∧ n ≤ rm.slots) (ci q0 : Nat) (hc : vwCl[ci]? = some (C, T, N)) (hq : wc[q0]? = some (ob b ci fs)) (isC isR perm : List Nat) (wn : S → va_W) (hC : isC.map (fun i => ws[i]?) = wc.map some) (hRr : isR.map (fun i => ws[i]?) = wr.map some) (hn : (va_nd isC && va_nd isR && va_nd perm && isR.all (fun i => !isC.contains i)) = true) (hperm : ∀ u, perm.map (fun i => (wr ++ w1 u)[i]?) = (wn u).map some) (hs : st = As.reverse ++ .ref b :: rest) (hst : (rest.map fun v => v.category).sum ≤ 8) (hdg : decode cc pc = .ok (.invokevirtual index, 3))
    (kk : ∀ (u : S), post u → GW E X k n (wn u) lv (pc + 3) (rest)) : GW E X k n ws lv pc st := by
  subst hs
  subst hna
  simp only [Bool.and_eq_true] at hn
  obtain ⟨⟨⟨hn1, hn2⟩, hn3⟩, hn4⟩ := hn
  have hdis : ∀ i ∈ isR, i ∉ isC := fun i h z => by
    have := List.all_eq_true.mp hn4 i h
    simp at this
    exact this z
  obtain ⟨l, D, cI, cZ⟩ := E
  obtain ⟨p, e, R, s, m, args, below, meth, c, Q, A, nL⟩ := X
  obtain ⟨hx, hb, hml, hown, hts, hK, hA, hR, hnL, hlk⟩ := F
  subst hR
  subst hnL
  intro H locs ls hP hD hS hl
  have hFc := va_free (wc := wc) hD hS hA isC hC
  have hPc : va_P D vwCl wc H := hP.sub isC (fm_of_map hC)
  have hDc := hD.sub isC hn1 hC
  have hpre : ∀ U : State, U.heap = H → s.WarmedH U.vm → PcW (l, D, cI, cZ) (.ref b :: As) wc H.size (.ref b :: As).toArray U := fun U hU hW => ⟨rfl, by rw [hU], by rw [hU]; exact hPc, va_K.moved hW.alike hK, hDc.weaken (fun _ _ _ _ => trivial)⟩
  refine va_callv (va_runV (As := As) (rest := rest) ⟨hx, hb, hml, hown, hts⟩ (hM H.size) (cwV As.length hts hG rfl hR.1 hR.2.1 hd ⟨hR.2.2.1, hR.2.2.2.1⟩) ⟨PcW.blind, va_recv hK hPc (ci := ci) (q0 := q0) hc hq, hpre⟩ rfl rfl hl.1 rfl (lv_room hst) hdg ⟨hR.2.2.2.2.1, hR.2.2.2.2.2⟩) hS (fun q _ h => hFc q h) hFc (fun u t H1 locs1 ht hvm hw hB hz1 hk1 hS1 => ?_)
  obtain ⟨hP1, hK1, hD1⟩ := hB
  rw [ht] at hP1
  obtain ⟨hPn, hDn⟩ := cb_join hP hD isC isR perm hC hRr hn2 hdis hk1 hFc hP1 hD1 hn3 (hperm u)
  exact kk u hw H1 locs1 ls hPn hDn hS1 hl

theorem g_cVr (F : FX E X cc own rm nL0) {S : Type} {post : S → Prop} {w1 : S → va_W} {y : MethodName} {bytes : ByteArray} {maxL index : Nat} {ret : Option FieldType} {rmc : Room} {C : String} {T : u_T} {N b : Nat} {fs : List Value} {ra : Nat} {As : List Value} {wc wr : va_W} (rest : List Value)
    (hM : CTr E y (wq y bytes maxL ret) rmc (.ref b :: As) wc ra post w1) (hG : GoodIn lw_g (wsV own index C y (wq y bytes maxL ret))) (na : Nat) (hna : As.length = na) (hd : y.cls = C ∧ y.cls ≠ "java/lang/invoke/MethodHandle" ∧ y.cls ≠ "java/lang/invoke/VarHandle" ∧ (parseMethodDescriptor y.desc).map (fun d => d.parameters.length) = some na) (hR : rmc.cells = 0 ∧ rmc.slots = 0 ∧ rmc.frames + 1 ≤ rm.frames ∧ 8 + (maxL + 11) + rmc.locals ≤ rm.locals ∧ k ≤ rm.cells ∧ n ≤ rm.slots) (ci q0 : Nat) (hc : vwCl[ci]? = some (C, T, N)) (hq : wc[q0]? = some (ob b ci fs)) (isC isR perm : List Nat) (wn : S → va_W) (hC : isC.map (fun i => ws[i]?) = wc.map some) (hRr : isR.map (fun i => ws[i]?) = wr.map some) (hn : (va_nd isC && va_nd isR && va_nd perm && isR.all (fun i => !isC.contains i)) = true) (hperm : ∀ u, perm.map (fun i => (wr ++ w1 u)[i]?) = (wn u).map some) (hs : st = As.reverse ++ .ref b :: rest) (hst : (rest.map fun v => v.category).sum ≤ 8) (hdg : decode cc pc = .ok (.invokevirtual index, 3))
    (kk : ∀ (u : S), post u → GW E X k n (wn u) lv (pc + 3) (.ref ra :: rest)) : GW E X k n ws lv pc st := by
  subst hs
  subst hna
  simp only [Bool.and_eq_true] at hn
  obtain ⟨⟨⟨hn1, hn2⟩, hn3⟩, hn4⟩ := hn
  have hdis : ∀ i ∈ isR, i ∉ isC := fun i h z => by
    have := List.all_eq_true.mp hn4 i h
    simp at this
    exact this z
  obtain ⟨l, D, cI, cZ⟩ := E
  obtain ⟨p, e, R, s, m, args, below, meth, c, Q, A, nL⟩ := X
  obtain ⟨hx, hb, hml, hown, hts, hK, hA, hR, hnL, hlk⟩ := F
  subst hR
  subst hnL
  intro H locs ls hP hD hS hl
  have hFc := va_free (wc := wc) hD hS hA isC hC
  have hPc : va_P D vwCl wc H := hP.sub isC (fm_of_map hC)
  have hDc := hD.sub isC hn1 hC
  have hpre : ∀ U : State, U.heap = H → s.WarmedH U.vm → PcW (l, D, cI, cZ) (.ref b :: As) wc H.size (.ref b :: As).toArray U := fun U hU hW => ⟨rfl, by rw [hU], by rw [hU]; exact hPc, va_K.moved hW.alike hK, hDc.weaken (fun _ _ _ _ => trivial)⟩
  refine va_callr (va_runV (As := As) (rest := rest) ⟨hx, hb, hml, hown, hts⟩ (hM H.size) (cwV As.length hts hG rfl hR.1 hR.2.1 hd ⟨hR.2.2.1, hR.2.2.2.1⟩) ⟨PcW.blind, va_recv hK hPc (ci := ci) (q0 := q0) hc hq, hpre⟩ rfl rfl hl.1 rfl (lv_room hst) hdg ⟨hR.2.2.2.2.1, hR.2.2.2.2.2⟩) hS (fun q _ h => hFc q h) hFc (fun u ra9 t H1 locs1 ht hvm hw hB hz1 hk1 hS1 => ?_)
  obtain ⟨rfl, hP1, hK1, hD1⟩ := hB
  rw [ht] at hP1
  obtain ⟨hPn, hDn⟩ := cb_join hP hD isC isR perm hC hRr hn2 hdis hk1 hFc hP1 hD1 hn3 (hperm u)
  exact kk u hw H1 locs1 ls hPn hDn hS1 hl

theorem g_cSi (F : FX E X cc own rm nL0) {S : Type} {post : Int32 → S → Prop} {w1 : S → va_W} {y : MethodName} {bytes : ByteArray} {maxL index : Nat} {ret : Option FieldType} {rmc : Room} {As : List Value} {wc wr : va_W} (rest : List Value)
    (hM : CTi E y (wq y bytes maxL ret) rmc As wc post w1) (hG : Cond.methodLink own index y ∈ lw_g ∧ Cond.static y ∈ lw_g ∧ Cond.initialized y.cls ∈ lw_g ∧ Cond.code y bytes maxL ret ∈ lw_g) (na : Nat) (hna : As.length = na) (hd : y.cls ≠ "java/lang/invoke/MethodHandle" ∧ y.cls ≠ "java/lang/invoke/VarHandle" ∧ (parseMethodDescriptor y.desc).map (fun d => d.parameters.length) = some na) (hR : rmc.cells = 0 ∧ rmc.slots = 0 ∧ rmc.frames + 1 ≤ rm.frames ∧ 8 + (maxL + 11) + rmc.locals ≤ rm.locals ∧ k ≤ rm.cells ∧ n ≤ rm.slots) (isC isR perm : List Nat) (wn : S → va_W) (hC : isC.map (fun i => ws[i]?) = wc.map some) (hRr : isR.map (fun i => ws[i]?) = wr.map some) (hn : (va_nd isC && va_nd isR && va_nd perm && isR.all (fun i => !isC.contains i)) = true) (hperm : ∀ u, perm.map (fun i => (wr ++ w1 u)[i]?) = (wn u).map some) (hs : st = As.reverse ++ rest) (hst : (rest.map fun v => v.category).sum ≤ 8) (hdg : decode cc pc = .ok (.invokestatic index, 3))
    (kk : ∀ (r : Int32) (u : S), post r u → GW E X k n (wn u) lv (pc + 3) (.int r :: rest)) : GW E X k n ws lv pc st := by
  subst hs
  subst hna
  simp only [Bool.and_eq_true] at hn
  obtain ⟨⟨⟨hn1, hn2⟩, hn3⟩, hn4⟩ := hn
  have hdis : ∀ i ∈ isR, i ∉ isC := fun i h z => by
    have := List.all_eq_true.mp hn4 i h
    simp at this
    exact this z
  obtain ⟨l, D, cI, cZ⟩ := E
  obtain ⟨p, e, R, s, m, args, below, meth, c, Q, A, nL⟩ := X
  obtain ⟨hx, hb, hml, hown, hts, hK, hA, hR, hnL, hlk⟩ := F
  subst hR
  subst hnL
  intro H locs ls hP hD hS hl
  have hFc := va_free (wc := wc) hD hS hA isC hC
  have hPc : va_P D vwCl wc H := hP.sub isC (fm_of_map hC)
  have hDc := hD.sub isC hn1 hC
  have hpre : ∀ U : State, U.heap = H → s.WarmedH U.vm → PcW (l, D, cI, cZ) As wc H.size As.toArray U := fun U hU hW => ⟨rfl, by rw [hU], by rw [hU]; exact hPc, va_K.moved hW.alike hK, hDc.weaken (fun _ _ _ _ => trivial)⟩
  refine va_calli (va_runS (As := As) (rest := rest) ⟨hx, hb, hml, hown, hts⟩ (hM H.size) ⟨callB_of As.length hts (gi_q hG.2.2.2) rfl hR.1 hR.2.1 (hts _ hG.2.2.1) (hts _ hG.1) hd ⟨hR.2.2.1, hR.2.2.2.1⟩, hts _ hG.2.1⟩ ⟨PcW.blind, hpre⟩ rfl rfl hl.1 rfl (lv_room hst) hdg ⟨hR.2.2.2.2.1, hR.2.2.2.2.2⟩) hS (fun q _ h => hFc q h) hFc (fun r u t H1 locs1 ht hvm hw hB hz1 hk1 hS1 => ?_)
  obtain ⟨hP1, hK1, hD1⟩ := hB
  rw [ht] at hP1
  obtain ⟨hPn, hDn⟩ := cb_join hP hD isC isR perm hC hRr hn2 hdis hk1 hFc hP1 hD1 hn3 (hperm u)
  exact kk r u hw H1 locs1 ls hPn hDn hS1 hl

theorem g_cSl (F : FX E X cc own rm nL0) {S : Type} {post : Int64 → S → Prop} {w1 : S → va_W} {y : MethodName} {bytes : ByteArray} {maxL index : Nat} {ret : Option FieldType} {rmc : Room} {As : List Value} {wc wr : va_W} (rest : List Value)
    (hM : CTl E y (wq y bytes maxL ret) rmc As wc post w1) (hG : Cond.methodLink own index y ∈ lw_g ∧ Cond.static y ∈ lw_g ∧ Cond.initialized y.cls ∈ lw_g ∧ Cond.code y bytes maxL ret ∈ lw_g) (na : Nat) (hna : As.length = na) (hd : y.cls ≠ "java/lang/invoke/MethodHandle" ∧ y.cls ≠ "java/lang/invoke/VarHandle" ∧ (parseMethodDescriptor y.desc).map (fun d => d.parameters.length) = some na) (hR : rmc.cells = 0 ∧ rmc.slots = 0 ∧ rmc.frames + 1 ≤ rm.frames ∧ 8 + (maxL + 11) + rmc.locals ≤ rm.locals ∧ k ≤ rm.cells ∧ n ≤ rm.slots) (isC isR perm : List Nat) (wn : S → va_W) (hC : isC.map (fun i => ws[i]?) = wc.map some) (hRr : isR.map (fun i => ws[i]?) = wr.map some) (hn : (va_nd isC && va_nd isR && va_nd perm && isR.all (fun i => !isC.contains i)) = true) (hperm : ∀ u, perm.map (fun i => (wr ++ w1 u)[i]?) = (wn u).map some) (hs : st = As.reverse ++ rest) (hst : (rest.map fun v => v.category).sum ≤ 8) (hdg : decode cc pc = .ok (.invokestatic index, 3))
    (kk : ∀ (r : Int64) (u : S), post r u → GW E X k n (wn u) lv (pc + 3) (.long r :: rest)) : GW E X k n ws lv pc st := by
  subst hs
  subst hna
  simp only [Bool.and_eq_true] at hn
  obtain ⟨⟨⟨hn1, hn2⟩, hn3⟩, hn4⟩ := hn
  have hdis : ∀ i ∈ isR, i ∉ isC := fun i h z => by
    have := List.all_eq_true.mp hn4 i h
    simp at this
    exact this z
  obtain ⟨l, D, cI, cZ⟩ := E
  obtain ⟨p, e, R, s, m, args, below, meth, c, Q, A, nL⟩ := X
  obtain ⟨hx, hb, hml, hown, hts, hK, hA, hR, hnL, hlk⟩ := F
  subst hR
  subst hnL
  intro H locs ls hP hD hS hl
  have hFc := va_free (wc := wc) hD hS hA isC hC
  have hPc : va_P D vwCl wc H := hP.sub isC (fm_of_map hC)
  have hDc := hD.sub isC hn1 hC
  have hpre : ∀ U : State, U.heap = H → s.WarmedH U.vm → PcW (l, D, cI, cZ) As wc H.size As.toArray U := fun U hU hW => ⟨rfl, by rw [hU], by rw [hU]; exact hPc, va_K.moved hW.alike hK, hDc.weaken (fun _ _ _ _ => trivial)⟩
  refine va_calll (va_runS (As := As) (rest := rest) ⟨hx, hb, hml, hown, hts⟩ (hM H.size) ⟨callB_of As.length hts (gi_q hG.2.2.2) rfl hR.1 hR.2.1 (hts _ hG.2.2.1) (hts _ hG.1) hd ⟨hR.2.2.1, hR.2.2.2.1⟩, hts _ hG.2.1⟩ ⟨PcW.blind, hpre⟩ rfl rfl hl.1 rfl (lv_room hst) hdg ⟨hR.2.2.2.2.1, hR.2.2.2.2.2⟩) hS (fun q _ h => hFc q h) hFc (fun r u t H1 locs1 ht hvm hw hB hz1 hk1 hS1 => ?_)
  obtain ⟨hP1, hK1, hD1⟩ := hB
  rw [ht] at hP1
  obtain ⟨hPn, hDn⟩ := cb_join hP hD isC isR perm hC hRr hn2 hdis hk1 hFc hP1 hD1 hn3 (hperm u)
  exact kk r u hw H1 locs1 ls hPn hDn hS1 hl

theorem g_cSv (F : FX E X cc own rm nL0) {S : Type} {post : S → Prop} {w1 : S → va_W} {y : MethodName} {bytes : ByteArray} {maxL index : Nat} {ret : Option FieldType} {rmc : Room} {As : List Value} {wc wr : va_W} (rest : List Value)
    (hM : CTv E y (wq y bytes maxL ret) rmc As wc post w1) (hG : Cond.methodLink own index y ∈ lw_g ∧ Cond.static y ∈ lw_g ∧ Cond.initialized y.cls ∈ lw_g ∧ Cond.code y bytes maxL ret ∈ lw_g) (na : Nat) (hna : As.length = na) (hd : y.cls ≠ "java/lang/invoke/MethodHandle" ∧ y.cls ≠ "java/lang/invoke/VarHandle" ∧ (parseMethodDescriptor y.desc).map (fun d => d.parameters.length) = some na) (hR : rmc.cells = 0 ∧ rmc.slots = 0 ∧ rmc.frames + 1 ≤ rm.frames ∧ 8 + (maxL + 11) + rmc.locals ≤ rm.locals ∧ k ≤ rm.cells ∧ n ≤ rm.slots) (isC isR perm : List Nat) (wn : S → va_W) (hC : isC.map (fun i => ws[i]?) = wc.map some) (hRr : isR.map (fun i => ws[i]?) = wr.map some) (hn : (va_nd isC && va_nd isR && va_nd perm && isR.all (fun i => !isC.contains i)) = true) (hperm : ∀ u, perm.map (fun i => (wr ++ w1 u)[i]?) = (wn u).map some) (hs : st = As.reverse ++ rest) (hst : (rest.map fun v => v.category).sum ≤ 8) (hdg : decode cc pc = .ok (.invokestatic index, 3))
    (kk : ∀ (u : S), post u → GW E X k n (wn u) lv (pc + 3) (rest)) : GW E X k n ws lv pc st := by
  subst hs
  subst hna
  simp only [Bool.and_eq_true] at hn
  obtain ⟨⟨⟨hn1, hn2⟩, hn3⟩, hn4⟩ := hn
  have hdis : ∀ i ∈ isR, i ∉ isC := fun i h z => by
    have := List.all_eq_true.mp hn4 i h
    simp at this
    exact this z
  obtain ⟨l, D, cI, cZ⟩ := E
  obtain ⟨p, e, R, s, m, args, below, meth, c, Q, A, nL⟩ := X
  obtain ⟨hx, hb, hml, hown, hts, hK, hA, hR, hnL, hlk⟩ := F
  subst hR
  subst hnL
  intro H locs ls hP hD hS hl
  have hFc := va_free (wc := wc) hD hS hA isC hC
  have hPc : va_P D vwCl wc H := hP.sub isC (fm_of_map hC)
  have hDc := hD.sub isC hn1 hC
  have hpre : ∀ U : State, U.heap = H → s.WarmedH U.vm → PcW (l, D, cI, cZ) As wc H.size As.toArray U := fun U hU hW => ⟨rfl, by rw [hU], by rw [hU]; exact hPc, va_K.moved hW.alike hK, hDc.weaken (fun _ _ _ _ => trivial)⟩
  refine va_callv (va_runS (As := As) (rest := rest) ⟨hx, hb, hml, hown, hts⟩ (hM H.size) ⟨callB_of As.length hts (gi_q hG.2.2.2) rfl hR.1 hR.2.1 (hts _ hG.2.2.1) (hts _ hG.1) hd ⟨hR.2.2.1, hR.2.2.2.1⟩, hts _ hG.2.1⟩ ⟨PcW.blind, hpre⟩ rfl rfl hl.1 rfl (lv_room hst) hdg ⟨hR.2.2.2.2.1, hR.2.2.2.2.2⟩) hS (fun q _ h => hFc q h) hFc (fun u t H1 locs1 ht hvm hw hB hz1 hk1 hS1 => ?_)
  obtain ⟨hP1, hK1, hD1⟩ := hB
  rw [ht] at hP1
  obtain ⟨hPn, hDn⟩ := cb_join hP hD isC isR perm hC hRr hn2 hdis hk1 hFc hP1 hD1 hn3 (hperm u)
  exact kk u hw H1 locs1 ls hPn hDn hS1 hl

/-- a call that only reads -/
theorem g_rVi (F : FX E X cc own rm nL0) {y : MethodName} {bytes : ByteArray} {maxL index : Nat} {ret : Option FieldType} {rmc : Room} {C : String} {T : u_T} {N b : Nat} {fs : List Value} {v : Int32} {As : List Value} {wc wr : va_W} (rest : List Value)
    (hM : RDi E y (wq y bytes maxL ret) rmc (.ref b :: As) wc v) (hG : GoodIn lw_g (wsV own index C y (wq y bytes maxL ret))) (na : Nat) (hna : As.length = na) (hd : y.cls = C ∧ y.cls ≠ "java/lang/invoke/MethodHandle" ∧ y.cls ≠ "java/lang/invoke/VarHandle" ∧ (parseMethodDescriptor y.desc).map (fun d => d.parameters.length) = some na) (hR : rmc.cells = 0 ∧ rmc.slots = 0 ∧ rmc.frames + 1 ≤ rm.frames ∧ 8 + (maxL + 11) + rmc.locals ≤ rm.locals ∧ k ≤ rm.cells ∧ n ≤ rm.slots) (ci q0 : Nat) (hc : vwCl[ci]? = some (C, T, N)) (hq : wc[q0]? = some (ob b ci fs))
    (isC isR perm : List Nat) (hC : isC.map (fun i => ws[i]?) = wc.map some) (hRr : isR.map (fun i => ws[i]?) = wr.map some) (hn : (va_nd isC && va_nd isR && va_nd perm && isR.all (fun i => !isC.contains i)) = true) (hperm : perm.map (fun i => (wr ++ wc)[i]?) = ws.map some) (hs : st = As.reverse ++ .ref b :: rest) (hst : (rest.map fun v => v.category).sum ≤ 8) (hdg : decode cc pc = .ok (.invokevirtual index, 3))
    (kk : GW E X k n ws lv (pc + 3) (.int v :: rest)) : GW E X k n ws lv pc st :=
  g_cVi F rest hM hG na hna hd hR ci q0 hc hq isC isR perm (fun _ => ws) hC hRr hn (fun _ => hperm) hs hst hdg (fun r _ h => by
    have h : r = v := h
    subst h
    exact kk)
theorem g_rSi (F : FX E X cc own rm nL0) {y : MethodName} {bytes : ByteArray} {maxL index : Nat} {ret : Option FieldType} {rmc : Room} {v : Int32} {As : List Value} {wc wr : va_W} (rest : List Value)
    (hM : RDi E y (wq y bytes maxL ret) rmc As wc v) (hG : Cond.methodLink own index y ∈ lw_g ∧ Cond.static y ∈ lw_g ∧ Cond.initialized y.cls ∈ lw_g ∧ Cond.code y bytes maxL ret ∈ lw_g) (na : Nat) (hna : As.length = na) (hd : y.cls ≠ "java/lang/invoke/MethodHandle" ∧ y.cls ≠ "java/lang/invoke/VarHandle" ∧ (parseMethodDescriptor y.desc).map (fun d => d.parameters.length) = some na) (hR : rmc.cells = 0 ∧ rmc.slots = 0 ∧ rmc.frames + 1 ≤ rm.frames ∧ 8 + (maxL + 11) + rmc.locals ≤ rm.locals ∧ k ≤ rm.cells ∧ n ≤ rm.slots)
    (isC isR perm : List Nat) (hC : isC.map (fun i => ws[i]?) = wc.map some) (hRr : isR.map (fun i => ws[i]?) = wr.map some) (hn : (va_nd isC && va_nd isR && va_nd perm && isR.all (fun i => !isC.contains i)) = true) (hperm : perm.map (fun i => (wr ++ wc)[i]?) = ws.map some) (hs : st = As.reverse ++ rest) (hst : (rest.map fun v => v.category).sum ≤ 8) (hdg : decode cc pc = .ok (.invokestatic index, 3))
    (kk : GW E X k n ws lv (pc + 3) (.int v :: rest)) : GW E X k n ws lv pc st :=
  g_cSi F rest hM hG na hna hd hR isC isR perm (fun _ => ws) hC hRr hn (fun _ => hperm) hs hst hdg (fun r _ h => by
    have h : r = v := h
    subst h
    exact kk)

end GWR
theorem gi_V {own C : String} {idx n : Nat} {y : MethodName} {b : ByteArray} {r : Option FieldType} (h1 : Cond.methodLink own idx y ∈ lw_g) (h2 : Cond.instanceMethod y ∈ lw_g) (h3 : Cond.selects C y y ∈ lw_g) (h4 : Cond.initialized C ∈ lw_g) (h5 : Cond.code y b n r ∈ lw_g) : GoodIn lw_g (wsV own idx C y (wq y b n r)) := by
  intro w hw
  have : w ∈ lw_g := by
    unfold wsV wq at hw
    simp only [List.mem_append, List.mem_cons, List.not_mem_nil, or_false] at hw
    rcases hw with (rfl | rfl | rfl | rfl) | rfl | hw
    · exact h1
    · exact h2
    · exact h3
    · exact h4
    · exact h5
    · exact hw
  exact gi_all w this
end
section
/-- the book's numbers: f holds b, rising, k of them -/
def MB (f : Nat → Int32) (k : Nat) (b : Nat → Nat) : Prop := k ≤ 60 ∧ (∀ i, i < k → f i = nI (b i) ∧ b i < 60) ∧ ∀ i j, i < j → j < k → b i < b j
theorem mb_le {f : Nat → Int32} {k : Nat} {b : Nat → Nat} (h : MB f k b) {i j : Nat} (hij : i ≤ j) (hj : j < k) : b i ≤ b j := by
  rcases Nat.lt_or_ge i j with q | q
  · exact Nat.le_of_lt (h.2.2 i j q hj)
  · rw [show i = j by omega]; exact Nat.le_refl _
theorem mb_no {f : Nat → Int32} {k s : Nat} {b : Nat → Nat} {x : Int32} (h : MB f k b) (h2 : ∀ j, j < s → f j < x) (hs : s ≤ k) (h3 : s = k ∨ (x ≤ f s ∧ ¬ f s = x)) : ∀ i, i < k → x ≠ nI (b i) := by
  intro i hi e
  have hf := (h.2.1 i hi).1
  rcases Nat.lt_or_ge i s with q | q
  · have z := h2 i q
    rw [hf, ← e] at z
    exact Int32.lt_irrefl z
  · rcases h3 with rfl | ⟨h4, h5⟩
    · omega
    · have hfs := (h.2.1 s (by omega)).1
      rw [hfs, e] at h4 h5
      have b1 := (h.2.1 i hi).2
      have b2 := (h.2.1 s (by omega)).2
      have h6 := (nI_leI (by omega) (by omega)).mp h4
      have h7 := mb_le h q hi
      exact h5 (by rw [show b s = b i by omega])
theorem mb_ge {f : Nat → Int32} {k : Nat} {b : Nat → Nat} (h : MB f k b) : ∀ i, i < k → i ≤ b i := by
  intro i
  induction i with
  | zero => intro _; exact Nat.zero_le _
  | succ i ih =>
    intro hi
    have := ih (by omega)
    have := h.2.2 i (i + 1) (by omega) hi
    omega
theorem mb_gap {f : Nat → Int32} {k : Nat} {b : Nat → Nat} (h : MB f k b) : ∀ d i, i + d < k → b i + d ≤ b (i + d) := by
  intro d
  induction d with
  | zero => intro i _; exact Nat.le_refl _
  | succ d ih =>
    intro i hi
    have := ih i (by omega)
    have := h.2.2 (i + d) (i + (d + 1)) (by omega) hi
    omega
theorem mb_lt60 {f : Nat → Int32} {k t : Nat} {b : Nat → Nat} (h : MB f k b) (hn : ∀ i, i < k → b i ≠ t) (ht : t < 60) : k < 60 := by
  rcases Nat.lt_or_ge k 60 with q | q
  · exact q
  · have hk := h.1
    have h1 := mb_ge h t (by omega)
    have h2 := mb_gap h (59 - t) t (by omega)
    have h3 := (h.2.1 (t + (59 - t)) (by omega)).2
    exact absurd (by omega) (hn t (by omega))
theorem mb_ins {f g : Nat → Int32} {k s t : Nat} {b : Nat → Nat} (h : MB f k b) (hn : ∀ i, i < k → b i ≠ t) (ht : t < 60) (hs : s ≤ k) (h2 : ∀ j, j < s → f j < nI t) (h3 : s = k ∨ nI t ≤ f s) (g1 : ∀ j, j < s → g j = f j) (g2 : ∀ j, s < j → j ≤ k → g j = f (j - 1)) :
    ∃ b2, MB (upd g s (nI t)) (k + 1) b2 ∧ ∀ q, (∃ i, i < k + 1 ∧ b2 i = q) ↔ (q = t ∨ ∃ i, i < k ∧ b i = q) := by
  have hk := mb_lt60 h hn ht
  have lo : ∀ j, j < s → b j < t := by
    intro j hj
    have z := h2 j hj
    rw [(h.2.1 j (by omega)).1] at z
    exact (nI_ltI (by have := (h.2.1 j (by omega)).2; omega) (by omega)).mp z
  have hi : ∀ j, s ≤ j → j < k → t < b j := by
    intro j hj hjk
    rcases h3 with rfl | z
    · omega
    · rw [(h.2.1 s (by omega)).1] at z
      have z2 := (nI_leI (by omega) (by have := (h.2.1 s (by omega)).2; omega)).mp z
      have z3 := mb_le h hj hjk
      have z4 := hn s (by omega)
      omega
  refine ⟨fun j => if j < s then b j else if j = s then t else b (j - 1), ⟨by omega, ?_, ?_⟩, ?_⟩
  · intro i hik
    by_cases c1 : i < s
    · simp only [c1, if_true]
      rw [pk_un (by omega), g1 i c1]
      exact h.2.1 i (by omega)
    · by_cases c2 : i = s
      · subst c2
        simp only [Nat.lt_irrefl, if_false, if_true]
        exact ⟨pk_us, ht⟩
      · simp only [c1, c2, if_false]
        rw [pk_un c2, g2 i (by omega) (by omega)]
        exact h.2.1 (i - 1) (by omega)
  · intro i j hij hjk
    simp only
    by_cases c1 : j < s
    · rw [if_pos (by omega), if_pos c1]
      exact h.2.2 i j hij (by omega)
    · by_cases c2 : j = s
      · rw [if_pos (by omega), if_neg c1, if_pos c2]
        exact lo i (by omega)
      · rw [if_neg c1, if_neg c2]
        by_cases c3 : i < s
        · rw [if_pos c3]
          exact Nat.lt_trans (lo i c3) (hi (j - 1) (by omega) (by omega))
        · rw [if_neg c3]
          by_cases c4 : i = s
          · rw [if_pos c4]
            exact hi (j - 1) (by omega) (by omega)
          · rw [if_neg c4]
            exact h.2.2 (i - 1) (j - 1) (by omega) (by omega)
  · intro q
    constructor
    · rintro ⟨i, hik, e⟩
      simp only at e
      by_cases c1 : i < s
      · rw [if_pos c1] at e
        exact Or.inr ⟨i, by omega, e⟩
      · rw [if_neg c1] at e
        by_cases c2 : i = s
        · rw [if_pos c2] at e
          exact Or.inl e.symm
        · rw [if_neg c2] at e
          exact Or.inr ⟨i - 1, by omega, e⟩
    · rintro (rfl | ⟨i, hik, e⟩)
      · exact ⟨s, by omega, by simp⟩
      · by_cases c1 : i < s
        · exact ⟨i, by omega, by simp only [c1, if_true]; exact e⟩
        · refine ⟨i + 1, by omega, ?_⟩
          simp only
          rw [if_neg (by omega), if_neg (by omega)]
          exact e
theorem mb_del {f g : Nat → Int32} {k s i0 : Nat} {b : Nat → Nat} (h : MB f (k + 1) b) (hi : i0 < k + 1) (hs : s ≤ k) (h2 : ∀ j, j < s → f j < nI (b i0)) (h3 : s = k ∨ nI (b i0) ≤ f s) (g1 : ∀ j, j < s → g j = f j) (g2 : ∀ j, s ≤ j → j < k → g j = f (j + 1)) :
    ∃ b2, MB g k b2 ∧ ∀ q, (∃ i, i < k ∧ b2 i = q) ↔ (q ≠ b i0 ∧ ∃ i, i < k + 1 ∧ b i = q) := by
  have hk := h.1
  have lo : ∀ j, j < s → b j < b i0 := by
    intro j hj
    have z := h2 j hj
    rw [(h.2.1 j (by omega)).1] at z
    exact (nI_ltI (by have := (h.2.1 j (by omega)).2; omega) (by have := (h.2.1 i0 hi).2; omega)).mp z
  have e0 : i0 = s := by
    rcases Nat.lt_trichotomy i0 s with q | q | q
    · exact absurd (lo i0 q) (Nat.lt_irrefl _)
    · exact q
    · have z1 := h.2.2 s i0 q hi
      rcases h3 with rfl | z
      · omega
      · rw [(h.2.1 s (by omega)).1] at z
        have z2 := (nI_leI (by have := (h.2.1 i0 hi).2; omega) (by have := (h.2.1 s (by omega)).2; omega)).mp z
        omega
  subst e0
  have up : ∀ j, i0 ≤ j → j < k → b i0 < b (j + 1) := fun j h1 h2 => h.2.2 i0 (j + 1) (by omega) (by omega)
  refine ⟨fun j => if j < i0 then b j else b (j + 1), ⟨by omega, ?_, ?_⟩, ?_⟩
  · intro i hik
    simp only
    by_cases c1 : i < i0
    · rw [if_pos c1, g1 i c1]
      exact h.2.1 i (by omega)
    · rw [if_neg c1, g2 i (by omega) hik]
      exact h.2.1 (i + 1) (by omega)
  · intro i j hij hjk
    simp only
    by_cases c1 : j < i0
    · rw [if_pos (by omega), if_pos c1]
      exact h.2.2 i j hij (by omega)
    · rw [if_neg c1]
      by_cases c3 : i < i0
      · rw [if_pos c3]
        exact h.2.2 i (j + 1) (by omega) (by omega)
      · rw [if_neg c3]
        exact h.2.2 (i + 1) (j + 1) (by omega) (by omega)
  · intro q
    constructor
    · rintro ⟨i, hik, e⟩
      simp only at e
      by_cases c1 : i < i0
      · rw [if_pos c1] at e
        have := lo i c1
        exact ⟨by omega, i, by omega, e⟩
      · rw [if_neg c1] at e
        have := up i (by omega) hik
        exact ⟨by omega, i + 1, by omega, e⟩
    · rintro ⟨hne, i, hik, e⟩
      rcases Nat.lt_trichotomy i i0 with q1 | q1 | q1
      · exact ⟨i, by omega, by simp only [q1, if_true]; exact e⟩
      · exact absurd (by rw [← e, q1]) hne
      · refine ⟨i - 1, by omega, ?_⟩
        simp only
        rw [if_neg (by omega), show i - 1 + 1 = i by omega]
        exact e

set_option maxHeartbeats 4000000 in
set_option maxRecDepth 100000 in
theorem c_X5_size (E : Ev) (m : Nat) (a : Nat) (f : Nat → Int32) (k : Nat)  : RDi E yX5_size (wq yX5_size cX5_size 1 (some .int)) (rmk 0 0) [.ref m] [ob m 5 [.ref a, .int (nI k)], ia E a 60 f] (nI k) := by
  refine CTi.of (by decide) (Nat.le_of_ble_eq_true rfl) (fun X F R => ?_)
  refine g_lv [0] [(0, .ref m)] rfl ?_
  refine g_aload_n F 0 rfl dX5_size_0 ?_
  refine g_get F 5 0 1 inX5 rfl rfl (by decide) tw_fl_X5_15 rfl dX5_size_1 ?_
  exact R _ (()) _ _ dX5_size_4 (rfl)

set_option maxHeartbeats 4000000 in
set_option maxRecDepth 100000 in
theorem c_X5_at (E : Ev) (m : Nat) (a : Nat) (f : Nat → Int32) (k : Nat) (b : Nat → Nat) (j : Nat) (hb : ∀ i, i < k → f i = nI (b i)) (hj : j < k) (hk : k ≤ 60) : RDi E yX5_at (wq yX5_at cX5_at 2 (some .int)) (rmk 0 0) [.ref m, .int (nI j)] [ob m 5 [.ref a, .int (nI k)], ia E a 60 f] (nI (b j)) := by
  refine CTi.of (by decide) (Nat.le_of_ble_eq_true rfl) (fun X F R => ?_)
  refine g_lv [0, 1] [(0, .ref m), (1, .int (nI j))] rfl ?_
  refine g_aload_n F 0 rfl dX5_at_0 ?_
  refine g_get F 5 0 0 inX5 rfl rfl (by decide) tw_fl_X5_9 rfl dX5_at_1 ?_
  refine g_iload_n F 1 rfl dX5_at_4 ?_
  refine g_iald F 1 rfl (by omega) (by decide) dX5_at_5 ?_
  refine g_top (nI (b j)) (hb j hj) ?_
  exact R _ (()) _ _ dX5_at_6 (rfl)

set_option maxHeartbeats 4000000 in
set_option maxRecDepth 100000 in
theorem c_X5_spotOf (E : Ev) (m : Nat) (a : Nat) (f : Nat → Int32) (k : Nat) (x : Int32) (hk : k ≤ 60) : CTi E yX5_spotOf (wq yX5_spotOf cX5_spotOf 3 (some .int)) (rmk 0 0) [.ref m, .int x] [ob m 5 [.ref a, .int (nI k)], ia E a 60 f] (fun (r : Int32) (u : Nat) => r = nI u ∧ u ≤ k ∧ (∀ j, j < u → f j < x) ∧ (u = k ∨ x ≤ f u)) (fun (u : Nat) => [ob m 5 [.ref a, .int (nI k)], ia E a 60 f]) := by
  refine CTi.of (by decide) (Nat.le_of_ble_eq_true rfl) (fun X F R => ?_)
  refine g_lv [0, 1] [(0, .ref m), (1, .int x)] rfl ?_
  refine g_iconst F (nI 0) (by decide) dX5_spotOf_0 ?_
  refine g_istore_n F 2 [(0, .ref m), (1, .int x), (2, .int (nI 0))] [1, 2, 0] dX5_spotOf_1 rfl (by decide) rfl ?_
  have lp_2 : ∀ (n_2 : Nat) (i : Nat), (i ≤ k) → (∀ j, j < i → f j < x) → k - i < n_2 → GW E X 0 0 [ob m 5 [.ref a, .int (nI k)], ia E a 60 f] [(0, .ref m), (1, .int x), (2, .int (nI i))] 2 [] := by
    intro n_2
    induction n_2 with
    | zero => intro i hi hp hm_2; exact absurd hm_2 (Nat.not_lt_zero _)
    | succ n_2 ih_2 =>
      intro i hi hp hm_2
      refine g_iload_n F 2 rfl dX5_spotOf_2 ?_
      refine g_aload_n F 0 rfl dX5_spotOf_3 ?_
      refine g_get F 5 0 1 inX5 rfl rfl (by decide) tw_fl_X5_15 rfl dX5_spotOf_4 ?_
      refine n_icmp_ge F 26 dX5_spotOf_7 (by decide) (by omega) (by omega) (fun c_7 => ?_) (fun c_7 => ?_)
      · refine g_iload_n F 2 rfl dX5_spotOf_26 ?_
        exact R _ i _ _ dX5_spotOf_27 (⟨rfl, hi, hp, Or.inl (by omega)⟩)
      · refine g_aload_n F 0 rfl dX5_spotOf_10 ?_
        refine g_get F 5 0 0 inX5 rfl rfl (by decide) tw_fl_X5_9 rfl dX5_spotOf_11 ?_
        refine g_iload_n F 2 rfl dX5_spotOf_14 ?_
        refine g_iald F 1 rfl (by omega) (by decide) dX5_spotOf_15 ?_
        refine g_iload_n F 1 rfl dX5_spotOf_16 ?_
        refine g_icmp_ge F 26 dX5_spotOf_17 (by decide) (fun c_17 => ?_) (fun c_17 => ?_)
        · refine g_iload_n F 2 rfl dX5_spotOf_26 ?_
          exact R _ i _ _ dX5_spotOf_27 (⟨rfl, hi, hp, Or.inr c_17⟩)
        · refine g_iinc F (nI (i + 1)) 2 2 [(0, .ref m), (1, .int x), (2, .int (nI (i + 1)))] [1, 2, 0] dX5_spotOf_20 rfl (n_inc i) (by decide) rfl ?_
          refine g_goto F 2 dX5_spotOf_23 (by decide) ?_
          exact ih_2 (i + 1) (by omega) (lt_s hp (Int32.not_le.mp c_17)) (by omega)
  exact lp_2 _ 0 (by omega) (fun j h => absurd h (Nat.not_lt_zero j)) (Nat.lt_succ_self _)

set_option maxHeartbeats 4000000 in
set_option maxRecDepth 100000 in
theorem c_X5_holds (E : Ev) (m : Nat) (a : Nat) (f : Nat → Int32) (k : Nat) (b : Nat → Nat) (x : Int32) (hb : MB f k b) : CTi E yX5_holds (wq yX5_holds cX5_holds 3 (some .boolean)) (rmk 1 22) [.ref m, .int x] [ob m 5 [.ref a, .int (nI k)], ia E a 60 f] (fun (r : Int32) (u : Unit) => (r = 1 ∧ ∃ i, i < k ∧ x = nI (b i)) ∨ (r = 0 ∧ ∀ i, i < k → x ≠ nI (b i))) (fun (u : Unit) => [ob m 5 [.ref a, .int (nI k)], ia E a 60 f]) := by
  refine CTi.ofZ (by decide) (Nat.le_of_ble_eq_true rfl) (fun X F R => ?_)
  refine g_lv [0, 1] [(0, .ref m), (1, .int x)] rfl ?_
  have hk := hb.1
  refine g_aload_n F 0 rfl dX5_holds_0 ?_
  refine g_iload_n F 1 rfl dX5_holds_1 ?_
  refine g_cVi F (wr := []) [] (c_X5_spotOf E m a f k x (by omega)) (gi_V tw_ml_X5_19 tw_im_X5_spotOf tw_se_X5_spotOf tw_in_X5 tw_co_X5_spotOf) 1 rfl (by decide) ⟨rfl, rfl, by decide, by decide, Nat.zero_le _, Nat.zero_le _⟩ 5 0 rfl rfl [0, 1] [] [0, 1] (fun u => [ob m 5 [.ref a, .int (nI k)], ia E a 60 f]) rfl rfl (by decide) (fun _ => rfl) rfl (Nat.le_of_ble_eq_true rfl) dX5_holds_2 (fun r_2 u hu_2 => ?_)
  revert hu_2; revert u; intro s_2 hu_2
  obtain ⟨rfl, hs1, hs2, hs3⟩ := hu_2
  refine g_istore_n F 2 [(0, .ref m), (1, .int x), (2, .int (nI s_2))] [1, 2, 0] dX5_holds_5 rfl (by decide) rfl ?_
  refine g_iload_n F 2 rfl dX5_holds_6 ?_
  refine g_aload_n F 0 rfl dX5_holds_7 ?_
  refine g_get F 5 0 1 inX5 rfl rfl (by decide) tw_fl_X5_15 rfl dX5_holds_8 ?_
  refine n_icmp_ge F 28 dX5_holds_11 (by decide) (by omega) (by omega) (fun c_11 => ?_) (fun c_11 => ?_)
  · refine g_iconst F (nI 0) (by decide) dX5_holds_28 ?_
    exact R _ (()) _ _ dX5_holds_29 (Or.inl rfl) (Or.inr ⟨rfl, mb_no hb hs2 hs1 (Or.inl (by omega))⟩)
  · refine g_aload_n F 0 rfl dX5_holds_14 ?_
    refine g_get F 5 0 0 inX5 rfl rfl (by decide) tw_fl_X5_9 rfl dX5_holds_15 ?_
    refine g_iload_n F 2 rfl dX5_holds_18 ?_
    refine g_iald F 1 rfl (by omega) (by decide) dX5_holds_19 ?_
    refine g_iload_n F 1 rfl dX5_holds_20 ?_
    refine g_icmp_ne F 28 dX5_holds_21 (by decide) (fun c_21 => ?_) (fun c_21 => ?_)
    · refine g_iconst F (nI 0) (by decide) dX5_holds_28 ?_
      exact R _ (()) _ _ dX5_holds_29 (Or.inl rfl) (Or.inr ⟨rfl, mb_no hb hs2 hs1 (Or.inr ⟨hs3.resolve_left (by omega), c_21⟩)⟩)
    · refine g_iconst F (nI 1) (by decide) dX5_holds_24 ?_
      refine g_goto F 29 dX5_holds_25 (by decide) ?_
      exact R _ (()) _ _ dX5_holds_29 (Or.inr rfl) (Or.inl ⟨rfl, s_2, c_11, by rw [← c_21]; exact (hb.2.1 s_2 c_11).1⟩)

set_option maxHeartbeats 4000000 in
set_option maxRecDepth 100000 in
theorem c_X5_insert (E : Ev) (m : Nat) (a : Nat) (f : Nat → Int32) (k : Nat) (b : Nat → Nat) (t : Nat) (hb : MB f k b) (hn : ∀ i, i < k → b i ≠ t) (ht : t < 60) : CTv E yX5_insert (wq yX5_insert cX5_insert 4 none) (rmk 1 22) [.ref m, .int (nI t)] [ob m 5 [.ref a, .int (nI k)], ia E a 60 f] (fun (u : (Nat → Int32)) => ∃ b2, MB u (k + 1) b2 ∧ ∀ q, (∃ i, i < k + 1 ∧ b2 i = q) ↔ (q = t ∨ ∃ i, i < k ∧ b i = q)) (fun (u : (Nat → Int32)) => [ob m 5 [.ref a, .int (nI (k + 1))], ia E a 60 u]) := by
  refine CTv.of (by decide) (Nat.le_of_ble_eq_true rfl) (fun X F R => ?_)
  refine g_lv [0, 1] [(0, .ref m), (1, .int (nI t))] rfl ?_
  have hk := mb_lt60 hb hn ht
  refine g_aload_n F 0 rfl dX5_insert_0 ?_
  refine g_get F 5 0 1 inX5 rfl rfl (by decide) tw_fl_X5_15 rfl dX5_insert_1 ?_
  refine g_bipush F (nI 60) (by decide) dX5_insert_4 ?_
  refine n_icmp_lt F 10 dX5_insert_6 (by decide) (by omega) (by omega) (fun c_6 => ?_) (fun c_6 => absurd c_6 (by omega))
  refine g_aload_n F 0 rfl dX5_insert_10 ?_
  refine g_iload_n F 1 rfl dX5_insert_11 ?_
  refine g_cVi F (wr := []) [] (c_X5_spotOf E m a f k (nI t) (by omega)) (gi_V tw_ml_X5_19 tw_im_X5_spotOf tw_se_X5_spotOf tw_in_X5 tw_co_X5_spotOf) 1 rfl (by decide) ⟨rfl, rfl, by decide, by decide, Nat.zero_le _, Nat.zero_le _⟩ 5 0 rfl rfl [0, 1] [] [0, 1] (fun u => [ob m 5 [.ref a, .int (nI k)], ia E a 60 f]) rfl rfl (by decide) (fun _ => rfl) rfl (Nat.le_of_ble_eq_true rfl) dX5_insert_12 (fun r_12 u hu_12 => ?_)
  revert hu_12; revert u; intro s_12 hu_12
  obtain ⟨rfl, hs1, hs2, hs3⟩ := hu_12
  refine g_istore_n F 2 [(0, .ref m), (1, .int (nI t)), (2, .int (nI s_12))] [1, 2, 0] dX5_insert_15 rfl (by decide) rfl ?_
  refine g_aload_n F 0 rfl dX5_insert_16 ?_
  refine g_get F 5 0 1 inX5 rfl rfl (by decide) tw_fl_X5_15 rfl dX5_insert_17 ?_
  refine g_istore_n F 3 [(0, .ref m), (1, .int (nI t)), (2, .int (nI s_12)), (3, .int (nI k))] [1, 2, 3, 0] dX5_insert_20 rfl (by decide) rfl ?_
  have lp_21 : ∀ (n_21 : Nat) (i : Nat) (g : Nat → Int32), (s_12 ≤ i) → (i ≤ k) → (∀ j, j < i → g j = f j) → (∀ j, i < j → j ≤ k → g j = f (j - 1)) → i < n_21 → GW E X 0 0 [ob m 5 [.ref a, .int (nI k)], ia E a 60 g] [(0, .ref m), (1, .int (nI t)), (2, .int (nI s_12)), (3, .int (nI i))] 21 [] := by
    intro n_21
    induction n_21 with
    | zero => intro i g hi1 hi2 g1 g2 hm_21; exact absurd hm_21 (Nat.not_lt_zero _)
    | succ n_21 ih_21 =>
      intro i g hi1 hi2 g1 g2 hm_21
      refine g_iload_n F 3 rfl dX5_insert_21 ?_
      refine g_iload_n F 2 rfl dX5_insert_22 ?_
      refine n_icmp_le F 46 dX5_insert_23 (by decide) (by omega) (by omega) (fun c_23 => ?_) (fun c_23 => ?_)
      · refine g_aload_n F 0 rfl dX5_insert_46 ?_
        refine g_get F 5 0 0 inX5 rfl rfl (by decide) tw_fl_X5_9 rfl dX5_insert_47 ?_
        refine g_iload_n F 2 rfl dX5_insert_50 ?_
        refine g_iload_n F 1 rfl dX5_insert_51 ?_
        refine g_iast F 1 [ob m 5 [.ref a, .int (nI k)], ia E a 60 (upd g s_12 (nI t))] rfl (by omega) (by decide) rfl dX5_insert_52 ?_
        refine g_aload_n F 0 rfl dX5_insert_53 ?_
        refine g_dup F rfl dX5_insert_54 ?_
        refine g_get F 5 0 1 inX5 rfl rfl (by decide) tw_fl_X5_15 rfl dX5_insert_55 ?_
        refine g_iconst F (nI 1) (by decide) dX5_insert_58 ?_
        refine n_add F dX5_insert_59 ?_
        refine g_put F 5 0 1 [ob m 5 [.ref a, .int (nI (k + 1))], ia E a 60 (upd g s_12 (nI t))] inX5 tyX5_ok nmX5 rfl rfl (by decide) tw_fl_X5_15 rfl rfl rfl rfl (Nat.le_of_ble_eq_true rfl) rfl dX5_insert_60 ?_
        exact R (upd g s_12 (nI t)) _ _ dX5_insert_63 (mb_ins hb hn ht hs1 hs2 hs3 (fun j hj => g1 j (by omega)) (fun j h1 h2 => g2 j (by omega) h2))
      · obtain ⟨z, rfl⟩ : ∃ z, i = z + 1 := ⟨i - 1, by omega⟩
        refine g_aload_n F 0 rfl dX5_insert_26 ?_
        refine g_get F 5 0 0 inX5 rfl rfl (by decide) tw_fl_X5_9 rfl dX5_insert_27 ?_
        refine g_iload_n F 3 rfl dX5_insert_30 ?_
        refine g_aload_n F 0 rfl dX5_insert_31 ?_
        refine g_get F 5 0 0 inX5 rfl rfl (by decide) tw_fl_X5_9 rfl dX5_insert_32 ?_
        refine g_iload_n F 3 rfl dX5_insert_35 ?_
        refine g_iconst F (nI 1) (by decide) dX5_insert_36 ?_
        refine n_sub F (by omega) dX5_insert_37 ?_
        refine g_top (nI z) (rfl) ?_
        refine g_iald F 1 rfl (by omega) (by decide) dX5_insert_38 ?_
        refine g_iast F 1 [ob m 5 [.ref a, .int (nI k)], ia E a 60 (upd g (z + 1) (g z))] rfl (by omega) (by decide) rfl dX5_insert_39 ?_
        refine g_iinc F (nI z) 3 3 [(0, .ref m), (1, .int (nI t)), (2, .int (nI s_12)), (3, .int (nI z))] [1, 2, 3, 0] dX5_insert_40 rfl (n_dec z) (by decide) rfl ?_
        refine g_goto F 21 dX5_insert_43 (by decide) ?_
        exact ih_21 z (upd g (z + 1) (g z)) (by omega) (by omega) (fun j hj => (pk_un (by omega)).trans (g1 j (by omega))) (fun j h1 h2 => by
            by_cases c : j = z + 1
            · subst c; exact pk_us.trans (g1 z (by omega))
            · exact (pk_un c).trans (g2 j (by omega) h2)) (by omega)
  exact lp_21 _ k f (by omega) (by omega) (fun _ _ => rfl) (fun j h1 h2 => absurd h1 (by omega)) (Nat.lt_succ_self _)

set_option maxHeartbeats 4000000 in
set_option maxRecDepth 100000 in
theorem c_X5_remove (E : Ev) (m : Nat) (a : Nat) (f : Nat → Int32) (k : Nat) (b : Nat → Nat) (i0 : Nat) (hb : MB f (k + 1) b) (hi0 : i0 < k + 1) : CTv E yX5_remove (wq yX5_remove cX5_remove 3 none) (rmk 1 22) [.ref m, .int (nI (b i0))] [ob m 5 [.ref a, .int (nI (k + 1))], ia E a 60 f] (fun (u : (Nat → Int32)) => ∃ b2, MB u k b2 ∧ ∀ q, (∃ i, i < k ∧ b2 i = q) ↔ (q ≠ b i0 ∧ ∃ i, i < k + 1 ∧ b i = q)) (fun (u : (Nat → Int32)) => [ob m 5 [.ref a, .int (nI k)], ia E a 60 u]) := by
  refine CTv.of (by decide) (Nat.le_of_ble_eq_true rfl) (fun X F R => ?_)
  refine g_lv [0, 1] [(0, .ref m), (1, .int (nI (b i0)))] rfl ?_
  have hk := hb.1
  refine g_aload_n F 0 rfl dX5_remove_0 ?_
  refine g_dup F rfl dX5_remove_1 ?_
  refine g_get F 5 0 1 inX5 rfl rfl (by decide) tw_fl_X5_15 rfl dX5_remove_2 ?_
  refine g_iconst F (nI 1) (by decide) dX5_remove_5 ?_
  refine n_sub F (by omega) dX5_remove_6 ?_
  refine g_top (nI k) (rfl) ?_
  refine g_put F 5 0 1 [ob m 5 [.ref a, .int (nI k)], ia E a 60 f] inX5 tyX5_ok nmX5 rfl rfl (by decide) tw_fl_X5_15 rfl rfl rfl rfl (Nat.le_of_ble_eq_true rfl) rfl dX5_remove_7 ?_
  refine g_aload_n F 0 rfl dX5_remove_10 ?_
  refine g_iload_n F 1 rfl dX5_remove_11 ?_
  refine g_cVi F (wr := []) [] (c_X5_spotOf E m a f k (nI (b i0)) (by omega)) (gi_V tw_ml_X5_19 tw_im_X5_spotOf tw_se_X5_spotOf tw_in_X5 tw_co_X5_spotOf) 1 rfl (by decide) ⟨rfl, rfl, by decide, by decide, Nat.zero_le _, Nat.zero_le _⟩ 5 0 rfl rfl [0, 1] [] [0, 1] (fun u => [ob m 5 [.ref a, .int (nI k)], ia E a 60 f]) rfl rfl (by decide) (fun _ => rfl) rfl (Nat.le_of_ble_eq_true rfl) dX5_remove_12 (fun r_12 u hu_12 => ?_)
  revert hu_12; revert u; intro s_12 hu_12
  obtain ⟨rfl, hs1, hs2, hs3⟩ := hu_12
  refine g_istore_n F 2 [(0, .ref m), (1, .int (nI (b i0))), (2, .int (nI s_12))] [1, 2, 0] dX5_remove_15 rfl (by decide) rfl ?_
  have lp_16 : ∀ (n_16 : Nat) (i : Nat) (g : Nat → Int32), (s_12 ≤ i) → (i ≤ k) → (∀ j, j < s_12 → g j = f j) → (∀ j, s_12 ≤ j → j < i → g j = f (j + 1)) → (∀ j, i ≤ j → g j = f j) → k - i < n_16 → GW E X 0 0 [ob m 5 [.ref a, .int (nI k)], ia E a 60 g] [(0, .ref m), (1, .int (nI (b i0))), (2, .int (nI i))] 16 [] := by
    intro n_16
    induction n_16 with
    | zero => intro i g hi1 hi2 g1 g2 g3 hm_16; exact absurd hm_16 (Nat.not_lt_zero _)
    | succ n_16 ih_16 =>
      intro i g hi1 hi2 g1 g2 g3 hm_16
      refine g_iload_n F 2 rfl dX5_remove_16 ?_
      refine g_aload_n F 0 rfl dX5_remove_17 ?_
      refine g_get F 5 0 1 inX5 rfl rfl (by decide) tw_fl_X5_15 rfl dX5_remove_18 ?_
      refine n_icmp_ge F 44 dX5_remove_21 (by decide) (by omega) (by omega) (fun c_21 => ?_) (fun c_21 => ?_)
      · exact R g _ _ dX5_remove_44 (mb_del hb hi0 hs1 hs2 hs3 g1 (fun j h1 h2 => g2 j h1 (by omega)))
      · refine g_aload_n F 0 rfl dX5_remove_24 ?_
        refine g_get F 5 0 0 inX5 rfl rfl (by decide) tw_fl_X5_9 rfl dX5_remove_25 ?_
        refine g_iload_n F 2 rfl dX5_remove_28 ?_
        refine g_aload_n F 0 rfl dX5_remove_29 ?_
        refine g_get F 5 0 0 inX5 rfl rfl (by decide) tw_fl_X5_9 rfl dX5_remove_30 ?_
        refine g_iload_n F 2 rfl dX5_remove_33 ?_
        refine g_iconst F (nI 1) (by decide) dX5_remove_34 ?_
        refine n_add F dX5_remove_35 ?_
        refine g_iald F 1 rfl (by omega) (by decide) dX5_remove_36 ?_
        refine g_iast F 1 [ob m 5 [.ref a, .int (nI k)], ia E a 60 (upd g i (g (i + 1)))] rfl (by omega) (by decide) rfl dX5_remove_37 ?_
        refine g_iinc F (nI (i + 1)) 2 2 [(0, .ref m), (1, .int (nI (b i0))), (2, .int (nI (i + 1)))] [1, 2, 0] dX5_remove_38 rfl (n_inc i) (by decide) rfl ?_
        refine g_goto F 16 dX5_remove_41 (by decide) ?_
        exact ih_16 (i + 1) (upd g i (g (i + 1))) (by omega) (by omega) (fun j hj => (pk_un (by omega)).trans (g1 j hj)) (fun j h1 h2 => by
            by_cases c : j = i
            · subst c; exact pk_us.trans (g3 (j + 1) (by omega))
            · exact (pk_un c).trans (g2 j h1 (by omega))) (fun j hj => (pk_un (by omega)).trans (g3 j (by omega))) (by omega)
  exact lp_16 _ s_12 f (by omega) (by omega) (fun _ _ => rfl) (fun j h1 h2 => absurd h1 (by omega)) (fun _ _ => rfl) (Nat.lt_succ_self _)
end
section
/-- a rising row of k numbers below B -/
def SQ (B : Nat) (f : Nat → Int32) (k : Nat) (b : Nat → Nat) : Prop := k ≤ 60 ∧ (∀ i, i < k → f i = nI (b i) ∧ b i < B) ∧ ∀ i j, i < j → j < k → b i < b j
theorem sq_le {B : Nat} {f : Nat → Int32} {k : Nat} {b : Nat → Nat} (h : SQ B f k b) {i j : Nat} (hij : i ≤ j) (hj : j < k) : b i ≤ b j := by
  rcases Nat.lt_or_ge i j with q | q
  · exact Nat.le_of_lt (h.2.2 i j q hj)
  · rw [show i = j by omega]; exact Nat.le_refl _
theorem sq_ins {B : Nat} {f g : Nat → Int32} {k s t : Nat} {b : Nat → Nat} (hB : B ≤ 2 ^ 31) (hk : k < 60) (h : SQ B f k b) (hn : ∀ i, i < k → b i ≠ t) (ht : t < B) (hs : s ≤ k) (h2 : ∀ j, j < s → f j < nI t) (h3 : s = k ∨ nI t ≤ f s) (g1 : ∀ j, j < s → g j = f j) (g2 : ∀ j, s < j → j ≤ k → g j = f (j - 1)) :
    ∃ b2, SQ B (upd g s (nI t)) (k + 1) b2 ∧ ∀ q, (∃ i, i < k + 1 ∧ b2 i = q) ↔ (q = t ∨ ∃ i, i < k ∧ b i = q) := by
  have lo : ∀ j, j < s → b j < t := by
    intro j hj
    have z := h2 j hj
    rw [(h.2.1 j (by omega)).1] at z
    exact (nI_ltI (by have := (h.2.1 j (by omega)).2; omega) (by omega)).mp z
  have hi : ∀ j, s ≤ j → j < k → t < b j := by
    intro j hj hjk
    rcases h3 with rfl | z
    · omega
    · rw [(h.2.1 s (by omega)).1] at z
      have z2 := (nI_leI (by omega) (by have := (h.2.1 s (by omega)).2; omega)).mp z
      have z3 := sq_le h hj hjk
      have z4 := hn s (by omega)
      omega
  refine ⟨fun j => if j < s then b j else if j = s then t else b (j - 1), ⟨by omega, ?_, ?_⟩, ?_⟩
  · intro i hik
    by_cases c1 : i < s
    · simp only [c1, if_true]
      rw [pk_un (by omega), g1 i c1]
      exact h.2.1 i (by omega)
    · by_cases c2 : i = s
      · subst c2
        simp only [Nat.lt_irrefl, if_false, if_true]
        exact ⟨pk_us, ht⟩
      · simp only [c1, c2, if_false]
        rw [pk_un c2, g2 i (by omega) (by omega)]
        exact h.2.1 (i - 1) (by omega)
  · intro i j hij hjk
    simp only
    by_cases c1 : j < s
    · rw [if_pos (by omega), if_pos c1]
      exact h.2.2 i j hij (by omega)
    · by_cases c2 : j = s
      · rw [if_pos (by omega), if_neg c1, if_pos c2]
        exact lo i (by omega)
      · rw [if_neg c1, if_neg c2]
        by_cases c3 : i < s
        · rw [if_pos c3]
          exact Nat.lt_trans (lo i c3) (hi (j - 1) (by omega) (by omega))
        · rw [if_neg c3]
          by_cases c4 : i = s
          · rw [if_pos c4]
            exact hi (j - 1) (by omega) (by omega)
          · rw [if_neg c4]
            exact h.2.2 (i - 1) (j - 1) (by omega) (by omega)
  · intro q
    constructor
    · rintro ⟨i, hik, e⟩
      simp only at e
      by_cases c1 : i < s
      · rw [if_pos c1] at e
        exact Or.inr ⟨i, by omega, e⟩
      · rw [if_neg c1] at e
        by_cases c2 : i = s
        · rw [if_pos c2] at e
          exact Or.inl e.symm
        · rw [if_neg c2] at e
          exact Or.inr ⟨i - 1, by omega, e⟩
    · rintro (rfl | ⟨i, hik, e⟩)
      · exact ⟨s, by omega, by simp⟩
      · by_cases c1 : i < s
        · exact ⟨i, by omega, by simp only [c1, if_true]; exact e⟩
        · refine ⟨i + 1, by omega, ?_⟩
          simp only
          rw [if_neg (by omega), if_neg (by omega)]
          exact e

set_option maxHeartbeats 4000000 in
set_option maxRecDepth 100000 in
theorem c_X4_size (E : Ev) (m : Nat) (a : Nat) (f : Nat → Int32) (k : Nat)  : RDi E yX4_size (wq yX4_size cX4_size 1 (some .int)) (rmk 0 0) [.ref m] [ob m 4 [.ref a, .int (nI k)], ia E a 60 f] (nI k) := by
  refine CTi.of (by decide) (Nat.le_of_ble_eq_true rfl) (fun X F R => ?_)
  refine g_lv [0] [(0, .ref m)] rfl ?_
  refine g_aload_n F 0 rfl dX4_size_0 ?_
  refine g_get F 4 0 1 inX4 rfl rfl (by decide) tw_fl_X4_15 rfl dX4_size_1 ?_
  exact R _ (()) _ _ dX4_size_4 (rfl)

set_option maxHeartbeats 4000000 in
set_option maxRecDepth 100000 in
theorem c_X4_at (E : Ev) (m : Nat) (a : Nat) (f : Nat → Int32) (k : Nat) (b : Nat → Nat) (j : Nat) (hb : ∀ i, i < k → f i = nI (b i)) (hj : j < k) (hk : k ≤ 60) : RDi E yX4_at (wq yX4_at cX4_at 2 (some .int)) (rmk 0 0) [.ref m, .int (nI j)] [ob m 4 [.ref a, .int (nI k)], ia E a 60 f] (nI (b j)) := by
  refine CTi.of (by decide) (Nat.le_of_ble_eq_true rfl) (fun X F R => ?_)
  refine g_lv [0, 1] [(0, .ref m), (1, .int (nI j))] rfl ?_
  refine g_aload_n F 0 rfl dX4_at_0 ?_
  refine g_get F 4 0 0 inX4 rfl rfl (by decide) tw_fl_X4_9 rfl dX4_at_1 ?_
  refine g_iload_n F 1 rfl dX4_at_4 ?_
  refine g_iald F 1 rfl (by omega) (by decide) dX4_at_5 ?_
  refine g_top (nI (b j)) (hb j hj) ?_
  exact R _ (()) _ _ dX4_at_6 (rfl)

set_option maxHeartbeats 4000000 in
set_option maxRecDepth 100000 in
theorem c_X4_clear (E : Ev) (m : Nat) (a : Nat) (f : Nat → Int32) (x : Int32)  : CTv E yX4_clear (wq yX4_clear cX4_clear 1 none) (rmk 0 0) [.ref m] [ob m 4 [.ref a, .int x], ia E a 60 f] (fun (u : Unit) => True) (fun (u : Unit) => [ob m 4 [.ref a, .int (nI 0)], ia E a 60 f]) := by
  refine CTv.of (by decide) (Nat.le_of_ble_eq_true rfl) (fun X F R => ?_)
  refine g_lv [0] [(0, .ref m)] rfl ?_
  refine g_aload_n F 0 rfl dX4_clear_0 ?_
  refine g_iconst F (nI 0) (by decide) dX4_clear_1 ?_
  refine g_put F 4 0 1 [ob m 4 [.ref a, .int (nI 0)], ia E a 60 f] inX4 tyX4_ok nmX4 rfl rfl (by decide) tw_fl_X4_15 rfl rfl rfl rfl (Nat.le_of_ble_eq_true rfl) rfl dX4_clear_2 ?_
  exact R (()) _ _ dX4_clear_5 (trivial)

set_option maxHeartbeats 4000000 in
set_option maxRecDepth 100000 in
theorem c_X4_insert (E : Ev) (m : Nat) (a : Nat) (f : Nat → Int32) (k : Nat) (B : Nat) (b : Nat → Nat) (t : Nat) (hB : B ≤ 2 ^ 31) (hk : k < 60) (hb : SQ B f k b) (hn : ∀ i, i < k → b i ≠ t) (ht : t < B) : CTv E yX4_insert (wq yX4_insert cX4_insert 3 none) (rmk 0 0) [.ref m, .int (nI t)] [ob m 4 [.ref a, .int (nI k)], ia E a 60 f] (fun (u : (Nat → Int32)) => ∃ b2, SQ B u (k + 1) b2 ∧ ∀ q, (∃ i, i < k + 1 ∧ b2 i = q) ↔ (q = t ∨ ∃ i, i < k ∧ b i = q)) (fun (u : (Nat → Int32)) => [ob m 4 [.ref a, .int (nI (k + 1))], ia E a 60 u]) := by
  refine CTv.of (by decide) (Nat.le_of_ble_eq_true rfl) (fun X F R => ?_)
  refine g_lv [0, 1] [(0, .ref m), (1, .int (nI t))] rfl ?_
  refine g_aload_n F 0 rfl dX4_insert_0 ?_
  refine g_get F 4 0 1 inX4 rfl rfl (by decide) tw_fl_X4_15 rfl dX4_insert_1 ?_
  refine g_bipush F (nI 60) (by decide) dX4_insert_4 ?_
  refine n_icmp_lt F 10 dX4_insert_6 (by decide) (by omega) (by omega) (fun c_6 => ?_) (fun c_6 => absurd c_6 (by omega))
  refine g_aload_n F 0 rfl dX4_insert_10 ?_
  refine g_get F 4 0 1 inX4 rfl rfl (by decide) tw_fl_X4_15 rfl dX4_insert_11 ?_
  refine g_istore_n F 2 [(0, .ref m), (1, .int (nI t)), (2, .int (nI k))] [1, 2, 0] dX4_insert_14 rfl (by decide) rfl ?_
  have lp_15 : ∀ (n_15 : Nat) (i : Nat) (g : Nat → Int32), (i ≤ k) → (∀ j, j < i → g j = f j) → (∀ j, i < j → j ≤ k → g j = f (j - 1)) → (i = k ∨ nI t ≤ f i) → i < n_15 → GW E X 0 0 [ob m 4 [.ref a, .int (nI k)], ia E a 60 g] [(0, .ref m), (1, .int (nI t)), (2, .int (nI i))] 15 [] := by
    intro n_15
    induction n_15 with
    | zero => intro i g hi2 g1 g2 hup hm_15; exact absurd hm_15 (Nat.not_lt_zero _)
    | succ n_15 ih_15 =>
      intro i g hi2 g1 g2 hup hm_15
      refine g_iload_n F 2 rfl dX4_insert_15 ?_
      refine n_if_le F 51 dX4_insert_16 (by decide) (by omega) (fun c_16 => ?_) (fun c_16 => ?_)
      · refine g_aload_n F 0 rfl dX4_insert_51 ?_
        refine g_get F 4 0 0 inX4 rfl rfl (by decide) tw_fl_X4_9 rfl dX4_insert_52 ?_
        refine g_iload_n F 2 rfl dX4_insert_55 ?_
        refine g_iload_n F 1 rfl dX4_insert_56 ?_
        refine g_iast F 1 [ob m 4 [.ref a, .int (nI k)], ia E a 60 (upd g i (nI t))] rfl (by omega) (by decide) rfl dX4_insert_57 ?_
        refine g_aload_n F 0 rfl dX4_insert_58 ?_
        refine g_dup F rfl dX4_insert_59 ?_
        refine g_get F 4 0 1 inX4 rfl rfl (by decide) tw_fl_X4_15 rfl dX4_insert_60 ?_
        refine g_iconst F (nI 1) (by decide) dX4_insert_63 ?_
        refine n_add F dX4_insert_64 ?_
        refine g_put F 4 0 1 [ob m 4 [.ref a, .int (nI (k + 1))], ia E a 60 (upd g i (nI t))] inX4 tyX4_ok nmX4 rfl rfl (by decide) tw_fl_X4_15 rfl rfl rfl rfl (Nat.le_of_ble_eq_true rfl) rfl dX4_insert_65 ?_
        exact R (upd g i (nI t)) _ _ dX4_insert_68 (sq_ins hB hk hb hn ht hi2 (fun j hj => absurd hj (by omega)) (hup) (fun j hj => g1 j (by omega)) (fun j h1 h2 => g2 j (by omega) h2))
      · obtain ⟨z, rfl⟩ : ∃ z, i = z + 1 := ⟨i - 1, by omega⟩
        refine g_aload_n F 0 rfl dX4_insert_19 ?_
        refine g_get F 4 0 0 inX4 rfl rfl (by decide) tw_fl_X4_9 rfl dX4_insert_20 ?_
        refine g_iload_n F 2 rfl dX4_insert_23 ?_
        refine g_iconst F (nI 1) (by decide) dX4_insert_24 ?_
        refine n_sub F (by omega) dX4_insert_25 ?_
        refine g_top (nI z) (rfl) ?_
        refine g_iald F 1 rfl (by omega) (by decide) dX4_insert_26 ?_
        refine g_iload_n F 1 rfl dX4_insert_27 ?_
        refine g_icmp_le F 51 dX4_insert_28 (by decide) (fun c_28 => ?_) (fun c_28 => ?_)
        · refine g_aload_n F 0 rfl dX4_insert_51 ?_
          refine g_get F 4 0 0 inX4 rfl rfl (by decide) tw_fl_X4_9 rfl dX4_insert_52 ?_
          refine g_iload_n F 2 rfl dX4_insert_55 ?_
          refine g_iload_n F 1 rfl dX4_insert_56 ?_
          refine g_iast F 1 [ob m 4 [.ref a, .int (nI k)], ia E a 60 (upd g (z + 1) (nI t))] rfl (by omega) (by decide) rfl dX4_insert_57 ?_
          refine g_aload_n F 0 rfl dX4_insert_58 ?_
          refine g_dup F rfl dX4_insert_59 ?_
          refine g_get F 4 0 1 inX4 rfl rfl (by decide) tw_fl_X4_15 rfl dX4_insert_60 ?_
          refine g_iconst F (nI 1) (by decide) dX4_insert_63 ?_
          refine n_add F dX4_insert_64 ?_
          refine g_put F 4 0 1 [ob m 4 [.ref a, .int (nI (k + 1))], ia E a 60 (upd g (z + 1) (nI t))] inX4 tyX4_ok nmX4 rfl rfl (by decide) tw_fl_X4_15 rfl rfl rfl rfl (Nat.le_of_ble_eq_true rfl) rfl dX4_insert_65 ?_
          exact R (upd g (z + 1) (nI t)) _ _ dX4_insert_68 (sq_ins hB hk hb hn ht hi2 (fun j hj => by
          have e1 := (hb.2.1 j (by omega)).1
          have e2 := (hb.2.1 z (by omega)).1
          have l2 := (hb.2.1 z (by omega)).2
          have e3 := g1 z (by omega)
          have e4 := sq_le hb (show j ≤ z by omega) (show z < k by omega)
          rw [e3, e2] at c_28
          have e5 := (nI_leI (by omega) (by omega)).mp c_28
          have e6 := hn z (by omega)
          rw [e1]
          exact (nI_ltI (by omega) (by omega)).mpr (by omega)) (hup) (fun j hj => g1 j (by omega)) (fun j h1 h2 => g2 j (by omega) h2))
        · refine g_aload_n F 0 rfl dX4_insert_31 ?_
          refine g_get F 4 0 0 inX4 rfl rfl (by decide) tw_fl_X4_9 rfl dX4_insert_32 ?_
          refine g_iload_n F 2 rfl dX4_insert_35 ?_
          refine g_aload_n F 0 rfl dX4_insert_36 ?_
          refine g_get F 4 0 0 inX4 rfl rfl (by decide) tw_fl_X4_9 rfl dX4_insert_37 ?_
          refine g_iload_n F 2 rfl dX4_insert_40 ?_
          refine g_iconst F (nI 1) (by decide) dX4_insert_41 ?_
          refine n_sub F (by omega) dX4_insert_42 ?_
          refine g_top (nI z) (rfl) ?_
          refine g_iald F 1 rfl (by omega) (by decide) dX4_insert_43 ?_
          refine g_iast F 1 [ob m 4 [.ref a, .int (nI k)], ia E a 60 (upd g (z + 1) (g z))] rfl (by omega) (by decide) rfl dX4_insert_44 ?_
          refine g_iinc F (nI z) 2 2 [(0, .ref m), (1, .int (nI t)), (2, .int (nI z))] [1, 2, 0] dX4_insert_45 rfl (n_dec z) (by decide) rfl ?_
          refine g_goto F 15 dX4_insert_48 (by decide) ?_
          exact ih_15 z (upd g (z + 1) (g z)) (by omega) (fun j hj => (pk_un (by omega)).trans (g1 j (by omega))) (fun j h1 h2 => by
            by_cases c : j = z + 1
            · subst c; exact pk_us.trans (g1 z (by omega))
            · exact (pk_un c).trans (g2 j (by omega) h2)) (Or.inr (by rw [← g1 z (by omega)]; exact Int32.le_of_lt (Int32.not_le.mp c_28))) (by omega)
  exact lp_15 _ k f (by omega) (fun _ _ => rfl) (fun j h1 h2 => absurd h1 (by omega)) (Or.inl rfl) (Nat.lt_succ_self _)

set_option maxHeartbeats 4000000 in
set_option maxRecDepth 100000 in
theorem c_X7_size (E : Ev) (m : Nat) (a : Nat) (c : Nat) (f : Nat → Int32) (g : Nat → Int32) (k : Nat)  : RDi E yX7_size (wq yX7_size cX7_size 1 (some .int)) (rmk 0 0) [.ref m] [ob m 7 [.ref a, .ref c, .int (nI k)], ia E a 60 f, ia E c 60 g] (nI k) := by
  refine CTi.of (by decide) (Nat.le_of_ble_eq_true rfl) (fun X F R => ?_)
  refine g_lv [0] [(0, .ref m)] rfl ?_
  refine g_aload_n F 0 rfl dX7_size_0 ?_
  refine g_get F 7 0 2 inX7 rfl rfl (by decide) tw_fl_X7_18 rfl dX7_size_1 ?_
  exact R _ (()) _ _ dX7_size_4 (rfl)

set_option maxHeartbeats 4000000 in
set_option maxRecDepth 100000 in
theorem c_X7_thingAt (E : Ev) (m : Nat) (a : Nat) (c : Nat) (f : Nat → Int32) (g : Nat → Int32) (k : Nat) (j : Nat) (hj : j < 60) : RDi E yX7_thingAt (wq yX7_thingAt cX7_thingAt 2 (some .int)) (rmk 0 0) [.ref m, .int (nI j)] [ob m 7 [.ref a, .ref c, .int (nI k)], ia E a 60 f, ia E c 60 g] (f j) := by
  refine CTi.of (by decide) (Nat.le_of_ble_eq_true rfl) (fun X F R => ?_)
  refine g_lv [0, 1] [(0, .ref m), (1, .int (nI j))] rfl ?_
  refine g_aload_n F 0 rfl dX7_thingAt_0 ?_
  refine g_get F 7 0 0 inX7 rfl rfl (by decide) tw_fl_X7_9 rfl dX7_thingAt_1 ?_
  refine g_iload_n F 1 rfl dX7_thingAt_4 ?_
  refine g_iald F 1 rfl (by omega) (by decide) dX7_thingAt_5 ?_
  exact R _ (()) _ _ dX7_thingAt_6 (rfl)

set_option maxHeartbeats 4000000 in
set_option maxRecDepth 100000 in
theorem c_X7_distanceAt (E : Ev) (m : Nat) (a : Nat) (c : Nat) (f : Nat → Int32) (g : Nat → Int32) (k : Nat) (j : Nat) (hj : j < 60) : RDi E yX7_distanceAt (wq yX7_distanceAt cX7_distanceAt 2 (some .int)) (rmk 0 0) [.ref m, .int (nI j)] [ob m 7 [.ref a, .ref c, .int (nI k)], ia E a 60 f, ia E c 60 g] (g j) := by
  refine CTi.of (by decide) (Nat.le_of_ble_eq_true rfl) (fun X F R => ?_)
  refine g_lv [0, 1] [(0, .ref m), (1, .int (nI j))] rfl ?_
  refine g_aload_n F 0 rfl dX7_distanceAt_0 ?_
  refine g_get F 7 0 1 inX7 rfl rfl (by decide) tw_fl_X7_15 rfl dX7_distanceAt_1 ?_
  refine g_iload_n F 1 rfl dX7_distanceAt_4 ?_
  refine g_iald F 2 rfl (by omega) (by decide) dX7_distanceAt_5 ?_
  exact R _ (()) _ _ dX7_distanceAt_6 (rfl)

set_option maxHeartbeats 4000000 in
set_option maxRecDepth 100000 in
theorem c_X7_clear (E : Ev) (m : Nat) (a : Nat) (c : Nat) (f : Nat → Int32) (g : Nat → Int32) (k : Nat)  : CTv E yX7_clear (wq yX7_clear cX7_clear 1 none) (rmk 0 0) [.ref m] [ob m 7 [.ref a, .ref c, .int (nI k)], ia E a 60 f, ia E c 60 g] (fun (u : Unit) => True) (fun (u : Unit) => [ob m 7 [.ref a, .ref c, .int (nI 0)], ia E a 60 f, ia E c 60 g]) := by
  refine CTv.of (by decide) (Nat.le_of_ble_eq_true rfl) (fun X F R => ?_)
  refine g_lv [0] [(0, .ref m)] rfl ?_
  refine g_aload_n F 0 rfl dX7_clear_0 ?_
  refine g_iconst F (nI 0) (by decide) dX7_clear_1 ?_
  refine g_put F 7 0 2 [ob m 7 [.ref a, .ref c, .int (nI 0)], ia E a 60 f, ia E c 60 g] inX7 tyX7_ok nmX7 rfl rfl (by decide) tw_fl_X7_18 rfl rfl rfl rfl (Nat.le_of_ble_eq_true rfl) rfl dX7_clear_2 ?_
  exact R (()) _ _ dX7_clear_5 (trivial)

set_option maxHeartbeats 4000000 in
set_option maxRecDepth 100000 in
theorem c_X7_append (E : Ev) (m : Nat) (a : Nat) (c : Nat) (f : Nat → Int32) (g : Nat → Int32) (k : Nat) (x : Int32) (y : Int32) (hk : k < 60) : CTv E yX7_append (wq yX7_append cX7_append 3 none) (rmk 0 0) [.ref m, .int x, .int y] [ob m 7 [.ref a, .ref c, .int (nI k)], ia E a 60 f, ia E c 60 g] (fun (u : Unit) => True) (fun (u : Unit) => [ob m 7 [.ref a, .ref c, .int (nI (k + 1))], ia E a 60 (upd f k x), ia E c 60 (upd g k y)]) := by
  refine CTv.of (by decide) (Nat.le_of_ble_eq_true rfl) (fun X F R => ?_)
  refine g_lv [0, 1, 2] [(0, .ref m), (1, .int x), (2, .int y)] rfl ?_
  refine g_aload_n F 0 rfl dX7_append_0 ?_
  refine g_get F 7 0 2 inX7 rfl rfl (by decide) tw_fl_X7_18 rfl dX7_append_1 ?_
  refine g_bipush F (nI 60) (by decide) dX7_append_4 ?_
  refine n_icmp_lt F 10 dX7_append_6 (by decide) (by omega) (by omega) (fun c_6 => ?_) (fun c_6 => absurd c_6 (by omega))
  refine g_aload_n F 0 rfl dX7_append_10 ?_
  refine g_get F 7 0 0 inX7 rfl rfl (by decide) tw_fl_X7_9 rfl dX7_append_11 ?_
  refine g_aload_n F 0 rfl dX7_append_14 ?_
  refine g_get F 7 0 2 inX7 rfl rfl (by decide) tw_fl_X7_18 rfl dX7_append_15 ?_
  refine g_iload_n F 1 rfl dX7_append_18 ?_
  refine g_iast F 1 [ob m 7 [.ref a, .ref c, .int (nI k)], ia E a 60 (upd f k x), ia E c 60 g] rfl (by omega) (by decide) rfl dX7_append_19 ?_
  refine g_aload_n F 0 rfl dX7_append_20 ?_
  refine g_get F 7 0 1 inX7 rfl rfl (by decide) tw_fl_X7_15 rfl dX7_append_21 ?_
  refine g_aload_n F 0 rfl dX7_append_24 ?_
  refine g_get F 7 0 2 inX7 rfl rfl (by decide) tw_fl_X7_18 rfl dX7_append_25 ?_
  refine g_iload_n F 2 rfl dX7_append_28 ?_
  refine g_iast F 2 [ob m 7 [.ref a, .ref c, .int (nI k)], ia E a 60 (upd f k x), ia E c 60 (upd g k y)] rfl (by omega) (by decide) rfl dX7_append_29 ?_
  refine g_aload_n F 0 rfl dX7_append_30 ?_
  refine g_dup F rfl dX7_append_31 ?_
  refine g_get F 7 0 2 inX7 rfl rfl (by decide) tw_fl_X7_18 rfl dX7_append_32 ?_
  refine g_iconst F (nI 1) (by decide) dX7_append_35 ?_
  refine n_add F dX7_append_36 ?_
  refine g_put F 7 0 2 [ob m 7 [.ref a, .ref c, .int (nI (k + 1))], ia E a 60 (upd f k x), ia E c 60 (upd g k y)] inX7 tyX7_ok nmX7 rfl rfl (by decide) tw_fl_X7_18 rfl rfl rfl rfl (Nat.le_of_ble_eq_true rfl) rfl dX7_append_37 ?_
  exact R (()) _ _ dX7_append_40 (trivial)
end
section
/-- the values' range -/
def VR (pl : Nat → Int32) : Prop := ∀ j, j < 480 → -1000 ≤ (pl j).toInt ∧ (pl j).toInt ≤ 1000
/-- the rows' lengths -/
def LR (ln : Nat → Int32) (L : Nat → Nat) : Prop := ∀ t, t < 60 → ln t = nI (L t) ∧ L t ≤ 8
def dfN (pl : Nat → Int32) (a b i : Nat) : Nat := ((pl (a * 8 + i)).toInt - (pl (b * 8 + i)).toInt).natAbs
theorem ab_dif {x y : Int32} (hx : -1000 ≤ x.toInt ∧ x.toInt ≤ 1000) (hy : -1000 ≤ y.toInt ∧ y.toInt ≤ 1000) : (if 0 ≤ x - y then x - y else 0 - (x - y)) = nI (x.toInt - y.toInt).natAbs := by
  have h : (x - y).toInt = x.toInt - y.toInt := by
    rw [Int32.toInt_sub]
    exact Int.bmod_eq_of_le (by omega) (by omega)
  apply Int32.toInt_inj.mp
  rw [nI_toInt (by omega)]
  split
  · next c =>
    rw [Int32.le_iff_toInt_le, Int32.toInt_zero, h] at c
    rw [h]; omega
  · next c =>
    rw [Int32.le_iff_toInt_le, Int32.toInt_zero, h] at c
    rw [Int32.toInt_sub, h, Int32.toInt_zero]
    rw [Int.bmod_eq_of_le (by omega) (by omega)]
    omega
theorem df_le {pl : Nat → Int32} {a b i : Nat} (h : VR pl) (ha : a < 60) (hb : b < 60) (hi : i < 8) : dfN pl a b i ≤ 2000 := by
  have h1 := h (a * 8 + i) (by omega)
  have h2 := h (b * 8 + i) (by omega)
  unfold dfN
  omega
theorem df_sym (pl : Nat → Int32) (a b i : Nat) : dfN pl a b i = dfN pl b a i := by unfold dfN; omega
def unl (pl : Nat → Int32) (a b : Nat) : Nat → Nat
  | 0 => 0
  | i + 1 => unl pl a b i + (if dfN pl a b i = 0 then 0 else 1)
def smd (pl : Nat → Int32) (a b : Nat) : Nat → Nat
  | 0 => 0
  | i + 1 => smd pl a b i + dfN pl a b i
def grd (pl : Nat → Int32) (a b : Nat) : Nat → Nat
  | 0 => 0
  | i + 1 => Nat.max (grd pl a b i) (dfN pl a b i)
theorem grd_le {pl : Nat → Int32} {a b : Nat} (h : VR pl) (ha : a < 60) (hb : b < 60) : ∀ i, i ≤ 8 → grd pl a b i ≤ 2000 := by
  intro i
  induction i with
  | zero => intro _; exact Nat.zero_le _
  | succ i ih =>
    intro hi
    exact Nat.max_le.mpr ⟨ih (by omega), df_le h ha hb (by omega)⟩
theorem smd_le {pl : Nat → Int32} {a b : Nat} (h : VR pl) (ha : a < 60) (hb : b < 60) : ∀ i, i ≤ 8 → smd pl a b i ≤ 2000 * i := by
  intro i
  induction i with
  | zero => intro _; exact Nat.zero_le _
  | succ i ih =>
    intro hi
    have h1 := ih (by omega)
    have h2 := df_le (i := i) h ha hb (by omega)
    show smd pl a b i + dfN pl a b i ≤ _
    omega
theorem unl_le (pl : Nat → Int32) (a b : Nat) : ∀ i, unl pl a b i ≤ i := by
  intro i
  induction i with
  | zero => exact Nat.zero_le _
  | succ i ih =>
    show unl pl a b i + _ ≤ _
    split <;> omega
/-- edits: a's first i values against b's first j -/
def edS (pl : Nat → Int32) (a b i : Nat) (prev : Nat → Nat) : Nat → Nat
  | 0 => i + 1
  | j + 1 => Nat.min (prev j + (if pl (b * 8 + j) = pl (a * 8 + i) then 0 else 1)) (1 + Nat.min (edS pl a b i prev j) (prev (j + 1)))
def edN (pl : Nat → Int32) (a b : Nat) : Nat → Nat → Nat
  | 0 => fun j => j
  | i + 1 => edS pl a b i (edN pl a b i)
theorem ed_le (pl : Nat → Int32) (a b : Nat) : ∀ i j, edN pl a b i j ≤ i + j := by
  intro i
  induction i with
  | zero => intro j; show j ≤ _; omega
  | succ i ih =>
    intro j
    induction j with
    | zero => show i + 1 ≤ _; omega
    | succ j jh =>
      show Nat.min _ (1 + Nat.min (edN pl a b (i + 1) j) (edN pl a b i (j + 1))) ≤ _
      have h1 := ih (j + 1)
      have h2 : Nat.min (edN pl a b (i + 1) j) (edN pl a b i (j + 1)) ≤ edN pl a b i (j + 1) := Nat.min_le_right _ _
      exact Nat.le_trans (Nat.min_le_right _ _) (by omega)
theorem ed_eq {pl : Nat → Int32} {a b i j : Nat} (h : pl (b * 8 + j) = pl (a * 8 + i)) : Nat.min (edN pl a b i j) (1 + Nat.min (edN pl a b (i + 1) j) (edN pl a b i (j + 1))) = edN pl a b (i + 1) (j + 1) := by
  show _ = Nat.min (edN pl a b i j + _) (1 + Nat.min (edN pl a b (i + 1) j) (edN pl a b i (j + 1)))
  rw [if_pos h]
  rfl
theorem ed_ne {pl : Nat → Int32} {a b i j : Nat} (h : ¬ pl (b * 8 + j) = pl (a * 8 + i)) : Nat.min (edN pl a b i j + 1) (1 + Nat.min (edN pl a b (i + 1) j) (edN pl a b i (j + 1))) = edN pl a b (i + 1) (j + 1) := by
  show _ = Nat.min (edN pl a b i j + _) (1 + Nat.min (edN pl a b (i + 1) j) (edN pl a b i (j + 1)))
  rw [if_neg h]
theorem ed_b {pl : Nat → Int32} {a b i j : Nat} (hi : i ≤ 8) (hj : j ≤ 8) : 1 + Nat.min (edN pl a b (i + 1) j) (edN pl a b i (j + 1)) < 2 ^ 31 := by
  have h1 := ed_le pl a b i (j + 1)
  have h2 : Nat.min (edN pl a b (i + 1) j) (edN pl a b i (j + 1)) ≤ edN pl a b i (j + 1) := Nat.min_le_right _ _
  omega
/-- v is among the first e values of t -/
def hsb (pl : Nat → Int32) (t : Nat) (v : Int32) : Nat → Bool
  | 0 => false
  | e + 1 => hsb pl t v e || decide (pl (t * 8 + e) = v)
theorem hsb_of {pl : Nat → Int32} {t : Nat} {v : Int32} : ∀ {e i : Nat}, i < e → pl (t * 8 + i) = v → hsb pl t v e = true := by
  intro e
  induction e with
  | zero => intro i h; exact absurd h (Nat.not_lt_zero i)
  | succ e ih =>
    intro i h hv
    show (hsb pl t v e || decide _) = true
    rcases Nat.lt_or_ge i e with q | q
    · rw [ih q hv]; rfl
    · have : i = e := by omega
      subst this
      simp [hv]
theorem hsb_no {pl : Nat → Int32} {t e : Nat} {v : Int32} (h : hsb pl t v e = false) (hv : ¬ pl (t * 8 + e) = v) : hsb pl t v (e + 1) = false := by
  show (hsb pl t v e || decide _) = false
  simp [h, hv]
/-- how many values of a's first i are new there and not in b -/
def msn (pl : Nat → Int32) (L : Nat → Nat) (a b : Nat) : Nat → Nat
  | 0 => 0
  | i + 1 => msn pl L a b i + (if hsb pl a (pl (a * 8 + i)) i = false ∧ hsb pl b (pl (a * 8 + i)) (L b) = false then 1 else 0)
theorem msn_le (pl : Nat → Int32) (L : Nat → Nat) (a b : Nat) : ∀ i, msn pl L a b i ≤ i := by
  intro i
  induction i with
  | zero => exact Nat.zero_le _
  | succ i ih =>
    show msn pl L a b i + _ ≤ _
    split <;> omega
theorem msn_1 {pl : Nat → Int32} {L : Nat → Nat} {a b i : Nat} (h1 : hsb pl a (pl (a * 8 + i)) i = false) (h2 : hsb pl b (pl (a * 8 + i)) (L b) = false) : msn pl L a b (i + 1) = msn pl L a b i + 1 := by
  show msn pl L a b i + _ = _
  rw [if_pos ⟨h1, h2⟩]
theorem msn_0 {pl : Nat → Int32} {L : Nat → Nat} {a b i : Nat} (h : hsb pl a (pl (a * 8 + i)) i = true ∨ hsb pl b (pl (a * 8 + i)) (L b) = true) : msn pl L a b (i + 1) = msn pl L a b i := by
  show msn pl L a b i + _ = _
  rw [if_neg (fun q => by rcases h with z | z <;> simp [z] at q), Nat.add_zero]

set_option maxHeartbeats 4000000 in
set_option maxRecDepth 100000 in
theorem c_X8_size (E : Ev) (ro : Nat) (la : Nat) (pa : Nat) (na : Nat) (ln : Nat → Int32) (pl : Nat → Int32) (li : Nat → Int32) (n : Nat)  : RDi E yX8_size (wq yX8_size cX8_size 1 (some .int)) (rmk 0 0) [.ref ro] [ob ro 8 [.ref la, .ref pa, .ref na, .int (nI n)], ia E la 60 ln, ia E pa 480 pl, ia E na 9 li] (nI n) := by
  refine CTi.of (by decide) (Nat.le_of_ble_eq_true rfl) (fun X F R => ?_)
  refine g_lv [0] [(0, .ref ro)] rfl ?_
  refine g_aload_n F 0 rfl dX8_size_0 ?_
  refine g_get F 8 0 3 inX8 rfl rfl (by decide) tw_fl_X8_21 rfl dX8_size_1 ?_
  exact R _ (()) _ _ dX8_size_4 (rfl)

set_option maxHeartbeats 4000000 in
set_option maxRecDepth 100000 in
theorem c_X8_holds (E : Ev) (ro : Nat) (la : Nat) (pa : Nat) (na : Nat) (ln : Nat → Int32) (pl : Nat → Int32) (li : Nat → Int32) (n : Nat) (x : Int32) (hn : n ≤ 60) : CTi E yX8_holds (wq yX8_holds cX8_holds 2 (some .boolean)) (rmk 0 0) [.ref ro, .int x] [ob ro 8 [.ref la, .ref pa, .ref na, .int (nI n)], ia E la 60 ln, ia E pa 480 pl, ia E na 9 li] (fun (r : Int32) (u : Unit) => (r = 1 ∧ ∃ t, t < n ∧ x = nI t) ∨ (r = 0 ∧ ∀ t, t < n → x ≠ nI t)) (fun (u : Unit) => [ob ro 8 [.ref la, .ref pa, .ref na, .int (nI n)], ia E la 60 ln, ia E pa 480 pl, ia E na 9 li]) := by
  refine CTi.ofZ (by decide) (Nat.le_of_ble_eq_true rfl) (fun X F R => ?_)
  refine g_lv [0, 1] [(0, .ref ro), (1, .int x)] rfl ?_
  refine g_iload_n F 1 rfl dX8_holds_0 ?_
  refine g_if_lt F 16 dX8_holds_1 (by decide) (fun c_1 => ?_) (fun c_1 => ?_)
  · refine g_iconst F (nI 0) (by decide) dX8_holds_16 ?_
    exact R _ (()) _ _ dX8_holds_17 (Or.inl rfl) (Or.inr ⟨rfl, fun t ht e => nI_pos (n := t) (by omega) (by rw [← e]; exact c_1)⟩)
  · refine g_iload_n F 1 rfl dX8_holds_4 ?_
    refine g_aload_n F 0 rfl dX8_holds_5 ?_
    refine g_get F 8 0 3 inX8 rfl rfl (by decide) tw_fl_X8_21 rfl dX8_holds_6 ?_
    refine g_icmp_ge F 16 dX8_holds_9 (by decide) (fun c_9 => ?_) (fun c_9 => ?_)
    · refine g_iconst F (nI 0) (by decide) dX8_holds_16 ?_
      exact R _ (()) _ _ dX8_holds_17 (Or.inl rfl) (Or.inr ⟨rfl, fun t ht e => nI_ge ht (by omega) (by rw [← e]; exact c_9)⟩)
    · refine g_iconst F (nI 1) (by decide) dX8_holds_12 ?_
      refine g_goto F 17 dX8_holds_13 (by decide) ?_
      exact R _ (()) _ _ dX8_holds_17 (Or.inr rfl) (Or.inl ⟨rfl, by
      obtain ⟨j, hj, e, -⟩ := pk_mu c_1 c_9 (by omega)
      exact ⟨j, hj, e⟩⟩)

set_option maxHeartbeats 4000000 in
set_option maxRecDepth 100000 in
theorem c_X8_lengthOf (E : Ev) (ro : Nat) (la : Nat) (pa : Nat) (na : Nat) (ln : Nat → Int32) (pl : Nat → Int32) (li : Nat → Int32) (n : Nat) (L : Nat → Nat) (t : Nat) (hL : LR ln L) (ht : t < 60) : RDi E yX8_lengthOf (wq yX8_lengthOf cX8_lengthOf 2 (some .int)) (rmk 0 0) [.ref ro, .int (nI t)] [ob ro 8 [.ref la, .ref pa, .ref na, .int (nI n)], ia E la 60 ln, ia E pa 480 pl, ia E na 9 li] (nI (L t)) := by
  refine CTi.of (by decide) (Nat.le_of_ble_eq_true rfl) (fun X F R => ?_)
  refine g_lv [0, 1] [(0, .ref ro), (1, .int (nI t))] rfl ?_
  refine g_aload_n F 0 rfl dX8_lengthOf_0 ?_
  refine g_get F 8 0 0 inX8 rfl rfl (by decide) tw_fl_X8_9 rfl dX8_lengthOf_1 ?_
  refine g_iload_n F 1 rfl dX8_lengthOf_4 ?_
  refine g_iald F 1 rfl (by omega) (by decide) dX8_lengthOf_5 ?_
  refine g_top (nI (L t)) ((hL t ht).1) ?_
  exact R _ (()) _ _ dX8_lengthOf_6 (rfl)

set_option maxHeartbeats 4000000 in
set_option maxRecDepth 100000 in
theorem c_X8_append (E : Ev) (ro : Nat) (la : Nat) (pa : Nat) (na : Nat) (ln : Nat → Int32) (pl : Nat → Int32) (li : Nat → Int32) (n : Nat) (x : Int32) (hn : n < 60) : CTi E yX8_append (wq yX8_append cX8_append 2 (some .int)) (rmk 0 0) [.ref ro, .int x] [ob ro 8 [.ref la, .ref pa, .ref na, .int (nI n)], ia E la 60 ln, ia E pa 480 pl, ia E na 9 li] (fun (r : Int32) (u : Unit) => r = nI n) (fun (u : Unit) => [ob ro 8 [.ref la, .ref pa, .ref na, .int (nI (n + 1))], ia E la 60 (upd ln n x), ia E pa 480 pl, ia E na 9 li]) := by
  refine CTi.of (by decide) (Nat.le_of_ble_eq_true rfl) (fun X F R => ?_)
  refine g_lv [0, 1] [(0, .ref ro), (1, .int x)] rfl ?_
  refine g_aload_n F 0 rfl dX8_append_0 ?_
  refine g_get F 8 0 0 inX8 rfl rfl (by decide) tw_fl_X8_9 rfl dX8_append_1 ?_
  refine g_aload_n F 0 rfl dX8_append_4 ?_
  refine g_get F 8 0 3 inX8 rfl rfl (by decide) tw_fl_X8_21 rfl dX8_append_5 ?_
  refine g_iload_n F 1 rfl dX8_append_8 ?_
  refine g_iast F 1 [ob ro 8 [.ref la, .ref pa, .ref na, .int (nI n)], ia E la 60 (upd ln n x), ia E pa 480 pl, ia E na 9 li] rfl (by omega) (by decide) rfl dX8_append_9 ?_
  refine g_aload_n F 0 rfl dX8_append_10 ?_
  refine g_dup F rfl dX8_append_11 ?_
  refine g_get F 8 0 3 inX8 rfl rfl (by decide) tw_fl_X8_21 rfl dX8_append_12 ?_
  refine g_iconst F (nI 1) (by decide) dX8_append_15 ?_
  refine n_add F dX8_append_16 ?_
  refine g_put F 8 0 3 [ob ro 8 [.ref la, .ref pa, .ref na, .int (nI (n + 1))], ia E la 60 (upd ln n x), ia E pa 480 pl, ia E na 9 li] inX8 tyX8_ok nmX8 rfl rfl (by decide) tw_fl_X8_21 rfl rfl rfl rfl (Nat.le_of_ble_eq_true rfl) rfl dX8_append_17 ?_
  refine g_aload_n F 0 rfl dX8_append_20 ?_
  refine g_get F 8 0 3 inX8 rfl rfl (by decide) tw_fl_X8_21 rfl dX8_append_21 ?_
  refine g_iconst F (nI 1) (by decide) dX8_append_24 ?_
  refine n_sub F (by omega) dX8_append_25 ?_
  refine g_top (nI n) (rfl) ?_
  exact R _ (()) _ _ dX8_append_26 (rfl)

set_option maxHeartbeats 4000000 in
set_option maxRecDepth 100000 in
theorem c_X8_change (E : Ev) (ro : Nat) (la : Nat) (pa : Nat) (na : Nat) (ln : Nat → Int32) (pl : Nat → Int32) (li : Nat → Int32) (n : Nat) (t : Nat) (i : Nat) (x : Int32) (ht : t < 60) (hi : i < 8) : CTv E yX8_change (wq yX8_change cX8_change 4 none) (rmk 0 0) [.ref ro, .int (nI t), .int (nI i), .int x] [ob ro 8 [.ref la, .ref pa, .ref na, .int (nI n)], ia E la 60 ln, ia E pa 480 pl, ia E na 9 li] (fun (u : Unit) => True) (fun (u : Unit) => [ob ro 8 [.ref la, .ref pa, .ref na, .int (nI n)], ia E la 60 ln, ia E pa 480 (upd pl (t * 8 + i) x), ia E na 9 li]) := by
  refine CTv.of (by decide) (Nat.le_of_ble_eq_true rfl) (fun X F R => ?_)
  refine g_lv [0, 1, 2, 3] [(0, .ref ro), (1, .int (nI t)), (2, .int (nI i)), (3, .int x)] rfl ?_
  refine g_aload_n F 0 rfl dX8_change_0 ?_
  refine g_get F 8 0 1 inX8 rfl rfl (by decide) tw_fl_X8_15 rfl dX8_change_1 ?_
  refine g_iload_n F 1 rfl dX8_change_4 ?_
  refine g_bipush F (nI 8) (by decide) dX8_change_5 ?_
  refine n_mul F dX8_change_7 ?_
  refine g_iload_n F 2 rfl dX8_change_8 ?_
  refine n_add F dX8_change_9 ?_
  refine g_iload_n F 3 rfl dX8_change_10 ?_
  refine g_iast F 2 [ob ro 8 [.ref la, .ref pa, .ref na, .int (nI n)], ia E la 60 ln, ia E pa 480 (upd pl ((t * 8) + i) x), ia E na 9 li] rfl (by omega) (by decide) rfl dX8_change_11 ?_
  exact R (()) _ _ dX8_change_12 (trivial)

set_option maxHeartbeats 4000000 in
set_option maxRecDepth 100000 in
theorem c_X8_difference (E : Ev) (ro : Nat) (la : Nat) (pa : Nat) (na : Nat) (ln : Nat → Int32) (pl : Nat → Int32) (li : Nat → Int32) (n : Nat) (a : Nat) (b : Nat) (i : Nat) (hv : VR pl) (ha : a < 60) (hb : b < 60) (hi : i < 8) : RDi E yX8_difference (wq yX8_difference cX8_difference 4 (some .int)) (rmk 1 21) [.ref ro, .int (nI a), .int (nI b), .int (nI i)] [ob ro 8 [.ref la, .ref pa, .ref na, .int (nI n)], ia E la 60 ln, ia E pa 480 pl, ia E na 9 li] (nI (dfN pl a b i)) := by
  refine CTi.of (by decide) (Nat.le_of_ble_eq_true rfl) (fun X F R => ?_)
  refine g_lv [0, 1, 2, 3] [(0, .ref ro), (1, .int (nI a)), (2, .int (nI b)), (3, .int (nI i))] rfl ?_
  refine g_aload_n F 0 rfl dX8_difference_0 ?_
  refine g_get F 8 0 1 inX8 rfl rfl (by decide) tw_fl_X8_15 rfl dX8_difference_1 ?_
  refine g_iload_n F 1 rfl dX8_difference_4 ?_
  refine g_bipush F (nI 8) (by decide) dX8_difference_5 ?_
  refine n_mul F dX8_difference_7 ?_
  refine g_iload_n F 3 rfl dX8_difference_8 ?_
  refine n_add F dX8_difference_9 ?_
  refine g_iald F 2 rfl (by omega) (by decide) dX8_difference_10 ?_
  refine g_aload_n F 0 rfl dX8_difference_11 ?_
  refine g_get F 8 0 1 inX8 rfl rfl (by decide) tw_fl_X8_15 rfl dX8_difference_12 ?_
  refine g_iload_n F 2 rfl dX8_difference_15 ?_
  refine g_bipush F (nI 8) (by decide) dX8_difference_16 ?_
  refine n_mul F dX8_difference_18 ?_
  refine g_iload_n F 3 rfl dX8_difference_19 ?_
  refine n_add F dX8_difference_20 ?_
  refine g_iald F 2 rfl (by omega) (by decide) dX8_difference_21 ?_
  refine g_isub F dX8_difference_22 ?_
  refine g_mabs F tw_ml_X8_42 (by decide) (Nat.le_of_ble_eq_true rfl) (Nat.zero_le _) (Nat.zero_le _) dX8_difference_23 ?_
  refine g_top (nI (dfN pl a b i)) (ab_dif (hv _ (by omega)) (hv _ (by omega))) ?_
  exact R _ (()) _ _ dX8_difference_26 (rfl)

set_option maxHeartbeats 4000000 in
set_option maxRecDepth 100000 in
theorem c_X8_unlikePlaces (E : Ev) (ro : Nat) (la : Nat) (pa : Nat) (na : Nat) (ln : Nat → Int32) (pl : Nat → Int32) (li : Nat → Int32) (n : Nat) (a : Nat) (b : Nat) (hv : VR pl) (ha : a < 60) (hb : b < 60) : RDi E yX8_unlikePlaces (wq yX8_unlikePlaces cX8_unlikePlaces 5 (some .int)) (rmk 2 44) [.ref ro, .int (nI a), .int (nI b)] [ob ro 8 [.ref la, .ref pa, .ref na, .int (nI n)], ia E la 60 ln, ia E pa 480 pl, ia E na 9 li] (nI (unl pl a b 8)) := by
  refine CTi.of (by decide) (Nat.le_of_ble_eq_true rfl) (fun X F R => ?_)
  refine g_lv [0, 1, 2] [(0, .ref ro), (1, .int (nI a)), (2, .int (nI b))] rfl ?_
  refine g_iconst F (nI 0) (by decide) dX8_unlikePlaces_0 ?_
  refine g_istore_n F 3 [(0, .ref ro), (1, .int (nI a)), (2, .int (nI b)), (3, .int (nI 0))] [1, 2, 3, 0] dX8_unlikePlaces_1 rfl (by decide) rfl ?_
  refine g_iconst F (nI 0) (by decide) dX8_unlikePlaces_2 ?_
  refine g_istore F 4 [(0, .ref ro), (1, .int (nI a)), (2, .int (nI b)), (3, .int (nI 0)), (4, .int (nI 0))] [1, 2, 3, 4, 0] dX8_unlikePlaces_3 (by decide) rfl ?_
  have lp_5 : ∀ (n_5 : Nat) (i : Nat), (i ≤ 8) → 8 - i < n_5 → GW E X 0 0 [ob ro 8 [.ref la, .ref pa, .ref na, .int (nI n)], ia E la 60 ln, ia E pa 480 pl, ia E na 9 li] [(0, .ref ro), (1, .int (nI a)), (2, .int (nI b)), (3, .int (nI (unl pl a b i))), (4, .int (nI i))] 5 [] := by
    intro n_5
    induction n_5 with
    | zero => intro i hi hm_5; exact absurd hm_5 (Nat.not_lt_zero _)
    | succ n_5 ih_5 =>
      intro i hi hm_5
      refine g_iload F 4 rfl dX8_unlikePlaces_5 ?_
      refine g_bipush F (nI 8) (by decide) dX8_unlikePlaces_7 ?_
      refine n_icmp_ge F 32 dX8_unlikePlaces_9 (by decide) (by omega) (by omega) (fun c_9 => ?_) (fun c_9 => ?_)
      · refine g_iload_n F 3 rfl dX8_unlikePlaces_32 ?_
        exact R _ (()) _ _ dX8_unlikePlaces_33 (by rw [show i = 8 by omega])
      · refine g_aload_n F 0 rfl dX8_unlikePlaces_12 ?_
        refine g_iload_n F 1 rfl dX8_unlikePlaces_13 ?_
        refine g_iload_n F 2 rfl dX8_unlikePlaces_14 ?_
        refine g_iload F 4 rfl dX8_unlikePlaces_15 ?_
        refine g_rVi F (wr := []) [] (c_X8_difference E ro la pa na ln pl li n a b i (by omega) (by omega) (by omega) (by omega)) (gi_V tw_ml_X8_25 tw_im_X8_difference tw_se_X8_difference tw_in_X8 tw_co_X8_difference) 3 rfl (by decide) ⟨rfl, rfl, by decide, by decide, Nat.zero_le _, Nat.zero_le _⟩ 8 0 rfl rfl [0, 1, 2, 3] [] [0, 1, 2, 3] rfl rfl (by decide) rfl rfl (Nat.le_of_ble_eq_true rfl) dX8_unlikePlaces_17 ?_
        refine n_if_eq F 26 dX8_unlikePlaces_20 (by decide) (by have := df_le (i := i) hv ha hb (by omega); omega) (fun c_20 => ?_) (fun c_20 => ?_)
        · refine g_lv [0, 1, 2, 3, 4] [(0, .ref ro), (1, .int (nI a)), (2, .int (nI b)), (3, .int (nI (unl pl a b (i + 1)))), (4, .int (nI i))] (by rw [show unl pl a b (i + 1) = unl pl a b i from by show unl pl a b i + _ = _; rw [if_pos c_20]; rfl]; rfl) ?_
          refine g_iinc F (nI (i + 1)) 4 4 [(0, .ref ro), (1, .int (nI a)), (2, .int (nI b)), (3, .int (nI (unl pl a b (i + 1)))), (4, .int (nI (i + 1)))] [1, 2, 3, 4, 0] dX8_unlikePlaces_26 rfl (n_inc i) (by decide) rfl ?_
          refine g_goto F 5 dX8_unlikePlaces_29 (by decide) ?_
          exact ih_5 (i + 1) (by omega) (by omega)
        · refine g_iinc F (nI ((unl pl a b i) + 1)) 3 3 [(0, .ref ro), (1, .int (nI a)), (2, .int (nI b)), (3, .int (nI ((unl pl a b i) + 1))), (4, .int (nI i))] [1, 2, 3, 0, 4] dX8_unlikePlaces_23 rfl (n_inc (unl pl a b i)) (by decide) rfl ?_
          refine g_lv [0, 1, 2, 3, 4] [(0, .ref ro), (1, .int (nI a)), (2, .int (nI b)), (3, .int (nI (unl pl a b (i + 1)))), (4, .int (nI i))] (by rw [show unl pl a b (i + 1) = unl pl a b i + 1 from by show unl pl a b i + _ = _; rw [if_neg c_20]]; rfl) ?_
          refine g_iinc F (nI (i + 1)) 4 4 [(0, .ref ro), (1, .int (nI a)), (2, .int (nI b)), (3, .int (nI (unl pl a b (i + 1)))), (4, .int (nI (i + 1)))] [1, 2, 3, 4, 0] dX8_unlikePlaces_26 rfl (n_inc i) (by decide) rfl ?_
          refine g_goto F 5 dX8_unlikePlaces_29 (by decide) ?_
          exact ih_5 (i + 1) (by omega) (by omega)
  exact lp_5 _ 0 (by omega) (Nat.lt_succ_self _)

set_option maxHeartbeats 4000000 in
set_option maxRecDepth 100000 in
theorem c_X8_sumOfDifferences (E : Ev) (ro : Nat) (la : Nat) (pa : Nat) (na : Nat) (ln : Nat → Int32) (pl : Nat → Int32) (li : Nat → Int32) (n : Nat) (a : Nat) (b : Nat) (hv : VR pl) (ha : a < 60) (hb : b < 60) : RDi E yX8_sumOfDifferences (wq yX8_sumOfDifferences cX8_sumOfDifferences 5 (some .int)) (rmk 2 44) [.ref ro, .int (nI a), .int (nI b)] [ob ro 8 [.ref la, .ref pa, .ref na, .int (nI n)], ia E la 60 ln, ia E pa 480 pl, ia E na 9 li] (nI (smd pl a b 8)) := by
  refine CTi.of (by decide) (Nat.le_of_ble_eq_true rfl) (fun X F R => ?_)
  refine g_lv [0, 1, 2] [(0, .ref ro), (1, .int (nI a)), (2, .int (nI b))] rfl ?_
  refine g_iconst F (nI 0) (by decide) dX8_sumOfDifferences_0 ?_
  refine g_istore_n F 3 [(0, .ref ro), (1, .int (nI a)), (2, .int (nI b)), (3, .int (nI 0))] [1, 2, 3, 0] dX8_sumOfDifferences_1 rfl (by decide) rfl ?_
  refine g_iconst F (nI 0) (by decide) dX8_sumOfDifferences_2 ?_
  refine g_istore F 4 [(0, .ref ro), (1, .int (nI a)), (2, .int (nI b)), (3, .int (nI 0)), (4, .int (nI 0))] [1, 2, 3, 4, 0] dX8_sumOfDifferences_3 (by decide) rfl ?_
  have lp_5 : ∀ (n_5 : Nat) (i : Nat), (i ≤ 8) → 8 - i < n_5 → GW E X 0 0 [ob ro 8 [.ref la, .ref pa, .ref na, .int (nI n)], ia E la 60 ln, ia E pa 480 pl, ia E na 9 li] [(0, .ref ro), (1, .int (nI a)), (2, .int (nI b)), (3, .int (nI (smd pl a b i))), (4, .int (nI i))] 5 [] := by
    intro n_5
    induction n_5 with
    | zero => intro i hi hm_5; exact absurd hm_5 (Nat.not_lt_zero _)
    | succ n_5 ih_5 =>
      intro i hi hm_5
      refine g_iload F 4 rfl dX8_sumOfDifferences_5 ?_
      refine g_bipush F (nI 8) (by decide) dX8_sumOfDifferences_7 ?_
      refine n_icmp_ge F 29 dX8_sumOfDifferences_9 (by decide) (by omega) (by omega) (fun c_9 => ?_) (fun c_9 => ?_)
      · refine g_iload_n F 3 rfl dX8_sumOfDifferences_29 ?_
        exact R _ (()) _ _ dX8_sumOfDifferences_30 (by rw [show i = 8 by omega])
      · refine g_iload_n F 3 rfl dX8_sumOfDifferences_12 ?_
        refine g_aload_n F 0 rfl dX8_sumOfDifferences_13 ?_
        refine g_iload_n F 1 rfl dX8_sumOfDifferences_14 ?_
        refine g_iload_n F 2 rfl dX8_sumOfDifferences_15 ?_
        refine g_iload F 4 rfl dX8_sumOfDifferences_16 ?_
        refine g_rVi F (wr := []) [.int (nI (smd pl a b i))] (c_X8_difference E ro la pa na ln pl li n a b i (by omega) (by omega) (by omega) (by omega)) (gi_V tw_ml_X8_25 tw_im_X8_difference tw_se_X8_difference tw_in_X8 tw_co_X8_difference) 3 rfl (by decide) ⟨rfl, rfl, by decide, by decide, Nat.zero_le _, Nat.zero_le _⟩ 8 0 rfl rfl [0, 1, 2, 3] [] [0, 1, 2, 3] rfl rfl (by decide) rfl rfl (Nat.le_of_ble_eq_true rfl) dX8_sumOfDifferences_18 ?_
        refine n_add F dX8_sumOfDifferences_21 ?_
        refine g_top (nI (smd pl a b (i + 1))) (rfl) ?_
        refine g_istore_n F 3 [(0, .ref ro), (1, .int (nI a)), (2, .int (nI b)), (3, .int (nI (smd pl a b (i + 1)))), (4, .int (nI i))] [1, 2, 3, 0, 4] dX8_sumOfDifferences_22 rfl (by decide) rfl ?_
        refine g_iinc F (nI (i + 1)) 4 4 [(0, .ref ro), (1, .int (nI a)), (2, .int (nI b)), (3, .int (nI (smd pl a b (i + 1)))), (4, .int (nI (i + 1)))] [1, 2, 3, 4, 0] dX8_sumOfDifferences_23 rfl (n_inc i) (by decide) rfl ?_
        refine g_goto F 5 dX8_sumOfDifferences_26 (by decide) ?_
        exact ih_5 (i + 1) (by omega) (by omega)
  exact lp_5 _ 0 (by omega) (Nat.lt_succ_self _)

set_option maxHeartbeats 4000000 in
set_option maxRecDepth 100000 in
theorem c_X8_greatestDifference (E : Ev) (ro : Nat) (la : Nat) (pa : Nat) (na : Nat) (ln : Nat → Int32) (pl : Nat → Int32) (li : Nat → Int32) (n : Nat) (a : Nat) (b : Nat) (hv : VR pl) (ha : a < 60) (hb : b < 60) : RDi E yX8_greatestDifference (wq yX8_greatestDifference cX8_greatestDifference 5 (some .int)) (rmk 2 44) [.ref ro, .int (nI a), .int (nI b)] [ob ro 8 [.ref la, .ref pa, .ref na, .int (nI n)], ia E la 60 ln, ia E pa 480 pl, ia E na 9 li] (nI (grd pl a b 8)) := by
  refine CTi.of (by decide) (Nat.le_of_ble_eq_true rfl) (fun X F R => ?_)
  refine g_lv [0, 1, 2] [(0, .ref ro), (1, .int (nI a)), (2, .int (nI b))] rfl ?_
  refine g_iconst F (nI 0) (by decide) dX8_greatestDifference_0 ?_
  refine g_istore_n F 3 [(0, .ref ro), (1, .int (nI a)), (2, .int (nI b)), (3, .int (nI 0))] [1, 2, 3, 0] dX8_greatestDifference_1 rfl (by decide) rfl ?_
  refine g_iconst F (nI 0) (by decide) dX8_greatestDifference_2 ?_
  refine g_istore F 4 [(0, .ref ro), (1, .int (nI a)), (2, .int (nI b)), (3, .int (nI 0)), (4, .int (nI 0))] [1, 2, 3, 4, 0] dX8_greatestDifference_3 (by decide) rfl ?_
  have lp_5 : ∀ (n_5 : Nat) (i : Nat), (i ≤ 8) → 8 - i < n_5 → GW E X 0 0 [ob ro 8 [.ref la, .ref pa, .ref na, .int (nI n)], ia E la 60 ln, ia E pa 480 pl, ia E na 9 li] [(0, .ref ro), (1, .int (nI a)), (2, .int (nI b)), (3, .int (nI (grd pl a b i))), (4, .int (nI i))] 5 [] := by
    intro n_5
    induction n_5 with
    | zero => intro i hi hm_5; exact absurd hm_5 (Nat.not_lt_zero _)
    | succ n_5 ih_5 =>
      intro i hi hm_5
      refine g_iload F 4 rfl dX8_greatestDifference_5 ?_
      refine g_bipush F (nI 8) (by decide) dX8_greatestDifference_7 ?_
      refine n_icmp_ge F 31 dX8_greatestDifference_9 (by decide) (by omega) (by omega) (fun c_9 => ?_) (fun c_9 => ?_)
      · refine g_iload_n F 3 rfl dX8_greatestDifference_31 ?_
        exact R _ (()) _ _ dX8_greatestDifference_32 (by rw [show i = 8 by omega])
      · refine g_iload_n F 3 rfl dX8_greatestDifference_12 ?_
        refine g_aload_n F 0 rfl dX8_greatestDifference_13 ?_
        refine g_iload_n F 1 rfl dX8_greatestDifference_14 ?_
        refine g_iload_n F 2 rfl dX8_greatestDifference_15 ?_
        refine g_iload F 4 rfl dX8_greatestDifference_16 ?_
        refine g_rVi F (wr := []) [.int (nI (grd pl a b i))] (c_X8_difference E ro la pa na ln pl li n a b i (by omega) (by omega) (by omega) (by omega)) (gi_V tw_ml_X8_25 tw_im_X8_difference tw_se_X8_difference tw_in_X8 tw_co_X8_difference) 3 rfl (by decide) ⟨rfl, rfl, by decide, by decide, Nat.zero_le _, Nat.zero_le _⟩ 8 0 rfl rfl [0, 1, 2, 3] [] [0, 1, 2, 3] rfl rfl (by decide) rfl rfl (Nat.le_of_ble_eq_true rfl) dX8_greatestDifference_18 ?_
        refine g_mmax F tw_ml_X8_29 (by decide) (Nat.le_of_ble_eq_true rfl) (Nat.zero_le _) (Nat.zero_le _) dX8_greatestDifference_21 ?_
        refine g_top _ (n_max (grd pl a b i) (dfN pl a b i) (by have := grd_le hv ha hb i hi; omega) (by have := df_le (i := i) hv ha hb (by omega); omega)) ?_
        refine g_top (nI (grd pl a b (i + 1))) (rfl) ?_
        refine g_istore_n F 3 [(0, .ref ro), (1, .int (nI a)), (2, .int (nI b)), (3, .int (nI (grd pl a b (i + 1)))), (4, .int (nI i))] [1, 2, 3, 0, 4] dX8_greatestDifference_24 rfl (by decide) rfl ?_
        refine g_iinc F (nI (i + 1)) 4 4 [(0, .ref ro), (1, .int (nI a)), (2, .int (nI b)), (3, .int (nI (grd pl a b (i + 1)))), (4, .int (nI (i + 1)))] [1, 2, 3, 4, 0] dX8_greatestDifference_25 rfl (n_inc i) (by decide) rfl ?_
        refine g_goto F 5 dX8_greatestDifference_28 (by decide) ?_
        exact ih_5 (i + 1) (by omega) (by omega)
  exact lp_5 _ 0 (by omega) (Nat.lt_succ_self _)

set_option maxHeartbeats 4000000 in
set_option maxRecDepth 100000 in
theorem c_X8_hasBefore (E : Ev) (ro : Nat) (la : Nat) (pa : Nat) (na : Nat) (ln : Nat → Int32) (pl : Nat → Int32) (li : Nat → Int32) (n : Nat) (t : Nat) (e : Nat) (v : Int32) (ht : t < 60) (he : e ≤ 8) : CTi E yX8_hasBefore (wq yX8_hasBefore cX8_hasBefore 5 (some .boolean)) (rmk 0 0) [.ref ro, .int (nI t), .int (nI e), .int v] [ob ro 8 [.ref la, .ref pa, .ref na, .int (nI n)], ia E la 60 ln, ia E pa 480 pl, ia E na 9 li] (fun (r : Int32) (u : Unit) => (r = 1 ∧ hsb pl t v e = true) ∨ (r = 0 ∧ hsb pl t v e = false)) (fun (u : Unit) => [ob ro 8 [.ref la, .ref pa, .ref na, .int (nI n)], ia E la 60 ln, ia E pa 480 pl, ia E na 9 li]) := by
  refine CTi.ofZ (by decide) (Nat.le_of_ble_eq_true rfl) (fun X F R => ?_)
  refine g_lv [0, 1, 2, 3] [(0, .ref ro), (1, .int (nI t)), (2, .int (nI e)), (3, .int v)] rfl ?_
  refine g_iconst F (nI 0) (by decide) dX8_hasBefore_0 ?_
  refine g_istore F 4 [(0, .ref ro), (1, .int (nI t)), (2, .int (nI e)), (3, .int v), (4, .int (nI 0))] [1, 2, 3, 4, 0] dX8_hasBefore_1 (by decide) rfl ?_
  have lp_3 : ∀ (n_3 : Nat) (i : Nat), (i ≤ e) → (hsb pl t v i = false) → e - i < n_3 → GW E X 0 0 [ob ro 8 [.ref la, .ref pa, .ref na, .int (nI n)], ia E la 60 ln, ia E pa 480 pl, ia E na 9 li] [(0, .ref ro), (1, .int (nI t)), (2, .int (nI e)), (3, .int v), (4, .int (nI i))] 3 [] := by
    intro n_3
    induction n_3 with
    | zero => intro i hi hp hm_3; exact absurd hm_3 (Nat.not_lt_zero _)
    | succ n_3 ih_3 =>
      intro i hi hp hm_3
      refine g_iload F 4 rfl dX8_hasBefore_3 ?_
      refine g_iload_n F 2 rfl dX8_hasBefore_5 ?_
      refine n_icmp_ge F 33 dX8_hasBefore_6 (by decide) (by omega) (by omega) (fun c_6 => ?_) (fun c_6 => ?_)
      · refine g_iconst F (nI 0) (by decide) dX8_hasBefore_33 ?_
        exact R _ (()) _ _ dX8_hasBefore_34 (Or.inl rfl) (Or.inr ⟨rfl, by rw [show e = i by omega]; exact hp⟩)
      · refine g_aload_n F 0 rfl dX8_hasBefore_9 ?_
        refine g_get F 8 0 1 inX8 rfl rfl (by decide) tw_fl_X8_15 rfl dX8_hasBefore_10 ?_
        refine g_iload_n F 1 rfl dX8_hasBefore_13 ?_
        refine g_bipush F (nI 8) (by decide) dX8_hasBefore_14 ?_
        refine n_mul F dX8_hasBefore_16 ?_
        refine g_iload F 4 rfl dX8_hasBefore_17 ?_
        refine n_add F dX8_hasBefore_19 ?_
        refine g_iald F 2 rfl (by omega) (by decide) dX8_hasBefore_20 ?_
        refine g_iload_n F 3 rfl dX8_hasBefore_21 ?_
        refine g_icmp_ne F 27 dX8_hasBefore_22 (by decide) (fun c_22 => ?_) (fun c_22 => ?_)
        · refine g_iinc F (nI (i + 1)) 4 4 [(0, .ref ro), (1, .int (nI t)), (2, .int (nI e)), (3, .int v), (4, .int (nI (i + 1)))] [1, 2, 3, 4, 0] dX8_hasBefore_27 rfl (n_inc i) (by decide) rfl ?_
          refine g_goto F 3 dX8_hasBefore_30 (by decide) ?_
          exact ih_3 (i + 1) (by omega) (hsb_no hp c_22) (by omega)
        · refine g_iconst F (nI 1) (by decide) dX8_hasBefore_25 ?_
          exact R _ (()) _ _ dX8_hasBefore_26 (Or.inr rfl) (Or.inl ⟨rfl, hsb_of c_6 c_22⟩)
  exact lp_3 _ 0 (by omega) (rfl) (Nat.lt_succ_self _)

set_option maxHeartbeats 4000000 in
set_option maxRecDepth 100000 in
theorem c_X8_valuesMissing (E : Ev) (ro : Nat) (la : Nat) (pa : Nat) (na : Nat) (ln : Nat → Int32) (pl : Nat → Int32) (li : Nat → Int32) (n : Nat) (L : Nat → Nat) (a : Nat) (b : Nat) (hL : LR ln L) (ha : a < 60) (hb : b < 60) : RDi E yX8_valuesMissing (wq yX8_valuesMissing cX8_valuesMissing 6 (some .int)) (rmk 1 24) [.ref ro, .int (nI a), .int (nI b)] [ob ro 8 [.ref la, .ref pa, .ref na, .int (nI n)], ia E la 60 ln, ia E pa 480 pl, ia E na 9 li] (nI (msn pl L a b (L a))) := by
  refine CTi.of (by decide) (Nat.le_of_ble_eq_true rfl) (fun X F R => ?_)
  refine g_lv [0, 1, 2] [(0, .ref ro), (1, .int (nI a)), (2, .int (nI b))] rfl ?_
  have hLa := (hL a ha).2
  have hLb := (hL b hb).2
  refine g_iconst F (nI 0) (by decide) dX8_valuesMissing_0 ?_
  refine g_istore_n F 3 [(0, .ref ro), (1, .int (nI a)), (2, .int (nI b)), (3, .int (nI 0))] [1, 2, 3, 0] dX8_valuesMissing_1 rfl (by decide) rfl ?_
  refine g_iconst F (nI 0) (by decide) dX8_valuesMissing_2 ?_
  refine g_istore F 4 [(0, .ref ro), (1, .int (nI a)), (2, .int (nI b)), (3, .int (nI 0)), (4, .int (nI 0))] [1, 2, 3, 4, 0] dX8_valuesMissing_3 (by decide) rfl ?_
  have lp_5 : ∀ (n_5 : Nat) (i : Nat), (i ≤ L a) → L a - i < n_5 → GW E X 0 0 [ob ro 8 [.ref la, .ref pa, .ref na, .int (nI n)], ia E la 60 ln, ia E pa 480 pl, ia E na 9 li] [(0, .ref ro), (1, .int (nI a)), (2, .int (nI b)), (3, .int (nI (msn pl L a b i))), (4, .int (nI i))] 5 [] := by
    intro n_5
    induction n_5 with
    | zero => intro i hi hm_5; exact absurd hm_5 (Nat.not_lt_zero _)
    | succ n_5 ih_5 =>
      intro i hi hm_5
      refine g_iload F 4 rfl dX8_valuesMissing_5 ?_
      refine g_aload_n F 0 rfl dX8_valuesMissing_7 ?_
      refine g_get F 8 0 0 inX8 rfl rfl (by decide) tw_fl_X8_9 rfl dX8_valuesMissing_8 ?_
      refine g_iload_n F 1 rfl dX8_valuesMissing_11 ?_
      refine g_iald F 1 rfl (by omega) (by decide) dX8_valuesMissing_12 ?_
      refine g_top (nI (L a)) ((hL a ha).1) ?_
      refine n_icmp_ge F 67 dX8_valuesMissing_13 (by decide) (by omega) (by omega) (fun c_13 => ?_) (fun c_13 => ?_)
      · refine g_iload_n F 3 rfl dX8_valuesMissing_67 ?_
        exact R _ (()) _ _ dX8_valuesMissing_68 (by rw [show i = L a by omega])
      · refine g_aload_n F 0 rfl dX8_valuesMissing_16 ?_
        refine g_get F 8 0 1 inX8 rfl rfl (by decide) tw_fl_X8_15 rfl dX8_valuesMissing_17 ?_
        refine g_iload_n F 1 rfl dX8_valuesMissing_20 ?_
        refine g_bipush F (nI 8) (by decide) dX8_valuesMissing_21 ?_
        refine n_mul F dX8_valuesMissing_23 ?_
        refine g_iload F 4 rfl dX8_valuesMissing_24 ?_
        refine n_add F dX8_valuesMissing_26 ?_
        refine g_iald F 2 rfl (by omega) (by decide) dX8_valuesMissing_27 ?_
        refine g_istore F 5 [(0, .ref ro), (1, .int (nI a)), (2, .int (nI b)), (3, .int (nI (msn pl L a b i))), (4, .int (nI i)), (5, .int (pl ((a * 8) + i)))] [1, 2, 3, 4, 5, 0] dX8_valuesMissing_28 (by decide) rfl ?_
        refine g_aload_n F 0 rfl dX8_valuesMissing_30 ?_
        refine g_iload_n F 1 rfl dX8_valuesMissing_31 ?_
        refine g_iload F 4 rfl dX8_valuesMissing_32 ?_
        refine g_iload F 5 rfl dX8_valuesMissing_34 ?_
        refine g_cVi F (wr := []) [] (c_X8_hasBefore E ro la pa na ln pl li n a i (pl ((a * 8) + i)) (ha) (by omega)) (gi_V tw_ml_X8_38 tw_im_X8_hasBefore tw_se_X8_hasBefore tw_in_X8 tw_co_X8_hasBefore) 3 rfl (by decide) ⟨rfl, rfl, by decide, by decide, Nat.zero_le _, Nat.zero_le _⟩ 8 0 rfl rfl [0, 1, 2, 3] [] [0, 1, 2, 3] (fun u => [ob ro 8 [.ref la, .ref pa, .ref na, .int (nI n)], ia E la 60 ln, ia E pa 480 pl, ia E na 9 li]) rfl rfl (by decide) (fun _ => rfl) rfl (Nat.le_of_ble_eq_true rfl) dX8_valuesMissing_36 (fun r_36 u hu_36 => ?_)
        rcases hu_36 with ⟨rfl, h_36⟩ | ⟨rfl, h_36⟩
        · refine g_if_ne F 61 dX8_valuesMissing_39 (by decide) (fun _ => ?_) (fun h => absurd h (by decide))
          refine g_lv [0, 1, 2, 3, 4, 5] [(0, .ref ro), (1, .int (nI a)), (2, .int (nI b)), (3, .int (nI (msn pl L a b (i + 1)))), (4, .int (nI i)), (5, .int (pl (a * 8 + i)))] (by rw [msn_0 (Or.inl h_36)]; rfl) ?_
          refine g_iinc F (nI (i + 1)) 4 4 [(0, .ref ro), (1, .int (nI a)), (2, .int (nI b)), (3, .int (nI (msn pl L a b (i + 1)))), (4, .int (nI (i + 1))), (5, .int (pl ((a * 8) + i)))] [1, 2, 3, 4, 0, 5] dX8_valuesMissing_61 rfl (n_inc i) (by decide) rfl ?_
          refine g_goto F 5 dX8_valuesMissing_64 (by decide) ?_
          refine g_lv [0, 1, 2, 3, 4] [(0, .ref ro), (1, .int (nI a)), (2, .int (nI b)), (3, .int (nI (msn pl L a b (i + 1)))), (4, .int (nI (i + 1)))] rfl ?_
          exact ih_5 (i + 1) (by omega) (by omega)
        · refine g_if_ne F 61 dX8_valuesMissing_39 (by decide) (fun h => absurd (by decide) h) (fun _ => ?_)
          refine g_aload_n F 0 rfl dX8_valuesMissing_42 ?_
          refine g_iload_n F 2 rfl dX8_valuesMissing_43 ?_
          refine g_aload_n F 0 rfl dX8_valuesMissing_44 ?_
          refine g_get F 8 0 0 inX8 rfl rfl (by decide) tw_fl_X8_9 rfl dX8_valuesMissing_45 ?_
          refine g_iload_n F 2 rfl dX8_valuesMissing_48 ?_
          refine g_iald F 1 rfl (by omega) (by decide) dX8_valuesMissing_49 ?_
          refine g_top (nI (L b)) ((hL b hb).1) ?_
          refine g_iload F 5 rfl dX8_valuesMissing_50 ?_
          refine g_cVi F (wr := []) [] (c_X8_hasBefore E ro la pa na ln pl li n b (L b) (pl ((a * 8) + i)) (hb) (by omega)) (gi_V tw_ml_X8_38 tw_im_X8_hasBefore tw_se_X8_hasBefore tw_in_X8 tw_co_X8_hasBefore) 3 rfl (by decide) ⟨rfl, rfl, by decide, by decide, Nat.zero_le _, Nat.zero_le _⟩ 8 0 rfl rfl [0, 1, 2, 3] [] [0, 1, 2, 3] (fun u => [ob ro 8 [.ref la, .ref pa, .ref na, .int (nI n)], ia E la 60 ln, ia E pa 480 pl, ia E na 9 li]) rfl rfl (by decide) (fun _ => rfl) rfl (Nat.le_of_ble_eq_true rfl) dX8_valuesMissing_52 (fun r_52 u hu_52 => ?_)
          rcases hu_52 with ⟨rfl, h_52⟩ | ⟨rfl, h_52⟩
          · refine g_if_ne F 61 dX8_valuesMissing_55 (by decide) (fun _ => ?_) (fun h => absurd h (by decide))
            refine g_lv [0, 1, 2, 3, 4, 5] [(0, .ref ro), (1, .int (nI a)), (2, .int (nI b)), (3, .int (nI (msn pl L a b (i + 1)))), (4, .int (nI i)), (5, .int (pl (a * 8 + i)))] (by rw [msn_0 (Or.inr h_52)]; rfl) ?_
            refine g_iinc F (nI (i + 1)) 4 4 [(0, .ref ro), (1, .int (nI a)), (2, .int (nI b)), (3, .int (nI (msn pl L a b (i + 1)))), (4, .int (nI (i + 1))), (5, .int (pl ((a * 8) + i)))] [1, 2, 3, 4, 0, 5] dX8_valuesMissing_61 rfl (n_inc i) (by decide) rfl ?_
            refine g_goto F 5 dX8_valuesMissing_64 (by decide) ?_
            refine g_lv [0, 1, 2, 3, 4] [(0, .ref ro), (1, .int (nI a)), (2, .int (nI b)), (3, .int (nI (msn pl L a b (i + 1)))), (4, .int (nI (i + 1)))] rfl ?_
            exact ih_5 (i + 1) (by omega) (by omega)
          · refine g_if_ne F 61 dX8_valuesMissing_55 (by decide) (fun h => absurd (by decide) h) (fun _ => ?_)
            refine g_iinc F (nI ((msn pl L a b i) + 1)) 3 3 [(0, .ref ro), (1, .int (nI a)), (2, .int (nI b)), (3, .int (nI ((msn pl L a b i) + 1))), (4, .int (nI i)), (5, .int (pl ((a * 8) + i)))] [1, 2, 3, 0, 4, 5] dX8_valuesMissing_58 rfl (n_inc (msn pl L a b i)) (by decide) rfl ?_
            refine g_lv [0, 1, 2, 3, 4, 5] [(0, .ref ro), (1, .int (nI a)), (2, .int (nI b)), (3, .int (nI (msn pl L a b (i + 1)))), (4, .int (nI i)), (5, .int (pl (a * 8 + i)))] (by rw [msn_1 h_36 h_52]; rfl) ?_
            refine g_iinc F (nI (i + 1)) 4 4 [(0, .ref ro), (1, .int (nI a)), (2, .int (nI b)), (3, .int (nI (msn pl L a b (i + 1)))), (4, .int (nI (i + 1))), (5, .int (pl ((a * 8) + i)))] [1, 2, 3, 4, 0, 5] dX8_valuesMissing_61 rfl (n_inc i) (by decide) rfl ?_
            refine g_goto F 5 dX8_valuesMissing_64 (by decide) ?_
            refine g_lv [0, 1, 2, 3, 4] [(0, .ref ro), (1, .int (nI a)), (2, .int (nI b)), (3, .int (nI (msn pl L a b (i + 1)))), (4, .int (nI (i + 1)))] rfl ?_
            exact ih_5 (i + 1) (by omega) (by omega)
  exact lp_5 _ 0 (by omega) (Nat.lt_succ_self _)

set_option maxHeartbeats 4000000 in
set_option maxRecDepth 100000 in
theorem c_X8_fewestEdits (E : Ev) (ro : Nat) (la : Nat) (pa : Nat) (na : Nat) (ln : Nat → Int32) (pl : Nat → Int32) (li : Nat → Int32) (n : Nat) (L : Nat → Nat) (a : Nat) (b : Nat) (hL : LR ln L) (ha : a < 60) (hb : b < 60) : CTi E yX8_fewestEdits (wq yX8_fewestEdits cX8_fewestEdits 9 (some .int)) (rmk 1 21) [.ref ro, .int (nI a), .int (nI b)] [ob ro 8 [.ref la, .ref pa, .ref na, .int (nI n)], ia E la 60 ln, ia E pa 480 pl, ia E na 9 li] (fun (r : Int32) (u : (Nat → Int32)) => r = nI (edN pl a b (L a) (L b))) (fun (u : (Nat → Int32)) => [ob ro 8 [.ref la, .ref pa, .ref na, .int (nI n)], ia E la 60 ln, ia E pa 480 pl, ia E na 9 u]) := by
  refine CTi.of (by decide) (Nat.le_of_ble_eq_true rfl) (fun X F R => ?_)
  refine g_lv [0, 1, 2] [(0, .ref ro), (1, .int (nI a)), (2, .int (nI b))] rfl ?_
  have hLa := (hL a ha).2
  have hLb := (hL b hb).2
  have hed := fun (i j : Nat) => ed_le pl a b i j
  refine g_aload_n F 0 rfl dX8_fewestEdits_0 ?_
  refine g_get F 8 0 0 inX8 rfl rfl (by decide) tw_fl_X8_9 rfl dX8_fewestEdits_1 ?_
  refine g_iload_n F 2 rfl dX8_fewestEdits_4 ?_
  refine g_iald F 1 rfl (by omega) (by decide) dX8_fewestEdits_5 ?_
  refine g_top (nI (L b)) ((hL b hb).1) ?_
  refine g_istore_n F 3 [(0, .ref ro), (1, .int (nI a)), (2, .int (nI b)), (3, .int (nI (L b)))] [1, 2, 3, 0] dX8_fewestEdits_6 rfl (by decide) rfl ?_
  refine g_iconst F (nI 0) (by decide) dX8_fewestEdits_7 ?_
  refine g_istore F 4 [(0, .ref ro), (1, .int (nI a)), (2, .int (nI b)), (3, .int (nI (L b))), (4, .int (nI 0))] [1, 2, 3, 4, 0] dX8_fewestEdits_8 (by decide) rfl ?_
  have lp_10 : ∀ (n_10 : Nat) (j : Nat) (g : Nat → Int32), (j ≤ L b + 1) → (∀ q, q < j → g q = nI q) → L b + 1 - j < n_10 → GW E X 0 0 [ob ro 8 [.ref la, .ref pa, .ref na, .int (nI n)], ia E la 60 ln, ia E pa 480 pl, ia E na 9 g] [(0, .ref ro), (1, .int (nI a)), (2, .int (nI b)), (3, .int (nI (L b))), (4, .int (nI j))] 10 [] := by
    intro n_10
    induction n_10 with
    | zero => intro j g hj h0 hm_10; exact absurd hm_10 (Nat.not_lt_zero _)
    | succ n_10 ih_10 =>
      intro j g hj h0 hm_10
      refine g_iload F 4 rfl dX8_fewestEdits_10 ?_
      refine g_iload_n F 3 rfl dX8_fewestEdits_12 ?_
      refine n_icmp_gt F 31 dX8_fewestEdits_13 (by decide) (by omega) (by omega) (fun c_13 => ?_) (fun c_13 => ?_)
      · refine g_iconst F (nI 0) (by decide) dX8_fewestEdits_31 ?_
        refine g_istore F 4 [(0, .ref ro), (1, .int (nI a)), (2, .int (nI b)), (3, .int (nI (L b))), (4, .int (nI 0))] [1, 2, 3, 4, 0] dX8_fewestEdits_32 (by decide) rfl ?_
        have lp_34 : ∀ (n_34 : Nat) (i : Nat) (g : Nat → Int32), (i ≤ L a) → (∀ q, q ≤ L b → g q = nI (edN pl a b i q)) → L a - i < n_34 → GW E X 0 0 [ob ro 8 [.ref la, .ref pa, .ref na, .int (nI n)], ia E la 60 ln, ia E pa 480 pl, ia E na 9 g] [(0, .ref ro), (1, .int (nI a)), (2, .int (nI b)), (3, .int (nI (L b))), (4, .int (nI i))] 34 [] := by
          intro n_34
          induction n_34 with
          | zero => intro i g hi h3 hm_34; exact absurd hm_34 (Nat.not_lt_zero _)
          | succ n_34 ih_34 =>
            intro i g hi h3 hm_34
            refine g_iload F 4 rfl dX8_fewestEdits_34 ?_
            refine g_aload_n F 0 rfl dX8_fewestEdits_36 ?_
            refine g_get F 8 0 0 inX8 rfl rfl (by decide) tw_fl_X8_9 rfl dX8_fewestEdits_37 ?_
            refine g_iload_n F 1 rfl dX8_fewestEdits_40 ?_
            refine g_iald F 1 rfl (by omega) (by decide) dX8_fewestEdits_41 ?_
            refine g_top (nI (L a)) ((hL a ha).1) ?_
            refine n_icmp_ge F 172 dX8_fewestEdits_42 (by decide) (by omega) (by omega) (fun c_42 => ?_) (fun c_42 => ?_)
            · refine g_aload_n F 0 rfl dX8_fewestEdits_172 ?_
              refine g_get F 8 0 2 inX8 rfl rfl (by decide) tw_fl_X8_18 rfl dX8_fewestEdits_173 ?_
              refine g_iload_n F 3 rfl dX8_fewestEdits_176 ?_
              refine g_iald F 3 rfl (by omega) (by decide) dX8_fewestEdits_177 ?_
              exact R _ g _ _ dX8_fewestEdits_178 (by rw [show L a = i by omega]; exact h3 _ (Nat.le_refl _))
            · refine g_aload_n F 0 rfl dX8_fewestEdits_45 ?_
              refine g_get F 8 0 1 inX8 rfl rfl (by decide) tw_fl_X8_15 rfl dX8_fewestEdits_46 ?_
              refine g_iload_n F 1 rfl dX8_fewestEdits_49 ?_
              refine g_bipush F (nI 8) (by decide) dX8_fewestEdits_50 ?_
              refine n_mul F dX8_fewestEdits_52 ?_
              refine g_iload F 4 rfl dX8_fewestEdits_53 ?_
              refine n_add F dX8_fewestEdits_55 ?_
              refine g_iald F 2 rfl (by omega) (by decide) dX8_fewestEdits_56 ?_
              refine g_istore F 5 [(0, .ref ro), (1, .int (nI a)), (2, .int (nI b)), (3, .int (nI (L b))), (4, .int (nI i)), (5, .int (pl ((a * 8) + i)))] [1, 2, 3, 4, 5, 0] dX8_fewestEdits_57 (by decide) rfl ?_
              refine g_aload_n F 0 rfl dX8_fewestEdits_59 ?_
              refine g_get F 8 0 2 inX8 rfl rfl (by decide) tw_fl_X8_18 rfl dX8_fewestEdits_60 ?_
              refine g_iconst F (nI 0) (by decide) dX8_fewestEdits_63 ?_
              refine g_iald F 3 rfl (by omega) (by decide) dX8_fewestEdits_64 ?_
              refine g_top (nI (edN pl a b i 0)) (h3 0 (Nat.zero_le _)) ?_
              refine g_istore F 6 [(0, .ref ro), (1, .int (nI a)), (2, .int (nI b)), (3, .int (nI (L b))), (4, .int (nI i)), (5, .int (pl ((a * 8) + i))), (6, .int (nI (edN pl a b i 0)))] [1, 2, 3, 4, 5, 6, 0] dX8_fewestEdits_65 (by decide) rfl ?_
              refine g_aload_n F 0 rfl dX8_fewestEdits_67 ?_
              refine g_get F 8 0 2 inX8 rfl rfl (by decide) tw_fl_X8_18 rfl dX8_fewestEdits_68 ?_
              refine g_iconst F (nI 0) (by decide) dX8_fewestEdits_71 ?_
              refine g_iload F 4 rfl dX8_fewestEdits_72 ?_
              refine g_iconst F (nI 1) (by decide) dX8_fewestEdits_74 ?_
              refine n_add F dX8_fewestEdits_75 ?_
              refine g_iast F 3 [ob ro 8 [.ref la, .ref pa, .ref na, .int (nI n)], ia E la 60 ln, ia E pa 480 pl, ia E na 9 (upd g 0 (nI (i + 1)))] rfl (by omega) (by decide) rfl dX8_fewestEdits_76 ?_
              refine g_iconst F (nI 0) (by decide) dX8_fewestEdits_77 ?_
              refine g_istore F 7 [(0, .ref ro), (1, .int (nI a)), (2, .int (nI b)), (3, .int (nI (L b))), (4, .int (nI i)), (5, .int (pl ((a * 8) + i))), (6, .int (nI (edN pl a b i 0))), (7, .int (nI 0))] [1, 2, 3, 4, 5, 6, 7, 0] dX8_fewestEdits_78 (by decide) rfl ?_
              have lp_80 : ∀ (n_80 : Nat) (j : Nat) (g1 : Nat → Int32), (j ≤ L b) → (∀ q, q ≤ j → g1 q = nI (edN pl a b (i + 1) q)) → (∀ q, j < q → q ≤ L b → g1 q = nI (edN pl a b i q)) → L b - j < n_80 → GW E X 0 0 [ob ro 8 [.ref la, .ref pa, .ref na, .int (nI n)], ia E la 60 ln, ia E pa 480 pl, ia E na 9 g1] [(0, .ref ro), (1, .int (nI a)), (2, .int (nI b)), (3, .int (nI (L b))), (4, .int (nI i)), (5, .int (pl (a * 8 + i))), (6, .int (nI (edN pl a b i j))), (7, .int (nI j))] 80 [] := by
                intro n_80
                induction n_80 with
                | zero => intro j g1 hj2 h1 h2 hm_80; exact absurd hm_80 (Nat.not_lt_zero _)
                | succ n_80 ih_80 =>
                  intro j g1 hj2 h1 h2 hm_80
                  refine g_iload F 7 rfl dX8_fewestEdits_80 ?_
                  refine g_iload_n F 3 rfl dX8_fewestEdits_82 ?_
                  refine n_icmp_ge F 166 dX8_fewestEdits_83 (by decide) (by omega) (by omega) (fun c_83 => ?_) (fun c_83 => ?_)
                  · refine g_iinc F (nI (i + 1)) 4 4 [(0, .ref ro), (1, .int (nI a)), (2, .int (nI b)), (3, .int (nI (L b))), (4, .int (nI (i + 1))), (5, .int (pl (a * 8 + i))), (6, .int (nI (edN pl a b i j))), (7, .int (nI j))] [1, 2, 3, 4, 0, 5, 6, 7] dX8_fewestEdits_166 rfl (n_inc i) (by decide) rfl ?_
                    refine g_goto F 34 dX8_fewestEdits_169 (by decide) ?_
                    refine g_lv [0, 1, 2, 3, 4] [(0, .ref ro), (1, .int (nI a)), (2, .int (nI b)), (3, .int (nI (L b))), (4, .int (nI (i + 1)))] rfl ?_
                    exact ih_34 (i + 1) g1 (by omega) (fun q hq => h1 q (by omega)) (by omega)
                  · refine g_aload_n F 0 rfl dX8_fewestEdits_86 ?_
                    refine g_get F 8 0 1 inX8 rfl rfl (by decide) tw_fl_X8_15 rfl dX8_fewestEdits_87 ?_
                    refine g_iload_n F 2 rfl dX8_fewestEdits_90 ?_
                    refine g_bipush F (nI 8) (by decide) dX8_fewestEdits_91 ?_
                    refine n_mul F dX8_fewestEdits_93 ?_
                    refine g_iload F 7 rfl dX8_fewestEdits_94 ?_
                    refine n_add F dX8_fewestEdits_96 ?_
                    refine g_iald F 2 rfl (by omega) (by decide) dX8_fewestEdits_97 ?_
                    refine g_iload F 5 rfl dX8_fewestEdits_98 ?_
                    refine g_icmp_ne F 108 dX8_fewestEdits_100 (by decide) (fun c_100 => ?_) (fun c_100 => ?_)
                    · refine g_iload F 6 rfl dX8_fewestEdits_108 ?_
                      refine g_iconst F (nI 1) (by decide) dX8_fewestEdits_110 ?_
                      refine n_add F dX8_fewestEdits_111 ?_
                      refine g_istore F 8 [(0, .ref ro), (1, .int (nI a)), (2, .int (nI b)), (3, .int (nI (L b))), (4, .int (nI i)), (5, .int (pl (a * 8 + i))), (6, .int (nI (edN pl a b i j))), (7, .int (nI j)), (8, .int (nI ((edN pl a b i j) + 1)))] [1, 2, 3, 4, 5, 6, 7, 8, 0] dX8_fewestEdits_112 (by decide) rfl ?_
                      refine g_aload_n F 0 rfl dX8_fewestEdits_114 ?_
                      refine g_get F 8 0 2 inX8 rfl rfl (by decide) tw_fl_X8_18 rfl dX8_fewestEdits_115 ?_
                      refine g_iload F 7 rfl dX8_fewestEdits_118 ?_
                      refine g_iconst F (nI 1) (by decide) dX8_fewestEdits_120 ?_
                      refine n_add F dX8_fewestEdits_121 ?_
                      refine g_iald F 3 rfl (by omega) (by decide) dX8_fewestEdits_122 ?_
                      refine g_top (nI (edN pl a b i (j + 1))) (h2 (j + 1) (by omega) (by omega)) ?_
                      refine g_istore F 6 [(0, .ref ro), (1, .int (nI a)), (2, .int (nI b)), (3, .int (nI (L b))), (4, .int (nI i)), (5, .int (pl (a * 8 + i))), (6, .int (nI (edN pl a b i (j + 1)))), (7, .int (nI j)), (8, .int (nI ((edN pl a b i j) + 1)))] [1, 2, 3, 4, 5, 6, 0, 7, 8] dX8_fewestEdits_123 (by decide) rfl ?_
                      refine g_aload_n F 0 rfl dX8_fewestEdits_125 ?_
                      refine g_get F 8 0 2 inX8 rfl rfl (by decide) tw_fl_X8_18 rfl dX8_fewestEdits_126 ?_
                      refine g_iload F 7 rfl dX8_fewestEdits_129 ?_
                      refine g_iconst F (nI 1) (by decide) dX8_fewestEdits_131 ?_
                      refine n_add F dX8_fewestEdits_132 ?_
                      refine g_iload F 8 rfl dX8_fewestEdits_133 ?_
                      refine g_iconst F (nI 1) (by decide) dX8_fewestEdits_135 ?_
                      refine g_aload_n F 0 rfl dX8_fewestEdits_136 ?_
                      refine g_get F 8 0 2 inX8 rfl rfl (by decide) tw_fl_X8_18 rfl dX8_fewestEdits_137 ?_
                      refine g_iload F 7 rfl dX8_fewestEdits_140 ?_
                      refine g_iald F 3 rfl (by omega) (by decide) dX8_fewestEdits_142 ?_
                      refine g_top (nI (edN pl a b (i + 1) j)) (h1 j (Nat.le_refl _)) ?_
                      refine g_aload_n F 0 rfl dX8_fewestEdits_143 ?_
                      refine g_get F 8 0 2 inX8 rfl rfl (by decide) tw_fl_X8_18 rfl dX8_fewestEdits_144 ?_
                      refine g_iload F 7 rfl dX8_fewestEdits_147 ?_
                      refine g_iconst F (nI 1) (by decide) dX8_fewestEdits_149 ?_
                      refine n_add F dX8_fewestEdits_150 ?_
                      refine g_iald F 3 rfl (by omega) (by decide) dX8_fewestEdits_151 ?_
                      refine g_top (nI (edN pl a b i (j + 1))) (h2 (j + 1) (by omega) (by omega)) ?_
                      refine g_mmin F tw_ml_X8_35 (by decide) (Nat.le_of_ble_eq_true rfl) (Nat.zero_le _) (Nat.zero_le _) dX8_fewestEdits_152 ?_
                      refine g_top _ (n_min (edN pl a b (i + 1) j) (edN pl a b i (j + 1)) (by have := hed (i + 1) j; omega) (by have := hed i (j + 1); omega)) ?_
                      refine n_add F dX8_fewestEdits_155 ?_
                      refine g_mmin F tw_ml_X8_35 (by decide) (Nat.le_of_ble_eq_true rfl) (Nat.zero_le _) (Nat.zero_le _) dX8_fewestEdits_156 ?_
                      refine g_top _ (n_min ((edN pl a b i j) + 1) (1 + (Nat.min (edN pl a b (i + 1) j) (edN pl a b i (j + 1)))) (by have := hed i j; omega) (ed_b (by omega) (by omega))) ?_
                      refine g_iast F 3 [ob ro 8 [.ref la, .ref pa, .ref na, .int (nI n)], ia E la 60 ln, ia E pa 480 pl, ia E na 9 (upd g1 (j + 1) (nI (Nat.min ((edN pl a b i j) + 1) (1 + (Nat.min (edN pl a b (i + 1) j) (edN pl a b i (j + 1)))))))] rfl (by omega) (by decide) rfl dX8_fewestEdits_159 ?_
                      refine g_iinc F (nI (j + 1)) 7 7 [(0, .ref ro), (1, .int (nI a)), (2, .int (nI b)), (3, .int (nI (L b))), (4, .int (nI i)), (5, .int (pl (a * 8 + i))), (6, .int (nI (edN pl a b i (j + 1)))), (7, .int (nI (j + 1))), (8, .int (nI ((edN pl a b i j) + 1)))] [1, 2, 3, 4, 5, 6, 7, 0, 8] dX8_fewestEdits_160 rfl (n_inc j) (by decide) rfl ?_
                      refine g_goto F 80 dX8_fewestEdits_163 (by decide) ?_
                      refine g_lv [0, 1, 2, 3, 4, 5, 6, 7] [(0, .ref ro), (1, .int (nI a)), (2, .int (nI b)), (3, .int (nI (L b))), (4, .int (nI i)), (5, .int (pl (a * 8 + i))), (6, .int (nI (edN pl a b i (j + 1)))), (7, .int (nI (j + 1)))] rfl ?_
                      exact ih_80 (j + 1) (upd g1 (j + 1) (nI (Nat.min ((edN pl a b i j) + 1) (1 + (Nat.min (edN pl a b (i + 1) j) (edN pl a b i (j + 1))))))) (by omega) (fun q hq => by
              by_cases c : q = j + 1
              · subst c; exact pk_us.trans (by rw [ed_ne c_100])
              · exact (pk_un c).trans (h1 q (by omega))) (fun q q1 q2 => (pk_un (by omega)).trans (h2 q (by omega) q2)) (by omega)
                    · refine g_iload F 6 rfl dX8_fewestEdits_103 ?_
                      refine g_goto F 112 dX8_fewestEdits_105 (by decide) ?_
                      refine g_istore F 8 [(0, .ref ro), (1, .int (nI a)), (2, .int (nI b)), (3, .int (nI (L b))), (4, .int (nI i)), (5, .int (pl (a * 8 + i))), (6, .int (nI (edN pl a b i j))), (7, .int (nI j)), (8, .int (nI (edN pl a b i j)))] [1, 2, 3, 4, 5, 6, 7, 8, 0] dX8_fewestEdits_112 (by decide) rfl ?_
                      refine g_aload_n F 0 rfl dX8_fewestEdits_114 ?_
                      refine g_get F 8 0 2 inX8 rfl rfl (by decide) tw_fl_X8_18 rfl dX8_fewestEdits_115 ?_
                      refine g_iload F 7 rfl dX8_fewestEdits_118 ?_
                      refine g_iconst F (nI 1) (by decide) dX8_fewestEdits_120 ?_
                      refine n_add F dX8_fewestEdits_121 ?_
                      refine g_iald F 3 rfl (by omega) (by decide) dX8_fewestEdits_122 ?_
                      refine g_top (nI (edN pl a b i (j + 1))) (h2 (j + 1) (by omega) (by omega)) ?_
                      refine g_istore F 6 [(0, .ref ro), (1, .int (nI a)), (2, .int (nI b)), (3, .int (nI (L b))), (4, .int (nI i)), (5, .int (pl (a * 8 + i))), (6, .int (nI (edN pl a b i (j + 1)))), (7, .int (nI j)), (8, .int (nI (edN pl a b i j)))] [1, 2, 3, 4, 5, 6, 0, 7, 8] dX8_fewestEdits_123 (by decide) rfl ?_
                      refine g_aload_n F 0 rfl dX8_fewestEdits_125 ?_
                      refine g_get F 8 0 2 inX8 rfl rfl (by decide) tw_fl_X8_18 rfl dX8_fewestEdits_126 ?_
                      refine g_iload F 7 rfl dX8_fewestEdits_129 ?_
                      refine g_iconst F (nI 1) (by decide) dX8_fewestEdits_131 ?_
                      refine n_add F dX8_fewestEdits_132 ?_
                      refine g_iload F 8 rfl dX8_fewestEdits_133 ?_
                      refine g_iconst F (nI 1) (by decide) dX8_fewestEdits_135 ?_
                      refine g_aload_n F 0 rfl dX8_fewestEdits_136 ?_
                      refine g_get F 8 0 2 inX8 rfl rfl (by decide) tw_fl_X8_18 rfl dX8_fewestEdits_137 ?_
                      refine g_iload F 7 rfl dX8_fewestEdits_140 ?_
                      refine g_iald F 3 rfl (by omega) (by decide) dX8_fewestEdits_142 ?_
                      refine g_top (nI (edN pl a b (i + 1) j)) (h1 j (Nat.le_refl _)) ?_
                      refine g_aload_n F 0 rfl dX8_fewestEdits_143 ?_
                      refine g_get F 8 0 2 inX8 rfl rfl (by decide) tw_fl_X8_18 rfl dX8_fewestEdits_144 ?_
                      refine g_iload F 7 rfl dX8_fewestEdits_147 ?_
                      refine g_iconst F (nI 1) (by decide) dX8_fewestEdits_149 ?_
                      refine n_add F dX8_fewestEdits_150 ?_
                      refine g_iald F 3 rfl (by omega) (by decide) dX8_fewestEdits_151 ?_
                      refine g_top (nI (edN pl a b i (j + 1))) (h2 (j + 1) (by omega) (by omega)) ?_
                      refine g_mmin F tw_ml_X8_35 (by decide) (Nat.le_of_ble_eq_true rfl) (Nat.zero_le _) (Nat.zero_le _) dX8_fewestEdits_152 ?_
                      refine g_top _ (n_min (edN pl a b (i + 1) j) (edN pl a b i (j + 1)) (by have := hed (i + 1) j; omega) (by have := hed i (j + 1); omega)) ?_
                      refine n_add F dX8_fewestEdits_155 ?_
                      refine g_mmin F tw_ml_X8_35 (by decide) (Nat.le_of_ble_eq_true rfl) (Nat.zero_le _) (Nat.zero_le _) dX8_fewestEdits_156 ?_
                      refine g_top _ (n_min (edN pl a b i j) (1 + (Nat.min (edN pl a b (i + 1) j) (edN pl a b i (j + 1)))) (by have := hed i j; omega) (ed_b (by omega) (by omega))) ?_
                      refine g_iast F 3 [ob ro 8 [.ref la, .ref pa, .ref na, .int (nI n)], ia E la 60 ln, ia E pa 480 pl, ia E na 9 (upd g1 (j + 1) (nI (Nat.min (edN pl a b i j) (1 + (Nat.min (edN pl a b (i + 1) j) (edN pl a b i (j + 1)))))))] rfl (by omega) (by decide) rfl dX8_fewestEdits_159 ?_
                      refine g_iinc F (nI (j + 1)) 7 7 [(0, .ref ro), (1, .int (nI a)), (2, .int (nI b)), (3, .int (nI (L b))), (4, .int (nI i)), (5, .int (pl (a * 8 + i))), (6, .int (nI (edN pl a b i (j + 1)))), (7, .int (nI (j + 1))), (8, .int (nI (edN pl a b i j)))] [1, 2, 3, 4, 5, 6, 7, 0, 8] dX8_fewestEdits_160 rfl (n_inc j) (by decide) rfl ?_
                      refine g_goto F 80 dX8_fewestEdits_163 (by decide) ?_
                      refine g_lv [0, 1, 2, 3, 4, 5, 6, 7] [(0, .ref ro), (1, .int (nI a)), (2, .int (nI b)), (3, .int (nI (L b))), (4, .int (nI i)), (5, .int (pl (a * 8 + i))), (6, .int (nI (edN pl a b i (j + 1)))), (7, .int (nI (j + 1)))] rfl ?_
                      exact ih_80 (j + 1) (upd g1 (j + 1) (nI (Nat.min (edN pl a b i j) (1 + (Nat.min (edN pl a b (i + 1) j) (edN pl a b i (j + 1))))))) (by omega) (fun q hq => by
              by_cases c : q = j + 1
              · subst c; exact pk_us.trans (by rw [ed_eq c_100])
              · exact (pk_un c).trans (h1 q (by omega))) (fun q q1 q2 => (pk_un (by omega)).trans (h2 q (by omega) q2)) (by omega)
              exact lp_80 _ 0 (upd g 0 (nI (i + 1))) (by omega) (fun q hq => by rw [show q = 0 by omega]; exact pk_us) (fun q q1 q2 => (pk_un (by omega)).trans (h3 q q2)) (Nat.lt_succ_self _)
        exact lp_34 _ 0 g (by omega) (fun q hq => h0 q (by omega)) (Nat.lt_succ_self _)
      · refine g_aload_n F 0 rfl dX8_fewestEdits_16 ?_
        refine g_get F 8 0 2 inX8 rfl rfl (by decide) tw_fl_X8_18 rfl dX8_fewestEdits_17 ?_
        refine g_iload F 4 rfl dX8_fewestEdits_20 ?_
        refine g_iload F 4 rfl dX8_fewestEdits_22 ?_
        refine g_iast F 3 [ob ro 8 [.ref la, .ref pa, .ref na, .int (nI n)], ia E la 60 ln, ia E pa 480 pl, ia E na 9 (upd g j (nI j))] rfl (by omega) (by decide) rfl dX8_fewestEdits_24 ?_
        refine g_iinc F (nI (j + 1)) 4 4 [(0, .ref ro), (1, .int (nI a)), (2, .int (nI b)), (3, .int (nI (L b))), (4, .int (nI (j + 1)))] [1, 2, 3, 4, 0] dX8_fewestEdits_25 rfl (n_inc j) (by decide) rfl ?_
        refine g_goto F 10 dX8_fewestEdits_28 (by decide) ?_
        exact ih_10 (j + 1) (upd g j (nI j)) (by omega) (fun q hq => by
          by_cases c : q = j
          · subst c; exact pk_us
          · exact (pk_un c).trans (h0 q (by omega))) (by omega)
  exact lp_10 _ 0 li (by omega) (fun q h => absurd h (Nat.not_lt_zero q)) (Nat.lt_succ_self _)
end
section
/-- what is told, as numbers -/
def TR (td : Nat → Int32) (tN : Nat → Nat) : Prop := ∀ j, j < 3600 → td j = nI (tN j) ∧ tN j ≤ 100000
def SY (tN : Nat → Nat) : Prop := (∀ a b, a < 60 → b < 60 → tN (a * 60 + b) = tN (b * 60 + a)) ∧ ∀ a, a < 60 → tN (a * 60 + a) = 0
/-- a, b, c break the law -/
def bk (tN : Nat → Nat) (a b c : Nat) : Prop := tN (a * 60 + b) + tN (b * 60 + c) < tN (a * 60 + c)
def LW (tN : Nat → Nat) (n : Nat) : Prop := ∀ a b c, a < n → b < n → c < n → ¬ bk tN a b c
def BR (tN : Nat → Nat) (n a b c : Nat) : Prop := a < n ∧ b < n ∧ c < n ∧ bk tN a b c ∧ ∀ a' b' c', a' < n → b' < n → c' < n → bk tN a' b' c' → a < a' ∨ (a = a' ∧ (b < b' ∨ (b = b' ∧ c ≤ c')))
theorem br_uni {tN : Nat → Nat} {n a b c a' b' c' : Nat} (h : BR tN n a b c) (h' : BR tN n a' b' c') : a = a' ∧ b = b' ∧ c = c' := by
  have h1 := h.2.2.2.2 a' b' c' h'.1 h'.2.1 h'.2.2.1 h'.2.2.2.1
  have h2 := h'.2.2.2.2 a b c h.1 h.2.1 h.2.2.1 h.2.2.2.1
  omega
theorem br_not {tN : Nat → Nat} {n a b c : Nat} (h : BR tN n a b c) : ¬ LW tN n := fun z => z a b c h.1 h.2.1 h.2.2.1 h.2.2.2.1
theorem bk_sym {tN : Nat → Nat} {a b c : Nat} (hs : SY tN) (ha : a < 60) (hb : b < 60) (hc : c < 60) (h : bk tN a b c) : bk tN c b a := by
  unfold bk at h ⊢
  rw [hs.1 c b hc hb, hs.1 b a hb ha, hs.1 c a hc ha]
  omega
theorem bk_ne {tN : Nat → Nat} {a b c : Nat} (hs : SY tN) (ha : a < 60) (h : bk tN a b c) : a ≠ c := by
  rintro rfl
  unfold bk at h
  rw [hs.2 a ha] at h
  omega
theorem lw_of {tN : Nat → Nat} {n : Nat} (hs : SY tN) (hn : n ≤ 60) (h : ∀ a, a < n → ∀ b, b < n → ∀ c, a < c → c < n → ¬ bk tN a b c) : LW tN n := by
  intro a b c ha hb hc hk
  rcases Nat.lt_trichotomy a c with q | q | q
  · exact h a ha b hb c q hc hk
  · exact bk_ne hs (by omega) hk q
  · exact h c hc b hb a q ha (bk_sym hs (by omega) (by omega) (by omega) hk)
theorem br_of {tN : Nat → Nat} {n a b c : Nat} (hs : SY tN) (hn : n ≤ 60) (ha : a < n) (hb : b < n) (hac : a < c) (hc : c < n) (hk : bk tN a b c) (h1 : ∀ a', a' < a → ∀ b', b' < n → ∀ c', a' < c' → c' < n → ¬ bk tN a' b' c') (h2 : ∀ b', b' < b → ∀ c', a < c' → c' < n → ¬ bk tN a b' c') (h3 : ∀ c', a < c' → c' < c → ¬ bk tN a b c') : BR tN n a b c := by
  have up : ∀ a' b' c', a' < n → b' < n → c' < n → a' < c' → bk tN a' b' c' → a < a' ∨ (a = a' ∧ (b < b' ∨ (b = b' ∧ c ≤ c'))) := by
    intro a' b' c' q1 q2 q3 q4 q5
    rcases Nat.lt_trichotomy a' a with z | z | z
    · exact absurd q5 (h1 a' z b' q2 c' q4 q3)
    · subst z
      rcases Nat.lt_trichotomy b' b with y | y | y
      · exact absurd q5 (h2 b' y c' q4 q3)
      · subst y
        rcases Nat.lt_or_ge c' c with x | x
        · exact absurd q5 (h3 c' q4 x)
        · omega
      · omega
    · omega
  refine ⟨ha, hb, hc, hk, fun a' b' c' q1 q2 q3 q5 => ?_⟩
  rcases Nat.lt_trichotomy a' c' with z | z | z
  · exact up a' b' c' q1 q2 q3 z q5
  · exact absurd z (bk_ne hs (by omega) q5)
  · have := up c' b' a' q3 q2 q1 z (bk_sym hs (by omega) (by omega) (by omega) q5)
    omega
def TBr (tN : Nat → Nat) (br : Nat → Int32) (n : Nat) : Prop := ∃ x y z, BR tN n x y z ∧ br 0 = nI x ∧ br 1 = nI y ∧ br 2 = nI z
/-- the table's memory of the law -/
def TBk (tN : Nat → Nat) (br : Nat → Int32) (brk chk : Int32) : Prop := chk = -1 ∨ ∃ c, c ≤ 60 ∧ chk = nI c ∧ ((brk = 0 ∧ LW tN c) ∨ (brk = 1 ∧ TBr tN br c))
theorem nI_m1 {n : Nat} (h : n < 2 ^ 31) : nI n ≠ -1 := by
  intro e
  have := nI_toInt h
  rw [e, show (-1 : Int32).toInt = -1 from by decide] at this
  omega
theorem tb_case {tN : Nat → Nat} {br : Nat → Int32} {brk : Int32} {n : Nat} (hn : n ≤ 60) (h : TBk tN br brk (nI n)) : (brk = 0 ∧ LW tN n) ∨ (brk = 1 ∧ TBr tN br n) := by
  rcases h with h | ⟨c, hc, e, h⟩
  · exact absurd h (nI_m1 (by omega))
  · rw [(nI_eq (by omega) (by omega)).mp e]; exact h

set_option maxHeartbeats 4000000 in
set_option maxRecDepth 100000 in
theorem c_X9_read (E : Ev) (tb : Nat) (ta : Nat) (ba : Nat) (td : Nat → Int32) (br : Nat → Int32) (brk : Int32) (chk : Int32) (tN : Nat → Nat) (a : Nat) (b : Nat) (ht : TR td tN) (ha : a < 60) (hb : b < 60) : RDi E yX9_read (wq yX9_read cX9_read 3 (some .int)) (rmk 0 0) [.ref tb, .int (nI a), .int (nI b)] [ob tb 9 [.ref ta, .ref ba, .int brk, .int chk], ia E ta 3600 td, ia E ba 3 br] (nI (tN (a * 60 + b))) := by
  refine CTi.of (by decide) (Nat.le_of_ble_eq_true rfl) (fun X F R => ?_)
  refine g_lv [0, 1, 2] [(0, .ref tb), (1, .int (nI a)), (2, .int (nI b))] rfl ?_
  refine g_aload_n F 0 rfl dX9_read_0 ?_
  refine g_get F 9 0 0 inX9 rfl rfl (by decide) tw_fl_X9_9 rfl dX9_read_1 ?_
  refine g_iload_n F 1 rfl dX9_read_4 ?_
  refine g_bipush F (nI 60) (by decide) dX9_read_5 ?_
  refine n_mul F dX9_read_7 ?_
  refine g_iload_n F 2 rfl dX9_read_8 ?_
  refine n_add F dX9_read_9 ?_
  refine g_iald F 1 rfl (by omega) (by decide) dX9_read_10 ?_
  refine g_top (nI (tN (a * 60 + b))) ((ht _ (by omega)).1) ?_
  exact R _ (()) _ _ dX9_read_11 (rfl)

set_option maxHeartbeats 4000000 in
set_option maxRecDepth 100000 in
theorem c_X9_write (E : Ev) (tb : Nat) (ta : Nat) (ba : Nat) (td : Nat → Int32) (br : Nat → Int32) (brk : Int32) (chk : Int32) (a : Nat) (b : Nat) (x : Int32) (ha : a < 60) (hb : b < 60) : CTv E yX9_write (wq yX9_write cX9_write 4 none) (rmk 0 0) [.ref tb, .int (nI a), .int (nI b), .int x] [ob tb 9 [.ref ta, .ref ba, .int brk, .int chk], ia E ta 3600 td, ia E ba 3 br] (fun (u : Unit) => True) (fun (u : Unit) => [ob tb 9 [.ref ta, .ref ba, .int brk, .int (-1)], ia E ta 3600 (upd (upd td (a * 60 + b) x) (b * 60 + a) x), ia E ba 3 br]) := by
  refine CTv.of (by decide) (Nat.le_of_ble_eq_true rfl) (fun X F R => ?_)
  refine g_lv [0, 1, 2, 3] [(0, .ref tb), (1, .int (nI a)), (2, .int (nI b)), (3, .int x)] rfl ?_
  refine g_aload_n F 0 rfl dX9_write_0 ?_
  refine g_get F 9 0 0 inX9 rfl rfl (by decide) tw_fl_X9_9 rfl dX9_write_1 ?_
  refine g_iload_n F 1 rfl dX9_write_4 ?_
  refine g_bipush F (nI 60) (by decide) dX9_write_5 ?_
  refine n_mul F dX9_write_7 ?_
  refine g_iload_n F 2 rfl dX9_write_8 ?_
  refine n_add F dX9_write_9 ?_
  refine g_iload_n F 3 rfl dX9_write_10 ?_
  refine g_iast F 1 [ob tb 9 [.ref ta, .ref ba, .int brk, .int chk], ia E ta 3600 (upd td ((a * 60) + b) x), ia E ba 3 br] rfl (by omega) (by decide) rfl dX9_write_11 ?_
  refine g_aload_n F 0 rfl dX9_write_12 ?_
  refine g_get F 9 0 0 inX9 rfl rfl (by decide) tw_fl_X9_9 rfl dX9_write_13 ?_
  refine g_iload_n F 2 rfl dX9_write_16 ?_
  refine g_bipush F (nI 60) (by decide) dX9_write_17 ?_
  refine n_mul F dX9_write_19 ?_
  refine g_iload_n F 1 rfl dX9_write_20 ?_
  refine n_add F dX9_write_21 ?_
  refine g_iload_n F 3 rfl dX9_write_22 ?_
  refine g_iast F 1 [ob tb 9 [.ref ta, .ref ba, .int brk, .int chk], ia E ta 3600 (upd (upd td ((a * 60) + b) x) ((b * 60) + a) x), ia E ba 3 br] rfl (by omega) (by decide) rfl dX9_write_23 ?_
  refine g_aload_n F 0 rfl dX9_write_24 ?_
  refine g_iconst F (-1) (by decide) dX9_write_25 ?_
  refine g_put F 9 0 3 [ob tb 9 [.ref ta, .ref ba, .int brk, .int (-1)], ia E ta 3600 (upd (upd td ((a * 60) + b) x) ((b * 60) + a) x), ia E ba 3 br] inX9 tyX9_ok nmX9 rfl rfl (by decide) tw_fl_X9_22 rfl rfl rfl rfl (Nat.le_of_ble_eq_true rfl) rfl dX9_write_26 ?_
  exact R (()) _ _ dX9_write_29 (trivial)

set_option maxHeartbeats 4000000 in
set_option maxRecDepth 100000 in
theorem c_X9_breaker (E : Ev) (tb : Nat) (ta : Nat) (ba : Nat) (td : Nat → Int32) (br : Nat → Int32) (brk : Int32) (chk : Int32) (i : Nat) (hi : i < 3) : RDi E yX9_breaker (wq yX9_breaker cX9_breaker 2 (some .int)) (rmk 0 0) [.ref tb, .int (nI i)] [ob tb 9 [.ref ta, .ref ba, .int brk, .int chk], ia E ta 3600 td, ia E ba 3 br] (br i) := by
  refine CTi.of (by decide) (Nat.le_of_ble_eq_true rfl) (fun X F R => ?_)
  refine g_lv [0, 1] [(0, .ref tb), (1, .int (nI i))] rfl ?_
  refine g_aload_n F 0 rfl dX9_breaker_0 ?_
  refine g_get F 9 0 1 inX9 rfl rfl (by decide) tw_fl_X9_15 rfl dX9_breaker_1 ?_
  refine g_iload_n F 1 rfl dX9_breaker_4 ?_
  refine g_iald F 2 rfl (by omega) (by decide) dX9_breaker_5 ?_
  exact R _ (()) _ _ dX9_breaker_6 (rfl)

set_option maxHeartbeats 4000000 in
set_option maxRecDepth 100000 in
theorem c_X9_endBeyond (E : Ev) (tb : Nat) (ta : Nat) (ba : Nat) (td : Nat → Int32) (br : Nat → Int32) (brk : Int32) (chk : Int32) (tN : Nat → Nat) (a : Nat) (b : Nat) (n : Nat) (ht : TR td tN) (hn : n ≤ 60) (ha : a < n) (hb : b < n) : CTi E yX9_endBeyond (wq yX9_endBeyond cX9_endBeyond 8 (some .int)) (rmk 0 0) [.ref tb, .int (nI a), .int (nI b), .int (nI n)] [ob tb 9 [.ref ta, .ref ba, .int brk, .int chk], ia E ta 3600 td, ia E ba 3 br] (fun (r : Int32) (u : Unit) => (r = -1 ∧ ∀ c, a < c → c < n → ¬ bk tN a b c) ∨ (∃ c, r = nI c ∧ a < c ∧ c < n ∧ bk tN a b c ∧ ∀ c2, a < c2 → c2 < c → ¬ bk tN a b c2)) (fun (u : Unit) => [ob tb 9 [.ref ta, .ref ba, .int brk, .int chk], ia E ta 3600 td, ia E ba 3 br]) := by
  refine CTi.of (by decide) (Nat.le_of_ble_eq_true rfl) (fun X F R => ?_)
  refine g_lv [0, 1, 2, 3] [(0, .ref tb), (1, .int (nI a)), (2, .int (nI b)), (3, .int (nI n))] rfl ?_
  refine g_iload_n F 1 rfl dX9_endBeyond_0 ?_
  refine g_bipush F (nI 60) (by decide) dX9_endBeyond_1 ?_
  refine n_mul F dX9_endBeyond_3 ?_
  refine g_istore F 4 [(0, .ref tb), (1, .int (nI a)), (2, .int (nI b)), (3, .int (nI n)), (4, .int (nI (a * 60)))] [1, 2, 3, 4, 0] dX9_endBeyond_4 (by decide) rfl ?_
  refine g_iload_n F 2 rfl dX9_endBeyond_6 ?_
  refine g_bipush F (nI 60) (by decide) dX9_endBeyond_7 ?_
  refine n_mul F dX9_endBeyond_9 ?_
  refine g_istore F 5 [(0, .ref tb), (1, .int (nI a)), (2, .int (nI b)), (3, .int (nI n)), (4, .int (nI (a * 60))), (5, .int (nI (b * 60)))] [1, 2, 3, 4, 5, 0] dX9_endBeyond_10 (by decide) rfl ?_
  refine g_aload_n F 0 rfl dX9_endBeyond_12 ?_
  refine g_get F 9 0 0 inX9 rfl rfl (by decide) tw_fl_X9_9 rfl dX9_endBeyond_13 ?_
  refine g_iload F 4 rfl dX9_endBeyond_16 ?_
  refine g_iload_n F 2 rfl dX9_endBeyond_18 ?_
  refine n_add F dX9_endBeyond_19 ?_
  refine g_iald F 1 rfl (by omega) (by decide) dX9_endBeyond_20 ?_
  refine g_top (nI (tN (a * 60 + b))) ((ht _ (by omega)).1) ?_
  refine g_istore F 6 [(0, .ref tb), (1, .int (nI a)), (2, .int (nI b)), (3, .int (nI n)), (4, .int (nI (a * 60))), (5, .int (nI (b * 60))), (6, .int (nI (tN (a * 60 + b))))] [1, 2, 3, 4, 5, 6, 0] dX9_endBeyond_21 (by decide) rfl ?_
  refine g_iload_n F 1 rfl dX9_endBeyond_23 ?_
  refine g_iconst F (nI 1) (by decide) dX9_endBeyond_24 ?_
  refine n_add F dX9_endBeyond_25 ?_
  refine g_istore F 7 [(0, .ref tb), (1, .int (nI a)), (2, .int (nI b)), (3, .int (nI n)), (4, .int (nI (a * 60))), (5, .int (nI (b * 60))), (6, .int (nI (tN (a * 60 + b)))), (7, .int (nI (a + 1)))] [1, 2, 3, 4, 5, 6, 7, 0] dX9_endBeyond_26 (by decide) rfl ?_
  have lp_28 : ∀ (n_28 : Nat) (c : Nat), (a < c) → (c ≤ n) → (∀ c2, a < c2 → c2 < c → ¬ bk tN a b c2) → n - c < n_28 → GW E X 0 0 [ob tb 9 [.ref ta, .ref ba, .int brk, .int chk], ia E ta 3600 td, ia E ba 3 br] [(0, .ref tb), (1, .int (nI a)), (2, .int (nI b)), (3, .int (nI n)), (4, .int (nI (a * 60))), (5, .int (nI (b * 60))), (6, .int (nI (tN (a * 60 + b)))), (7, .int (nI c))] 28 [] := by
    intro n_28
    induction n_28 with
    | zero => intro c hc1 hc2 hp hm_28; exact absurd hm_28 (Nat.not_lt_zero _)
    | succ n_28 ih_28 =>
      intro c hc1 hc2 hp hm_28
      refine g_iload F 7 rfl dX9_endBeyond_28 ?_
      refine g_iload_n F 3 rfl dX9_endBeyond_30 ?_
      refine n_icmp_ge F 69 dX9_endBeyond_31 (by decide) (by omega) (by omega) (fun c_31 => ?_) (fun c_31 => ?_)
      · refine g_iconst F (-1) (by decide) dX9_endBeyond_69 ?_
        exact R _ (()) _ _ dX9_endBeyond_70 (Or.inl ⟨rfl, fun c2 h1 h2 => hp c2 h1 (by omega)⟩)
      · refine g_aload_n F 0 rfl dX9_endBeyond_34 ?_
        refine g_get F 9 0 0 inX9 rfl rfl (by decide) tw_fl_X9_9 rfl dX9_endBeyond_35 ?_
        refine g_iload F 4 rfl dX9_endBeyond_38 ?_
        refine g_iload F 7 rfl dX9_endBeyond_40 ?_
        refine n_add F dX9_endBeyond_42 ?_
        refine g_iald F 1 rfl (by omega) (by decide) dX9_endBeyond_43 ?_
        refine g_top (nI (tN (a * 60 + c))) ((ht _ (by omega)).1) ?_
        refine g_iload F 6 rfl dX9_endBeyond_44 ?_
        refine g_aload_n F 0 rfl dX9_endBeyond_46 ?_
        refine g_get F 9 0 0 inX9 rfl rfl (by decide) tw_fl_X9_9 rfl dX9_endBeyond_47 ?_
        refine g_iload F 5 rfl dX9_endBeyond_50 ?_
        refine g_iload F 7 rfl dX9_endBeyond_52 ?_
        refine n_add F dX9_endBeyond_54 ?_
        refine g_iald F 1 rfl (by omega) (by decide) dX9_endBeyond_55 ?_
        refine g_top (nI (tN (b * 60 + c))) ((ht _ (by omega)).1) ?_
        refine n_add F dX9_endBeyond_56 ?_
        refine n_icmp_le F 63 dX9_endBeyond_57 (by decide) (by have := (ht (a * 60 + c) (by omega)).2; omega) (by have := (ht (a * 60 + b) (by omega)).2; have := (ht (b * 60 + c) (by omega)).2; omega) (fun c_57 => ?_) (fun c_57 => ?_)
        · refine g_iinc F (nI (c + 1)) 7 7 [(0, .ref tb), (1, .int (nI a)), (2, .int (nI b)), (3, .int (nI n)), (4, .int (nI (a * 60))), (5, .int (nI (b * 60))), (6, .int (nI (tN (a * 60 + b)))), (7, .int (nI (c + 1)))] [1, 2, 3, 4, 5, 6, 7, 0] dX9_endBeyond_63 rfl (n_inc c) (by decide) rfl ?_
          refine g_goto F 28 dX9_endBeyond_66 (by decide) ?_
          exact ih_28 (c + 1) (by omega) (by omega) (fun c2 h1 h2 => by
          rcases Nat.lt_or_ge c2 c with q | q
          · exact hp c2 h1 q
          · rw [show c2 = c by omega]; unfold bk; omega) (by omega)
        · refine g_iload F 7 rfl dX9_endBeyond_60 ?_
          exact R _ (()) _ _ dX9_endBeyond_62 (Or.inr ⟨c, rfl, hc1, c_31, c_57, hp⟩)
  exact lp_28 _ (a + 1) (by omega) (by omega) (fun c2 h1 h2 => absurd h1 (by omega)) (Nat.lt_succ_self _)

set_option maxHeartbeats 4000000 in
set_option maxRecDepth 100000 in
theorem c_X9_findBreakers (E : Ev) (tb : Nat) (ta : Nat) (ba : Nat) (td : Nat → Int32) (br : Nat → Int32) (brk : Int32) (chk : Int32) (tN : Nat → Nat) (n : Nat) (ht : TR td tN) (hs : SY tN) (hn : n ≤ 60) : CTi E yX9_findBreakers (wq yX9_findBreakers cX9_findBreakers 5 (some .boolean)) (rmk 1 27) [.ref tb, .int (nI n)] [ob tb 9 [.ref ta, .ref ba, .int brk, .int chk], ia E ta 3600 td, ia E ba 3 br] (fun (r : Int32) (u : (Nat → Int32)) => (r = 1 ∧ TBr tN u n) ∨ (r = 0 ∧ LW tN n)) (fun (u : (Nat → Int32)) => [ob tb 9 [.ref ta, .ref ba, .int brk, .int chk], ia E ta 3600 td, ia E ba 3 u]) := by
  refine CTi.ofZ (by decide) (Nat.le_of_ble_eq_true rfl) (fun X F R => ?_)
  refine g_lv [0, 1] [(0, .ref tb), (1, .int (nI n))] rfl ?_
  refine g_iconst F (nI 0) (by decide) dX9_findBreakers_0 ?_
  refine g_istore_n F 2 [(0, .ref tb), (1, .int (nI n)), (2, .int (nI 0))] [1, 2, 0] dX9_findBreakers_1 rfl (by decide) rfl ?_
  have lp_2 : ∀ (n_2 : Nat) (a : Nat), (a ≤ n) → (∀ a2, a2 < a → ∀ b2, b2 < n → ∀ c2, a2 < c2 → c2 < n → ¬ bk tN a2 b2 c2) → n - a < n_2 → GW E X 0 0 [ob tb 9 [.ref ta, .ref ba, .int brk, .int chk], ia E ta 3600 td, ia E ba 3 br] [(0, .ref tb), (1, .int (nI n)), (2, .int (nI a))] 2 [] := by
    intro n_2
    induction n_2 with
    | zero => intro a ha h1 hm_2; exact absurd hm_2 (Nat.not_lt_zero _)
    | succ n_2 ih_2 =>
      intro a ha h1 hm_2
      refine g_iload_n F 2 rfl dX9_findBreakers_2 ?_
      refine g_iload_n F 1 rfl dX9_findBreakers_3 ?_
      refine n_icmp_ge F 65 dX9_findBreakers_4 (by decide) (by omega) (by omega) (fun c_4 => ?_) (fun c_4 => ?_)
      · refine g_iconst F (nI 0) (by decide) dX9_findBreakers_65 ?_
        exact R _ br _ _ dX9_findBreakers_66 (Or.inl rfl) (Or.inr ⟨rfl, lw_of hs hn (fun a2 q => h1 a2 (by omega))⟩)
      · refine g_iconst F (nI 0) (by decide) dX9_findBreakers_7 ?_
        refine g_istore_n F 3 [(0, .ref tb), (1, .int (nI n)), (2, .int (nI a)), (3, .int (nI 0))] [1, 2, 3, 0] dX9_findBreakers_8 rfl (by decide) rfl ?_
        have lp_9 : ∀ (n_9 : Nat) (b : Nat), (b ≤ n) → (∀ b2, b2 < b → ∀ c2, a < c2 → c2 < n → ¬ bk tN a b2 c2) → n - b < n_9 → GW E X 0 0 [ob tb 9 [.ref ta, .ref ba, .int brk, .int chk], ia E ta 3600 td, ia E ba 3 br] [(0, .ref tb), (1, .int (nI n)), (2, .int (nI a)), (3, .int (nI b))] 9 [] := by
          intro n_9
          induction n_9 with
          | zero => intro b hb h2 hm_9; exact absurd hm_9 (Nat.not_lt_zero _)
          | succ n_9 ih_9 =>
            intro b hb h2 hm_9
            refine g_iload_n F 3 rfl dX9_findBreakers_9 ?_
            refine g_iload_n F 1 rfl dX9_findBreakers_10 ?_
            refine n_icmp_ge F 59 dX9_findBreakers_11 (by decide) (by omega) (by omega) (fun c_11 => ?_) (fun c_11 => ?_)
            · refine g_iinc F (nI (a + 1)) 2 2 [(0, .ref tb), (1, .int (nI n)), (2, .int (nI (a + 1))), (3, .int (nI b))] [1, 2, 0, 3] dX9_findBreakers_59 rfl (n_inc a) (by decide) rfl ?_
              refine g_goto F 2 dX9_findBreakers_62 (by decide) ?_
              refine g_lv [0, 1, 2] [(0, .ref tb), (1, .int (nI n)), (2, .int (nI (a + 1)))] rfl ?_
              exact ih_2 (a + 1) (by omega) (lt_s h1 (fun b2 q => h2 b2 (by omega))) (by omega)
            · refine g_aload_n F 0 rfl dX9_findBreakers_14 ?_
              refine g_iload_n F 2 rfl dX9_findBreakers_15 ?_
              refine g_iload_n F 3 rfl dX9_findBreakers_16 ?_
              refine g_iload_n F 1 rfl dX9_findBreakers_17 ?_
              refine g_cVi F (wr := []) [] (c_X9_endBeyond E tb ta ba td br brk chk tN a b n (ht) (hn) (by omega) (by omega)) (gi_V tw_ml_X9_30 tw_im_X9_endBeyond tw_se_X9_endBeyond tw_in_X9 tw_co_X9_endBeyond) 3 rfl (by decide) ⟨rfl, rfl, by decide, by decide, Nat.zero_le _, Nat.zero_le _⟩ 9 0 rfl rfl [0, 1, 2] [] [0, 1, 2] (fun u => [ob tb 9 [.ref ta, .ref ba, .int brk, .int chk], ia E ta 3600 td, ia E ba 3 br]) rfl rfl (by decide) (fun _ => rfl) rfl (Nat.le_of_ble_eq_true rfl) dX9_findBreakers_18 (fun r_18 u hu_18 => ?_)
              rcases hu_18 with ⟨rfl, h_18⟩ | ⟨cc, rfl, h_18, h_18b, h_18c, h_18d⟩
              · refine g_istore F 4 [(0, .ref tb), (1, .int (nI n)), (2, .int (nI a)), (3, .int (nI b)), (4, .int (-1))] [1, 2, 3, 4, 0] dX9_findBreakers_21 (by decide) rfl ?_
                refine g_iload F 4 rfl dX9_findBreakers_23 ?_
                refine g_iconst F (-1) (by decide) dX9_findBreakers_25 ?_
                refine g_icmp_eq F 53 dX9_findBreakers_26 (by decide) (fun _ => ?_) (fun h => absurd rfl h)
                refine g_iinc F (nI (b + 1)) 3 3 [(0, .ref tb), (1, .int (nI n)), (2, .int (nI a)), (3, .int (nI (b + 1))), (4, .int (-1))] [1, 2, 3, 0, 4] dX9_findBreakers_53 rfl (n_inc b) (by decide) rfl ?_
                refine g_goto F 9 dX9_findBreakers_56 (by decide) ?_
                refine g_lv [0, 1, 2, 3] [(0, .ref tb), (1, .int (nI n)), (2, .int (nI a)), (3, .int (nI (b + 1)))] rfl ?_
                exact ih_9 (b + 1) (by omega) (lt_s h2 h_18) (by omega)
              · refine g_istore F 4 [(0, .ref tb), (1, .int (nI n)), (2, .int (nI a)), (3, .int (nI b)), (4, .int (nI cc))] [1, 2, 3, 4, 0] dX9_findBreakers_21 (by decide) rfl ?_
                refine g_iload F 4 rfl dX9_findBreakers_23 ?_
                refine g_iconst F (-1) (by decide) dX9_findBreakers_25 ?_
                refine g_icmp_eq F 53 dX9_findBreakers_26 (by decide) (fun h => absurd h (nI_m1 (by omega))) (fun _ => ?_)
                refine g_aload_n F 0 rfl dX9_findBreakers_29 ?_
                refine g_get F 9 0 1 inX9 rfl rfl (by decide) tw_fl_X9_15 rfl dX9_findBreakers_30 ?_
                refine g_iconst F (nI 0) (by decide) dX9_findBreakers_33 ?_
                refine g_iload_n F 2 rfl dX9_findBreakers_34 ?_
                refine g_iast F 2 [ob tb 9 [.ref ta, .ref ba, .int brk, .int chk], ia E ta 3600 td, ia E ba 3 (upd br 0 (nI a))] rfl (by omega) (by decide) rfl dX9_findBreakers_35 ?_
                refine g_aload_n F 0 rfl dX9_findBreakers_36 ?_
                refine g_get F 9 0 1 inX9 rfl rfl (by decide) tw_fl_X9_15 rfl dX9_findBreakers_37 ?_
                refine g_iconst F (nI 1) (by decide) dX9_findBreakers_40 ?_
                refine g_iload_n F 3 rfl dX9_findBreakers_41 ?_
                refine g_iast F 2 [ob tb 9 [.ref ta, .ref ba, .int brk, .int chk], ia E ta 3600 td, ia E ba 3 (upd (upd br 0 (nI a)) 1 (nI b))] rfl (by omega) (by decide) rfl dX9_findBreakers_42 ?_
                refine g_aload_n F 0 rfl dX9_findBreakers_43 ?_
                refine g_get F 9 0 1 inX9 rfl rfl (by decide) tw_fl_X9_15 rfl dX9_findBreakers_44 ?_
                refine g_iconst F (nI 2) (by decide) dX9_findBreakers_47 ?_
                refine g_iload F 4 rfl dX9_findBreakers_48 ?_
                refine g_iast F 2 [ob tb 9 [.ref ta, .ref ba, .int brk, .int chk], ia E ta 3600 td, ia E ba 3 (upd (upd (upd br 0 (nI a)) 1 (nI b)) 2 (nI cc))] rfl (by omega) (by decide) rfl dX9_findBreakers_50 ?_
                refine g_iconst F (nI 1) (by decide) dX9_findBreakers_51 ?_
                exact R _ (upd (upd (upd br 0 (nI a)) 1 (nI b)) 2 (nI cc)) _ _ dX9_findBreakers_52 (Or.inr rfl) (Or.inl ⟨rfl, a, b, cc, br_of hs hn c_4 c_11 h_18 h_18b h_18c h1 h2 h_18d, rfl, rfl, rfl⟩)
        exact lp_9 _ 0 (by omega) (fun b2 h => absurd h (Nat.not_lt_zero b2)) (Nat.lt_succ_self _)
  exact lp_2 _ 0 (by omega) (fun a2 h => absurd h (Nat.not_lt_zero a2)) (Nat.lt_succ_self _)

set_option maxHeartbeats 4000000 in
set_option maxRecDepth 100000 in
theorem c_X9_lawHolds (E : Ev) (tb : Nat) (ta : Nat) (ba : Nat) (td : Nat → Int32) (br : Nat → Int32) (brk : Int32) (chk : Int32) (tN : Nat → Nat) (n : Nat) (ht : TR td tN) (hs : SY tN) (hn : n ≤ 60) (hT : TBk tN br brk chk) : CTi E yX9_lawHolds (wq yX9_lawHolds cX9_lawHolds 2 (some .boolean)) (rmk 2 51) [.ref tb, .int (nI n)] [ob tb 9 [.ref ta, .ref ba, .int brk, .int chk], ia E ta 3600 td, ia E ba 3 br] (fun (r : Int32) (u : (Nat → Int32) × Int32) => ((r = 1 ∧ u.2 = 0 ∧ LW tN n) ∨ (r = 0 ∧ u.2 = 1 ∧ TBr tN u.1 n))) (fun (u : (Nat → Int32) × Int32) => [ob tb 9 [.ref ta, .ref ba, .int u.2, .int (nI n)], ia E ta 3600 td, ia E ba 3 u.1]) := by
  refine CTi.ofZ (by decide) (Nat.le_of_ble_eq_true rfl) (fun X F R => ?_)
  refine g_lv [0, 1] [(0, .ref tb), (1, .int (nI n))] rfl ?_
  refine g_aload_n F 0 rfl dX9_lawHolds_0 ?_
  refine g_get F 9 0 3 inX9 rfl rfl (by decide) tw_fl_X9_22 rfl dX9_lawHolds_1 ?_
  refine g_iload_n F 1 rfl dX9_lawHolds_4 ?_
  refine g_icmp_eq F 22 dX9_lawHolds_5 (by decide) (fun c_5 => ?_) (fun c_5 => ?_)
  · subst c_5; rcases tb_case hn hT with ⟨rfl, hq⟩ | ⟨rfl, hq⟩
    · refine g_aload_n F 0 rfl dX9_lawHolds_22 ?_
      refine g_get F 9 0 2 inX9 rfl rfl (by decide) tw_fl_X9_18 rfl dX9_lawHolds_23 ?_
      refine g_if_ne F 33 dX9_lawHolds_26 (by decide) (fun h => absurd (by decide) h) (fun _ => ?_)
      refine g_iconst F (nI 1) (by decide) dX9_lawHolds_29 ?_
      refine g_goto F 34 dX9_lawHolds_30 (by decide) ?_
      exact R _ ((br, 0)) _ _ dX9_lawHolds_34 (Or.inr rfl) (Or.inl ⟨rfl, rfl, hq⟩)
    · refine g_aload_n F 0 rfl dX9_lawHolds_22 ?_
      refine g_get F 9 0 2 inX9 rfl rfl (by decide) tw_fl_X9_18 rfl dX9_lawHolds_23 ?_
      refine g_if_ne F 33 dX9_lawHolds_26 (by decide) (fun _ => ?_) (fun h => absurd h (by decide))
      refine g_iconst F (nI 0) (by decide) dX9_lawHolds_33 ?_
      exact R _ ((br, 1)) _ _ dX9_lawHolds_34 (Or.inl rfl) (Or.inr ⟨rfl, rfl, hq⟩)
  · refine g_aload_n F 0 rfl dX9_lawHolds_8 ?_
    refine g_aload_n F 0 rfl dX9_lawHolds_9 ?_
    refine g_iload_n F 1 rfl dX9_lawHolds_10 ?_
    refine g_cVi F (wr := []) [.ref tb] (c_X9_findBreakers E tb ta ba td br brk chk tN n (ht) (hs) (hn)) (gi_V tw_ml_X9_26 tw_im_X9_findBreakers tw_se_X9_findBreakers tw_in_X9 tw_co_X9_findBreakers) 1 rfl (by decide) ⟨rfl, rfl, by decide, by decide, Nat.zero_le _, Nat.zero_le _⟩ 9 0 rfl rfl [0, 1, 2] [] [0, 1, 2] (fun u => [ob tb 9 [.ref ta, .ref ba, .int brk, .int chk], ia E ta 3600 td, ia E ba 3 u]) rfl rfl (by decide) (fun _ => rfl) rfl (Nat.le_of_ble_eq_true rfl) dX9_lawHolds_11 (fun r_11 u hu_11 => ?_)
    revert hu_11; revert u; intro br2_11 hu_11
    rcases hu_11 with ⟨rfl, h_11⟩ | ⟨rfl, h_11⟩
    · refine g_put F 9 0 2 [ob tb 9 [.ref ta, .ref ba, .int 1, .int chk], ia E ta 3600 td, ia E ba 3 br2_11] inX9 tyX9_ok nmX9 rfl rfl (by decide) tw_fl_X9_18 rfl rfl rfl rfl (Nat.le_of_ble_eq_true rfl) rfl dX9_lawHolds_14 ?_
      refine g_aload_n F 0 rfl dX9_lawHolds_17 ?_
      refine g_iload_n F 1 rfl dX9_lawHolds_18 ?_
      refine g_put F 9 0 3 [ob tb 9 [.ref ta, .ref ba, .int 1, .int (nI n)], ia E ta 3600 td, ia E ba 3 br2_11] inX9 tyX9_ok nmX9 rfl rfl (by decide) tw_fl_X9_22 rfl rfl rfl rfl (Nat.le_of_ble_eq_true rfl) rfl dX9_lawHolds_19 ?_
      refine g_aload_n F 0 rfl dX9_lawHolds_22 ?_
      refine g_get F 9 0 2 inX9 rfl rfl (by decide) tw_fl_X9_18 rfl dX9_lawHolds_23 ?_
      refine g_if_ne F 33 dX9_lawHolds_26 (by decide) (fun _ => ?_) (fun h => absurd h (by decide))
      refine g_iconst F (nI 0) (by decide) dX9_lawHolds_33 ?_
      exact R _ ((br2_11, 1)) _ _ dX9_lawHolds_34 (Or.inl rfl) (Or.inr ⟨rfl, rfl, h_11⟩)
    · refine g_put F 9 0 2 [ob tb 9 [.ref ta, .ref ba, .int 0, .int chk], ia E ta 3600 td, ia E ba 3 br2_11] inX9 tyX9_ok nmX9 rfl rfl (by decide) tw_fl_X9_18 rfl rfl rfl rfl (Nat.le_of_ble_eq_true rfl) rfl dX9_lawHolds_14 ?_
      refine g_aload_n F 0 rfl dX9_lawHolds_17 ?_
      refine g_iload_n F 1 rfl dX9_lawHolds_18 ?_
      refine g_put F 9 0 3 [ob tb 9 [.ref ta, .ref ba, .int 0, .int (nI n)], ia E ta 3600 td, ia E ba 3 br2_11] inX9 tyX9_ok nmX9 rfl rfl (by decide) tw_fl_X9_22 rfl rfl rfl rfl (Nat.le_of_ble_eq_true rfl) rfl dX9_lawHolds_19 ?_
      refine g_aload_n F 0 rfl dX9_lawHolds_22 ?_
      refine g_get F 9 0 2 inX9 rfl rfl (by decide) tw_fl_X9_18 rfl dX9_lawHolds_23 ?_
      refine g_if_ne F 33 dX9_lawHolds_26 (by decide) (fun h => absurd (by decide) h) (fun _ => ?_)
      refine g_iconst F (nI 1) (by decide) dX9_lawHolds_29 ?_
      refine g_goto F 34 dX9_lawHolds_30 (by decide) ?_
      exact R _ ((br2_11, 0)) _ _ dX9_lawHolds_34 (Or.inr rfl) (Or.inl ⟨rfl, rfl, h_11⟩)
end
section
/-- the first i are x -/
def fl (f : Nat → Int32) (i : Nat) (x : Int32) : Nat → Int32 := fun j => if j < i then x else f j
theorem fl_0 (f : Nat → Int32) (x : Int32) : fl f 0 x = f := by
  funext j
  simp [fl]
theorem fl_upd (f : Nat → Int32) (i : Nat) (x : Int32) : upd (fl f i x) i x = fl f (i + 1) x := by
  funext j
  unfold upd fl
  by_cases h : j = i
  · subst h; simp
  · rw [if_neg h]
    by_cases h2 : j < i
    · rw [if_pos h2, if_pos (by omega)]
    · rw [if_neg h2, if_neg (by omega)]
theorem fl_at {f : Nat → Int32} {i j : Nat} {x : Int32} (h : j < i) : fl f i x j = x := by simp [fl, h]
/-- how far a and b are apart by the kind kd -/
def dsN (kd : Nat) (L : Nat → Nat) (pl : Nat → Int32) (tN : Nat → Nat) (a b : Nat) : Nat := match kd with
  | 0 => unl pl a b 8
  | 1 => edN pl a b (L a) (L b)
  | 2 => smd pl a b 8
  | 3 => grd pl a b 8
  | 4 => msn pl L a b (L a) + msn pl L b a (L b)
  | _ => tN (a * 60 + b)
theorem kd_cases {kd : Nat} (h : kd ≤ 5) : kd = 0 ∨ kd = 1 ∨ kd = 2 ∨ kd = 3 ∨ kd = 4 ∨ kd = 5 := by omega
/-- what is known of distances: nothing, or what they are -/
def KN (dd : Nat → Nat → Nat) (n : Nat) (kn : Nat → Int32) : Prop := ∀ a b, a < 60 → b < 60 → kn (a * 60 + b) = kn (b * 60 + a) ∧ (kn (a * 60 + b) = -1 ∨ (a < n ∧ b < n ∧ kn (a * 60 + b) = nI (dd a b)))
theorem ix60 {a b c d : Nat} (hb : b < 60) (hd : d < 60) (h : a * 60 + b = c * 60 + d) : a = c ∧ b = d := by omega
def rem2 (kn : Nat → Int32) (a b : Nat) (x : Int32) : Nat → Int32 := upd (upd kn (a * 60 + b) x) (b * 60 + a) x
theorem rem_at {kn : Nat → Int32} {a b c d : Nat} {x : Int32} (hb : b < 60) (ha : a < 60) (hd : d < 60) : rem2 kn a b x (c * 60 + d) = if (c = a ∧ d = b) ∨ (c = b ∧ d = a) then x else kn (c * 60 + d) := by
  unfold rem2 upd
  by_cases h1 : c * 60 + d = b * 60 + a
  · rw [if_pos h1, if_pos (Or.inr (ix60 hd ha h1))]
  · rw [if_neg h1]
    by_cases h2 : c * 60 + d = a * 60 + b
    · rw [if_pos h2, if_pos (Or.inl (ix60 hd hb h2))]
    · rw [if_neg h2, if_neg]
      rintro (⟨rfl, rfl⟩ | ⟨rfl, rfl⟩)
      · exact h2 rfl
      · exact h1 rfl
theorem kn_rem {dd : Nat → Nat → Nat} {n a b : Nat} {kn : Nat → Int32} (h : KN dd n kn) (ha : a < n) (hb : b < n) (hn : n ≤ 60) (hs : dd a b = dd b a) : KN dd n (rem2 kn a b (nI (dd a b))) := by
  intro c d hc hd
  rw [rem_at (by omega) (by omega) hd, rem_at (by omega) (by omega) hc]
  by_cases q : (c = a ∧ d = b) ∨ (c = b ∧ d = a)
  · rw [if_pos q, if_pos (by omega)]
    refine ⟨rfl, Or.inr ?_⟩
    rcases q with ⟨rfl, rfl⟩ | ⟨rfl, rfl⟩
    · exact ⟨ha, hb, rfl⟩
    · exact ⟨hb, ha, by rw [hs]⟩
  · rw [if_neg q, if_neg (by omega)]
    exact h c d hc hd
/-- the key of a pair: distance, lower, higher number -/
def pkN (dd : Nat → Nat → Nat) (a b : Nat) : Nat := dd a b * 3600 + (Nat.min a b * 60 + Nat.max a b)

set_option maxHeartbeats 4000000 in
set_option maxRecDepth 100000 in
theorem c_J7_fill_53178 (E : Ev) (a : Nat) (N : Nat) (f : Nat → Int32) (x : Int32) (hN : N < 2 ^ 31) : CTv E yJ7_fill_53178 (wq yJ7_fill_53178 cJ7_fill_53178 4 none) (rmk 0 0) [.ref a, .int x] [ia E a N f] (fun (u : Unit) => True) (fun (u : Unit) => [ia E a N (fl f N x)]) := by
  refine CTv.of (by decide) (Nat.le_of_ble_eq_true rfl) (fun X F R => ?_)
  refine g_lv [0, 1] [(0, .ref a), (1, .int x)] rfl ?_
  refine g_iconst F (nI 0) (by decide) dJ7_fill_53178_0 ?_
  refine g_istore_n F 2 [(0, .ref a), (1, .int x), (2, .int (nI 0))] [1, 2, 0] dJ7_fill_53178_1 rfl (by decide) rfl ?_
  refine g_aload_n F 0 rfl dJ7_fill_53178_2 ?_
  refine g_alen F 0 rfl dJ7_fill_53178_3 ?_
  refine g_istore_n F 3 [(0, .ref a), (1, .int x), (2, .int (nI 0)), (3, .int (nI N))] [1, 2, 3, 0] dJ7_fill_53178_4 rfl (by decide) rfl ?_
  have lp_5 : ∀ (n_5 : Nat) (i : Nat), (i ≤ N) → N - i < n_5 → GW E X 0 0 [ia E a N (fl f i x)] [(0, .ref a), (1, .int x), (2, .int (nI i)), (3, .int (nI N))] 5 [] := by
    intro n_5
    induction n_5 with
    | zero => intro i hi hm_5; exact absurd hm_5 (Nat.not_lt_zero _)
    | succ n_5 ih_5 =>
      intro i hi hm_5
      refine g_iload_n F 2 rfl dJ7_fill_53178_5 ?_
      refine g_iload_n F 3 rfl dJ7_fill_53178_6 ?_
      refine n_icmp_ge F 20 dJ7_fill_53178_7 (by decide) (by omega) (by omega) (fun c_7 => ?_) (fun c_7 => ?_)
      · obtain rfl : i = N := by omega
        exact R (()) _ _ dJ7_fill_53178_20 (trivial)
      · refine g_aload_n F 0 rfl dJ7_fill_53178_10 ?_
        refine g_iload_n F 2 rfl dJ7_fill_53178_11 ?_
        refine g_iload_n F 1 rfl dJ7_fill_53178_12 ?_
        refine g_iast F 0 [ia E a N (upd (fl f i x) i x)] rfl (by omega) (hN) rfl dJ7_fill_53178_13 ?_
        refine g_ws [ia E a N (fl f (i + 1) x)] (by rw [fl_upd]) ?_
        refine g_iinc F (nI (i + 1)) 2 2 [(0, .ref a), (1, .int x), (2, .int (nI (i + 1))), (3, .int (nI N))] [1, 2, 0, 3] dJ7_fill_53178_14 rfl (n_inc i) (by decide) rfl ?_
        refine g_goto F 5 dJ7_fill_53178_17 (by decide) ?_
        exact ih_5 (i + 1) (by omega) (by omega)
  refine g_ws [ia E a N (fl f 0 x)] (by rw [fl_0]) ?_
  exact lp_5 _ 0 (by omega) (Nat.lt_succ_self _)

set_option maxHeartbeats 4000000 in
set_option maxRecDepth 100000 in
theorem c_X3_kindAtHand (E : Ev) (d : Nat) (ro : Nat) (tb : Nat) (ka : Nat) (kn : Nat → Int32) (kd : Nat)  : RDi E yX3_kindAtHand (wq yX3_kindAtHand cX3_kindAtHand 1 (some .int)) (rmk 0 0) [.ref d] [ob d 3 [.ref ro, .ref tb, .ref ka, .int (nI kd)], ia E ka 3600 kn] (nI kd) := by
  refine CTi.of (by decide) (Nat.le_of_ble_eq_true rfl) (fun X F R => ?_)
  refine g_lv [0] [(0, .ref d)] rfl ?_
  refine g_aload_n F 0 rfl dX3_kindAtHand_0 ?_
  refine g_get F 3 0 3 inX3 rfl rfl (by decide) tw_fl_X3_15 rfl dX3_kindAtHand_1 ?_
  exact R _ (()) _ _ dX3_kindAtHand_4 (rfl)

set_option maxHeartbeats 4000000 in
set_option maxRecDepth 100000 in
theorem c_X3_useKind (E : Ev) (d : Nat) (ro : Nat) (tb : Nat) (ka : Nat) (kn : Nat → Int32) (kd : Nat) (k2 : Nat) (hk : kd ≤ 5) (hk2 : k2 ≤ 5) : CTv E yX3_useKind (wq yX3_useKind cX3_useKind 2 none) (rmk 1 23) [.ref d, .int (nI k2)] [ob d 3 [.ref ro, .ref tb, .ref ka, .int (nI kd)], ia E ka 3600 kn] (fun (u : (Nat → Int32)) => (k2 = kd ∧ u = kn) ∨ (∀ j, j < 3600 → u j = -1)) (fun (u : (Nat → Int32)) => [ob d 3 [.ref ro, .ref tb, .ref ka, .int (nI k2)], ia E ka 3600 u]) := by
  refine CTv.of (by decide) (Nat.le_of_ble_eq_true rfl) (fun X F R => ?_)
  refine g_lv [0, 1] [(0, .ref d), (1, .int (nI k2))] rfl ?_
  refine g_iload_n F 1 rfl dX3_useKind_0 ?_
  refine g_aload_n F 0 rfl dX3_useKind_1 ?_
  refine g_get F 3 0 3 inX3 rfl rfl (by decide) tw_fl_X3_15 rfl dX3_useKind_2 ?_
  refine n_icmp_eq F 21 dX3_useKind_5 (by decide) (by omega) (by omega) (fun c_5 => ?_) (fun c_5 => ?_)
  · subst c_5
    exact R kn _ _ dX3_useKind_21 (Or.inl ⟨rfl, rfl⟩)
  · refine g_aload_n F 0 rfl dX3_useKind_8 ?_
    refine g_iload_n F 1 rfl dX3_useKind_9 ?_
    refine g_put F 3 0 3 [ob d 3 [.ref ro, .ref tb, .ref ka, .int (nI k2)], ia E ka 3600 kn] inX3 tyX3_ok nmX3 rfl rfl (by decide) tw_fl_X3_15 rfl rfl rfl rfl (Nat.le_of_ble_eq_true rfl) rfl dX3_useKind_10 ?_
    refine g_aload_n F 0 rfl dX3_useKind_13 ?_
    refine g_get F 3 0 2 inX3 rfl rfl (by decide) tw_fl_X3_9 rfl dX3_useKind_14 ?_
    refine g_iconst F (-1) (by decide) dX3_useKind_17 ?_
    refine g_cSv F (wr := [ob d 3 [.ref ro, .ref tb, .ref ka, .int (nI k2)]]) [] (c_J7_fill_53178 E ka 3600 kn (-1) (by decide)) ⟨tw_ml_X3_27, tw_sm_J7_fill_53178, tw_in_J7, tw_co_J7_fill_53178⟩ 2 rfl (by decide) ⟨rfl, rfl, by decide, by decide, Nat.zero_le _, Nat.zero_le _⟩ [1] [0] [0, 1] (fun u => [ob d 3 [.ref ro, .ref tb, .ref ka, .int (nI k2)], ia E ka 3600 (fl kn 3600 (-1))]) rfl rfl (by decide) (fun _ => rfl) rfl (Nat.le_of_ble_eq_true rfl) dX3_useKind_18 (fun u hu_18 => ?_)
    exact R (fl kn 3600 (-1)) _ _ dX3_useKind_21 (Or.inr (fun j hj => fl_at hj))

set_option maxHeartbeats 4000000 in
set_option maxRecDepth 100000 in
theorem c_X3_remember (E : Ev) (d : Nat) (ro : Nat) (tb : Nat) (ka : Nat) (kn : Nat → Int32) (kd : Nat) (a : Nat) (b : Nat) (x : Int32) (ha : a < 60) (hb : b < 60) : CTv E yX3_remember (wq yX3_remember cX3_remember 4 none) (rmk 0 0) [.ref d, .int (nI a), .int (nI b), .int x] [ob d 3 [.ref ro, .ref tb, .ref ka, .int (nI kd)], ia E ka 3600 kn] (fun (u : Unit) => True) (fun (u : Unit) => [ob d 3 [.ref ro, .ref tb, .ref ka, .int (nI kd)], ia E ka 3600 (rem2 kn a b x)]) := by
  refine CTv.of (by decide) (Nat.le_of_ble_eq_true rfl) (fun X F R => ?_)
  refine g_lv [0, 1, 2, 3] [(0, .ref d), (1, .int (nI a)), (2, .int (nI b)), (3, .int x)] rfl ?_
  refine g_aload_n F 0 rfl dX3_remember_0 ?_
  refine g_get F 3 0 2 inX3 rfl rfl (by decide) tw_fl_X3_9 rfl dX3_remember_1 ?_
  refine g_iload_n F 1 rfl dX3_remember_4 ?_
  refine g_bipush F (nI 60) (by decide) dX3_remember_5 ?_
  refine n_mul F dX3_remember_7 ?_
  refine g_iload_n F 2 rfl dX3_remember_8 ?_
  refine n_add F dX3_remember_9 ?_
  refine g_iload_n F 3 rfl dX3_remember_10 ?_
  refine g_iast F 1 [ob d 3 [.ref ro, .ref tb, .ref ka, .int (nI kd)], ia E ka 3600 (upd kn ((a * 60) + b) x)] rfl (by omega) (by decide) rfl dX3_remember_11 ?_
  refine g_aload_n F 0 rfl dX3_remember_12 ?_
  refine g_get F 3 0 2 inX3 rfl rfl (by decide) tw_fl_X3_9 rfl dX3_remember_13 ?_
  refine g_iload_n F 2 rfl dX3_remember_16 ?_
  refine g_bipush F (nI 60) (by decide) dX3_remember_17 ?_
  refine n_mul F dX3_remember_19 ?_
  refine g_iload_n F 1 rfl dX3_remember_20 ?_
  refine n_add F dX3_remember_21 ?_
  refine g_iload_n F 3 rfl dX3_remember_22 ?_
  refine g_iast F 1 [ob d 3 [.ref ro, .ref tb, .ref ka, .int (nI kd)], ia E ka 3600 (upd (upd kn ((a * 60) + b) x) ((b * 60) + a) x)] rfl (by omega) (by decide) rfl dX3_remember_23 ?_
  exact R (()) _ _ dX3_remember_24 (trivial)

set_option maxHeartbeats 4000000 in
set_option maxRecDepth 100000 in
theorem c_X3_forgetPair (E : Ev) (d : Nat) (ro : Nat) (tb : Nat) (ka : Nat) (kn : Nat → Int32) (kd : Nat) (a : Nat) (b : Nat) (ha : a < 60) (hb : b < 60) : CTv E yX3_forgetPair (wq yX3_forgetPair cX3_forgetPair 3 none) (rmk 1 23) [.ref d, .int (nI a), .int (nI b)] [ob d 3 [.ref ro, .ref tb, .ref ka, .int (nI kd)], ia E ka 3600 kn] (fun (u : Unit) => True) (fun (u : Unit) => [ob d 3 [.ref ro, .ref tb, .ref ka, .int (nI kd)], ia E ka 3600 (rem2 kn a b (-1))]) := by
  refine CTv.of (by decide) (Nat.le_of_ble_eq_true rfl) (fun X F R => ?_)
  refine g_lv [0, 1, 2] [(0, .ref d), (1, .int (nI a)), (2, .int (nI b))] rfl ?_
  refine g_aload_n F 0 rfl dX3_forgetPair_0 ?_
  refine g_iload_n F 1 rfl dX3_forgetPair_1 ?_
  refine g_iload_n F 2 rfl dX3_forgetPair_2 ?_
  refine g_iconst F (-1) (by decide) dX3_forgetPair_3 ?_
  refine g_cVv F (wr := []) [] (c_X3_remember E d ro tb ka kn kd a b (-1) (by omega) (by omega)) (gi_V tw_ml_X3_33 tw_im_X3_remember tw_se_X3_remember tw_in_X3 tw_co_X3_remember) 3 rfl (by decide) ⟨rfl, rfl, by decide, by decide, Nat.zero_le _, Nat.zero_le _⟩ 3 0 rfl rfl [0, 1] [] [0, 1] (fun u => [ob d 3 [.ref ro, .ref tb, .ref ka, .int (nI kd)], ia E ka 3600 (rem2 kn a b (-1))]) rfl rfl (by decide) (fun _ => rfl) rfl (Nat.le_of_ble_eq_true rfl) dX3_forgetPair_4 (fun u hu_4 => ?_)
  exact R (()) _ _ dX3_forgetPair_7 (trivial)

set_option maxHeartbeats 4000000 in
set_option maxRecDepth 100000 in
theorem c_X3_forgetAllOf (E : Ev) (d : Nat) (ro : Nat) (tb : Nat) (ka : Nat) (kn : Nat → Int32) (kd : Nat) (t : Nat) (ht : t < 60) : CTv E yX3_forgetAllOf (wq yX3_forgetAllOf cX3_forgetAllOf 3 none) (rmk 1 23) [.ref d, .int (nI t)] [ob d 3 [.ref ro, .ref tb, .ref ka, .int (nI kd)], ia E ka 3600 kn] (fun (u : (Nat → Int32)) => ∀ a b, a < 60 → b < 60 → u (a * 60 + b) = if a = t ∨ b = t then -1 else kn (a * 60 + b)) (fun (u : (Nat → Int32)) => [ob d 3 [.ref ro, .ref tb, .ref ka, .int (nI kd)], ia E ka 3600 u]) := by
  refine CTv.of (by decide) (Nat.le_of_ble_eq_true rfl) (fun X F R => ?_)
  refine g_lv [0, 1] [(0, .ref d), (1, .int (nI t))] rfl ?_
  refine g_iconst F (nI 0) (by decide) dX3_forgetAllOf_0 ?_
  refine g_istore_n F 2 [(0, .ref d), (1, .int (nI t)), (2, .int (nI 0))] [1, 2, 0] dX3_forgetAllOf_1 rfl (by decide) rfl ?_
  have lp_2 : ∀ (n_2 : Nat) (i : Nat) (g : Nat → Int32), (i ≤ 60) → (∀ a b, a < 60 → b < 60 → g (a * 60 + b) = if (a = t ∧ b < i) ∨ (b = t ∧ a < i) then -1 else kn (a * 60 + b)) → 60 - i < n_2 → GW E X 0 0 [ob d 3 [.ref ro, .ref tb, .ref ka, .int (nI kd)], ia E ka 3600 g] [(0, .ref d), (1, .int (nI t)), (2, .int (nI i))] 2 [] := by
    intro n_2
    induction n_2 with
    | zero => intro i g hi hg hm_2; exact absurd hm_2 (Nat.not_lt_zero _)
    | succ n_2 ih_2 =>
      intro i g hi hg hm_2
      refine g_iload_n F 2 rfl dX3_forgetAllOf_2 ?_
      refine g_bipush F (nI 60) (by decide) dX3_forgetAllOf_3 ?_
      refine n_icmp_ge F 21 dX3_forgetAllOf_5 (by decide) (by omega) (by omega) (fun c_5 => ?_) (fun c_5 => ?_)
      · exact R g _ _ dX3_forgetAllOf_21 (fun a b qa qb => by
        rw [hg a b qa qb]
        by_cases c1 : a = t ∨ b = t
        · rw [if_pos c1, if_pos (by omega)]
        · rw [if_neg c1, if_neg (by omega)])
      · refine g_aload_n F 0 rfl dX3_forgetAllOf_8 ?_
        refine g_iload_n F 1 rfl dX3_forgetAllOf_9 ?_
        refine g_iload_n F 2 rfl dX3_forgetAllOf_10 ?_
        refine g_iconst F (-1) (by decide) dX3_forgetAllOf_11 ?_
        refine g_cVv F (wr := []) [] (c_X3_remember E d ro tb ka g kd t i (-1) (by omega) (by omega)) (gi_V tw_ml_X3_33 tw_im_X3_remember tw_se_X3_remember tw_in_X3 tw_co_X3_remember) 3 rfl (by decide) ⟨rfl, rfl, by decide, by decide, Nat.zero_le _, Nat.zero_le _⟩ 3 0 rfl rfl [0, 1] [] [0, 1] (fun u => [ob d 3 [.ref ro, .ref tb, .ref ka, .int (nI kd)], ia E ka 3600 (rem2 g t i (-1))]) rfl rfl (by decide) (fun _ => rfl) rfl (Nat.le_of_ble_eq_true rfl) dX3_forgetAllOf_12 (fun u hu_12 => ?_)
        refine g_iinc F (nI (i + 1)) 2 2 [(0, .ref d), (1, .int (nI t)), (2, .int (nI (i + 1)))] [1, 2, 0] dX3_forgetAllOf_15 rfl (n_inc i) (by decide) rfl ?_
        refine g_goto F 2 dX3_forgetAllOf_18 (by decide) ?_
        exact ih_2 (i + 1) (rem2 g t i (-1)) (by omega) (fun a b qa qb => by
          rw [rem_at (by omega) ht qb, hg a b qa qb]
          by_cases c1 : (a = t ∧ b = i) ∨ (a = i ∧ b = t)
          · rw [if_pos c1, if_pos (by omega)]
          · rw [if_neg c1]
            by_cases c2 : (a = t ∧ b < i) ∨ (b = t ∧ a < i)
            · rw [if_pos c2, if_pos (by omega)]
            · rw [if_neg c2, if_neg (by omega)]) (by omega)
  exact lp_2 _ 0 kn (by omega) (fun a b _ _ => by rw [if_neg (by omega)]) (Nat.lt_succ_self _)

set_option maxHeartbeats 4000000 in
set_option maxRecDepth 100000 in
theorem c_X3_at (E : Ev) (d : Nat) (ro : Nat) (tb : Nat) (ka : Nat) (kn : Nat → Int32) (kd : Nat) (dd : Nat → Nat → Nat) (a : Nat) (b : Nat) (ha : a < 60) (hb : b < 60) (hk : kn (a * 60 + b) = nI (dd a b)) : RDi E yX3_at (wq yX3_at cX3_at 3 (some .int)) (rmk 0 0) [.ref d, .int (nI a), .int (nI b)] [ob d 3 [.ref ro, .ref tb, .ref ka, .int (nI kd)], ia E ka 3600 kn] (nI (dd a b)) := by
  refine CTi.of (by decide) (Nat.le_of_ble_eq_true rfl) (fun X F R => ?_)
  refine g_lv [0, 1, 2] [(0, .ref d), (1, .int (nI a)), (2, .int (nI b))] rfl ?_
  refine g_aload_n F 0 rfl dX3_at_0 ?_
  refine g_get F 3 0 2 inX3 rfl rfl (by decide) tw_fl_X3_9 rfl dX3_at_1 ?_
  refine g_iload_n F 1 rfl dX3_at_4 ?_
  refine g_bipush F (nI 60) (by decide) dX3_at_5 ?_
  refine n_mul F dX3_at_7 ?_
  refine g_iload_n F 2 rfl dX3_at_8 ?_
  refine n_add F dX3_at_9 ?_
  refine g_iald F 1 rfl (by omega) (by decide) dX3_at_10 ?_
  refine g_top (nI (dd a b)) (hk) ?_
  exact R _ (()) _ _ dX3_at_11 (rfl)

set_option maxHeartbeats 4000000 in
set_option maxRecDepth 100000 in
theorem c_X3_pairKey (E : Ev) (d : Nat) (ro : Nat) (tb : Nat) (ka : Nat) (kn : Nat → Int32) (kd : Nat) (dd : Nat → Nat → Nat) (a : Nat) (b : Nat) (ha : a < 60) (hb : b < 60) (hk : kn (a * 60 + b) = nI (dd a b)) : RDi E yX3_pairKey (wq yX3_pairKey cX3_pairKey 4 (some .int)) (rmk 1 22) [.ref d, .int (nI a), .int (nI b)] [ob d 3 [.ref ro, .ref tb, .ref ka, .int (nI kd)], ia E ka 3600 kn] (nI (pkN dd a b)) := by
  refine CTi.of (by decide) (Nat.le_of_ble_eq_true rfl) (fun X F R => ?_)
  refine g_lv [0, 1, 2] [(0, .ref d), (1, .int (nI a)), (2, .int (nI b))] rfl ?_
  refine g_iload_n F 1 rfl dX3_pairKey_0 ?_
  refine g_iload_n F 2 rfl dX3_pairKey_1 ?_
  refine g_mmin F tw_ml_X3_53 (by decide) (Nat.le_of_ble_eq_true rfl) (Nat.zero_le _) (Nat.zero_le _) dX3_pairKey_2 ?_
  refine g_top _ (n_min a b (by omega) (by omega)) ?_
  refine g_bipush F (nI 60) (by decide) dX3_pairKey_5 ?_
  refine n_mul F dX3_pairKey_7 ?_
  refine g_iload_n F 1 rfl dX3_pairKey_8 ?_
  refine g_iload_n F 2 rfl dX3_pairKey_9 ?_
  refine g_mmax F tw_ml_X3_58 (by decide) (Nat.le_of_ble_eq_true rfl) (Nat.zero_le _) (Nat.zero_le _) dX3_pairKey_10 ?_
  refine g_top _ (n_max a b (by omega) (by omega)) ?_
  refine n_add F dX3_pairKey_13 ?_
  refine g_istore_n F 3 [(0, .ref d), (1, .int (nI a)), (2, .int (nI b)), (3, .int (nI (((Nat.min a b) * 60) + (Nat.max a b))))] [1, 2, 3, 0] dX3_pairKey_14 rfl (by decide) rfl ?_
  refine g_aload_n F 0 rfl dX3_pairKey_15 ?_
  refine g_iload_n F 1 rfl dX3_pairKey_16 ?_
  refine g_iload_n F 2 rfl dX3_pairKey_17 ?_
  refine g_rVi F (wr := []) [] (c_X3_at E d ro tb ka kn kd dd a b (ha) (hb) (hk)) (gi_V tw_ml_X3_61 tw_im_X3_at tw_se_X3_at tw_in_X3 tw_co_X3_at) 2 rfl (by decide) ⟨rfl, rfl, by decide, by decide, Nat.zero_le _, Nat.zero_le _⟩ 3 0 rfl rfl [0, 1] [] [0, 1] rfl rfl (by decide) rfl rfl (Nat.le_of_ble_eq_true rfl) dX3_pairKey_18 ?_
  refine g_sipush F (nI 3600) (by decide) dX3_pairKey_21 ?_
  refine n_mul F dX3_pairKey_24 ?_
  refine g_iload_n F 3 rfl dX3_pairKey_25 ?_
  refine n_add F dX3_pairKey_26 ?_
  exact R _ (()) _ _ dX3_pairKey_27 (rfl)

set_option maxHeartbeats 4000000 in
set_option maxRecDepth 100000 in
theorem c_X3_measure (E : Ev) (d : Nat) (ka : Nat) (kn : Nat → Int32) (kd : Nat) (ro : Nat) (la : Nat) (pa : Nat) (na : Nat) (ln : Nat → Int32) (pl : Nat → Int32) (li : Nat → Int32) (n : Nat) (tb : Nat) (ta : Nat) (ba : Nat) (td : Nat → Int32) (br : Nat → Int32) (brk : Int32) (chk : Int32) (L : Nat → Nat) (tN : Nat → Nat) (a : Nat) (b : Nat) (hv : VR pl) (hL : LR ln L) (ht : TR td tN) (hkd : kd ≤ 5) (ha : a < 60) (hb : b < 60) : CTi E yX3_measure (wq yX3_measure cX3_measure 3 (some .int)) (rmk 3 68) [.ref d, .int (nI a), .int (nI b)] [ob d 3 [.ref ro, .ref tb, .ref ka, .int (nI kd)], ia E ka 3600 kn, ob ro 8 [.ref la, .ref pa, .ref na, .int (nI n)], ia E la 60 ln, ia E pa 480 pl, ia E na 9 li, ob tb 9 [.ref ta, .ref ba, .int brk, .int chk], ia E ta 3600 td, ia E ba 3 br] (fun (r : Int32) (u : (Nat → Int32)) => r = nI (dsN kd L pl tN a b)) (fun (u : (Nat → Int32)) => [ob d 3 [.ref ro, .ref tb, .ref ka, .int (nI kd)], ia E ka 3600 kn, ob ro 8 [.ref la, .ref pa, .ref na, .int (nI n)], ia E la 60 ln, ia E pa 480 pl, ia E na 9 u, ob tb 9 [.ref ta, .ref ba, .int brk, .int chk], ia E ta 3600 td, ia E ba 3 br]) := by
  refine CTi.of (by decide) (Nat.le_of_ble_eq_true rfl) (fun X F R => ?_)
  refine g_lv [0, 1, 2] [(0, .ref d), (1, .int (nI a)), (2, .int (nI b))] rfl ?_
  refine g_aload_n F 0 rfl dX3_measure_0 ?_
  refine g_get F 3 0 3 inX3 rfl rfl (by decide) tw_fl_X3_15 rfl dX3_measure_1 ?_
  rcases kd_cases hkd with rfl | rfl | rfl | rfl | rfl | rfl
  · refine g_tabOut F 100 dX3_measure_4 (by decide) (by decide) ?_
    refine g_aload_n F 0 rfl dX3_measure_100 ?_
    refine g_get F 3 0 0 inX3 rfl rfl (by decide) tw_fl_X3_19 rfl dX3_measure_101 ?_
    refine g_iload_n F 1 rfl dX3_measure_104 ?_
    refine g_iload_n F 2 rfl dX3_measure_105 ?_
    refine g_rVi F (wr := [ob d 3 [.ref ro, .ref tb, .ref ka, .int (nI 0)], ia E ka 3600 kn, ob tb 9 [.ref ta, .ref ba, .int brk, .int chk], ia E ta 3600 td, ia E ba 3 br]) [] (c_X8_unlikePlaces E ro la pa na ln pl li n a b (hv) (ha) (hb)) (gi_V tw_ml_X3_79 tw_im_X8_unlikePlaces tw_se_X8_unlikePlaces tw_in_X8 tw_co_X8_unlikePlaces) 2 rfl (by decide) ⟨rfl, rfl, by decide, by decide, Nat.zero_le _, Nat.zero_le _⟩ 8 0 rfl rfl [2, 3, 4, 5] [0, 1, 6, 7, 8] [0, 1, 5, 6, 7, 8, 2, 3, 4] rfl rfl (by decide) rfl rfl (Nat.le_of_ble_eq_true rfl) dX3_measure_106 ?_
    exact R _ li _ _ dX3_measure_109 (rfl)
  · refine g_tabIn F 40 (36) dX3_measure_4 (by decide) (by decide) (by decide) (by decide) ?_
    refine g_aload_n F 0 rfl dX3_measure_40 ?_
    refine g_get F 3 0 0 inX3 rfl rfl (by decide) tw_fl_X3_19 rfl dX3_measure_41 ?_
    refine g_iload_n F 1 rfl dX3_measure_44 ?_
    refine g_iload_n F 2 rfl dX3_measure_45 ?_
    refine g_cVi F (wr := [ob d 3 [.ref ro, .ref tb, .ref ka, .int (nI 1)], ia E ka 3600 kn, ob tb 9 [.ref ta, .ref ba, .int brk, .int chk], ia E ta 3600 td, ia E ba 3 br]) [] (c_X8_fewestEdits E ro la pa na ln pl li n L a b (hL) (ha) (hb)) (gi_V tw_ml_X3_64 tw_im_X8_fewestEdits tw_se_X8_fewestEdits tw_in_X8 tw_co_X8_fewestEdits) 2 rfl (by decide) ⟨rfl, rfl, by decide, by decide, Nat.zero_le _, Nat.zero_le _⟩ 8 0 rfl rfl [2, 3, 4, 5] [0, 1, 6, 7, 8] [0, 1, 5, 6, 7, 8, 2, 3, 4] (fun u => [ob d 3 [.ref ro, .ref tb, .ref ka, .int (nI 1)], ia E ka 3600 kn, ob ro 8 [.ref la, .ref pa, .ref na, .int (nI n)], ia E la 60 ln, ia E pa 480 pl, ia E na 9 u, ob tb 9 [.ref ta, .ref ba, .int brk, .int chk], ia E ta 3600 td, ia E ba 3 br]) rfl rfl (by decide) (fun _ => rfl) rfl (Nat.le_of_ble_eq_true rfl) dX3_measure_46 (fun r_46 u hu_46 => ?_)
    revert hu_46; revert u; intro li2_46 hu_46
    subst hu_46
    exact R _ li2_46 _ _ dX3_measure_49 (rfl)
  · refine g_tabIn F 50 (46) dX3_measure_4 (by decide) (by decide) (by decide) (by decide) ?_
    refine g_aload_n F 0 rfl dX3_measure_50 ?_
    refine g_get F 3 0 0 inX3 rfl rfl (by decide) tw_fl_X3_19 rfl dX3_measure_51 ?_
    refine g_iload_n F 1 rfl dX3_measure_54 ?_
    refine g_iload_n F 2 rfl dX3_measure_55 ?_
    refine g_rVi F (wr := [ob d 3 [.ref ro, .ref tb, .ref ka, .int (nI 2)], ia E ka 3600 kn, ob tb 9 [.ref ta, .ref ba, .int brk, .int chk], ia E ta 3600 td, ia E ba 3 br]) [] (c_X8_sumOfDifferences E ro la pa na ln pl li n a b (hv) (ha) (hb)) (gi_V tw_ml_X3_67 tw_im_X8_sumOfDifferences tw_se_X8_sumOfDifferences tw_in_X8 tw_co_X8_sumOfDifferences) 2 rfl (by decide) ⟨rfl, rfl, by decide, by decide, Nat.zero_le _, Nat.zero_le _⟩ 8 0 rfl rfl [2, 3, 4, 5] [0, 1, 6, 7, 8] [0, 1, 5, 6, 7, 8, 2, 3, 4] rfl rfl (by decide) rfl rfl (Nat.le_of_ble_eq_true rfl) dX3_measure_56 ?_
    exact R _ li _ _ dX3_measure_59 (rfl)
  · refine g_tabIn F 60 (56) dX3_measure_4 (by decide) (by decide) (by decide) (by decide) ?_
    refine g_aload_n F 0 rfl dX3_measure_60 ?_
    refine g_get F 3 0 0 inX3 rfl rfl (by decide) tw_fl_X3_19 rfl dX3_measure_61 ?_
    refine g_iload_n F 1 rfl dX3_measure_64 ?_
    refine g_iload_n F 2 rfl dX3_measure_65 ?_
    refine g_rVi F (wr := [ob d 3 [.ref ro, .ref tb, .ref ka, .int (nI 3)], ia E ka 3600 kn, ob tb 9 [.ref ta, .ref ba, .int brk, .int chk], ia E ta 3600 td, ia E ba 3 br]) [] (c_X8_greatestDifference E ro la pa na ln pl li n a b (hv) (ha) (hb)) (gi_V tw_ml_X3_70 tw_im_X8_greatestDifference tw_se_X8_greatestDifference tw_in_X8 tw_co_X8_greatestDifference) 2 rfl (by decide) ⟨rfl, rfl, by decide, by decide, Nat.zero_le _, Nat.zero_le _⟩ 8 0 rfl rfl [2, 3, 4, 5] [0, 1, 6, 7, 8] [0, 1, 5, 6, 7, 8, 2, 3, 4] rfl rfl (by decide) rfl rfl (Nat.le_of_ble_eq_true rfl) dX3_measure_66 ?_
    exact R _ li _ _ dX3_measure_69 (rfl)
  · refine g_tabIn F 70 (66) dX3_measure_4 (by decide) (by decide) (by decide) (by decide) ?_
    refine g_aload_n F 0 rfl dX3_measure_70 ?_
    refine g_get F 3 0 0 inX3 rfl rfl (by decide) tw_fl_X3_19 rfl dX3_measure_71 ?_
    refine g_iload_n F 1 rfl dX3_measure_74 ?_
    refine g_iload_n F 2 rfl dX3_measure_75 ?_
    refine g_rVi F (wr := [ob d 3 [.ref ro, .ref tb, .ref ka, .int (nI 4)], ia E ka 3600 kn, ob tb 9 [.ref ta, .ref ba, .int brk, .int chk], ia E ta 3600 td, ia E ba 3 br]) [] (c_X8_valuesMissing E ro la pa na ln pl li n L a b (hL) (ha) (hb)) (gi_V tw_ml_X3_73 tw_im_X8_valuesMissing tw_se_X8_valuesMissing tw_in_X8 tw_co_X8_valuesMissing) 2 rfl (by decide) ⟨rfl, rfl, by decide, by decide, Nat.zero_le _, Nat.zero_le _⟩ 8 0 rfl rfl [2, 3, 4, 5] [0, 1, 6, 7, 8] [0, 1, 5, 6, 7, 8, 2, 3, 4] rfl rfl (by decide) rfl rfl (Nat.le_of_ble_eq_true rfl) dX3_measure_76 ?_
    refine g_aload_n F 0 rfl dX3_measure_79 ?_
    refine g_get F 3 0 0 inX3 rfl rfl (by decide) tw_fl_X3_19 rfl dX3_measure_80 ?_
    refine g_iload_n F 2 rfl dX3_measure_83 ?_
    refine g_iload_n F 1 rfl dX3_measure_84 ?_
    refine g_rVi F (wr := [ob d 3 [.ref ro, .ref tb, .ref ka, .int (nI 4)], ia E ka 3600 kn, ob tb 9 [.ref ta, .ref ba, .int brk, .int chk], ia E ta 3600 td, ia E ba 3 br]) [.int (nI (msn pl L a b (L a)))] (c_X8_valuesMissing E ro la pa na ln pl li n L b a (hL) (hb) (ha)) (gi_V tw_ml_X3_73 tw_im_X8_valuesMissing tw_se_X8_valuesMissing tw_in_X8 tw_co_X8_valuesMissing) 2 rfl (by decide) ⟨rfl, rfl, by decide, by decide, Nat.zero_le _, Nat.zero_le _⟩ 8 0 rfl rfl [2, 3, 4, 5] [0, 1, 6, 7, 8] [0, 1, 5, 6, 7, 8, 2, 3, 4] rfl rfl (by decide) rfl rfl (Nat.le_of_ble_eq_true rfl) dX3_measure_85 ?_
    refine n_add F dX3_measure_88 ?_
    exact R _ li _ _ dX3_measure_89 (rfl)
  · refine g_tabIn F 90 (86) dX3_measure_4 (by decide) (by decide) (by decide) (by decide) ?_
    refine g_aload_n F 0 rfl dX3_measure_90 ?_
    refine g_get F 3 0 1 inX3 rfl rfl (by decide) tw_fl_X3_23 rfl dX3_measure_91 ?_
    refine g_iload_n F 1 rfl dX3_measure_94 ?_
    refine g_iload_n F 2 rfl dX3_measure_95 ?_
    refine g_rVi F (wr := [ob d 3 [.ref ro, .ref tb, .ref ka, .int (nI 5)], ia E ka 3600 kn, ob ro 8 [.ref la, .ref pa, .ref na, .int (nI n)], ia E la 60 ln, ia E pa 480 pl, ia E na 9 li]) [] (c_X9_read E tb ta ba td br brk chk tN a b (ht) (ha) (hb)) (gi_V tw_ml_X3_76 tw_im_X9_read tw_se_X9_read tw_in_X9 tw_co_X9_read) 2 rfl (by decide) ⟨rfl, rfl, by decide, by decide, Nat.zero_le _, Nat.zero_le _⟩ 9 0 rfl rfl [6, 7, 8] [0, 1, 2, 3, 4, 5] [0, 1, 2, 3, 4, 5, 6, 7, 8] rfl rfl (by decide) rfl rfl (Nat.le_of_ble_eq_true rfl) dX3_measure_96 ?_
    exact R _ li _ _ dX3_measure_99 (rfl)

set_option maxHeartbeats 4000000 in
set_option maxRecDepth 100000 in
theorem c_X3_lawHolds (E : Ev) (d : Nat) (ka : Nat) (kn : Nat → Int32) (kd : Nat) (ro : Nat) (la : Nat) (pa : Nat) (na : Nat) (ln : Nat → Int32) (pl : Nat → Int32) (li : Nat → Int32) (n : Nat) (tb : Nat) (ta : Nat) (ba : Nat) (td : Nat → Int32) (br : Nat → Int32) (brk : Int32) (chk : Int32) (L : Nat → Nat) (tN : Nat → Nat) (ht : TR td tN) (hs : SY tN) (hn : n ≤ 60) (hkd : kd ≤ 5) (hT : TBk tN br brk chk) : CTi E yX3_lawHolds (wq yX3_lawHolds cX3_lawHolds 1 (some .boolean)) (rmk 3 72) [.ref d] [ob d 3 [.ref ro, .ref tb, .ref ka, .int (nI kd)], ia E ka 3600 kn, ob ro 8 [.ref la, .ref pa, .ref na, .int (nI n)], ia E la 60 ln, ia E pa 480 pl, ia E na 9 li, ob tb 9 [.ref ta, .ref ba, .int brk, .int chk], ia E ta 3600 td, ia E ba 3 br] (fun (r : Int32) (u : (Nat → Int32) × Int32 × Int32) => TBk tN u.1 u.2.1 u.2.2 ∧ ((r = 1 ∧ (kd = 5 → LW tN n)) ∨ (r = 0 ∧ kd = 5 ∧ TBr tN u.1 n))) (fun (u : (Nat → Int32) × Int32 × Int32) => [ob d 3 [.ref ro, .ref tb, .ref ka, .int (nI kd)], ia E ka 3600 kn, ob ro 8 [.ref la, .ref pa, .ref na, .int (nI n)], ia E la 60 ln, ia E pa 480 pl, ia E na 9 li, ob tb 9 [.ref ta, .ref ba, .int u.2.1, .int u.2.2], ia E ta 3600 td, ia E ba 3 u.1]) := by
  refine CTi.ofZ (by decide) (Nat.le_of_ble_eq_true rfl) (fun X F R => ?_)
  refine g_lv [0] [(0, .ref d)] rfl ?_
  refine g_aload_n F 0 rfl dX3_lawHolds_0 ?_
  refine g_get F 3 0 3 inX3 rfl rfl (by decide) tw_fl_X3_15 rfl dX3_lawHolds_1 ?_
  refine g_iconst F (nI 5) (by decide) dX3_lawHolds_4 ?_
  refine n_icmp_ne F 25 dX3_lawHolds_5 (by decide) (by omega) (by omega) (fun c_5 => ?_) (fun c_5 => ?_)
  · refine g_iconst F (nI 1) (by decide) dX3_lawHolds_25 ?_
    refine g_goto F 30 dX3_lawHolds_26 (by decide) ?_
    exact R _ ((br, brk, chk)) _ _ dX3_lawHolds_30 (Or.inr rfl) (by (try dsimp only); exact (⟨hT, Or.inl ⟨rfl, fun z => absurd z c_5⟩⟩))
  · refine g_aload_n F 0 rfl dX3_lawHolds_8 ?_
    refine g_get F 3 0 1 inX3 rfl rfl (by decide) tw_fl_X3_23 rfl dX3_lawHolds_9 ?_
    refine g_aload_n F 0 rfl dX3_lawHolds_12 ?_
    refine g_get F 3 0 0 inX3 rfl rfl (by decide) tw_fl_X3_19 rfl dX3_lawHolds_13 ?_
    refine g_rVi F (wr := [ob d 3 [.ref ro, .ref tb, .ref ka, .int (nI kd)], ia E ka 3600 kn, ob tb 9 [.ref ta, .ref ba, .int brk, .int chk], ia E ta 3600 td, ia E ba 3 br]) [.ref tb] (c_X8_size E ro la pa na ln pl li n ) (gi_V tw_ml_X3_37 tw_im_X8_size tw_se_X8_size tw_in_X8 tw_co_X8_size) 0 rfl (by decide) ⟨rfl, rfl, by decide, by decide, Nat.zero_le _, Nat.zero_le _⟩ 8 0 rfl rfl [2, 3, 4, 5] [0, 1, 6, 7, 8] [0, 1, 5, 6, 7, 8, 2, 3, 4] rfl rfl (by decide) rfl rfl (Nat.le_of_ble_eq_true rfl) dX3_lawHolds_16 ?_
    refine g_cVi F (wr := [ob d 3 [.ref ro, .ref tb, .ref ka, .int (nI kd)], ia E ka 3600 kn, ob ro 8 [.ref la, .ref pa, .ref na, .int (nI n)], ia E la 60 ln, ia E pa 480 pl, ia E na 9 li]) [] (c_X9_lawHolds E tb ta ba td br brk chk tN n (ht) (hs) (hn) (hT)) (gi_V tw_ml_X3_43 tw_im_X9_lawHolds tw_se_X9_lawHolds tw_in_X9 tw_co_X9_lawHolds) 1 rfl (by decide) ⟨rfl, rfl, by decide, by decide, Nat.zero_le _, Nat.zero_le _⟩ 9 0 rfl rfl [6, 7, 8] [0, 1, 2, 3, 4, 5] [0, 1, 2, 3, 4, 5, 6, 7, 8] (fun u => [ob d 3 [.ref ro, .ref tb, .ref ka, .int (nI kd)], ia E ka 3600 kn, ob ro 8 [.ref la, .ref pa, .ref na, .int (nI n)], ia E la 60 ln, ia E pa 480 pl, ia E na 9 li, ob tb 9 [.ref ta, .ref ba, .int u.2, .int (nI n)], ia E ta 3600 td, ia E ba 3 u.1]) rfl rfl (by decide) (fun _ => rfl) rfl (Nat.le_of_ble_eq_true rfl) dX3_lawHolds_19 (fun r_19 u hu_19 => ?_)
    obtain ⟨br2_19, bk2_19⟩ := u
    refine g_ws [ob d 3 [.ref ro, .ref tb, .ref ka, .int (nI kd)], ia E ka 3600 kn, ob ro 8 [.ref la, .ref pa, .ref na, .int (nI n)], ia E la 60 ln, ia E pa 480 pl, ia E na 9 li, ob tb 9 [.ref ta, .ref ba, .int bk2_19, .int (nI n)], ia E ta 3600 td, ia E ba 3 br2_19] rfl ?_
    dsimp only at hu_19
    rcases hu_19 with ⟨rfl, rfl, h_19⟩ | ⟨rfl, rfl, h_19⟩
    · refine g_if_eq F 29 dX3_lawHolds_22 (by decide) (fun h => absurd h (by decide)) (fun _ => ?_)
      refine g_iconst F (nI 1) (by decide) dX3_lawHolds_25 ?_
      refine g_goto F 30 dX3_lawHolds_26 (by decide) ?_
      exact R _ ((br2_19, 0, nI n)) _ _ dX3_lawHolds_30 (Or.inr rfl) (by (try dsimp only); exact (⟨Or.inr ⟨n, hn, rfl, Or.inl ⟨rfl, h_19⟩⟩, Or.inl ⟨rfl, fun _ => h_19⟩⟩))
    · refine g_if_eq F 29 dX3_lawHolds_22 (by decide) (fun _ => ?_) (fun h => absurd (by decide) h)
      refine g_iconst F (nI 0) (by decide) dX3_lawHolds_29 ?_
      exact R _ ((br2_19, 1, nI n)) _ _ dX3_lawHolds_30 (Or.inl rfl) (by (try dsimp only); exact (⟨Or.inr ⟨n, hn, rfl, Or.inr ⟨rfl, h_19⟩⟩, Or.inr ⟨rfl, c_5, h_19⟩⟩))

set_option maxHeartbeats 4000000 in
set_option maxRecDepth 100000 in
theorem c_X3_between (E : Ev) (d : Nat) (ka : Nat) (kn : Nat → Int32) (kd : Nat) (ro : Nat) (la : Nat) (pa : Nat) (na : Nat) (ln : Nat → Int32) (pl : Nat → Int32) (li : Nat → Int32) (n : Nat) (tb : Nat) (ta : Nat) (ba : Nat) (td : Nat → Int32) (br : Nat → Int32) (brk : Int32) (chk : Int32) (L : Nat → Nat) (tN : Nat → Nat) (a : Nat) (b : Nat) (hv : VR pl) (hL : LR ln L) (ht : TR td tN) (hkd : kd ≤ 5) (hn : n ≤ 60) (ha : a < n) (hb : b < n) (hK : KN (dsN kd L pl tN) n kn) (hsy : dsN kd L pl tN a b = dsN kd L pl tN b a) : CTi E yX3_between (wq yX3_between cX3_between 4 (some .int)) (rmk 4 90) [.ref d, .int (nI a), .int (nI b)] [ob d 3 [.ref ro, .ref tb, .ref ka, .int (nI kd)], ia E ka 3600 kn, ob ro 8 [.ref la, .ref pa, .ref na, .int (nI n)], ia E la 60 ln, ia E pa 480 pl, ia E na 9 li, ob tb 9 [.ref ta, .ref ba, .int brk, .int chk], ia E ta 3600 td, ia E ba 3 br] (fun (r : Int32) (u : (Nat → Int32) × (Nat → Int32)) => r = nI (dsN kd L pl tN a b) ∧ KN (dsN kd L pl tN) n u.2 ∧ u.2 (a * 60 + b) = nI (dsN kd L pl tN a b) ∧ ∀ c e, c < 60 → e < 60 → kn (c * 60 + e) ≠ -1 → u.2 (c * 60 + e) = kn (c * 60 + e)) (fun (u : (Nat → Int32) × (Nat → Int32)) => [ob d 3 [.ref ro, .ref tb, .ref ka, .int (nI kd)], ia E ka 3600 u.2, ob ro 8 [.ref la, .ref pa, .ref na, .int (nI n)], ia E la 60 ln, ia E pa 480 pl, ia E na 9 u.1, ob tb 9 [.ref ta, .ref ba, .int brk, .int chk], ia E ta 3600 td, ia E ba 3 br]) := by
  refine CTi.of (by decide) (Nat.le_of_ble_eq_true rfl) (fun X F R => ?_)
  refine g_lv [0, 1, 2] [(0, .ref d), (1, .int (nI a)), (2, .int (nI b))] rfl ?_
  refine g_aload_n F 0 rfl dX3_between_0 ?_
  refine g_get F 3 0 2 inX3 rfl rfl (by decide) tw_fl_X3_9 rfl dX3_between_1 ?_
  refine g_iload_n F 1 rfl dX3_between_4 ?_
  refine g_bipush F (nI 60) (by decide) dX3_between_5 ?_
  refine n_mul F dX3_between_7 ?_
  refine g_iload_n F 2 rfl dX3_between_8 ?_
  refine n_add F dX3_between_9 ?_
  refine g_iald F 1 rfl (by omega) (by decide) dX3_between_10 ?_
  refine g_istore_n F 3 [(0, .ref d), (1, .int (nI a)), (2, .int (nI b)), (3, .int (kn ((a * 60) + b)))] [1, 2, 3, 0] dX3_between_11 rfl (by decide) rfl ?_
  refine g_iload_n F 3 rfl dX3_between_12 ?_
  refine g_iconst F (-1) (by decide) dX3_between_13 ?_
  refine g_icmp_ne F 31 dX3_between_14 (by decide) (fun c_14 => ?_) (fun c_14 => ?_)
  · refine g_iload_n F 3 rfl dX3_between_31 ?_
    exact R _ ((li, kn)) _ _ dX3_between_32 (by (try dsimp only); exact (by
        have q := ((hK a b (by omega) (by omega)).2.resolve_left c_14).2.2
        exact ⟨q, hK, q, fun _ _ _ _ _ => rfl⟩))
  · refine g_aload_n F 0 rfl dX3_between_17 ?_
    refine g_iload_n F 1 rfl dX3_between_18 ?_
    refine g_iload_n F 2 rfl dX3_between_19 ?_
    refine g_cVi F (wr := []) [] (c_X3_measure E d ka kn kd ro la pa na ln pl li n tb ta ba td br brk chk L tN a b (hv) (hL) (ht) (hkd) (by omega) (by omega)) (gi_V tw_ml_X3_49 tw_im_X3_measure tw_se_X3_measure tw_in_X3 tw_co_X3_measure) 2 rfl (by decide) ⟨rfl, rfl, by decide, by decide, Nat.zero_le _, Nat.zero_le _⟩ 3 0 rfl rfl [0, 1, 2, 3, 4, 5, 6, 7, 8] [] [0, 1, 2, 3, 4, 5, 6, 7, 8] (fun u => [ob d 3 [.ref ro, .ref tb, .ref ka, .int (nI kd)], ia E ka 3600 kn, ob ro 8 [.ref la, .ref pa, .ref na, .int (nI n)], ia E la 60 ln, ia E pa 480 pl, ia E na 9 u, ob tb 9 [.ref ta, .ref ba, .int brk, .int chk], ia E ta 3600 td, ia E ba 3 br]) rfl rfl (by decide) (fun _ => rfl) rfl (Nat.le_of_ble_eq_true rfl) dX3_between_20 (fun r_20 u hu_20 => ?_)
    revert hu_20; revert u; intro li2_20 hu_20
    subst hu_20
    refine g_istore_n F 3 [(0, .ref d), (1, .int (nI a)), (2, .int (nI b)), (3, .int (nI (dsN kd L pl tN a b)))] [1, 2, 3, 0] dX3_between_23 rfl (by decide) rfl ?_
    refine g_aload_n F 0 rfl dX3_between_24 ?_
    refine g_iload_n F 1 rfl dX3_between_25 ?_
    refine g_iload_n F 2 rfl dX3_between_26 ?_
    refine g_iload_n F 3 rfl dX3_between_27 ?_
    refine g_cVv F (wr := [ob ro 8 [.ref la, .ref pa, .ref na, .int (nI n)], ia E la 60 ln, ia E pa 480 pl, ia E na 9 li2_20, ob tb 9 [.ref ta, .ref ba, .int brk, .int chk], ia E ta 3600 td, ia E ba 3 br]) [] (c_X3_remember E d ro tb ka kn kd a b (nI (dsN kd L pl tN a b)) (by omega) (by omega)) (gi_V tw_ml_X3_33 tw_im_X3_remember tw_se_X3_remember tw_in_X3 tw_co_X3_remember) 3 rfl (by decide) ⟨rfl, rfl, by decide, by decide, Nat.zero_le _, Nat.zero_le _⟩ 3 0 rfl rfl [0, 1] [2, 3, 4, 5, 6, 7, 8] [7, 8, 0, 1, 2, 3, 4, 5, 6] (fun u => [ob d 3 [.ref ro, .ref tb, .ref ka, .int (nI kd)], ia E ka 3600 (rem2 kn a b (nI (dsN kd L pl tN a b))), ob ro 8 [.ref la, .ref pa, .ref na, .int (nI n)], ia E la 60 ln, ia E pa 480 pl, ia E na 9 li2_20, ob tb 9 [.ref ta, .ref ba, .int brk, .int chk], ia E ta 3600 td, ia E ba 3 br]) rfl rfl (by decide) (fun _ => rfl) rfl (Nat.le_of_ble_eq_true rfl) dX3_between_28 (fun u hu_28 => ?_)
    refine g_iload_n F 3 rfl dX3_between_31 ?_
    exact R _ ((li2_20, rem2 kn a b (nI (dsN kd L pl tN a b)))) _ _ dX3_between_32 (by (try dsimp only); exact (⟨rfl, kn_rem hK ha hb hn hsy, by rw [rem_at (by omega) (by omega) (by omega), if_pos (Or.inl ⟨rfl, rfl⟩)], fun c e qc qe q => by
        rw [rem_at (by omega) (by omega) qe]
        by_cases z : (c = a ∧ e = b) ∨ (c = b ∧ e = a)
        · exfalso
          rcases z with ⟨rfl, rfl⟩ | ⟨rfl, rfl⟩
          · exact q c_14
          · exact q (by rw [(hK _ _ qc qe).1]; exact c_14)
        · rw [if_neg z]⟩))
end
section
/-- the book as a set -/
def BK (b : Nat → Nat) (k : Nat) (I : Nat → Bool) : Prop := ∀ t, I t = true ↔ ∃ i, i < k ∧ b i = t
theorem BK.at {b : Nat → Nat} {k i : Nat} {I : Nat → Bool} (h : BK b k I) (hi : i < k) : I (b i) = true := (h _).mpr ⟨i, hi, rfl⟩
theorem mb_inj {f : Nat → Int32} {k : Nat} {b : Nat → Nat} (h : MB f k b) {i j : Nat} (hi : i < k) (hj : j < k) (e : b i = b j) : i = j := by
  rcases Nat.lt_trichotomy i j with q | q | q
  · have := h.2.2 i j q hj; omega
  · exact q
  · have := h.2.2 j i q hi; omega
/-- connected by steps of at most r -/
def CN (dd : Nat → Nat → Nat) (r : Nat) (I : Nat → Bool) (x y : Nat) : Prop := ∀ P : Nat → Prop, P x → (∀ u v, I u = true → I v = true → P u → (dd u v ≤ r ∨ dd v u ≤ r) → P v) → P y
theorem CN.rf {dd : Nat → Nat → Nat} {r : Nat} {I : Nat → Bool} (x : Nat) : CN dd r I x x := fun _ h _ => h
theorem CN.step {dd : Nat → Nat → Nat} {r x u v : Nat} {I : Nat → Bool} (h : CN dd r I x u) (hu : I u = true) (hv : I v = true) (hd : dd u v ≤ r ∨ dd v u ≤ r) : CN dd r I x v := fun P h0 hs => hs u v hu hv (h P h0 hs) hd
theorem CN.trans {dd : Nat → Nat → Nat} {r x y z : Nat} {I : Nat → Bool} (h : CN dd r I x y) (h2 : CN dd r I y z) : CN dd r I x z := fun P h0 hs => h2 P (h P h0 hs) hs
theorem CN.symm {dd : Nat → Nat → Nat} {r x y : Nat} {I : Nat → Bool} (h : CN dd r I x y) : CN dd r I y x := h (fun z => CN dd r I z x) (CN.rf x) (fun u v hu hv hp hd => CN.trans (CN.step (CN.rf v) hv hu hd.symm) hp)
/-- the lowest number of each piece -/
def LAB (dd : Nat → Nat → Nat) (r : Nat) (I : Nat → Bool) (lab : Nat → Nat) : Prop := (∀ x y, I x = true → I y = true → dd x y ≤ r → lab x = lab y) ∧ ∀ x, I x = true → I (lab x) = true ∧ CN dd r I x (lab x) ∧ lab x ≤ x
theorem lab_cn {dd : Nat → Nat → Nat} {r : Nat} {I : Nat → Bool} {lab : Nat → Nat} (h : LAB dd r I lab) {x y : Nat} (hc : CN dd r I x y) : lab x = lab y := by
  have := hc (fun z => lab x = lab z) rfl (fun u v hu hv e hd => by
    rcases hd with q | q
    · exact e.trans (h.1 u v hu hv q)
    · exact e.trans (h.1 v u hv hu q).symm)
  exact this
theorem lab_uni {dd : Nat → Nat → Nat} {r : Nat} {I : Nat → Bool} {l1 l2 : Nat → Nat} (h1 : LAB dd r I l1) (h2 : LAB dd r I l2) {x : Nat} (hx : I x = true) : l1 x = l2 x := by
  obtain ⟨a1, a2, a3⟩ := h1.2 x hx
  obtain ⟨b1, b2, b3⟩ := h2.2 x hx
  have e1 := lab_cn h2 a2
  have e2 := lab_cn h1 b2
  have c1 := (h2.2 _ a1).2.2
  have c2 := (h1.2 _ b1).2.2
  omega
def jn (lab : Nat → Nat) (u v t : Nat) : Nat := if lab t = Nat.max u v then Nat.min u v else lab t
theorem jn_same (lab : Nat → Nat) (u t : Nat) : jn lab u u t = lab t := by
  unfold jn
  rw [show Nat.max u u = u from Nat.max_self u, show Nat.min u u = u from Nat.min_self u]
  split <;> simp [*]
theorem nmin_cases (u v : Nat) : (Nat.min u v = u ∧ Nat.max u v = v ∧ u ≤ v) ∨ (Nat.min u v = v ∧ Nat.max u v = u ∧ v ≤ u) := by
  rcases Nat.le_total u v with q | q
  · exact Or.inl ⟨Nat.min_eq_left q, Nat.max_eq_right q, q⟩
  · exact Or.inr ⟨Nat.min_eq_right q, Nat.max_eq_left q, q⟩
theorem jn_both (lab : Nat → Nat) (x y : Nat) : jn lab (lab x) (lab y) x = jn lab (lab x) (lab y) y := by
  unfold jn
  rcases nmin_cases (lab x) (lab y) with ⟨e1, e2, e3⟩ | ⟨e1, e2, e3⟩
  · rw [e1, e2, if_pos rfl]
    split
    · rfl
    · rfl
  · rw [e1, e2, if_pos rfl]
    split
    · rfl
    · rfl
theorem jn_eq {lab : Nat → Nat} {u v x y : Nat} (h : lab x = lab y) : jn lab u v x = jn lab u v y := by unfold jn; rw [h]
theorem jn_ok {dd : Nat → Nat → Nat} {r : Nat} {I : Nat → Bool} {lab : Nat → Nat} (h : ∀ x, I x = true → I (lab x) = true ∧ CN dd r I x (lab x) ∧ lab x ≤ x) {p q : Nat} (hp : I p = true) (hq : I q = true) (hd : dd p q ≤ r) : ∀ x, I x = true → I (jn lab (lab p) (lab q) x) = true ∧ CN dd r I x (jn lab (lab p) (lab q) x) ∧ jn lab (lab p) (lab q) x ≤ x := by
  have hpq : CN dd r I (lab p) (lab q) := CN.trans (CN.trans (h p hp).2.1.symm (CN.step (CN.rf p) hp hq (Or.inl hd))) (h q hq).2.1
  intro x hx
  obtain ⟨a1, a2, a3⟩ := h x hx
  unfold jn
  by_cases c : lab x = Nat.max (lab p) (lab q)
  · rw [if_pos c]
    rcases nmin_cases (lab p) (lab q) with ⟨e1, e2, e3⟩ | ⟨e1, e2, e3⟩
    · rw [e1]
      rw [e2] at c
      exact ⟨(h p hp).1, CN.trans a2 (by rw [c]; exact hpq.symm), by omega⟩
    · rw [e1]
      rw [e2] at c
      exact ⟨(h q hq).1, CN.trans a2 (by rw [c]; exact hpq), by omega⟩
  · rw [if_neg c]
    exact ⟨a1, a2, a3⟩
def LBk (b : Nat → Nat) (k : Nat) (lo : Nat → Int32) (lab : Nat → Nat) : Prop := ∀ i, i < k → lo (b i) = nI (lab (b i)) ∧ lab (b i) < 60
def sumB (g : Nat → Nat) (b : Nat → Nat) : Nat → Nat
  | 0 => 0
  | i + 1 => sumB g b i + g (b i)
theorem sumB_le {g b : Nat → Nat} (h : ∀ t, g t ≤ 1) : ∀ k, sumB g b k ≤ k := by
  intro k
  induction k with
  | zero => exact Nat.le_refl _
  | succ k ih =>
    have := h (b k)
    show sumB g b k + g (b k) ≤ _
    omega

set_option maxHeartbeats 4000000 in
set_option maxRecDepth 100000 in
theorem c_X6_lowestWith (E : Ev) (p : Nat) (w : Nat) (m : Nat) (d : Nat) (lo : Nat → Int32) (t : Nat) (ht : t < 60) : RDi E yX6_lowestWith (wq yX6_lowestWith cX6_lowestWith 2 (some .int)) (rmk 0 0) [.ref p, .int (nI t)] [ob p 6 [.ref m, .ref d, .ref w], ia E w 60 lo] (lo t) := by
  refine CTi.of (by decide) (Nat.le_of_ble_eq_true rfl) (fun X F R => ?_)
  refine g_lv [0, 1] [(0, .ref p), (1, .int (nI t))] rfl ?_
  refine g_aload_n F 0 rfl dX6_lowestWith_0 ?_
  refine g_get F 6 0 2 inX6 rfl rfl (by decide) tw_fl_X6_9 rfl dX6_lowestWith_1 ?_
  refine g_iload_n F 1 rfl dX6_lowestWith_4 ?_
  refine g_iald F 1 rfl (by omega) (by decide) dX6_lowestWith_5 ?_
  exact R _ (()) _ _ dX6_lowestWith_6 (rfl)

set_option maxHeartbeats 4000000 in
set_option maxRecDepth 100000 in
theorem c_X6_join (E : Ev) (p : Nat) (w : Nat) (d : Nat) (lo : Nat → Int32) (m : Nat) (a : Nat) (f : Nat → Int32) (k : Nat) (b : Nat → Nat) (lab : Nat → Nat) (x1 : Nat) (x2 : Nat) (hb : MB f k b) (hl : LBk b k lo lab) (hx1 : x1 < 60) (hx2 : x2 < 60) : CTv E yX6_join (wq yX6_join cX6_join 6 none) (rmk 1 21) [.ref p, .int (nI x1), .int (nI x2)] [ob p 6 [.ref m, .ref d, .ref w], ob m 5 [.ref a, .int (nI k)], ia E a 60 f, ia E w 60 lo] (fun (u : (Nat → Int32)) => LBk b k u (jn lab x1 x2)) (fun (u : (Nat → Int32)) => [ob p 6 [.ref m, .ref d, .ref w], ob m 5 [.ref a, .int (nI k)], ia E a 60 f, ia E w 60 u]) := by
  refine CTv.of (by decide) (Nat.le_of_ble_eq_true rfl) (fun X F R => ?_)
  refine g_lv [0, 1, 2] [(0, .ref p), (1, .int (nI x1)), (2, .int (nI x2))] rfl ?_
  have hk := hb.1
  have hmn := nmin_cases x1 x2
  refine g_iload_n F 1 rfl dX6_join_0 ?_
  refine g_iload_n F 2 rfl dX6_join_1 ?_
  refine n_icmp_ne F 6 dX6_join_2 (by decide) (by omega) (by omega) (fun c_2 => ?_) (fun c_2 => ?_)
  · refine g_iload_n F 1 rfl dX6_join_6 ?_
    refine g_iload_n F 2 rfl dX6_join_7 ?_
    refine g_mmin F tw_ml_X6_42 (by decide) (Nat.le_of_ble_eq_true rfl) (Nat.zero_le _) (Nat.zero_le _) dX6_join_8 ?_
    refine g_top _ (n_min x1 x2 (by omega) (by omega)) ?_
    refine g_istore_n F 3 [(0, .ref p), (1, .int (nI x1)), (2, .int (nI x2)), (3, .int (nI (Nat.min x1 x2)))] [1, 2, 3, 0] dX6_join_11 rfl (by decide) rfl ?_
    refine g_iload_n F 1 rfl dX6_join_12 ?_
    refine g_iload_n F 2 rfl dX6_join_13 ?_
    refine g_mmax F tw_ml_X6_47 (by decide) (Nat.le_of_ble_eq_true rfl) (Nat.zero_le _) (Nat.zero_le _) dX6_join_14 ?_
    refine g_top _ (n_max x1 x2 (by omega) (by omega)) ?_
    refine g_istore F 4 [(0, .ref p), (1, .int (nI x1)), (2, .int (nI x2)), (3, .int (nI (Nat.min x1 x2))), (4, .int (nI (Nat.max x1 x2)))] [1, 2, 3, 4, 0] dX6_join_17 (by decide) rfl ?_
    refine g_iconst F (nI 0) (by decide) dX6_join_19 ?_
    refine g_istore F 5 [(0, .ref p), (1, .int (nI x1)), (2, .int (nI x2)), (3, .int (nI (Nat.min x1 x2))), (4, .int (nI (Nat.max x1 x2))), (5, .int (nI 0))] [1, 2, 3, 4, 5, 0] dX6_join_20 (by decide) rfl ?_
    have lp_22 : ∀ (n_22 : Nat) (i : Nat) (g : Nat → Int32), (i ≤ k) → (∀ j, j < i → g (b j) = nI (jn lab x1 x2 (b j))) → (∀ j, i ≤ j → j < k → g (b j) = lo (b j)) → k - i < n_22 → GW E X 0 0 [ob p 6 [.ref m, .ref d, .ref w], ob m 5 [.ref a, .int (nI k)], ia E a 60 f, ia E w 60 g] [(0, .ref p), (1, .int (nI x1)), (2, .int (nI x2)), (3, .int (nI (Nat.min x1 x2))), (4, .int (nI (Nat.max x1 x2))), (5, .int (nI i))] 22 [] := by
      intro n_22
      induction n_22 with
      | zero => intro i g hi g1 g2 hm_22; exact absurd hm_22 (Nat.not_lt_zero _)
      | succ n_22 ih_22 =>
        intro i g hi g1 g2 hm_22
        refine g_iload F 5 rfl dX6_join_22 ?_
        refine g_aload_n F 0 rfl dX6_join_24 ?_
        refine g_get F 6 0 0 inX6 rfl rfl (by decide) tw_fl_X6_15 rfl dX6_join_25 ?_
        refine g_rVi F (wr := [ob p 6 [.ref m, .ref d, .ref w], ia E w 60 g]) [.int (nI i)] (c_X5_size E m a f k ) (gi_V tw_ml_X6_23 tw_im_X5_size tw_se_X5_size tw_in_X5 tw_co_X5_size) 0 rfl (by decide) ⟨rfl, rfl, by decide, by decide, Nat.zero_le _, Nat.zero_le _⟩ 5 0 rfl rfl [1, 2] [0, 3] [0, 2, 3, 1] rfl rfl (by decide) rfl rfl (Nat.le_of_ble_eq_true rfl) dX6_join_28 ?_
        refine n_icmp_ge F 74 dX6_join_31 (by decide) (by omega) (by omega) (fun c_31 => ?_) (fun c_31 => ?_)
        · exact R g _ _ dX6_join_74 (fun j hj => ⟨g1 j (by omega), by
      unfold jn
      have := (hl j hj).2
      split <;> omega⟩)
        · refine g_aload_n F 0 rfl dX6_join_34 ?_
          refine g_get F 6 0 2 inX6 rfl rfl (by decide) tw_fl_X6_9 rfl dX6_join_35 ?_
          refine g_aload_n F 0 rfl dX6_join_38 ?_
          refine g_get F 6 0 0 inX6 rfl rfl (by decide) tw_fl_X6_15 rfl dX6_join_39 ?_
          refine g_iload F 5 rfl dX6_join_42 ?_
          refine g_rVi F (wr := [ob p 6 [.ref m, .ref d, .ref w], ia E w 60 g]) [.ref w] (c_X5_at E m a f k b i (fun i hi => (hb.2.1 i hi).1) (by omega) (by omega)) (gi_V tw_ml_X6_29 tw_im_X5_at tw_se_X5_at tw_in_X5 tw_co_X5_at) 1 rfl (by decide) ⟨rfl, rfl, by decide, by decide, Nat.zero_le _, Nat.zero_le _⟩ 5 0 rfl rfl [1, 2] [0, 3] [0, 2, 3, 1] rfl rfl (by decide) rfl rfl (Nat.le_of_ble_eq_true rfl) dX6_join_44 ?_
          refine g_iald F 3 rfl ((hb.2.1 i (by omega)).2) (by decide) dX6_join_47 ?_
          refine g_top (nI (lab (b i))) ((g2 i (Nat.le_refl _) c_31).trans (hl i c_31).1) ?_
          refine g_iload F 4 rfl dX6_join_48 ?_
          refine n_icmp_ne F 68 dX6_join_50 (by decide) (by have := (hl i (by omega)).2; omega) (by omega) (fun c_50 => ?_) (fun c_50 => ?_)
          · refine g_iinc F (nI (i + 1)) 5 5 [(0, .ref p), (1, .int (nI x1)), (2, .int (nI x2)), (3, .int (nI (Nat.min x1 x2))), (4, .int (nI (Nat.max x1 x2))), (5, .int (nI (i + 1)))] [1, 2, 3, 4, 5, 0] dX6_join_68 rfl (n_inc i) (by decide) rfl ?_
            refine g_goto F 22 dX6_join_71 (by decide) ?_
            exact ih_22 (i + 1) g (by omega) (lt_s g1 (by rw [g2 i (Nat.le_refl _) c_31, (hl i c_31).1]; unfold jn; rw [if_neg c_50])) (fun j h1 h2 => g2 j (by omega) h2) (by omega)
          · refine g_aload_n F 0 rfl dX6_join_53 ?_
            refine g_get F 6 0 2 inX6 rfl rfl (by decide) tw_fl_X6_9 rfl dX6_join_54 ?_
            refine g_aload_n F 0 rfl dX6_join_57 ?_
            refine g_get F 6 0 0 inX6 rfl rfl (by decide) tw_fl_X6_15 rfl dX6_join_58 ?_
            refine g_iload F 5 rfl dX6_join_61 ?_
            refine g_rVi F (wr := [ob p 6 [.ref m, .ref d, .ref w], ia E w 60 g]) [.ref w] (c_X5_at E m a f k b i (fun i hi => (hb.2.1 i hi).1) (by omega) (by omega)) (gi_V tw_ml_X6_29 tw_im_X5_at tw_se_X5_at tw_in_X5 tw_co_X5_at) 1 rfl (by decide) ⟨rfl, rfl, by decide, by decide, Nat.zero_le _, Nat.zero_le _⟩ 5 0 rfl rfl [1, 2] [0, 3] [0, 2, 3, 1] rfl rfl (by decide) rfl rfl (Nat.le_of_ble_eq_true rfl) dX6_join_63 ?_
            refine g_iload_n F 3 rfl dX6_join_66 ?_
            refine g_iast F 3 [ob p 6 [.ref m, .ref d, .ref w], ob m 5 [.ref a, .int (nI k)], ia E a 60 f, ia E w 60 (upd g (b i) (nI (Nat.min x1 x2)))] rfl ((hb.2.1 i (by omega)).2) (by decide) rfl dX6_join_67 ?_
            refine g_iinc F (nI (i + 1)) 5 5 [(0, .ref p), (1, .int (nI x1)), (2, .int (nI x2)), (3, .int (nI (Nat.min x1 x2))), (4, .int (nI (Nat.max x1 x2))), (5, .int (nI (i + 1)))] [1, 2, 3, 4, 5, 0] dX6_join_68 rfl (n_inc i) (by decide) rfl ?_
            refine g_goto F 22 dX6_join_71 (by decide) ?_
            exact ih_22 (i + 1) (upd g (b i) (nI (Nat.min x1 x2))) (by omega) (lt_s (fun j hj => (pk_un (fun e => by have := mb_inj hb (by omega) (by omega) e; omega)).trans (g1 j hj)) (by rw [pk_us]; unfold jn; rw [if_pos c_50])) (fun j h1 h2 => (pk_un (fun e => by have := mb_inj hb (by omega) (by omega) e; omega)).trans (g2 j (by omega) h2)) (by omega)
    exact lp_22 _ 0 lo (by omega) (fun j h => absurd h (Nat.not_lt_zero j)) (fun _ _ _ => rfl) (Nat.lt_succ_self _)
  · exact R lo _ _ dX6_join_5 (fun j hj => by rw [show x2 = x1 from c_2.symm, jn_same]; exact hl j hj)

set_option maxHeartbeats 4000000 in
set_option maxRecDepth 100000 in
theorem c_X6_gather (E : Ev) (p : Nat) (w : Nat) (lo : Nat → Int32) (m : Nat) (a : Nat) (f : Nat → Int32) (k : Nat) (d : Nat) (ro : Nat) (tb : Nat) (ka : Nat) (kn : Nat → Int32) (kd : Nat) (b : Nat → Nat) (I : Nat → Bool) (dd : Nat → Nat → Nat) (r : Nat) (hb : MB f k b) (hI : BK b k I) (hr : r < 2 ^ 31) (hd : ∀ i j, i < k → j < k → kn (b i * 60 + b j) = nI (dd (b i) (b j)) ∧ dd (b i) (b j) ≤ 100000) (hsy : ∀ x y, I x = true → I y = true → dd x y = dd y x) : CTv E yX6_gather (wq yX6_gather cX6_gather 4 none) (rmk 2 46) [.ref p, .int (nI r)] [ob p 6 [.ref m, .ref d, .ref w], ob m 5 [.ref a, .int (nI k)], ia E a 60 f, ob d 3 [.ref ro, .ref tb, .ref ka, .int (nI kd)], ia E ka 3600 kn, ia E w 60 lo] (fun (u : (Nat → Int32)) => ∃ lab, LBk b k u lab ∧ LAB dd r I lab) (fun (u : (Nat → Int32)) => [ob p 6 [.ref m, .ref d, .ref w], ob m 5 [.ref a, .int (nI k)], ia E a 60 f, ob d 3 [.ref ro, .ref tb, .ref ka, .int (nI kd)], ia E ka 3600 kn, ia E w 60 u]) := by
  refine CTv.of (by decide) (Nat.le_of_ble_eq_true rfl) (fun X F R => ?_)
  refine g_lv [0, 1] [(0, .ref p), (1, .int (nI r))] rfl ?_
  have hk := hb.1
  refine g_iconst F (nI 0) (by decide) dX6_gather_0 ?_
  refine g_istore_n F 2 [(0, .ref p), (1, .int (nI r)), (2, .int (nI 0))] [1, 2, 0] dX6_gather_1 rfl (by decide) rfl ?_
  have lp_2 : ∀ (n_2 : Nat) (i : Nat) (g : Nat → Int32), (i ≤ k) → (∀ j, j < i → g (b j) = nI (b j)) → k - i < n_2 → GW E X 0 0 [ob p 6 [.ref m, .ref d, .ref w], ob m 5 [.ref a, .int (nI k)], ia E a 60 f, ob d 3 [.ref ro, .ref tb, .ref ka, .int (nI kd)], ia E ka 3600 kn, ia E w 60 g] [(0, .ref p), (1, .int (nI r)), (2, .int (nI i))] 2 [] := by
    intro n_2
    induction n_2 with
    | zero => intro i g hi g1 hm_2; exact absurd hm_2 (Nat.not_lt_zero _)
    | succ n_2 ih_2 =>
      intro i g hi g1 hm_2
      refine g_iload_n F 2 rfl dX6_gather_2 ?_
      refine g_aload_n F 0 rfl dX6_gather_3 ?_
      refine g_get F 6 0 0 inX6 rfl rfl (by decide) tw_fl_X6_15 rfl dX6_gather_4 ?_
      refine g_rVi F (wr := [ob p 6 [.ref m, .ref d, .ref w], ob d 3 [.ref ro, .ref tb, .ref ka, .int (nI kd)], ia E ka 3600 kn, ia E w 60 g]) [.int (nI i)] (c_X5_size E m a f k ) (gi_V tw_ml_X6_23 tw_im_X5_size tw_se_X5_size tw_in_X5 tw_co_X5_size) 0 rfl (by decide) ⟨rfl, rfl, by decide, by decide, Nat.zero_le _, Nat.zero_le _⟩ 5 0 rfl rfl [1, 2] [0, 3, 4, 5] [0, 4, 5, 1, 2, 3] rfl rfl (by decide) rfl rfl (Nat.le_of_ble_eq_true rfl) dX6_gather_7 ?_
      refine n_icmp_ge F 40 dX6_gather_10 (by decide) (by omega) (by omega) (fun c_10 => ?_) (fun c_10 => ?_)
      · refine g_iconst F (nI 1) (by decide) dX6_gather_40 ?_
        refine g_istore_n F 2 [(0, .ref p), (1, .int (nI r)), (2, .int (nI 1))] [1, 2, 0] dX6_gather_41 rfl (by decide) rfl ?_
        have lp_42 : ∀ (n_42 : Nat) (i : Nat) (g : Nat → Int32) (lab : Nat → Nat), (1 ≤ i) → (i ≤ k ∨ i = 1) → (LBk b k g lab) → (∀ x, I x = true → I (lab x) = true ∧ CN dd r I x (lab x) ∧ lab x ≤ x) → (∀ i2 j2, i2 < i → i2 < k → j2 < i2 → dd (b i2) (b j2) ≤ r → lab (b i2) = lab (b j2)) → k + 1 - i < n_42 → GW E X 0 0 [ob p 6 [.ref m, .ref d, .ref w], ob m 5 [.ref a, .int (nI k)], ia E a 60 f, ob d 3 [.ref ro, .ref tb, .ref ka, .int (nI kd)], ia E ka 3600 kn, ia E w 60 g] [(0, .ref p), (1, .int (nI r)), (2, .int (nI i))] 42 [] := by
          intro n_42
          induction n_42 with
          | zero => intro i g lab hi1 hi2 hl hv hp hm_42; exact absurd hm_42 (Nat.not_lt_zero _)
          | succ n_42 ih_42 =>
            intro i g lab hi1 hi2 hl hv hp hm_42
            refine g_iload_n F 2 rfl dX6_gather_42 ?_
            refine g_aload_n F 0 rfl dX6_gather_43 ?_
            refine g_get F 6 0 0 inX6 rfl rfl (by decide) tw_fl_X6_15 rfl dX6_gather_44 ?_
            refine g_rVi F (wr := [ob p 6 [.ref m, .ref d, .ref w], ob d 3 [.ref ro, .ref tb, .ref ka, .int (nI kd)], ia E ka 3600 kn, ia E w 60 g]) [.int (nI i)] (c_X5_size E m a f k ) (gi_V tw_ml_X6_23 tw_im_X5_size tw_se_X5_size tw_in_X5 tw_co_X5_size) 0 rfl (by decide) ⟨rfl, rfl, by decide, by decide, Nat.zero_le _, Nat.zero_le _⟩ 5 0 rfl rfl [1, 2] [0, 3, 4, 5] [0, 4, 5, 1, 2, 3] rfl rfl (by decide) rfl rfl (Nat.le_of_ble_eq_true rfl) dX6_gather_47 ?_
            refine n_icmp_ge F 129 dX6_gather_50 (by decide) (by omega) (by omega) (fun c_50 => ?_) (fun c_50 => ?_)
            · exact R g _ _ dX6_gather_129 (⟨lab, hl, fun x y hx hy hxy => by
      obtain ⟨i1, q1, e1⟩ := (hI x).mp hx
      obtain ⟨i2, q2, e2⟩ := (hI y).mp hy
      subst e1
      subst e2
      rcases Nat.lt_trichotomy i1 i2 with z | z | z
      · exact (hp i2 i1 (by omega) q2 z (by rw [hsy _ _ hy hx]; exact hxy)).symm
      · rw [z]
      · exact hp i1 i2 (by omega) q1 z hxy, hv⟩)
            · refine g_iconst F (nI 0) (by decide) dX6_gather_53 ?_
              refine g_istore_n F 3 [(0, .ref p), (1, .int (nI r)), (2, .int (nI i)), (3, .int (nI 0))] [1, 2, 3, 0] dX6_gather_54 rfl (by decide) rfl ?_
              have lp_55 : ∀ (n_55 : Nat) (j : Nat) (g2 : Nat → Int32) (lab2 : Nat → Nat), (j ≤ i) → (LBk b k g2 lab2) → (∀ x, I x = true → I (lab2 x) = true ∧ CN dd r I x (lab2 x) ∧ lab2 x ≤ x) → (∀ i2 j2, (i2 < i ∨ (i2 = i ∧ j2 < j)) → i2 < k → j2 < i2 → dd (b i2) (b j2) ≤ r → lab2 (b i2) = lab2 (b j2)) → i - j < n_55 → GW E X 0 0 [ob p 6 [.ref m, .ref d, .ref w], ob m 5 [.ref a, .int (nI k)], ia E a 60 f, ob d 3 [.ref ro, .ref tb, .ref ka, .int (nI kd)], ia E ka 3600 kn, ia E w 60 g2] [(0, .ref p), (1, .int (nI r)), (2, .int (nI i)), (3, .int (nI j))] 55 [] := by
                intro n_55
                induction n_55 with
                | zero => intro j g2 lab2 hj hl2 hv2 hp2 hm_55; exact absurd hm_55 (Nat.not_lt_zero _)
                | succ n_55 ih_55 =>
                  intro j g2 lab2 hj hl2 hv2 hp2 hm_55
                  refine g_iload_n F 3 rfl dX6_gather_55 ?_
                  refine g_iload_n F 2 rfl dX6_gather_56 ?_
                  refine n_icmp_ge F 123 dX6_gather_57 (by decide) (by omega) (by omega) (fun c_57 => ?_) (fun c_57 => ?_)
                  · refine g_iinc F (nI (i + 1)) 2 2 [(0, .ref p), (1, .int (nI r)), (2, .int (nI (i + 1))), (3, .int (nI j))] [1, 2, 0, 3] dX6_gather_123 rfl (n_inc i) (by decide) rfl ?_
                    refine g_goto F 42 dX6_gather_126 (by decide) ?_
                    refine g_lv [0, 1, 2] [(0, .ref p), (1, .int (nI r)), (2, .int (nI (i + 1)))] rfl ?_
                    exact ih_42 (i + 1) g2 lab2 (by omega) (by omega) (hl2) (hv2) (fun i2 j2 q1 q2 q3 q4 => by
          rcases Nat.lt_or_ge i2 i with z | z
          · exact hp2 i2 j2 (Or.inl z) q2 q3 q4
          · exact hp2 i2 j2 (Or.inr ⟨by omega, by omega⟩) q2 q3 q4) (by omega)
                  · refine g_aload_n F 0 rfl dX6_gather_60 ?_
                    refine g_get F 6 0 1 inX6 rfl rfl (by decide) tw_fl_X6_19 rfl dX6_gather_61 ?_
                    refine g_aload_n F 0 rfl dX6_gather_64 ?_
                    refine g_get F 6 0 0 inX6 rfl rfl (by decide) tw_fl_X6_15 rfl dX6_gather_65 ?_
                    refine g_iload_n F 2 rfl dX6_gather_68 ?_
                    refine g_rVi F (wr := [ob p 6 [.ref m, .ref d, .ref w], ob d 3 [.ref ro, .ref tb, .ref ka, .int (nI kd)], ia E ka 3600 kn, ia E w 60 g2]) [.ref d] (c_X5_at E m a f k b i (fun i hi => (hb.2.1 i hi).1) (by omega) (by omega)) (gi_V tw_ml_X6_29 tw_im_X5_at tw_se_X5_at tw_in_X5 tw_co_X5_at) 1 rfl (by decide) ⟨rfl, rfl, by decide, by decide, Nat.zero_le _, Nat.zero_le _⟩ 5 0 rfl rfl [1, 2] [0, 3, 4, 5] [0, 4, 5, 1, 2, 3] rfl rfl (by decide) rfl rfl (Nat.le_of_ble_eq_true rfl) dX6_gather_69 ?_
                    refine g_aload_n F 0 rfl dX6_gather_72 ?_
                    refine g_get F 6 0 0 inX6 rfl rfl (by decide) tw_fl_X6_15 rfl dX6_gather_73 ?_
                    refine g_iload_n F 3 rfl dX6_gather_76 ?_
                    refine g_rVi F (wr := [ob p 6 [.ref m, .ref d, .ref w], ob d 3 [.ref ro, .ref tb, .ref ka, .int (nI kd)], ia E ka 3600 kn, ia E w 60 g2]) [.int (nI (b i)), .ref d] (c_X5_at E m a f k b j (fun i hi => (hb.2.1 i hi).1) (by omega) (by omega)) (gi_V tw_ml_X6_29 tw_im_X5_at tw_se_X5_at tw_in_X5 tw_co_X5_at) 1 rfl (by decide) ⟨rfl, rfl, by decide, by decide, Nat.zero_le _, Nat.zero_le _⟩ 5 0 rfl rfl [1, 2] [0, 3, 4, 5] [0, 4, 5, 1, 2, 3] rfl rfl (by decide) rfl rfl (Nat.le_of_ble_eq_true rfl) dX6_gather_77 ?_
                    refine g_rVi F (wr := [ob p 6 [.ref m, .ref d, .ref w], ob m 5 [.ref a, .int (nI k)], ia E a 60 f, ia E w 60 g2]) [] (c_X3_at E d ro tb ka kn kd dd (b i) (b j) ((hb.2.1 i (by omega)).2) ((hb.2.1 j (by omega)).2) ((hd i j (by omega) (by omega)).1)) (gi_V tw_ml_X6_33 tw_im_X3_at tw_se_X3_at tw_in_X3 tw_co_X3_at) 2 rfl (by decide) ⟨rfl, rfl, by decide, by decide, Nat.zero_le _, Nat.zero_le _⟩ 3 0 rfl rfl [3, 4] [0, 1, 2, 5] [0, 1, 2, 4, 5, 3] rfl rfl (by decide) rfl rfl (Nat.le_of_ble_eq_true rfl) dX6_gather_80 ?_
                    refine g_iload_n F 1 rfl dX6_gather_83 ?_
                    refine n_icmp_gt F 117 dX6_gather_84 (by decide) (by have := (hd i j (by omega) (by omega)).2; omega) (by omega) (fun c_84 => ?_) (fun c_84 => ?_)
                    · refine g_iinc F (nI (j + 1)) 3 3 [(0, .ref p), (1, .int (nI r)), (2, .int (nI i)), (3, .int (nI (j + 1)))] [1, 2, 3, 0] dX6_gather_117 rfl (n_inc j) (by decide) rfl ?_
                      refine g_goto F 55 dX6_gather_120 (by decide) ?_
                      exact ih_55 (j + 1) g2 lab2 (by omega) (hl2) (hv2) (fun i2 j2 q1 q2 q3 q4 => by
            by_cases z : i2 = i ∧ j2 = j
            · rw [z.1, z.2] at q4; omega
            · exact hp2 i2 j2 (by omega) q2 q3 q4) (by omega)
                    · refine g_aload_n F 0 rfl dX6_gather_87 ?_
                      refine g_aload_n F 0 rfl dX6_gather_88 ?_
                      refine g_get F 6 0 2 inX6 rfl rfl (by decide) tw_fl_X6_9 rfl dX6_gather_89 ?_
                      refine g_aload_n F 0 rfl dX6_gather_92 ?_
                      refine g_get F 6 0 0 inX6 rfl rfl (by decide) tw_fl_X6_15 rfl dX6_gather_93 ?_
                      refine g_iload_n F 2 rfl dX6_gather_96 ?_
                      refine g_rVi F (wr := [ob p 6 [.ref m, .ref d, .ref w], ob d 3 [.ref ro, .ref tb, .ref ka, .int (nI kd)], ia E ka 3600 kn, ia E w 60 g2]) [.ref w, .ref p] (c_X5_at E m a f k b i (fun i hi => (hb.2.1 i hi).1) (by omega) (by omega)) (gi_V tw_ml_X6_29 tw_im_X5_at tw_se_X5_at tw_in_X5 tw_co_X5_at) 1 rfl (by decide) ⟨rfl, rfl, by decide, by decide, Nat.zero_le _, Nat.zero_le _⟩ 5 0 rfl rfl [1, 2] [0, 3, 4, 5] [0, 4, 5, 1, 2, 3] rfl rfl (by decide) rfl rfl (Nat.le_of_ble_eq_true rfl) dX6_gather_97 ?_
                      refine g_iald F 5 rfl ((hb.2.1 i (by omega)).2) (by decide) dX6_gather_100 ?_
                      refine g_top (nI (lab2 (b i))) ((hl2 i (by omega)).1) ?_
                      refine g_aload_n F 0 rfl dX6_gather_101 ?_
                      refine g_get F 6 0 2 inX6 rfl rfl (by decide) tw_fl_X6_9 rfl dX6_gather_102 ?_
                      refine g_aload_n F 0 rfl dX6_gather_105 ?_
                      refine g_get F 6 0 0 inX6 rfl rfl (by decide) tw_fl_X6_15 rfl dX6_gather_106 ?_
                      refine g_iload_n F 3 rfl dX6_gather_109 ?_
                      refine g_rVi F (wr := [ob p 6 [.ref m, .ref d, .ref w], ob d 3 [.ref ro, .ref tb, .ref ka, .int (nI kd)], ia E ka 3600 kn, ia E w 60 g2]) [.ref w, .int (nI (lab2 (b i))), .ref p] (c_X5_at E m a f k b j (fun i hi => (hb.2.1 i hi).1) (by omega) (by omega)) (gi_V tw_ml_X6_29 tw_im_X5_at tw_se_X5_at tw_in_X5 tw_co_X5_at) 1 rfl (by decide) ⟨rfl, rfl, by decide, by decide, Nat.zero_le _, Nat.zero_le _⟩ 5 0 rfl rfl [1, 2] [0, 3, 4, 5] [0, 4, 5, 1, 2, 3] rfl rfl (by decide) rfl rfl (Nat.le_of_ble_eq_true rfl) dX6_gather_110 ?_
                      refine g_iald F 5 rfl ((hb.2.1 j (by omega)).2) (by decide) dX6_gather_113 ?_
                      refine g_top (nI (lab2 (b j))) ((hl2 j (by omega)).1) ?_
                      refine g_cVv F (wr := [ob d 3 [.ref ro, .ref tb, .ref ka, .int (nI kd)], ia E ka 3600 kn]) [] (c_X6_join E p w d g2 m a f k b lab2 (lab2 (b i)) (lab2 (b j)) (hb) (hl2) ((hl2 i (by omega)).2) ((hl2 j (by omega)).2)) (gi_V tw_ml_X6_38 tw_im_X6_join tw_se_X6_join tw_in_X6 tw_co_X6_join) 2 rfl (by decide) ⟨rfl, rfl, by decide, by decide, Nat.zero_le _, Nat.zero_le _⟩ 6 0 rfl rfl [0, 1, 2, 5] [3, 4] [2, 3, 4, 0, 1, 5] (fun u => [ob p 6 [.ref m, .ref d, .ref w], ob m 5 [.ref a, .int (nI k)], ia E a 60 f, ob d 3 [.ref ro, .ref tb, .ref ka, .int (nI kd)], ia E ka 3600 kn, ia E w 60 u]) rfl rfl (by decide) (fun _ => rfl) rfl (Nat.le_of_ble_eq_true rfl) dX6_gather_114 (fun u hu_114 => ?_)
                      revert hu_114; revert u; intro lo2_114 hu_114
                      refine g_iinc F (nI (j + 1)) 3 3 [(0, .ref p), (1, .int (nI r)), (2, .int (nI i)), (3, .int (nI (j + 1)))] [1, 2, 3, 0] dX6_gather_117 rfl (n_inc j) (by decide) rfl ?_
                      refine g_goto F 55 dX6_gather_120 (by decide) ?_
                      exact ih_55 (j + 1) lo2_114 (jn lab2 (lab2 (b i)) (lab2 (b j))) (by omega) (hu_114) (jn_ok hv2 (hI.at (by omega)) (hI.at (by omega)) c_84) (fun i2 j2 q1 q2 q3 q4 => by
            by_cases z : i2 = i ∧ j2 = j
            · rw [z.1, z.2]; exact jn_both lab2 _ _
            · exact jn_eq (hp2 i2 j2 (by omega) q2 q3 q4)) (by omega)
              exact lp_55 _ 0 g lab (by omega) (hl) (hv) (fun i2 j2 q1 q2 q3 => hp i2 j2 (by omega) q2 q3) (Nat.lt_succ_self _)
        exact lp_42 _ 1 g (fun t => t) (by omega) (by omega) (fun j hj => ⟨g1 j (by omega), (hb.2.1 j hj).2⟩) (fun x hx => ⟨hx, CN.rf x, Nat.le_refl x⟩) (fun i2 j2 q1 q2 q3 => absurd q3 (by omega)) (Nat.lt_succ_self _)
      · refine g_aload_n F 0 rfl dX6_gather_13 ?_
        refine g_get F 6 0 2 inX6 rfl rfl (by decide) tw_fl_X6_9 rfl dX6_gather_14 ?_
        refine g_aload_n F 0 rfl dX6_gather_17 ?_
        refine g_get F 6 0 0 inX6 rfl rfl (by decide) tw_fl_X6_15 rfl dX6_gather_18 ?_
        refine g_iload_n F 2 rfl dX6_gather_21 ?_
        refine g_rVi F (wr := [ob p 6 [.ref m, .ref d, .ref w], ob d 3 [.ref ro, .ref tb, .ref ka, .int (nI kd)], ia E ka 3600 kn, ia E w 60 g]) [.ref w] (c_X5_at E m a f k b i (fun i hi => (hb.2.1 i hi).1) (by omega) (by omega)) (gi_V tw_ml_X6_29 tw_im_X5_at tw_se_X5_at tw_in_X5 tw_co_X5_at) 1 rfl (by decide) ⟨rfl, rfl, by decide, by decide, Nat.zero_le _, Nat.zero_le _⟩ 5 0 rfl rfl [1, 2] [0, 3, 4, 5] [0, 4, 5, 1, 2, 3] rfl rfl (by decide) rfl rfl (Nat.le_of_ble_eq_true rfl) dX6_gather_22 ?_
        refine g_aload_n F 0 rfl dX6_gather_25 ?_
        refine g_get F 6 0 0 inX6 rfl rfl (by decide) tw_fl_X6_15 rfl dX6_gather_26 ?_
        refine g_iload_n F 2 rfl dX6_gather_29 ?_
        refine g_rVi F (wr := [ob p 6 [.ref m, .ref d, .ref w], ob d 3 [.ref ro, .ref tb, .ref ka, .int (nI kd)], ia E ka 3600 kn, ia E w 60 g]) [.int (nI (b i)), .ref w] (c_X5_at E m a f k b i (fun i hi => (hb.2.1 i hi).1) (by omega) (by omega)) (gi_V tw_ml_X6_29 tw_im_X5_at tw_se_X5_at tw_in_X5 tw_co_X5_at) 1 rfl (by decide) ⟨rfl, rfl, by decide, by decide, Nat.zero_le _, Nat.zero_le _⟩ 5 0 rfl rfl [1, 2] [0, 3, 4, 5] [0, 4, 5, 1, 2, 3] rfl rfl (by decide) rfl rfl (Nat.le_of_ble_eq_true rfl) dX6_gather_30 ?_
        refine g_iast F 5 [ob p 6 [.ref m, .ref d, .ref w], ob m 5 [.ref a, .int (nI k)], ia E a 60 f, ob d 3 [.ref ro, .ref tb, .ref ka, .int (nI kd)], ia E ka 3600 kn, ia E w 60 (upd g (b i) (nI (b i)))] rfl ((hb.2.1 i (by omega)).2) (by decide) rfl dX6_gather_33 ?_
        refine g_iinc F (nI (i + 1)) 2 2 [(0, .ref p), (1, .int (nI r)), (2, .int (nI (i + 1)))] [1, 2, 0] dX6_gather_34 rfl (n_inc i) (by decide) rfl ?_
        refine g_goto F 2 dX6_gather_37 (by decide) ?_
        exact ih_2 (i + 1) (upd g (b i) (nI (b i))) (by omega) (lt_s (fun j hj => (pk_un (fun e => by have := mb_inj hb (by omega) (by omega) e; omega)).trans (g1 j hj)) pk_us) (by omega)
  exact lp_2 _ 0 lo (by omega) (fun j h => absurd h (Nat.not_lt_zero j)) (Nat.lt_succ_self _)

set_option maxHeartbeats 4000000 in
set_option maxRecDepth 100000 in
theorem c_X6_howMany (E : Ev) (p : Nat) (w : Nat) (d : Nat) (lo : Nat → Int32) (m : Nat) (a : Nat) (f : Nat → Int32) (k : Nat) (b : Nat → Nat) (lab : Nat → Nat) (hb : MB f k b) (hl : LBk b k lo lab) : RDi E yX6_howMany (wq yX6_howMany cX6_howMany 3 (some .int)) (rmk 1 21) [.ref p] [ob p 6 [.ref m, .ref d, .ref w], ob m 5 [.ref a, .int (nI k)], ia E a 60 f, ia E w 60 lo] (nI (sumB (fun t => if lab t = t then 1 else 0) b k)) := by
  refine CTi.of (by decide) (Nat.le_of_ble_eq_true rfl) (fun X F R => ?_)
  refine g_lv [0] [(0, .ref p)] rfl ?_
  have hk := hb.1
  refine g_iconst F (nI 0) (by decide) dX6_howMany_0 ?_
  refine g_istore_n F 1 [(0, .ref p), (1, .int (nI 0))] [1, 0] dX6_howMany_1 rfl (by decide) rfl ?_
  refine g_iconst F (nI 0) (by decide) dX6_howMany_2 ?_
  refine g_istore_n F 2 [(0, .ref p), (1, .int (nI 0)), (2, .int (nI 0))] [1, 2, 0] dX6_howMany_3 rfl (by decide) rfl ?_
  have lp_4 : ∀ (n_4 : Nat) (i : Nat), (i ≤ k) → k - i < n_4 → GW E X 0 0 [ob p 6 [.ref m, .ref d, .ref w], ob m 5 [.ref a, .int (nI k)], ia E a 60 f, ia E w 60 lo] [(0, .ref p), (1, .int (nI (sumB (fun t => if lab t = t then 1 else 0) b i))), (2, .int (nI i))] 4 [] := by
    intro n_4
    induction n_4 with
    | zero => intro i hi hm_4; exact absurd hm_4 (Nat.not_lt_zero _)
    | succ n_4 ih_4 =>
      intro i hi hm_4
      refine g_iload_n F 2 rfl dX6_howMany_4 ?_
      refine g_aload_n F 0 rfl dX6_howMany_5 ?_
      refine g_get F 6 0 0 inX6 rfl rfl (by decide) tw_fl_X6_15 rfl dX6_howMany_6 ?_
      refine g_rVi F (wr := [ob p 6 [.ref m, .ref d, .ref w], ia E w 60 lo]) [.int (nI i)] (c_X5_size E m a f k ) (gi_V tw_ml_X6_23 tw_im_X5_size tw_se_X5_size tw_in_X5 tw_co_X5_size) 0 rfl (by decide) ⟨rfl, rfl, by decide, by decide, Nat.zero_le _, Nat.zero_le _⟩ 5 0 rfl rfl [1, 2] [0, 3] [0, 2, 3, 1] rfl rfl (by decide) rfl rfl (Nat.le_of_ble_eq_true rfl) dX6_howMany_9 ?_
      refine n_icmp_ge F 48 dX6_howMany_12 (by decide) (by omega) (by omega) (fun c_12 => ?_) (fun c_12 => ?_)
      · refine g_iload_n F 1 rfl dX6_howMany_48 ?_
        exact R _ (()) _ _ dX6_howMany_49 (by rw [show i = k by omega])
      · refine g_aload_n F 0 rfl dX6_howMany_15 ?_
        refine g_get F 6 0 2 inX6 rfl rfl (by decide) tw_fl_X6_9 rfl dX6_howMany_16 ?_
        refine g_aload_n F 0 rfl dX6_howMany_19 ?_
        refine g_get F 6 0 0 inX6 rfl rfl (by decide) tw_fl_X6_15 rfl dX6_howMany_20 ?_
        refine g_iload_n F 2 rfl dX6_howMany_23 ?_
        refine g_rVi F (wr := [ob p 6 [.ref m, .ref d, .ref w], ia E w 60 lo]) [.ref w] (c_X5_at E m a f k b i (fun i hi => (hb.2.1 i hi).1) (by omega) (by omega)) (gi_V tw_ml_X6_29 tw_im_X5_at tw_se_X5_at tw_in_X5 tw_co_X5_at) 1 rfl (by decide) ⟨rfl, rfl, by decide, by decide, Nat.zero_le _, Nat.zero_le _⟩ 5 0 rfl rfl [1, 2] [0, 3] [0, 2, 3, 1] rfl rfl (by decide) rfl rfl (Nat.le_of_ble_eq_true rfl) dX6_howMany_24 ?_
        refine g_iald F 3 rfl ((hb.2.1 i (by omega)).2) (by decide) dX6_howMany_27 ?_
        refine g_top (nI (lab (b i))) ((hl i (by omega)).1) ?_
        refine g_aload_n F 0 rfl dX6_howMany_28 ?_
        refine g_get F 6 0 0 inX6 rfl rfl (by decide) tw_fl_X6_15 rfl dX6_howMany_29 ?_
        refine g_iload_n F 2 rfl dX6_howMany_32 ?_
        refine g_rVi F (wr := [ob p 6 [.ref m, .ref d, .ref w], ia E w 60 lo]) [.int (nI (lab (b i)))] (c_X5_at E m a f k b i (fun i hi => (hb.2.1 i hi).1) (by omega) (by omega)) (gi_V tw_ml_X6_29 tw_im_X5_at tw_se_X5_at tw_in_X5 tw_co_X5_at) 1 rfl (by decide) ⟨rfl, rfl, by decide, by decide, Nat.zero_le _, Nat.zero_le _⟩ 5 0 rfl rfl [1, 2] [0, 3] [0, 2, 3, 1] rfl rfl (by decide) rfl rfl (Nat.le_of_ble_eq_true rfl) dX6_howMany_33 ?_
        refine n_icmp_ne F 42 dX6_howMany_36 (by decide) (by have := (hl i (by omega)).2; omega) (by have := (hb.2.1 i (by omega)).2; omega) (fun c_36 => ?_) (fun c_36 => ?_)
        · refine g_lv [0, 1, 2] [(0, .ref p), (1, .int (nI (sumB (fun t => if lab t = t then 1 else 0) b (i + 1)))), (2, .int (nI i))] (by rw [show sumB (fun t => if lab t = t then 1 else 0) b (i + 1) = sumB (fun t => if lab t = t then 1 else 0) b i from by simp [sumB, c_36]]; rfl) ?_
          refine g_iinc F (nI (i + 1)) 2 2 [(0, .ref p), (1, .int (nI (sumB (fun t => if lab t = t then 1 else 0) b (i + 1)))), (2, .int (nI (i + 1)))] [1, 2, 0] dX6_howMany_42 rfl (n_inc i) (by decide) rfl ?_
          refine g_goto F 4 dX6_howMany_45 (by decide) ?_
          exact ih_4 (i + 1) (by omega) (by omega)
        · refine g_iinc F (nI ((sumB (fun t => if lab t = t then 1 else 0) b i) + 1)) 1 1 [(0, .ref p), (1, .int (nI ((sumB (fun t => if lab t = t then 1 else 0) b i) + 1))), (2, .int (nI i))] [1, 0, 2] dX6_howMany_39 rfl (n_inc (sumB (fun t => if lab t = t then 1 else 0) b i)) (by decide) rfl ?_
          refine g_lv [0, 1, 2] [(0, .ref p), (1, .int (nI (sumB (fun t => if lab t = t then 1 else 0) b (i + 1)))), (2, .int (nI i))] (by rw [show sumB (fun t => if lab t = t then 1 else 0) b (i + 1) = sumB (fun t => if lab t = t then 1 else 0) b i + 1 from by simp [sumB, c_36]]; rfl) ?_
          refine g_iinc F (nI (i + 1)) 2 2 [(0, .ref p), (1, .int (nI (sumB (fun t => if lab t = t then 1 else 0) b (i + 1)))), (2, .int (nI (i + 1)))] [1, 2, 0] dX6_howMany_42 rfl (n_inc i) (by decide) rfl ?_
          refine g_goto F 4 dX6_howMany_45 (by decide) ?_
          exact ih_4 (i + 1) (by omega) (by omega)
  exact lp_4 _ 0 (by omega) (Nat.lt_succ_self _)
end
section
theorem pk_le2 {dd : Nat → Nat → Nat} {a b : Nat} (h : dd a b ≤ 100000) (ha : a < 60) (hb : b < 60) : pkN dd a b < 360003600 := by
  unfold pkN
  rcases nmin_cases a b with ⟨e1, e2, -⟩ | ⟨e1, e2, -⟩ <;> rw [e1, e2] <;> omega
theorem pk_comm {dd : Nat → Nat → Nat} {a b : Nat} (h : dd a b = dd b a) : pkN dd a b = pkN dd b a := by
  unfold pkN
  rw [h]
  rcases nmin_cases a b with ⟨e1, e2, q⟩ | ⟨e1, e2, q⟩ <;> rcases nmin_cases b a with ⟨f1, f2, p⟩ | ⟨f1, f2, p⟩ <;> rw [e1, e2, f1, f2] <;> omega
theorem pk_inj {dd : Nat → Nat → Nat} {a b c d : Nat} (ha : a < 60) (hb : b < 60) (hc : c < 60) (hd : d < 60) (h : pkN dd a b = pkN dd c d) : (a = c ∧ b = d) ∨ (a = d ∧ b = c) := by
  unfold pkN at h
  rcases nmin_cases a b with ⟨e1, e2, q⟩ | ⟨e1, e2, q⟩ <;> rcases nmin_cases c d with ⟨f1, f2, p⟩ | ⟨f1, f2, p⟩ <;> rw [e1, e2, f1, f2] at h <;> omega
/-- connected by pairs of keys below x -/
def CK (dd : Nat → Nat → Nat) (I : Nat → Bool) (x a b : Nat) : Prop := ∀ P : Nat → Prop, P a → (∀ u v, I u = true → I v = true → u ≠ v → P u → pkN dd u v < x → P v) → P b
/-- the key of a pair of the chain: its two aren't connected by lesser ones -/
def PE (dd : Nat → Nat → Nat) (I : Nat → Bool) (x : Nat) : Prop := ∃ a b, I a = true ∧ I b = true ∧ a < b ∧ x = pkN dd a b ∧ ¬ CK dd I x a b
def cH (nu : Nat → Nat) : Nat → Nat
  | 0 => 0
  | i + 1 => cH nu i + (if nu i = 2147483647 then 1 else 0)
theorem cH_eq {nu nv : Nat → Nat} : ∀ k, (∀ i, i < k → (nu i = 2147483647 ↔ nv i = 2147483647)) → cH nu k = cH nv k := by
  intro k
  induction k with
  | zero => intro _; rfl
  | succ k ih =>
    intro h
    have h1 := ih (fun i hi => h i (by omega))
    have h2 := h k (by omega)
    show cH nu k + _ = cH nv k + _
    rw [h1]
    by_cases c : nu k = 2147483647
    · rw [if_pos c, if_pos (h2.mp c)]
    · rw [if_neg c, if_neg (fun z => c (h2.mpr z))]
def mrk (nu : Nat → Nat) (w : Nat) : Nat → Nat := fun i => if i = w then 2147483647 else nu i
theorem cH_mrk {nu : Nat → Nat} {w : Nat} (hw : nu w ≠ 2147483647) : ∀ k, cH (mrk nu w) k = cH nu k + (if w < k then 1 else 0) := by
  intro k
  induction k with
  | zero => rfl
  | succ k ih =>
    show cH (mrk nu w) k + _ = cH nu k + _ + _
    rw [ih]
    unfold mrk
    by_cases c : k = w
    · subst c
      rw [if_neg (Nat.lt_irrefl k), if_pos rfl, if_pos rfl, if_neg hw, if_pos (by omega)]
    · rw [if_neg c]
      have e2 : (w < k + 1) = (w < k) := propext (by omega)
      simp only [e2]
      omega
theorem cH_full {nu : Nat → Nat} : ∀ k, (∀ i, i < k → nu i = 2147483647) → cH nu k = k := by
  intro k
  induction k with
  | zero => intro _; rfl
  | succ k ih =>
    intro h
    show cH nu k + _ = _
    rw [ih (fun i hi => h i (by omega)), if_pos (h k (by omega))]
theorem cH_loose {nu : Nat → Nat} {k : Nat} (h : cH nu k < k) : ∃ i, i < k ∧ nu i ≠ 2147483647 := by
  apply Classical.byContradiction
  intro z
  have : cH nu k = k := cH_full k (fun i hi => Classical.byContradiction (fun q => z ⟨i, hi, q⟩))
  omega
def rch (dd : Nat → Nat → Nat) (b nu : Nat → Nat) (w : Nat) : Nat → Nat := fun i => if nu i = 2147483647 then 2147483647 else Nat.min (nu i) (pkN dd (b w) (b i))
def PRI (dd : Nat → Nat → Nat) (I : Nat → Bool) (b : Nat → Nat) (k step nw : Nat) (nu ta : Nat → Nat) : Prop :=
  nw < k ∧ step ≤ k ∧ 1 ≤ step ∧ nu nw ≠ 2147483647 ∧ cH nu k + 1 = step ∧ (∀ i, i < k → nu i ≤ 2147483647) ∧
  (∀ i, i < k → nu i ≠ 2147483647 → i ≠ nw → (∀ j, j < k → nu j = 2147483647 → nu i ≤ pkN dd (b j) (b i)) ∧ (nu i = 2147483646 ∨ ∃ j, j < k ∧ nu j = 2147483647 ∧ nu i = pkN dd (b j) (b i))) ∧
  (∀ i, i + 1 < step → PE dd I (ta i) ∧ ∃ x y, x < k ∧ y < k ∧ (nu x = 2147483647 ∨ x = nw) ∧ (nu y = 2147483647 ∨ y = nw) ∧ ta i = pkN dd (b x) (b y))
theorem pri_0 {dd : Nat → Nat → Nat} {I : Nat → Bool} {b : Nat → Nat} {k : Nat} {ta : Nat → Nat} (hk : 0 < k) : PRI dd I b k 1 0 (fun _ => 2147483646) ta := by
  refine ⟨hk, hk, Nat.le_refl _, show 2147483646 ≠ 2147483647 by decide, ?_, fun _ _ => show 2147483646 ≤ 2147483647 by decide, fun i _ _ _ => ⟨fun j _ h => absurd h (show ¬ 2147483646 = 2147483647 by decide), Or.inl rfl⟩, fun i h => absurd h (by omega)⟩
  have : ∀ k, cH (fun _ => 2147483646) k = 0 := by
    intro k
    induction k with
    | zero => rfl
    | succ k ih => show cH _ k + _ = 0; rw [ih]; rfl
  rw [this]
theorem rch_hg {dd : Nat → Nat → Nat} {b nu : Nat → Nat} {w i : Nat} (hp : pkN dd (b w) (b i) < 360003600) : rch dd b nu w i = 2147483647 ↔ nu i = 2147483647 := by
  unfold rch
  by_cases c : nu i = 2147483647
  · rw [if_pos c]; exact ⟨fun _ => c, fun _ => rfl⟩
  · rw [if_neg c]
    have : Nat.min (nu i) (pkN dd (b w) (b i)) ≤ pkN dd (b w) (b i) := Nat.min_le_right _ _
    exact ⟨fun z => by omega, fun z => absurd z c⟩
/-- one step of the chain's growth -/
theorem pri_step {dd : Nat → Nat → Nat} {I : Nat → Bool} {f : Nat → Int32} {b : Nat → Nat} {k step nw s : Nat} {nu ta : Nat → Nat} (hb : MB f k b) (hI : BK b k I) (hd : ∀ i j, i < k → j < k → dd (b i) (b j) ≤ 100000) (hsy : ∀ x y, I x = true → I y = true → dd x y = dd y x) (h : PRI dd I b k step nw nu ta) (hlt : step < k) (hs : s < k) (hmin : ∀ j, j < k → rch dd b (mrk nu nw) nw s ≤ rch dd b (mrk nu nw) nw j) :
    rch dd b (mrk nu nw) nw s < 360003600 ∧ (∀ i, i + 1 < step → ta i ≠ rch dd b (mrk nu nw) nw s) ∧ ∀ ta2 : Nat → Nat, (∀ q, (∃ i, i < step ∧ ta2 i = q) ↔ (q = rch dd b (mrk nu nw) nw s ∨ ∃ i, i < step - 1 ∧ ta i = q)) → PRI dd I b k (step + 1) s (rch dd b (mrk nu nw) nw) ta2 := by
  obtain ⟨h1, h2, h3, h4, h5, h6, h7, h8⟩ := h
  have hpk : ∀ i j, i < k → j < k → pkN dd (b i) (b j) < 360003600 := fun i j hi hj => pk_le2 (hd i j hi hj) (hb.2.1 i hi).2 (hb.2.1 j hj).2
  have m1 : ∀ i, mrk nu nw i = 2147483647 ↔ (nu i = 2147483647 ∨ i = nw) := by
    intro i
    unfold mrk
    by_cases c : i = nw
    · rw [if_pos c]; exact ⟨fun _ => Or.inr c, fun _ => rfl⟩
    · rw [if_neg c]; exact ⟨Or.inl, fun z => z.resolve_right c⟩
  have hg : ∀ i, i < k → (rch dd b (mrk nu nw) nw i = 2147483647 ↔ (nu i = 2147483647 ∨ i = nw)) := fun i hi => (rch_hg (hpk nw i h1 hi)).trans (m1 i)
  have hc1 : cH (rch dd b (mrk nu nw) nw) k = step := by
    rw [cH_eq k (fun i hi => rch_hg (hpk nw i h1 hi)), cH_mrk h4, if_pos h1]
    exact h5
  -- values of the loose ones
  have hv : ∀ i, i < k → ¬ (nu i = 2147483647 ∨ i = nw) → rch dd b (mrk nu nw) nw i = Nat.min (nu i) (pkN dd (b nw) (b i)) := by
    intro i hi z
    unfold rch
    rw [if_neg (fun q => z ((m1 i).mp q))]
    unfold mrk
    rw [if_neg (fun q => z (Or.inr q))]
  have hle : ∀ i, i < k → ¬ (nu i = 2147483647 ∨ i = nw) → ∀ j, j < k → (nu j = 2147483647 ∨ j = nw) → rch dd b (mrk nu nw) nw i ≤ pkN dd (b j) (b i) := by
    intro i hi z j hj hjT
    rw [hv i hi z]
    rcases hjT with q | q
    · exact Nat.le_trans (Nat.min_le_left _ _) ((h7 i hi (fun y => z (Or.inl y)) (fun y => z (Or.inr y))).1 j hj q)
    · rw [q]; exact Nat.min_le_right _ _
  have hex : ∀ i, i < k → ¬ (nu i = 2147483647 ∨ i = nw) → ∃ j, j < k ∧ (nu j = 2147483647 ∨ j = nw) ∧ rch dd b (mrk nu nw) nw i = pkN dd (b j) (b i) := by
    intro i hi z
    rw [hv i hi z]
    have hp := hpk nw i h1 hi
    rcases nmin_cases (nu i) (pkN dd (b nw) (b i)) with ⟨e1, -, e3⟩ | ⟨e1, -, e3⟩
    · rcases (h7 i hi (fun y => z (Or.inl y)) (fun y => z (Or.inr y))).2 with q | ⟨j, q1, q2, q3⟩
      · omega
      · exact ⟨j, q1, Or.inl q2, by rw [e1, q3]⟩
    · exact ⟨nw, h1, Or.inr rfl, e1⟩
  obtain ⟨l, hl, hll⟩ := cH_loose (nu := rch dd b (mrk nu nw) nw) (k := k) (by omega)
  have hlT : ¬ (nu l = 2147483647 ∨ l = nw) := fun q => hll ((hg l hl).mpr q)
  have hs1 : rch dd b (mrk nu nw) nw s < 360003600 := by
    have a1 := hmin l hl
    have a2 := hle l hl hlT nw h1 (Or.inr rfl)
    have a3 := hpk nw l h1 hl
    omega
  have hsT : ¬ (nu s = 2147483647 ∨ s = nw) := fun q => by
    have := (hg s hs).mpr q
    omega
  obtain ⟨j0, hj0, hj0T, e0⟩ := hex s hs hsT
  have hne : b j0 ≠ b s := fun e => hsT (by rw [← mb_inj hb hj0 hs e]; exact hj0T)
  have hpe : PE dd I (rch dd b (mrk nu nw) nw s) := by
    have cut : ¬ CK dd I (rch dd b (mrk nu nw) nw s) (b j0) (b s) := by
      intro z
      have q := z (fun t => ∃ i, i < k ∧ (nu i = 2147483647 ∨ i = nw) ∧ b i = t) ⟨j0, hj0, hj0T, rfl⟩ (by
        intro u v hu hv huv hp hlt2
        obtain ⟨i, hi, hiT, rfl⟩ := hp
        obtain ⟨j, hj, rfl⟩ := (hI v).mp hv
        by_cases c : nu j = 2147483647 ∨ j = nw
        · exact ⟨j, hj, c, rfl⟩
        · have b1 := hle j hj c i hi hiT
          have b2 := hmin j hj
          omega)
      obtain ⟨i, hi, hiT, e⟩ := q
      exact hsT (by rw [← mb_inj hb hi hs e]; exact hiT)
    rcases Nat.lt_or_gt_of_ne hne with q | q
    · exact ⟨b j0, b s, hI.at hj0, hI.at hs, q, e0, cut⟩
    · refine ⟨b s, b j0, hI.at hs, hI.at hj0, q, e0.trans (pk_comm (hsy _ _ (hI.at hj0) (hI.at hs))), fun z => cut ?_⟩
      -- the relation is symmetric
      exact z (fun t => CK dd I (rch dd b (mrk nu nw) nw s) t (b s)) (fun P h0 _ => h0) (fun u v hu hv huv hp hlt2 P h0 hst => hp P (hst v u hv hu (Ne.symm huv) h0 (by rw [pk_comm (hsy v u hv hu)]; exact hlt2)) hst)
  refine ⟨hs1, fun i hi e => ?_, fun ta2 hta => ⟨hs, by omega, by omega, fun z => by omega, by omega, fun i hi => ?_, fun i hi hi2 hi3 => ?_, fun i hi => ?_⟩⟩
  · obtain ⟨-, x, y, hx, hy, hxT, hyT, e2⟩ := h8 i hi
    rw [e, e0] at e2
    rcases pk_inj (hb.2.1 _ hj0).2 (hb.2.1 _ hs).2 (hb.2.1 _ hx).2 (hb.2.1 _ hy).2 e2 with ⟨-, q⟩ | ⟨-, q⟩
    · exact hsT (by rw [mb_inj hb hs hy q]; exact hyT)
    · exact hsT (by rw [mb_inj hb hs hx q]; exact hxT)
  · by_cases c : nu i = 2147483647 ∨ i = nw
    · rw [(hg i hi).mpr c]; exact Nat.le_refl _
    · have a2 := hle i hi c nw h1 (Or.inr rfl)
      have a3 := hpk nw i h1 hi
      omega
  · have c : ¬ (nu i = 2147483647 ∨ i = nw) := fun q => hi2 ((hg i hi).mpr q)
    refine ⟨fun j hj hjT => hle i hi c j hj ((hg j hj).mp hjT), Or.inr ?_⟩
    obtain ⟨j, q1, q2, q3⟩ := hex i hi c
    exact ⟨j, q1, (hg j q1).mpr q2, q3⟩
  · rcases (hta (ta2 i)).mp ⟨i, by omega, rfl⟩ with q | ⟨j, hj, q⟩
    · rw [q]
      exact ⟨hpe, j0, s, hj0, hs, Or.inl ((hg j0 hj0).mpr hj0T), Or.inr rfl, e0⟩
    · rw [← q]
      obtain ⟨a1, x, y, hx, hy, hxT, hyT, e2⟩ := h8 j (by omega)
      exact ⟨a1, x, y, hx, hy, Or.inl ((hg x hx).mpr hxT), Or.inl ((hg y hy).mpr hyT), e2⟩

set_option maxHeartbeats 4000000 in
set_option maxRecDepth 100000 in
theorem c_X2_leastLoose (E : Ev) (c : Nat) (t : Nat) (w : Nat) (nl : Nat → Int32) (m : Nat) (a : Nat) (f : Nat → Int32) (k : Nat) (d : Nat) (b : Nat → Nat) (nu : Nat → Nat) (hb : MB f k b) (hk0 : 1 ≤ k) (hn : ∀ i, i < k → nl i = nI (nu i) ∧ nu i ≤ 2147483647) : CTi E yX2_leastLoose (wq yX2_leastLoose cX2_leastLoose 3 (some .int)) (rmk 1 20) [.ref c] [ob c 2 [.ref m, .ref d, .ref t, .ref w], ob m 5 [.ref a, .int (nI k)], ia E a 60 f, ia E w 60 nl] (fun (r : Int32) (u : Nat) => r = nI u ∧ u < k ∧ ∀ j, j < k → nu u ≤ nu j) (fun (u : Nat) => [ob c 2 [.ref m, .ref d, .ref t, .ref w], ob m 5 [.ref a, .int (nI k)], ia E a 60 f, ia E w 60 nl]) := by
  refine CTi.of (by decide) (Nat.le_of_ble_eq_true rfl) (fun X F R => ?_)
  refine g_lv [0] [(0, .ref c)] rfl ?_
  have hk := hb.1
  refine g_iconst F (nI 0) (by decide) dX2_leastLoose_0 ?_
  refine g_istore_n F 1 [(0, .ref c), (1, .int (nI 0))] [1, 0] dX2_leastLoose_1 rfl (by decide) rfl ?_
  refine g_iconst F (nI 1) (by decide) dX2_leastLoose_2 ?_
  refine g_istore_n F 2 [(0, .ref c), (1, .int (nI 0)), (2, .int (nI 1))] [1, 2, 0] dX2_leastLoose_3 rfl (by decide) rfl ?_
  have lp_4 : ∀ (n_4 : Nat) (i : Nat) (s : Nat), (1 ≤ i) → (i ≤ k) → (s < i) → (∀ j, j < i → nu s ≤ nu j) → k - i < n_4 → GW E X 0 0 [ob c 2 [.ref m, .ref d, .ref t, .ref w], ob m 5 [.ref a, .int (nI k)], ia E a 60 f, ia E w 60 nl] [(0, .ref c), (1, .int (nI s)), (2, .int (nI i))] 4 [] := by
    intro n_4
    induction n_4 with
    | zero => intro i s hi1 hi hs hm hm_4; exact absurd hm_4 (Nat.not_lt_zero _)
    | succ n_4 ih_4 =>
      intro i s hi1 hi hs hm hm_4
      refine g_iload_n F 2 rfl dX2_leastLoose_4 ?_
      refine g_aload_n F 0 rfl dX2_leastLoose_5 ?_
      refine g_get F 2 0 0 inX2 rfl rfl (by decide) tw_fl_X2_24 rfl dX2_leastLoose_6 ?_
      refine g_rVi F (wr := [ob c 2 [.ref m, .ref d, .ref t, .ref w], ia E w 60 nl]) [.int (nI i)] (c_X5_size E m a f k ) (gi_V tw_ml_X2_42 tw_im_X5_size tw_se_X5_size tw_in_X5 tw_co_X5_size) 0 rfl (by decide) ⟨rfl, rfl, by decide, by decide, Nat.zero_le _, Nat.zero_le _⟩ 5 0 rfl rfl [1, 2] [0, 3] [0, 2, 3, 1] rfl rfl (by decide) rfl rfl (Nat.le_of_ble_eq_true rfl) dX2_leastLoose_9 ?_
      refine n_icmp_ge F 38 dX2_leastLoose_12 (by decide) (by omega) (by omega) (fun c_12 => ?_) (fun c_12 => ?_)
      · refine g_iload_n F 1 rfl dX2_leastLoose_38 ?_
        exact R _ s _ _ dX2_leastLoose_39 (⟨rfl, by omega, fun j hj => hm j (by omega)⟩)
      · refine g_aload_n F 0 rfl dX2_leastLoose_15 ?_
        refine g_get F 2 0 3 inX2 rfl rfl (by decide) tw_fl_X2_20 rfl dX2_leastLoose_16 ?_
        refine g_iload_n F 2 rfl dX2_leastLoose_19 ?_
        refine g_iald F 3 rfl (by omega) (by decide) dX2_leastLoose_20 ?_
        refine g_top (nI (nu i)) ((hn i (by omega)).1) ?_
        refine g_aload_n F 0 rfl dX2_leastLoose_21 ?_
        refine g_get F 2 0 3 inX2 rfl rfl (by decide) tw_fl_X2_20 rfl dX2_leastLoose_22 ?_
        refine g_iload_n F 1 rfl dX2_leastLoose_25 ?_
        refine g_iald F 3 rfl (by omega) (by decide) dX2_leastLoose_26 ?_
        refine g_top (nI (nu s)) ((hn s (by omega)).1) ?_
        refine n_icmp_ge F 32 dX2_leastLoose_27 (by decide) (by have := (hn i (by omega)).2; omega) (by have := (hn s (by omega)).2; omega) (fun c_27 => ?_) (fun c_27 => ?_)
        · refine g_iinc F (nI (i + 1)) 2 2 [(0, .ref c), (1, .int (nI s)), (2, .int (nI (i + 1)))] [1, 2, 0] dX2_leastLoose_32 rfl (n_inc i) (by decide) rfl ?_
          refine g_goto F 4 dX2_leastLoose_35 (by decide) ?_
          exact ih_4 (i + 1) s (by omega) (by omega) (by omega) (lt_s hm c_27) (by omega)
        · refine g_iload_n F 2 rfl dX2_leastLoose_30 ?_
          refine g_istore_n F 1 [(0, .ref c), (1, .int (nI i)), (2, .int (nI i))] [1, 0, 2] dX2_leastLoose_31 rfl (by decide) rfl ?_
          refine g_iinc F (nI (i + 1)) 2 2 [(0, .ref c), (1, .int (nI i)), (2, .int (nI (i + 1)))] [1, 2, 0] dX2_leastLoose_32 rfl (n_inc i) (by decide) rfl ?_
          refine g_goto F 4 dX2_leastLoose_35 (by decide) ?_
          exact ih_4 (i + 1) i (by omega) (by omega) (by omega) (lt_s (fun j hj => by have := hm j hj; omega) (Nat.le_refl _)) (by omega)
  exact lp_4 _ 1 0 (by omega) (by omega) (by omega) (fun j hj => by rw [show j = 0 by omega]; exact Nat.le_refl _) (Nat.lt_succ_self _)

set_option maxHeartbeats 4000000 in
set_option maxRecDepth 100000 in
theorem c_X2_reachFrom (E : Ev) (c : Nat) (t : Nat) (w : Nat) (nl : Nat → Int32) (m : Nat) (a : Nat) (f : Nat → Int32) (k : Nat) (d : Nat) (ro : Nat) (tb : Nat) (ka : Nat) (kn : Nat → Int32) (kd : Nat) (b : Nat → Nat) (nu : Nat → Nat) (dd : Nat → Nat → Nat) (x : Nat) (hb : MB f k b) (hx : x < k) (hn : ∀ i, i < k → nl i = nI (nu i) ∧ nu i ≤ 2147483647) (hd : ∀ i j, i < k → j < k → kn (b i * 60 + b j) = nI (dd (b i) (b j)) ∧ dd (b i) (b j) ≤ 100000) : CTv E yX2_reachFrom (wq yX2_reachFrom cX2_reachFrom 4 none) (rmk 2 45) [.ref c, .int (nI x)] [ob c 2 [.ref m, .ref d, .ref t, .ref w], ob m 5 [.ref a, .int (nI k)], ia E a 60 f, ob d 3 [.ref ro, .ref tb, .ref ka, .int (nI kd)], ia E ka 3600 kn, ia E w 60 nl] (fun (u : (Nat → Int32)) => ∀ i, i < k → u i = nI (rch dd b nu x i)) (fun (u : (Nat → Int32)) => [ob c 2 [.ref m, .ref d, .ref t, .ref w], ob m 5 [.ref a, .int (nI k)], ia E a 60 f, ob d 3 [.ref ro, .ref tb, .ref ka, .int (nI kd)], ia E ka 3600 kn, ia E w 60 u]) := by
  refine CTv.of (by decide) (Nat.le_of_ble_eq_true rfl) (fun X F R => ?_)
  refine g_lv [0, 1] [(0, .ref c), (1, .int (nI x))] rfl ?_
  have hk := hb.1
  refine g_iconst F (nI 0) (by decide) dX2_reachFrom_0 ?_
  refine g_istore_n F 2 [(0, .ref c), (1, .int (nI x)), (2, .int (nI 0))] [1, 2, 0] dX2_reachFrom_1 rfl (by decide) rfl ?_
  have lp_2 : ∀ (n_2 : Nat) (i : Nat) (g : Nat → Int32), (i ≤ k) → (∀ j, j < i → g j = nI (rch dd b nu x j)) → (∀ j, i ≤ j → g j = nl j) → k - i < n_2 → GW E X 0 0 [ob c 2 [.ref m, .ref d, .ref t, .ref w], ob m 5 [.ref a, .int (nI k)], ia E a 60 f, ob d 3 [.ref ro, .ref tb, .ref ka, .int (nI kd)], ia E ka 3600 kn, ia E w 60 g] [(0, .ref c), (1, .int (nI x)), (2, .int (nI i))] 2 [] := by
    intro n_2
    induction n_2 with
    | zero => intro i g hi g1 g2 hm_2; exact absurd hm_2 (Nat.not_lt_zero _)
    | succ n_2 ih_2 =>
      intro i g hi g1 g2 hm_2
      refine g_iload_n F 2 rfl dX2_reachFrom_2 ?_
      refine g_aload_n F 0 rfl dX2_reachFrom_3 ?_
      refine g_get F 2 0 0 inX2 rfl rfl (by decide) tw_fl_X2_24 rfl dX2_reachFrom_4 ?_
      refine g_rVi F (wr := [ob c 2 [.ref m, .ref d, .ref t, .ref w], ob d 3 [.ref ro, .ref tb, .ref ka, .int (nI kd)], ia E ka 3600 kn, ia E w 60 g]) [.int (nI i)] (c_X5_size E m a f k ) (gi_V tw_ml_X2_42 tw_im_X5_size tw_se_X5_size tw_in_X5 tw_co_X5_size) 0 rfl (by decide) ⟨rfl, rfl, by decide, by decide, Nat.zero_le _, Nat.zero_le _⟩ 5 0 rfl rfl [1, 2] [0, 3, 4, 5] [0, 4, 5, 1, 2, 3] rfl rfl (by decide) rfl rfl (Nat.le_of_ble_eq_true rfl) dX2_reachFrom_7 ?_
      refine n_icmp_ge F 70 dX2_reachFrom_10 (by decide) (by omega) (by omega) (fun c_10 => ?_) (fun c_10 => ?_)
      · exact R g _ _ dX2_reachFrom_70 (fun j hj => g1 j (by omega))
      · refine g_aload_n F 0 rfl dX2_reachFrom_13 ?_
        refine g_get F 2 0 3 inX2 rfl rfl (by decide) tw_fl_X2_20 rfl dX2_reachFrom_14 ?_
        refine g_iload_n F 2 rfl dX2_reachFrom_17 ?_
        refine g_iald F 5 rfl (by omega) (by decide) dX2_reachFrom_18 ?_
        refine g_top (nI (nu i)) ((g2 i (Nat.le_refl _)).trans (hn i (by omega)).1) ?_
        refine g_ldc F tw_cn_X2_48 dX2_reachFrom_19 ?_
        refine g_top (nI 2147483647) (by decide) ?_
        refine n_icmp_eq F 64 dX2_reachFrom_21 (by decide) (by have := (hn i (by omega)).2; omega) (by decide) (fun c_21 => ?_) (fun c_21 => ?_)
        · refine g_iinc F (nI (i + 1)) 2 2 [(0, .ref c), (1, .int (nI x)), (2, .int (nI (i + 1)))] [1, 2, 0] dX2_reachFrom_64 rfl (n_inc i) (by decide) rfl ?_
          refine g_goto F 2 dX2_reachFrom_67 (by decide) ?_
          exact ih_2 (i + 1) g (by omega) (lt_s g1 (by rw [g2 i (Nat.le_refl _), (hn i (by omega)).1]; unfold rch; rw [if_pos c_21, c_21])) (fun j h => g2 j (by omega)) (by omega)
        · refine g_aload_n F 0 rfl dX2_reachFrom_24 ?_
          refine g_get F 2 0 1 inX2 rfl rfl (by decide) tw_fl_X2_28 rfl dX2_reachFrom_25 ?_
          refine g_aload_n F 0 rfl dX2_reachFrom_28 ?_
          refine g_get F 2 0 0 inX2 rfl rfl (by decide) tw_fl_X2_24 rfl dX2_reachFrom_29 ?_
          refine g_iload_n F 1 rfl dX2_reachFrom_32 ?_
          refine g_rVi F (wr := [ob c 2 [.ref m, .ref d, .ref t, .ref w], ob d 3 [.ref ro, .ref tb, .ref ka, .int (nI kd)], ia E ka 3600 kn, ia E w 60 g]) [.ref d] (c_X5_at E m a f k b x (fun i hi => (hb.2.1 i hi).1) (by omega) (by omega)) (gi_V tw_ml_X2_59 tw_im_X5_at tw_se_X5_at tw_in_X5 tw_co_X5_at) 1 rfl (by decide) ⟨rfl, rfl, by decide, by decide, Nat.zero_le _, Nat.zero_le _⟩ 5 0 rfl rfl [1, 2] [0, 3, 4, 5] [0, 4, 5, 1, 2, 3] rfl rfl (by decide) rfl rfl (Nat.le_of_ble_eq_true rfl) dX2_reachFrom_33 ?_
          refine g_aload_n F 0 rfl dX2_reachFrom_36 ?_
          refine g_get F 2 0 0 inX2 rfl rfl (by decide) tw_fl_X2_24 rfl dX2_reachFrom_37 ?_
          refine g_iload_n F 2 rfl dX2_reachFrom_40 ?_
          refine g_rVi F (wr := [ob c 2 [.ref m, .ref d, .ref t, .ref w], ob d 3 [.ref ro, .ref tb, .ref ka, .int (nI kd)], ia E ka 3600 kn, ia E w 60 g]) [.int (nI (b x)), .ref d] (c_X5_at E m a f k b i (fun i hi => (hb.2.1 i hi).1) (by omega) (by omega)) (gi_V tw_ml_X2_59 tw_im_X5_at tw_se_X5_at tw_in_X5 tw_co_X5_at) 1 rfl (by decide) ⟨rfl, rfl, by decide, by decide, Nat.zero_le _, Nat.zero_le _⟩ 5 0 rfl rfl [1, 2] [0, 3, 4, 5] [0, 4, 5, 1, 2, 3] rfl rfl (by decide) rfl rfl (Nat.le_of_ble_eq_true rfl) dX2_reachFrom_41 ?_
          refine g_rVi F (wr := [ob c 2 [.ref m, .ref d, .ref t, .ref w], ob m 5 [.ref a, .int (nI k)], ia E a 60 f, ia E w 60 g]) [] (c_X3_pairKey E d ro tb ka kn kd dd (b x) (b i) ((hb.2.1 x (by omega)).2) ((hb.2.1 i (by omega)).2) ((hd x i (by omega) (by omega)).1)) (gi_V tw_ml_X2_63 tw_im_X3_pairKey tw_se_X3_pairKey tw_in_X3 tw_co_X3_pairKey) 2 rfl (by decide) ⟨rfl, rfl, by decide, by decide, Nat.zero_le _, Nat.zero_le _⟩ 3 0 rfl rfl [3, 4] [0, 1, 2, 5] [0, 1, 2, 4, 5, 3] rfl rfl (by decide) rfl rfl (Nat.le_of_ble_eq_true rfl) dX2_reachFrom_44 ?_
          refine g_istore_n F 3 [(0, .ref c), (1, .int (nI x)), (2, .int (nI i)), (3, .int (nI (pkN dd (b x) (b i))))] [1, 2, 3, 0] dX2_reachFrom_47 rfl (by decide) rfl ?_
          refine g_aload_n F 0 rfl dX2_reachFrom_48 ?_
          refine g_get F 2 0 3 inX2 rfl rfl (by decide) tw_fl_X2_20 rfl dX2_reachFrom_49 ?_
          refine g_iload_n F 2 rfl dX2_reachFrom_52 ?_
          refine g_aload_n F 0 rfl dX2_reachFrom_53 ?_
          refine g_get F 2 0 3 inX2 rfl rfl (by decide) tw_fl_X2_20 rfl dX2_reachFrom_54 ?_
          refine g_iload_n F 2 rfl dX2_reachFrom_57 ?_
          refine g_iald F 5 rfl (by omega) (by decide) dX2_reachFrom_58 ?_
          refine g_top (nI (nu i)) ((g2 i (Nat.le_refl _)).trans (hn i (by omega)).1) ?_
          refine g_iload_n F 3 rfl dX2_reachFrom_59 ?_
          refine g_mmin F tw_ml_X2_69 (by decide) (Nat.le_of_ble_eq_true rfl) (Nat.zero_le _) (Nat.zero_le _) dX2_reachFrom_60 ?_
          refine g_top _ (n_min (nu i) (pkN dd (b x) (b i)) (by have := (hn i (by omega)).2; omega) (by have := pk_le2 (hd x i (by omega) (by omega)).2 (hb.2.1 x (by omega)).2 (hb.2.1 i (by omega)).2; omega)) ?_
          refine g_iast F 5 [ob c 2 [.ref m, .ref d, .ref t, .ref w], ob m 5 [.ref a, .int (nI k)], ia E a 60 f, ob d 3 [.ref ro, .ref tb, .ref ka, .int (nI kd)], ia E ka 3600 kn, ia E w 60 (upd g i (nI (Nat.min (nu i) (pkN dd (b x) (b i)))))] rfl (by omega) (by decide) rfl dX2_reachFrom_63 ?_
          refine g_iinc F (nI (i + 1)) 2 2 [(0, .ref c), (1, .int (nI x)), (2, .int (nI (i + 1))), (3, .int (nI (pkN dd (b x) (b i))))] [1, 2, 0, 3] dX2_reachFrom_64 rfl (n_inc i) (by decide) rfl ?_
          refine g_goto F 2 dX2_reachFrom_67 (by decide) ?_
          refine g_lv [0, 1, 2] [(0, .ref c), (1, .int (nI x)), (2, .int (nI (i + 1)))] rfl ?_
          exact ih_2 (i + 1) (upd g i (nI (Nat.min (nu i) (pkN dd (b x) (b i))))) (by omega) (lt_s (fun j hj => (pk_un (by omega)).trans (g1 j hj)) (by rw [pk_us]; unfold rch; rw [if_neg c_21])) (fun j h => (pk_un (by omega)).trans (g2 j (by omega))) (by omega)
  exact lp_2 _ 0 nl (by omega) (fun j h => absurd h (Nat.not_lt_zero j)) (fun _ _ => rfl) (Nat.lt_succ_self _)

set_option maxHeartbeats 4000000 in
set_option maxRecDepth 100000 in
theorem c_X2_hangTogether (E : Ev) (c : Nat) (t : Nat) (w : Nat) (nl : Nat → Int32) (m : Nat) (a : Nat) (f : Nat → Int32) (k : Nat) (d : Nat) (ro : Nat) (tb : Nat) (ka : Nat) (kn : Nat → Int32) (kd : Nat) (ta : Nat) (tf : Nat → Int32) (tk : Int32) (b : Nat → Nat) (I : Nat → Bool) (dd : Nat → Nat → Nat) (hb : MB f k b) (hI : BK b k I) (hd : ∀ i j, i < k → j < k → kn (b i * 60 + b j) = nI (dd (b i) (b j)) ∧ dd (b i) (b j) ≤ 100000) (hsy : ∀ x y, I x = true → I y = true → dd x y = dd y x) : CTr E yX2_hangTogether (wq yX2_hangTogether cX2_hangTogether 3 (some (.object "NearBook$Keys"))) (rmk 3 68) [.ref c] [ob c 2 [.ref m, .ref d, .ref t, .ref w], ob m 5 [.ref a, .int (nI k)], ia E a 60 f, ob d 3 [.ref ro, .ref tb, .ref ka, .int (nI kd)], ia E ka 3600 kn, ob t 4 [.ref ta, .int tk], ia E ta 60 tf, ia E w 60 nl] t (fun (u : (Nat → Int32) × (Nat → Int32)) => ∃ to, SQ 360003600 u.2 (k - 1) to ∧ ∀ i, i + 1 < k → PE dd I (to i)) (fun (u : (Nat → Int32) × (Nat → Int32)) => [ob c 2 [.ref m, .ref d, .ref t, .ref w], ob m 5 [.ref a, .int (nI k)], ia E a 60 f, ob d 3 [.ref ro, .ref tb, .ref ka, .int (nI kd)], ia E ka 3600 kn, ob t 4 [.ref ta, .int (nI (k - 1))], ia E ta 60 u.2, ia E w 60 u.1]) := by
  refine CTr.of (by decide) (Nat.le_of_ble_eq_true rfl) (fun X F R => ?_)
  refine g_lv [0] [(0, .ref c)] rfl ?_
  have hk := hb.1
  refine g_aload_n F 0 rfl dX2_hangTogether_0 ?_
  refine g_get F 2 0 2 inX2 rfl rfl (by decide) tw_fl_X2_14 rfl dX2_hangTogether_1 ?_
  refine g_cVv F (wr := [ob c 2 [.ref m, .ref d, .ref t, .ref w], ob m 5 [.ref a, .int (nI k)], ia E a 60 f, ob d 3 [.ref ro, .ref tb, .ref ka, .int (nI kd)], ia E ka 3600 kn, ia E w 60 nl]) [] (c_X4_clear E t ta tf tk ) (gi_V tw_ml_X2_32 tw_im_X4_clear tw_se_X4_clear tw_in_X4 tw_co_X4_clear) 0 rfl (by decide) ⟨rfl, rfl, by decide, by decide, Nat.zero_le _, Nat.zero_le _⟩ 4 0 rfl rfl [5, 6] [0, 1, 2, 3, 4, 7] [0, 1, 2, 3, 4, 6, 7, 5] (fun u => [ob c 2 [.ref m, .ref d, .ref t, .ref w], ob m 5 [.ref a, .int (nI k)], ia E a 60 f, ob d 3 [.ref ro, .ref tb, .ref ka, .int (nI kd)], ia E ka 3600 kn, ob t 4 [.ref ta, .int (nI 0)], ia E ta 60 tf, ia E w 60 nl]) rfl rfl (by decide) (fun _ => rfl) rfl (Nat.le_of_ble_eq_true rfl) dX2_hangTogether_4 (fun u hu_4 => ?_)
  refine g_aload_n F 0 rfl dX2_hangTogether_7 ?_
  refine g_get F 2 0 3 inX2 rfl rfl (by decide) tw_fl_X2_20 rfl dX2_hangTogether_8 ?_
  refine g_ldc F tw_cn_X2_35 dX2_hangTogether_11 ?_
  refine g_top (nI 2147483646) (by decide) ?_
  refine g_cSv F (wr := [ob c 2 [.ref m, .ref d, .ref t, .ref w], ob m 5 [.ref a, .int (nI k)], ia E a 60 f, ob d 3 [.ref ro, .ref tb, .ref ka, .int (nI kd)], ia E ka 3600 kn, ob t 4 [.ref ta, .int (nI 0)], ia E ta 60 tf]) [] (c_J7_fill_53178 E w 60 nl (nI 2147483646) (by decide)) ⟨tw_ml_X2_36, tw_sm_J7_fill_53178, tw_in_J7, tw_co_J7_fill_53178⟩ 2 rfl (by decide) ⟨rfl, rfl, by decide, by decide, Nat.zero_le _, Nat.zero_le _⟩ [7] [0, 1, 2, 3, 4, 5, 6] [0, 1, 2, 3, 4, 5, 6, 7] (fun u => [ob c 2 [.ref m, .ref d, .ref t, .ref w], ob m 5 [.ref a, .int (nI k)], ia E a 60 f, ob d 3 [.ref ro, .ref tb, .ref ka, .int (nI kd)], ia E ka 3600 kn, ob t 4 [.ref ta, .int (nI 0)], ia E ta 60 tf, ia E w 60 (fl nl 60 (nI 2147483646))]) rfl rfl (by decide) (fun _ => rfl) rfl (Nat.le_of_ble_eq_true rfl) dX2_hangTogether_13 (fun u hu_13 => ?_)
  refine g_iconst F (nI 0) (by decide) dX2_hangTogether_16 ?_
  refine g_istore_n F 1 [(0, .ref c), (1, .int (nI 0))] [1, 0] dX2_hangTogether_17 rfl (by decide) rfl ?_
  refine g_iconst F (nI 1) (by decide) dX2_hangTogether_18 ?_
  refine g_istore_n F 2 [(0, .ref c), (1, .int (nI 0)), (2, .int (nI 1))] [1, 2, 0] dX2_hangTogether_19 rfl (by decide) rfl ?_
  have lp_20 : ∀ (n_20 : Nat) (st : Nat) (nw : Nat) (g : Nat → Int32) (tg : Nat → Int32) (nu : Nat → Nat) (to : Nat → Nat), (1 ≤ st) → (st ≤ k ∨ k = 0 ∧ st = 1) → (k = 0 ∧ st = 1 ∨ PRI dd I b k st nw nu to) → (∀ i, i < k → g i = nI (nu i) ∧ nu i ≤ 2147483647) → (SQ 360003600 tg (st - 1) to) → k + 1 - st < n_20 → GW E X 0 0 [ob c 2 [.ref m, .ref d, .ref t, .ref w], ob m 5 [.ref a, .int (nI k)], ia E a 60 f, ob d 3 [.ref ro, .ref tb, .ref ka, .int (nI kd)], ia E ka 3600 kn, ob t 4 [.ref ta, .int (nI (st - 1))], ia E ta 60 tg, ia E w 60 g] [(0, .ref c), (1, .int (nI nw)), (2, .int (nI st))] 20 [] := by
    intro n_20
    induction n_20 with
    | zero => intro st nw g tg nu to h1 h2 hpri hn hsq hm_20; exact absurd hm_20 (Nat.not_lt_zero _)
    | succ n_20 ih_20 =>
      intro st nw g tg nu to h1 h2 hpri hn hsq hm_20
      refine g_iload_n F 2 rfl dX2_hangTogether_20 ?_
      refine g_aload_n F 0 rfl dX2_hangTogether_21 ?_
      refine g_get F 2 0 0 inX2 rfl rfl (by decide) tw_fl_X2_24 rfl dX2_hangTogether_22 ?_
      refine g_rVi F (wr := [ob c 2 [.ref m, .ref d, .ref t, .ref w], ob d 3 [.ref ro, .ref tb, .ref ka, .int (nI kd)], ia E ka 3600 kn, ob t 4 [.ref ta, .int (nI (st - 1))], ia E ta 60 tg, ia E w 60 g]) [.int (nI st)] (c_X5_size E m a f k ) (gi_V tw_ml_X2_42 tw_im_X5_size tw_se_X5_size tw_in_X5 tw_co_X5_size) 0 rfl (by decide) ⟨rfl, rfl, by decide, by decide, Nat.zero_le _, Nat.zero_le _⟩ 5 0 rfl rfl [1, 2] [0, 3, 4, 5, 6, 7] [0, 6, 7, 1, 2, 3, 4, 5] rfl rfl (by decide) rfl rfl (Nat.le_of_ble_eq_true rfl) dX2_hangTogether_25 ?_
      refine n_icmp_ge F 68 dX2_hangTogether_28 (by decide) (by omega) (by omega) (fun c_28 => ?_) (fun c_28 => ?_)
      · refine g_ws [ob c 2 [.ref m, .ref d, .ref t, .ref w], ob m 5 [.ref a, .int (nI k)], ia E a 60 f, ob d 3 [.ref ro, .ref tb, .ref ka, .int (nI kd)], ia E ka 3600 kn, ob t 4 [.ref ta, .int (nI (k - 1))], ia E ta 60 tg, ia E w 60 g] (by rw [show k - 1 = st - 1 by omega]) ?_
        refine g_aload_n F 0 rfl dX2_hangTogether_68 ?_
        refine g_get F 2 0 2 inX2 rfl rfl (by decide) tw_fl_X2_14 rfl dX2_hangTogether_69 ?_
        exact R ((g, tg)) _ _ dX2_hangTogether_72 (by (try dsimp only); exact (⟨to, by rw [show k - 1 = st - 1 by omega]; exact hsq, fun i hi => by
      rcases hpri with q | q
      · omega
      · exact (q.2.2.2.2.2.2.2 i (by omega)).1⟩))
      · have hpr := hpri.resolve_left (by omega)
        refine g_aload_n F 0 rfl dX2_hangTogether_31 ?_
        refine g_get F 2 0 3 inX2 rfl rfl (by decide) tw_fl_X2_20 rfl dX2_hangTogether_32 ?_
        refine g_iload_n F 1 rfl dX2_hangTogether_35 ?_
        refine g_ldc F tw_cn_X2_48 dX2_hangTogether_36 ?_
        refine g_top (nI 2147483647) (by decide) ?_
        refine g_iast F 7 [ob c 2 [.ref m, .ref d, .ref t, .ref w], ob m 5 [.ref a, .int (nI k)], ia E a 60 f, ob d 3 [.ref ro, .ref tb, .ref ka, .int (nI kd)], ia E ka 3600 kn, ob t 4 [.ref ta, .int (nI (st - 1))], ia E ta 60 tg, ia E w 60 (upd g nw (nI 2147483647))] rfl (by have := hpr.1; omega) (by decide) rfl dX2_hangTogether_38 ?_
        refine g_aload_n F 0 rfl dX2_hangTogether_39 ?_
        refine g_iload_n F 1 rfl dX2_hangTogether_40 ?_
        refine g_cVv F (wr := [ob t 4 [.ref ta, .int (nI (st - 1))], ia E ta 60 tg]) [] (c_X2_reachFrom E c t w (upd g nw (nI 2147483647)) m a f k d ro tb ka kn kd b (mrk nu nw) dd nw (hb) (hpr.1) (fun i hi => by
          have := hn i hi
          unfold mrk upd
          split
          · exact ⟨rfl, Nat.le_refl _⟩
          · exact this) (hd)) (gi_V tw_ml_X2_49 tw_im_X2_reachFrom tw_se_X2_reachFrom tw_in_X2 tw_co_X2_reachFrom) 1 rfl (by decide) ⟨rfl, rfl, by decide, by decide, Nat.zero_le _, Nat.zero_le _⟩ 2 0 rfl rfl [0, 1, 2, 3, 4, 7] [5, 6] [2, 3, 4, 5, 6, 0, 1, 7] (fun u => [ob c 2 [.ref m, .ref d, .ref t, .ref w], ob m 5 [.ref a, .int (nI k)], ia E a 60 f, ob d 3 [.ref ro, .ref tb, .ref ka, .int (nI kd)], ia E ka 3600 kn, ob t 4 [.ref ta, .int (nI (st - 1))], ia E ta 60 tg, ia E w 60 u]) rfl rfl (by decide) (fun _ => rfl) rfl (Nat.le_of_ble_eq_true rfl) dX2_hangTogether_41 (fun u hu_41 => ?_)
        revert hu_41; revert u; intro nl2_41 hu_41
        refine g_aload_n F 0 rfl dX2_hangTogether_44 ?_
        refine g_cVi F (wr := [ob d 3 [.ref ro, .ref tb, .ref ka, .int (nI kd)], ia E ka 3600 kn, ob t 4 [.ref ta, .int (nI (st - 1))], ia E ta 60 tg]) [] (c_X2_leastLoose E c t w nl2_41 m a f k d b (rch dd b (mrk nu nw) nw) (hb) (by omega) (fun i hi => ⟨hu_41 i hi, by
          unfold rch
          split
          · exact Nat.le_refl _
          · have h9 : Nat.min (mrk nu nw i) (pkN dd (b nw) (b i)) ≤ pkN dd (b nw) (b i) := Nat.min_le_right _ _
            have := pk_le2 (hd nw i hpr.1 hi).2 (hb.2.1 nw hpr.1).2 (hb.2.1 i hi).2
            omega⟩)) (gi_V tw_ml_X2_53 tw_im_X2_leastLoose tw_se_X2_leastLoose tw_in_X2 tw_co_X2_leastLoose) 0 rfl (by decide) ⟨rfl, rfl, by decide, by decide, Nat.zero_le _, Nat.zero_le _⟩ 2 0 rfl rfl [0, 1, 2, 7] [3, 4, 5, 6] [4, 5, 6, 0, 1, 2, 3, 7] (fun u => [ob c 2 [.ref m, .ref d, .ref t, .ref w], ob m 5 [.ref a, .int (nI k)], ia E a 60 f, ob d 3 [.ref ro, .ref tb, .ref ka, .int (nI kd)], ia E ka 3600 kn, ob t 4 [.ref ta, .int (nI (st - 1))], ia E ta 60 tg, ia E w 60 nl2_41]) rfl rfl (by decide) (fun _ => rfl) rfl (Nat.le_of_ble_eq_true rfl) dX2_hangTogether_45 (fun r_45 u hu_45 => ?_)
        revert hu_45; revert u; intro s_45 hu_45
        obtain ⟨rfl, hs2, hs3⟩ := hu_45
        refine g_istore_n F 1 [(0, .ref c), (1, .int (nI s_45)), (2, .int (nI st))] [1, 0, 2] dX2_hangTogether_48 rfl (by decide) rfl ?_
        refine g_aload_n F 0 rfl dX2_hangTogether_49 ?_
        refine g_get F 2 0 2 inX2 rfl rfl (by decide) tw_fl_X2_14 rfl dX2_hangTogether_50 ?_
        refine g_aload_n F 0 rfl dX2_hangTogether_53 ?_
        refine g_get F 2 0 3 inX2 rfl rfl (by decide) tw_fl_X2_20 rfl dX2_hangTogether_54 ?_
        refine g_iload_n F 1 rfl dX2_hangTogether_57 ?_
        refine g_iald F 7 rfl (by omega) (by decide) dX2_hangTogether_58 ?_
        refine g_top (nI (rch dd b (mrk nu nw) nw s_45)) (hu_41 s_45 hs2) ?_
        have hstep := pri_step hb hI (fun i j hi hj => (hd i j hi hj).2) hsy hpr c_28 hs2 hs3
        refine g_cVv F (wr := [ob c 2 [.ref m, .ref d, .ref t, .ref w], ob m 5 [.ref a, .int (nI k)], ia E a 60 f, ob d 3 [.ref ro, .ref tb, .ref ka, .int (nI kd)], ia E ka 3600 kn, ia E w 60 nl2_41]) [] (c_X4_insert E t ta tg (st - 1) 360003600 to (rch dd b (mrk nu nw) nw s_45) (by decide) (by omega) (hsq) (fun i hi => hstep.2.1 i (by omega)) (hstep.1)) (gi_V tw_ml_X2_56 tw_im_X4_insert tw_se_X4_insert tw_in_X4 tw_co_X4_insert) 1 rfl (by decide) ⟨rfl, rfl, by decide, by decide, Nat.zero_le _, Nat.zero_le _⟩ 4 0 rfl rfl [5, 6] [0, 1, 2, 3, 4, 7] [0, 1, 2, 3, 4, 6, 7, 5] (fun u => [ob c 2 [.ref m, .ref d, .ref t, .ref w], ob m 5 [.ref a, .int (nI k)], ia E a 60 f, ob d 3 [.ref ro, .ref tb, .ref ka, .int (nI kd)], ia E ka 3600 kn, ob t 4 [.ref ta, .int (nI ((st - 1) + 1))], ia E ta 60 u, ia E w 60 nl2_41]) rfl rfl (by decide) (fun _ => rfl) rfl (Nat.le_of_ble_eq_true rfl) dX2_hangTogether_59 (fun u hu_59 => ?_)
        revert hu_59; revert u; intro f2_59 hu_59
        obtain ⟨to2, hsq2, hset⟩ := hu_59
        refine g_iinc F (nI (st + 1)) 2 2 [(0, .ref c), (1, .int (nI s_45)), (2, .int (nI (st + 1)))] [1, 2, 0] dX2_hangTogether_62 rfl (n_inc st) (by decide) rfl ?_
        refine g_goto F 20 dX2_hangTogether_65 (by decide) ?_
        refine g_ws [ob c 2 [.ref m, .ref d, .ref t, .ref w], ob m 5 [.ref a, .int (nI k)], ia E a 60 f, ob d 3 [.ref ro, .ref tb, .ref ka, .int (nI kd)], ia E ka 3600 kn, ob t 4 [.ref ta, .int (nI (st + 1 - 1))], ia E ta 60 f2_59, ia E w 60 nl2_41] (by rw [show st - 1 + 1 = st + 1 - 1 by omega]) ?_
        exact ih_20 (st + 1) s_45 nl2_41 f2_59 (rch dd b (mrk nu nw) nw) to2 (by omega) (by omega) (Or.inr (hstep.2.2 to2 (fun q => by rw [← hset q, show st - 1 + 1 = st by omega]))) (fun i hi => ⟨hu_41 i hi, by
          have hq := hstep.2.2 to2 (fun q => by rw [← hset q, show st - 1 + 1 = st by omega])
          exact hq.2.2.2.2.2.1 i hi⟩) (by rw [show st + 1 - 1 = st - 1 + 1 by omega]; exact hsq2) (by omega)
  refine g_ws [ob c 2 [.ref m, .ref d, .ref t, .ref w], ob m 5 [.ref a, .int (nI k)], ia E a 60 f, ob d 3 [.ref ro, .ref tb, .ref ka, .int (nI kd)], ia E ka 3600 kn, ob t 4 [.ref ta, .int (nI (1 - 1))], ia E ta 60 tf, ia E w 60 (fl nl 60 (nI 2147483646))] rfl ?_
  exact lp_20 _ 1 0 (fl nl 60 (nI 2147483646)) tf (fun _ => 2147483646) (fun _ => 0) (by omega) (by omega) ((Nat.eq_zero_or_pos k).elim (fun q => Or.inl ⟨q, rfl⟩) (fun q => Or.inr (pri_0 q))) (fun i hi => ⟨fl_at (by omega), by decide⟩) (⟨by omega, fun i hi => absurd hi (by omega), fun i j _ hj => absurd hj (by omega)⟩) (Nat.lt_succ_self _)
end
section
/-- how far x is from the nearest of the first c of t -/
def md (dd : Nat → Nat → Nat) (t : Nat → Nat) : Nat → Nat → Nat
  | 0, _ => 100000
  | c + 1, x => Nat.min (md dd t c x) (dd (t c) x)
theorem md_congr {dd : Nat → Nat → Nat} {t t2 : Nat → Nat} : ∀ {c : Nat} (x : Nat), (∀ j, j < c → t j = t2 j) → md dd t c x = md dd t2 c x := by
  intro c
  induction c with
  | zero => intro x _; rfl
  | succ c ih =>
    intro x h
    show Nat.min _ _ = Nat.min _ _
    rw [ih x (fun j hj => h j (by omega)), h c (by omega)]
theorem md_le (dd : Nat → Nat → Nat) (t : Nat → Nat) : ∀ (c x : Nat), md dd t c x ≤ 100000 := by
  intro c
  induction c with
  | zero => intro x; exact Nat.le_refl _
  | succ c ih => intro x; exact Nat.le_trans (Nat.min_le_left _ _) (ih x)
theorem md_at {dd : Nat → Nat → Nat} {t : Nat → Nat} : ∀ {c j x : Nat}, j < c → md dd t c x ≤ dd (t j) x := by
  intro c
  induction c with
  | zero => intro j x h; exact absurd h (Nat.not_lt_zero j)
  | succ c ih =>
    intro j x h
    rcases Nat.lt_or_ge j c with q | q
    · exact Nat.le_trans (Nat.min_le_left _ _) (ih q)
    · rw [show j = c by omega]; exact Nat.min_le_right _ _
/-- centres, farthest first: t the things, g how far they were when taken -/
def CE (dd : Nat → Nat → Nat) (I : Nat → Bool) (t g : Nat → Nat) (c : Nat) : Prop := ∀ i, i < c → I (t i) = true ∧ (∀ j, j < i → t j ≠ t i) ∧ (i = 0 → g i = 0 ∧ ∀ x, I x = true → t i ≤ x) ∧ (0 < i → g i = md dd t i (t i) ∧ ∀ x, I x = true → (∀ j, j < i → t j ≠ x) → md dd t i x < g i ∨ (md dd t i x = g i ∧ t i ≤ x))
def RAD (dd : Nat → Nat → Nat) (I : Nat → Bool) (t : Nat → Nat) (c ro : Nat) : Prop := (∀ x, I x = true → md dd t c x ≤ ro) ∧ ∃ x, I x = true ∧ md dd t c x = ro
def cT (tk : Nat → Bool) : Nat → Nat
  | 0 => 0
  | i + 1 => cT tk i + (if tk i = true then 1 else 0)
def setB (tk : Nat → Bool) (w : Nat) : Nat → Bool := fun i => if i = w then true else tk i
def setN (t : Nat → Nat) (w x : Nat) : Nat → Nat := fun i => if i = w then x else t i
theorem setN_s (t : Nat → Nat) (w x : Nat) : setN t w x w = x := by simp [setN]
theorem setN_n {t : Nat → Nat} {w x j : Nat} (h : j ≠ w) : setN t w x j = t j := by simp [setN, h]
theorem cT_set {tk : Nat → Bool} {w : Nat} (hw : tk w = false) : ∀ k, cT (setB tk w) k = cT tk k + (if w < k then 1 else 0) := by
  intro k
  induction k with
  | zero => rfl
  | succ k ih =>
    show cT (setB tk w) k + _ = cT tk k + _ + _
    rw [ih]
    unfold setB
    by_cases c : k = w
    · subst c
      simp [hw]
    · simp only [c, if_false]
      have e2 : (w < k + 1) = (w < k) := propext (by omega)
      simp only [e2]
      omega
theorem cT_full {tk : Nat → Bool} : ∀ k, (∀ i, i < k → tk i = true) → cT tk k = k := by
  intro k
  induction k with
  | zero => intro _; rfl
  | succ k ih =>
    intro h
    show cT tk k + _ = _
    rw [ih (fun i hi => h i (by omega)), if_pos (h k (by omega))]
theorem cT_none {tk : Nat → Bool} : ∀ k, cT tk k = k → ∀ i, i < k → tk i = true := by
  have hle : ∀ k, cT tk k ≤ k := by
    intro k
    induction k with
    | zero => exact Nat.le_refl _
    | succ k ih => show cT tk k + _ ≤ _; split <;> omega
  intro k
  induction k with
  | zero => intro _ i hi; exact absurd hi (Nat.not_lt_zero i)
  | succ k ih =>
    intro h i hi
    have h1 : cT tk k + (if tk k = true then 1 else 0) = k + 1 := h
    have h2 := hle k
    by_cases c : tk k = true
    · rw [if_pos c] at h1
      rcases Nat.lt_or_ge i k with q | q
      · exact ih (by omega) i q
      · rw [show i = k by omega]; exact c
    · rw [if_neg c] at h1; omega
theorem cT_loose {tk : Nat → Bool} {k : Nat} (h : cT tk k < k) : ∃ i, i < k ∧ tk i = false := by
  apply Classical.byContradiction
  intro z
  have : cT tk k = k := cT_full k (fun i hi => by
    cases h : tk i with
    | true => rfl
    | false => exact absurd ⟨i, hi, h⟩ z)
  omega
def GP (gp : Nat → Int32) (k : Nat) (tk : Nat → Bool) (ga : Nat → Nat) : Prop := ∀ i, i < k → gp i = (if tk i = true then -1 else nI (ga i)) ∧ ga i ≤ 100000
def CEI (dd : Nat → Nat → Nat) (I : Nat → Bool) (b : Nat → Nat) (k i nx gap : Nat) (t g : Nat → Nat) (tk : Nat → Bool) : Prop :=
  nx < k ∧ i ≤ k ∧ CE dd I t g i ∧ cT tk k = i ∧ (∀ j, j < k → (tk j = true ↔ ∃ l, l < i ∧ t l = b j)) ∧ gap ≤ 100000 ∧ (i < k → tk nx = false ∧ (i = 0 → gap = 0 ∧ ∀ x, I x = true → b nx ≤ x) ∧ (0 < i → gap = md dd t i (b nx) ∧ ∀ x, I x = true → (∀ l, l < i → t l ≠ x) → md dd t i x < gap ∨ (md dd t i x = gap ∧ b nx ≤ x))) ∧ (0 < i → RAD dd I t i gap)
theorem m1_lt {n : Nat} (h : n < 2 ^ 31) : (-1 : Int32) < nI n := by
  rw [Int32.lt_iff_toInt_lt, nI_toInt h, show (-1 : Int32).toInt = -1 from by decide]
  omega
theorem cei_0 {dd : Nat → Nat → Nat} {I : Nat → Bool} {f : Nat → Int32} {b : Nat → Nat} {k : Nat} {t g : Nat → Nat} (hb : MB f k b) (hI : BK b k I) (hk : 0 < k) : CEI dd I b k 0 0 0 t g (fun _ => false) := by
  refine ⟨hk, Nat.zero_le _, fun i h => absurd h (Nat.not_lt_zero i), ?_, fun j _ => ⟨fun z => by simp at z, fun ⟨l, hl, _⟩ => absurd hl (Nat.not_lt_zero l)⟩, Nat.zero_le _, fun _ => ⟨rfl, fun _ => ⟨rfl, fun x hx => ?_⟩, fun h => absurd h (Nat.lt_irrefl 0)⟩, fun h => absurd h (Nat.lt_irrefl 0)⟩
  · have : ∀ k, cT (fun _ => false) k = 0 := by
      intro k
      induction k with
      | zero => rfl
      | succ k ih => show cT _ k + _ = 0; rw [ih]; rfl
    exact this k
  · obtain ⟨i, hi, e⟩ := (hI x).mp hx
    rw [← e]
    exact mb_le hb (Nat.zero_le i) hi
/-- one centre more -/
theorem cei_step {dd : Nat → Nat → Nat} {I : Nat → Bool} {f gp : Nat → Int32} {b : Nat → Nat} {k i nx gap s : Nat} {t g : Nat → Nat} {tk : Nat → Bool} (hb : MB f k b) (hI : BK b k I) (hz : ∀ x, I x = true → dd x x = 0) (h : CEI dd I b k i nx gap t g tk) (hi : i < k)
    (hgp : GP gp k (setB tk nx) (fun j => md dd (setN t i (b nx)) (i + 1) (b j))) (hs : s < k) (hmx : ∀ j, j < k → gp j ≤ gp s) (hfst : ∀ j, j < s → gp j < gp s) :
    CEI dd I b k (i + 1) s (if setB tk nx s = true then 0 else md dd (setN t i (b nx)) (i + 1) (b s)) (setN t i (b nx)) (setN g i gap) (setB tk nx) := by
  obtain ⟨h1, h2, h3, h4, h5, h6, h7, h8⟩ := h
  obtain ⟨n1, n2, n3⟩ := h7 hi
  have tlow : ∀ j, j < i → setN t i (b nx) j = t j := fun j hj => setN_n (by omega)
  have mlow : ∀ c x, c ≤ i → md dd (setN t i (b nx)) c x = md dd t c x := fun c x hc => md_congr x (fun j hj => tlow j (by omega))
  have htk : ∀ j, j < k → (setB tk nx j = true ↔ ∃ l, l < i + 1 ∧ setN t i (b nx) l = b j) := by
    intro j hj
    unfold setB
    by_cases c : j = nx
    · rw [if_pos c, c]
      exact ⟨fun _ => ⟨i, by omega, setN_s t i (b nx)⟩, fun _ => rfl⟩
    · rw [if_neg c, h5 j hj]
      constructor
      · rintro ⟨l, hl, e⟩
        exact ⟨l, by omega, by rw [tlow l hl]; exact e⟩
      · rintro ⟨l, hl, e⟩
        rcases Nat.lt_or_ge l i with q | q
        · exact ⟨l, q, by rw [← tlow l q]; exact e⟩
        · rw [show l = i by omega, setN_s] at e
          exact absurd (mb_inj hb h1 hj e).symm c
  have hcnt : cT (setB tk nx) k = i + 1 := by rw [cT_set n1, if_pos h1, h4]
  have hnew : ∀ l, l < i → t l ≠ b nx := fun l hl e => by
    have := (h5 nx h1).mpr ⟨l, hl, e⟩
    rw [n1] at this
    cases this
  have hCE : CE dd I (setN t i (b nx)) (setN g i gap) (i + 1) := by
    intro q hq
    rcases Nat.lt_or_ge q i with c | c
    · obtain ⟨a1, a2, a3, a4⟩ := h3 q c
      rw [tlow q c, setN_n (show q ≠ i by omega)]
      refine ⟨a1, fun j hj => by rw [tlow j (by omega)]; exact a2 j hj, a3, fun hq0 => ?_⟩
      obtain ⟨a5, a6⟩ := a4 hq0
      refine ⟨by rw [mlow q _ (by omega)]; exact a5, fun x hx hne => ?_⟩
      rw [mlow q _ (by omega)]
      exact a6 x hx (fun j hj => by rw [← tlow j (by omega)]; exact hne j hj)
    · have e : q = i := by omega
      subst e
      rw [setN_s, setN_s]
      refine ⟨hI.at h1, fun j hj => by rw [tlow j hj]; exact hnew j hj, fun e0 => n2 e0, fun hq0 => ?_⟩
      obtain ⟨a5, a6⟩ := n3 hq0
      refine ⟨by rw [mlow q _ (Nat.le_refl _)]; exact a5, fun x hx hne => ?_⟩
      rw [mlow q _ (Nat.le_refl _)]
      exact a6 x hx (fun j hj => by rw [← tlow j hj]; exact hne j hj)
  have hval : ∀ j, j < k → setB tk nx j = false → gp j = nI (md dd (setN t i (b nx)) (i + 1) (b j)) := fun j hj c => by
    rw [(hgp j hj).1, if_neg (by rw [c]; simp)]
  have hsl : (∃ l, l < k ∧ setB tk nx l = false) → setB tk nx s = false := by
    rintro ⟨l, hl, c⟩
    cases q : setB tk nx s with
    | false => rfl
    | true =>
      have a1 := hmx l hl
      rw [hval l hl c, (hgp s hs).1, if_pos q] at a1
      have a2 := m1_lt (n := md dd (setN t i (b nx)) (i + 1) (b l)) (by have := md_le dd (setN t i (b nx)) (i + 1) (b l); omega)
      exact absurd a1 (Int32.not_le.mpr a2)
  have hb0 : ∀ n, md dd (setN t i (b nx)) (i + 1) (b n) < 2 ^ 31 := fun n => by have := md_le dd (setN t i (b nx)) (i + 1) (b n); omega
  have hzero : ∀ j, j < k → setB tk nx j = true → md dd (setN t i (b nx)) (i + 1) (b j) = 0 := by
    intro j hj c
    obtain ⟨l, hl, e⟩ := (htk j hj).mp c
    have := md_at (dd := dd) (t := setN t i (b nx)) (x := b j) hl
    rw [e, hz _ (hI.at hj)] at this
    omega
  refine ⟨hs, by omega, hCE, hcnt, htk, ?_, fun hik => ?_, fun _ => ?_⟩
  · split
    · omega
    · exact md_le _ _ _ _
  · have hls := hsl (cT_loose (by omega))
    refine ⟨hls, fun e => absurd e (by omega), fun _ => ⟨by rw [if_neg (by rw [hls]; simp)], fun x hx hne => ?_⟩⟩
    rw [if_neg (by rw [hls]; simp)]
    obtain ⟨j, hj, e⟩ := (hI x).mp hx
    subst e
    have hjl : setB tk nx j = false := by
      cases q : setB tk nx j with
      | false => rfl
      | true =>
        obtain ⟨l, hl, e⟩ := (htk j hj).mp q
        exact absurd e (hne l hl)
    have a1 := hmx j hj
    rw [hval j hj hjl, hval s hs hls, nI_leI (hb0 j) (hb0 s)] at a1
    rcases Nat.lt_or_ge j s with q | q
    · have a2 := hfst j q
      rw [hval j hj hjl, hval s hs hls, nI_ltI (hb0 j) (hb0 s)] at a2
      exact Or.inl a2
    · rcases Nat.lt_or_ge (md dd (setN t i (b nx)) (i + 1) (b j)) (md dd (setN t i (b nx)) (i + 1) (b s)) with z | z
      · exact Or.inl z
      · exact Or.inr ⟨by omega, mb_le hb q hj⟩
  · cases hls : setB tk nx s with
    | false =>
      simp only [Bool.false_eq_true, if_false]
      refine ⟨fun x hx => ?_, b s, hI.at hs, rfl⟩
      obtain ⟨j, hj, e⟩ := (hI x).mp hx
      subst e
      cases q : setB tk nx j with
      | true => rw [hzero j hj q]; exact Nat.zero_le _
      | false =>
        have a1 := hmx j hj
        rw [hval j hj q, hval s hs hls, nI_leI (hb0 j) (hb0 s)] at a1
        exact a1
    | true =>
      simp only [if_true]
      refine ⟨fun x hx => ?_, b s, hI.at hs, hzero s hs hls⟩
      obtain ⟨j, hj, e⟩ := (hI x).mp hx
      subst e
      cases q : setB tk nx j with
      | true => rw [hzero j hj q]; exact Nat.le_refl _
      | false =>
        have := hsl ⟨j, hj, q⟩
        rw [hls] at this
        cases this
theorem gp_max {gp : Nat → Int32} {k s : Nat} {tk : Nat → Bool} {ga : Nat → Nat} (h : GP gp k tk ga) (hs : s < k) : (if gp s < nI 0 then nI 0 else gp s) = nI (if tk s = true then 0 else ga s) := by
  obtain ⟨h1, h2⟩ := h s hs
  rw [h1]
  cases c : tk s with
  | true =>
    simp only [if_true]
    rw [if_pos (by decide)]
  | false =>
    simp only [Bool.false_eq_true, if_false]
    rw [if_neg (nI_nlt (Nat.zero_le _) (by omega))]

set_option maxHeartbeats 4000000 in
set_option maxRecDepth 100000 in
theorem c_X1_farthestLoose (E : Ev) (c : Nat) (w : Nat) (gp : Nat → Int32) (m : Nat) (a : Nat) (f : Nat → Int32) (k : Nat) (d : Nat) (b : Nat → Nat) (hb : MB f k b) (hk0 : 1 ≤ k) : CTi E yX1_farthestLoose (wq yX1_farthestLoose cX1_farthestLoose 3 (some .int)) (rmk 1 20) [.ref c] [ob c 1 [.ref m, .ref d, .ref w], ob m 5 [.ref a, .int (nI k)], ia E a 60 f, ia E w 60 gp] (fun (r : Int32) (u : Nat) => r = nI u ∧ u < k ∧ (∀ j, j < k → gp j ≤ gp u) ∧ ∀ j, j < u → gp j < gp u) (fun (u : Nat) => [ob c 1 [.ref m, .ref d, .ref w], ob m 5 [.ref a, .int (nI k)], ia E a 60 f, ia E w 60 gp]) := by
  refine CTi.of (by decide) (Nat.le_of_ble_eq_true rfl) (fun X F R => ?_)
  refine g_lv [0] [(0, .ref c)] rfl ?_
  have hk := hb.1
  refine g_iconst F (nI 0) (by decide) dX1_farthestLoose_0 ?_
  refine g_istore_n F 1 [(0, .ref c), (1, .int (nI 0))] [1, 0] dX1_farthestLoose_1 rfl (by decide) rfl ?_
  refine g_iconst F (nI 1) (by decide) dX1_farthestLoose_2 ?_
  refine g_istore_n F 2 [(0, .ref c), (1, .int (nI 0)), (2, .int (nI 1))] [1, 2, 0] dX1_farthestLoose_3 rfl (by decide) rfl ?_
  have lp_4 : ∀ (n_4 : Nat) (i : Nat) (s : Nat), (1 ≤ i) → (i ≤ k) → (s < i) → (∀ j, j < i → gp j ≤ gp s) → (∀ j, j < s → gp j < gp s) → k - i < n_4 → GW E X 0 0 [ob c 1 [.ref m, .ref d, .ref w], ob m 5 [.ref a, .int (nI k)], ia E a 60 f, ia E w 60 gp] [(0, .ref c), (1, .int (nI s)), (2, .int (nI i))] 4 [] := by
    intro n_4
    induction n_4 with
    | zero => intro i s hi1 hi hs hm hm2 hm_4; exact absurd hm_4 (Nat.not_lt_zero _)
    | succ n_4 ih_4 =>
      intro i s hi1 hi hs hm hm2 hm_4
      refine g_iload_n F 2 rfl dX1_farthestLoose_4 ?_
      refine g_aload_n F 0 rfl dX1_farthestLoose_5 ?_
      refine g_get F 1 0 0 inX1 rfl rfl (by decide) tw_fl_X1_15 rfl dX1_farthestLoose_6 ?_
      refine g_rVi F (wr := [ob c 1 [.ref m, .ref d, .ref w], ia E w 60 gp]) [.int (nI i)] (c_X5_size E m a f k ) (gi_V tw_ml_X1_59 tw_im_X5_size tw_se_X5_size tw_in_X5 tw_co_X5_size) 0 rfl (by decide) ⟨rfl, rfl, by decide, by decide, Nat.zero_le _, Nat.zero_le _⟩ 5 0 rfl rfl [1, 2] [0, 3] [0, 2, 3, 1] rfl rfl (by decide) rfl rfl (Nat.le_of_ble_eq_true rfl) dX1_farthestLoose_9 ?_
      refine n_icmp_ge F 38 dX1_farthestLoose_12 (by decide) (by omega) (by omega) (fun c_12 => ?_) (fun c_12 => ?_)
      · refine g_iload_n F 1 rfl dX1_farthestLoose_38 ?_
        exact R _ s _ _ dX1_farthestLoose_39 (⟨rfl, by omega, fun j hj => hm j (by omega), hm2⟩)
      · refine g_aload_n F 0 rfl dX1_farthestLoose_15 ?_
        refine g_get F 1 0 2 inX1 rfl rfl (by decide) tw_fl_X1_9 rfl dX1_farthestLoose_16 ?_
        refine g_iload_n F 2 rfl dX1_farthestLoose_19 ?_
        refine g_iald F 3 rfl (by omega) (by decide) dX1_farthestLoose_20 ?_
        refine g_aload_n F 0 rfl dX1_farthestLoose_21 ?_
        refine g_get F 1 0 2 inX1 rfl rfl (by decide) tw_fl_X1_9 rfl dX1_farthestLoose_22 ?_
        refine g_iload_n F 1 rfl dX1_farthestLoose_25 ?_
        refine g_iald F 3 rfl (by omega) (by decide) dX1_farthestLoose_26 ?_
        refine g_icmp_le F 32 dX1_farthestLoose_27 (by decide) (fun c_27 => ?_) (fun c_27 => ?_)
        · refine g_iinc F (nI (i + 1)) 2 2 [(0, .ref c), (1, .int (nI s)), (2, .int (nI (i + 1)))] [1, 2, 0] dX1_farthestLoose_32 rfl (n_inc i) (by decide) rfl ?_
          refine g_goto F 4 dX1_farthestLoose_35 (by decide) ?_
          exact ih_4 (i + 1) s (by omega) (by omega) (by omega) (lt_s hm c_27) (hm2) (by omega)
        · refine g_iload_n F 2 rfl dX1_farthestLoose_30 ?_
          refine g_istore_n F 1 [(0, .ref c), (1, .int (nI i)), (2, .int (nI i))] [1, 0, 2] dX1_farthestLoose_31 rfl (by decide) rfl ?_
          refine g_iinc F (nI (i + 1)) 2 2 [(0, .ref c), (1, .int (nI i)), (2, .int (nI (i + 1)))] [1, 2, 0] dX1_farthestLoose_32 rfl (n_inc i) (by decide) rfl ?_
          refine g_goto F 4 dX1_farthestLoose_35 (by decide) ?_
          exact ih_4 (i + 1) i (by omega) (by omega) (by omega) (lt_s (fun j hj => Int32.le_of_lt (Int32.lt_of_le_of_lt (hm j hj) (Int32.not_le.mp c_27))) (Int32.le_refl _)) (fun j hj => Int32.lt_of_le_of_lt (hm j hj) (Int32.not_le.mp c_27)) (by omega)
  exact lp_4 _ 1 0 (by omega) (by omega) (by omega) (fun j hj => by rw [show j = 0 by omega]; exact Int32.le_refl _) (fun j hj => absurd hj (Nat.not_lt_zero j)) (Nat.lt_succ_self _)

set_option maxHeartbeats 4000000 in
set_option maxRecDepth 100000 in
theorem c_X1_closeGaps (E : Ev) (c : Nat) (w : Nat) (gp : Nat → Int32) (m : Nat) (a : Nat) (f : Nat → Int32) (k : Nat) (d : Nat) (ro : Nat) (tb : Nat) (ka : Nat) (kn : Nat → Int32) (kd : Nat) (b : Nat → Nat) (tk : Nat → Bool) (ga : Nat → Nat) (dd : Nat → Nat → Nat) (x : Nat) (hb : MB f k b) (hx : x < 60) (hg : GP gp k tk ga) (hd : ∀ i, i < k → kn (x * 60 + b i) = nI (dd x (b i)) ∧ dd x (b i) ≤ 100000) : CTv E yX1_closeGaps (wq yX1_closeGaps cX1_closeGaps 3 none) (rmk 1 22) [.ref c, .int (nI x)] [ob c 1 [.ref m, .ref d, .ref w], ob m 5 [.ref a, .int (nI k)], ia E a 60 f, ob d 3 [.ref ro, .ref tb, .ref ka, .int (nI kd)], ia E ka 3600 kn, ia E w 60 gp] (fun (u : (Nat → Int32)) => GP u k tk (fun j => Nat.min (ga j) (dd x (b j)))) (fun (u : (Nat → Int32)) => [ob c 1 [.ref m, .ref d, .ref w], ob m 5 [.ref a, .int (nI k)], ia E a 60 f, ob d 3 [.ref ro, .ref tb, .ref ka, .int (nI kd)], ia E ka 3600 kn, ia E w 60 u]) := by
  refine CTv.of (by decide) (Nat.le_of_ble_eq_true rfl) (fun X F R => ?_)
  refine g_lv [0, 1] [(0, .ref c), (1, .int (nI x))] rfl ?_
  have hk := hb.1
  have hmn := fun j => (show Nat.min (ga j) (dd x (b j)) ≤ ga j from Nat.min_le_left _ _)
  refine g_iconst F (nI 0) (by decide) dX1_closeGaps_0 ?_
  refine g_istore_n F 2 [(0, .ref c), (1, .int (nI x)), (2, .int (nI 0))] [1, 2, 0] dX1_closeGaps_1 rfl (by decide) rfl ?_
  have lp_2 : ∀ (n_2 : Nat) (i : Nat) (g : Nat → Int32), (i ≤ k) → (∀ j, j < i → g j = (if tk j = true then -1 else nI (Nat.min (ga j) (dd x (b j))))) → (∀ j, i ≤ j → g j = gp j) → k - i < n_2 → GW E X 0 0 [ob c 1 [.ref m, .ref d, .ref w], ob m 5 [.ref a, .int (nI k)], ia E a 60 f, ob d 3 [.ref ro, .ref tb, .ref ka, .int (nI kd)], ia E ka 3600 kn, ia E w 60 g] [(0, .ref c), (1, .int (nI x)), (2, .int (nI i))] 2 [] := by
    intro n_2
    induction n_2 with
    | zero => intro i g hi g1 g2 hm_2; exact absurd hm_2 (Nat.not_lt_zero _)
    | succ n_2 ih_2 =>
      intro i g hi g1 g2 hm_2
      refine g_iload_n F 2 rfl dX1_closeGaps_2 ?_
      refine g_aload_n F 0 rfl dX1_closeGaps_3 ?_
      refine g_get F 1 0 0 inX1 rfl rfl (by decide) tw_fl_X1_15 rfl dX1_closeGaps_4 ?_
      refine g_rVi F (wr := [ob c 1 [.ref m, .ref d, .ref w], ob d 3 [.ref ro, .ref tb, .ref ka, .int (nI kd)], ia E ka 3600 kn, ia E w 60 g]) [.int (nI i)] (c_X5_size E m a f k ) (gi_V tw_ml_X1_59 tw_im_X5_size tw_se_X5_size tw_in_X5 tw_co_X5_size) 0 rfl (by decide) ⟨rfl, rfl, by decide, by decide, Nat.zero_le _, Nat.zero_le _⟩ 5 0 rfl rfl [1, 2] [0, 3, 4, 5] [0, 4, 5, 1, 2, 3] rfl rfl (by decide) rfl rfl (Nat.le_of_ble_eq_true rfl) dX1_closeGaps_7 ?_
      refine n_icmp_ge F 60 dX1_closeGaps_10 (by decide) (by omega) (by omega) (fun c_10 => ?_) (fun c_10 => ?_)
      · exact R g _ _ dX1_closeGaps_60 (fun j hj => ⟨g1 j (by omega), Nat.le_trans (hmn j) (hg j hj).2⟩)
      · refine g_aload_n F 0 rfl dX1_closeGaps_13 ?_
        refine g_get F 1 0 2 inX1 rfl rfl (by decide) tw_fl_X1_9 rfl dX1_closeGaps_14 ?_
        refine g_iload_n F 2 rfl dX1_closeGaps_17 ?_
        refine g_iald F 5 rfl (by omega) (by decide) dX1_closeGaps_18 ?_
        refine g_iconst F (-1) (by decide) dX1_closeGaps_19 ?_
        refine g_icmp_eq F 54 dX1_closeGaps_20 (by decide) (fun c_20 => ?_) (fun c_20 => ?_)
        · refine g_iinc F (nI (i + 1)) 2 2 [(0, .ref c), (1, .int (nI x)), (2, .int (nI (i + 1)))] [1, 2, 0] dX1_closeGaps_54 rfl (n_inc i) (by decide) rfl ?_
          refine g_goto F 2 dX1_closeGaps_57 (by decide) ?_
          exact ih_2 (i + 1) g (by omega) (lt_s g1 (by
          have q := (hg i c_10).1
          rw [← g2 i (Nat.le_refl _), c_20] at q
          by_cases z : tk i = true
          · rw [if_pos z]; exact c_20
          · rw [if_neg z] at q
            exact absurd q.symm (nI_m1 (by have := (hg i c_10).2; omega)))) (fun j h => g2 j (by omega)) (by omega)
        · have htf : ¬ tk i = true := fun q => c_20 (by rw [g2 i (Nat.le_refl _), (hg i c_10).1, if_pos q])
          refine g_aload_n F 0 rfl dX1_closeGaps_23 ?_
          refine g_get F 1 0 2 inX1 rfl rfl (by decide) tw_fl_X1_9 rfl dX1_closeGaps_24 ?_
          refine g_iload_n F 2 rfl dX1_closeGaps_27 ?_
          refine g_aload_n F 0 rfl dX1_closeGaps_28 ?_
          refine g_get F 1 0 2 inX1 rfl rfl (by decide) tw_fl_X1_9 rfl dX1_closeGaps_29 ?_
          refine g_iload_n F 2 rfl dX1_closeGaps_32 ?_
          refine g_iald F 5 rfl (by omega) (by decide) dX1_closeGaps_33 ?_
          refine g_top (nI (ga i)) (by rw [g2 i (Nat.le_refl _), (hg i c_10).1, if_neg htf]) ?_
          refine g_aload_n F 0 rfl dX1_closeGaps_34 ?_
          refine g_get F 1 0 1 inX1 rfl rfl (by decide) tw_fl_X1_19 rfl dX1_closeGaps_35 ?_
          refine g_iload_n F 1 rfl dX1_closeGaps_38 ?_
          refine g_aload_n F 0 rfl dX1_closeGaps_39 ?_
          refine g_get F 1 0 0 inX1 rfl rfl (by decide) tw_fl_X1_15 rfl dX1_closeGaps_40 ?_
          refine g_iload_n F 2 rfl dX1_closeGaps_43 ?_
          refine g_rVi F (wr := [ob c 1 [.ref m, .ref d, .ref w], ob d 3 [.ref ro, .ref tb, .ref ka, .int (nI kd)], ia E ka 3600 kn, ia E w 60 g]) [.int (nI x), .ref d, .int (nI (ga i)), .int (nI i), .ref w] (c_X5_at E m a f k b i (fun i hi => (hb.2.1 i hi).1) (by omega) (by omega)) (gi_V tw_ml_X1_35 tw_im_X5_at tw_se_X5_at tw_in_X5 tw_co_X5_at) 1 rfl (by decide) ⟨rfl, rfl, by decide, by decide, Nat.zero_le _, Nat.zero_le _⟩ 5 0 rfl rfl [1, 2] [0, 3, 4, 5] [0, 4, 5, 1, 2, 3] rfl rfl (by decide) rfl rfl (Nat.le_of_ble_eq_true rfl) dX1_closeGaps_44 ?_
          refine g_rVi F (wr := [ob c 1 [.ref m, .ref d, .ref w], ob m 5 [.ref a, .int (nI k)], ia E a 60 f, ia E w 60 g]) [.int (nI (ga i)), .int (nI i), .ref w] (c_X3_at E d ro tb ka kn kd dd x (b i) (hx) ((hb.2.1 i (by omega)).2) ((hd i (by omega)).1)) (gi_V tw_ml_X1_62 tw_im_X3_at tw_se_X3_at tw_in_X3 tw_co_X3_at) 2 rfl (by decide) ⟨rfl, rfl, by decide, by decide, Nat.zero_le _, Nat.zero_le _⟩ 3 0 rfl rfl [3, 4] [0, 1, 2, 5] [0, 1, 2, 4, 5, 3] rfl rfl (by decide) rfl rfl (Nat.le_of_ble_eq_true rfl) dX1_closeGaps_47 ?_
          refine g_mmin F tw_ml_X1_66 (by decide) (Nat.le_of_ble_eq_true rfl) (Nat.zero_le _) (Nat.zero_le _) dX1_closeGaps_50 ?_
          refine g_top _ (n_min (ga i) (dd x (b i)) (by have := (hg i c_10).2; omega) (by have := (hd i c_10).2; omega)) ?_
          refine g_iast F 5 [ob c 1 [.ref m, .ref d, .ref w], ob m 5 [.ref a, .int (nI k)], ia E a 60 f, ob d 3 [.ref ro, .ref tb, .ref ka, .int (nI kd)], ia E ka 3600 kn, ia E w 60 (upd g i (nI (Nat.min (ga i) (dd x (b i)))))] rfl (by omega) (by decide) rfl dX1_closeGaps_53 ?_
          refine g_iinc F (nI (i + 1)) 2 2 [(0, .ref c), (1, .int (nI x)), (2, .int (nI (i + 1)))] [1, 2, 0] dX1_closeGaps_54 rfl (n_inc i) (by decide) rfl ?_
          refine g_goto F 2 dX1_closeGaps_57 (by decide) ?_
          exact ih_2 (i + 1) (upd g i (nI (Nat.min (ga i) (dd x (b i))))) (by omega) (lt_s (fun j hj => (pk_un (by omega)).trans (g1 j hj)) (by rw [pk_us, if_neg htf])) (fun j h => (pk_un (by omega)).trans (g2 j (by omega))) (by omega)
  exact lp_2 _ 0 gp (by omega) (fun j h => absurd h (Nat.not_lt_zero j)) (fun _ _ => rfl) (Nat.lt_succ_self _)

set_option maxHeartbeats 4000000 in
set_option maxRecDepth 100000 in
theorem c_X1_take (E : Ev) (c : Nat) (w : Nat) (gp : Nat → Int32) (m : Nat) (a : Nat) (f : Nat → Int32) (k : Nat) (d : Nat) (ro : Nat) (tb : Nat) (ka : Nat) (kn : Nat → Int32) (kd : Nat) (rs : Nat) (ra : Nat) (rb : Nat) (rf : Nat → Int32) (rg : Nat → Int32) (rk : Nat) (b : Nat → Nat) (I : Nat → Bool) (dd : Nat → Nat → Nat) (kk : Nat) (hb : MB f k b) (hI : BK b k I) (hk1 : 1 ≤ kk) (hk2 : kk ≤ k) (hd : ∀ i j, i < k → j < k → kn (b i * 60 + b j) = nI (dd (b i) (b j)) ∧ dd (b i) (b j) ≤ 100000) (hz : ∀ x, I x = true → dd x x = 0) : CTi E yX1_take (wq yX1_take cX1_take 6 (some .int)) (rmk 2 44) [.ref c, .int (nI kk), .ref rs] [ob c 1 [.ref m, .ref d, .ref w], ob m 5 [.ref a, .int (nI k)], ia E a 60 f, ob d 3 [.ref ro, .ref tb, .ref ka, .int (nI kd)], ia E ka 3600 kn, ob rs 7 [.ref ra, .ref rb, .int (nI rk)], ia E ra 60 rf, ia E rb 60 rg, ia E w 60 gp] (fun (r : Int32) (u : (Nat → Int32) × (Nat → Int32) × (Nat → Int32)) => ∃ (t g : Nat → Nat) (ro : Nat), r = nI ro ∧ CE dd I t g kk ∧ RAD dd I t kk ro ∧ ∀ j, j < kk → u.2.1 j = nI (t j) ∧ u.2.2 j = nI (g j)) (fun (u : (Nat → Int32) × (Nat → Int32) × (Nat → Int32)) => [ob c 1 [.ref m, .ref d, .ref w], ob m 5 [.ref a, .int (nI k)], ia E a 60 f, ob d 3 [.ref ro, .ref tb, .ref ka, .int (nI kd)], ia E ka 3600 kn, ob rs 7 [.ref ra, .ref rb, .int (nI kk)], ia E ra 60 u.2.1, ia E rb 60 u.2.2, ia E w 60 u.1]) := by
  refine CTi.of (by decide) (Nat.le_of_ble_eq_true rfl) (fun X F R => ?_)
  refine g_lv [0, 1, 2] [(0, .ref c), (1, .int (nI kk)), (2, .ref rs)] rfl ?_
  have hk := hb.1
  refine g_aload_n F 2 rfl dX1_take_0 ?_
  refine g_cVv F (wr := [ob c 1 [.ref m, .ref d, .ref w], ob m 5 [.ref a, .int (nI k)], ia E a 60 f, ob d 3 [.ref ro, .ref tb, .ref ka, .int (nI kd)], ia E ka 3600 kn, ia E w 60 gp]) [] (c_X7_clear E rs ra rb rf rg rk ) (gi_V tw_ml_X1_23 tw_im_X7_clear tw_se_X7_clear tw_in_X7 tw_co_X7_clear) 0 rfl (by decide) ⟨rfl, rfl, by decide, by decide, Nat.zero_le _, Nat.zero_le _⟩ 7 0 rfl rfl [5, 6, 7] [0, 1, 2, 3, 4, 8] [0, 1, 2, 3, 4, 6, 7, 8, 5] (fun u => [ob c 1 [.ref m, .ref d, .ref w], ob m 5 [.ref a, .int (nI k)], ia E a 60 f, ob d 3 [.ref ro, .ref tb, .ref ka, .int (nI kd)], ia E ka 3600 kn, ob rs 7 [.ref ra, .ref rb, .int (nI 0)], ia E ra 60 rf, ia E rb 60 rg, ia E w 60 gp]) rfl rfl (by decide) (fun _ => rfl) rfl (Nat.le_of_ble_eq_true rfl) dX1_take_1 (fun u hu_1 => ?_)
  refine g_aload_n F 0 rfl dX1_take_4 ?_
  refine g_get F 1 0 2 inX1 rfl rfl (by decide) tw_fl_X1_9 rfl dX1_take_5 ?_
  refine g_ldc F tw_cn_X1_28 dX1_take_8 ?_
  refine g_top (nI 100000) (by decide) ?_
  refine g_cSv F (wr := [ob c 1 [.ref m, .ref d, .ref w], ob m 5 [.ref a, .int (nI k)], ia E a 60 f, ob d 3 [.ref ro, .ref tb, .ref ka, .int (nI kd)], ia E ka 3600 kn, ob rs 7 [.ref ra, .ref rb, .int (nI 0)], ia E ra 60 rf, ia E rb 60 rg]) [] (c_J7_fill_53178 E w 60 gp (nI 100000) (by decide)) ⟨tw_ml_X1_29, tw_sm_J7_fill_53178, tw_in_J7, tw_co_J7_fill_53178⟩ 2 rfl (by decide) ⟨rfl, rfl, by decide, by decide, Nat.zero_le _, Nat.zero_le _⟩ [8] [0, 1, 2, 3, 4, 5, 6, 7] [0, 1, 2, 3, 4, 5, 6, 7, 8] (fun u => [ob c 1 [.ref m, .ref d, .ref w], ob m 5 [.ref a, .int (nI k)], ia E a 60 f, ob d 3 [.ref ro, .ref tb, .ref ka, .int (nI kd)], ia E ka 3600 kn, ob rs 7 [.ref ra, .ref rb, .int (nI 0)], ia E ra 60 rf, ia E rb 60 rg, ia E w 60 (fl gp 60 (nI 100000))]) rfl rfl (by decide) (fun _ => rfl) rfl (Nat.le_of_ble_eq_true rfl) dX1_take_10 (fun u hu_10 => ?_)
  refine g_iconst F (nI 0) (by decide) dX1_take_13 ?_
  refine g_istore_n F 3 [(0, .ref c), (1, .int (nI kk)), (2, .ref rs), (3, .int (nI 0))] [1, 2, 3, 0] dX1_take_14 rfl (by decide) rfl ?_
  refine g_iconst F (nI 0) (by decide) dX1_take_15 ?_
  refine g_istore F 4 [(0, .ref c), (1, .int (nI kk)), (2, .ref rs), (3, .int (nI 0)), (4, .int (nI 0))] [1, 2, 3, 4, 0] dX1_take_16 (by decide) rfl ?_
  refine g_iconst F (nI 0) (by decide) dX1_take_18 ?_
  refine g_istore F 5 [(0, .ref c), (1, .int (nI kk)), (2, .ref rs), (3, .int (nI 0)), (4, .int (nI 0)), (5, .int (nI 0))] [1, 2, 3, 4, 5, 0] dX1_take_19 (by decide) rfl ?_
  have lp_21 : ∀ (n_21 : Nat) (i : Nat) (nx : Nat) (gap : Nat) (gg : Nat → Int32) (r1 : Nat → Int32) (r2 : Nat → Int32) (t : Nat → Nat) (g : Nat → Nat) (tk : Nat → Bool), (i ≤ kk) → (CEI dd I b k i nx gap t g tk) → (GP gg k tk (fun j => md dd t i (b j))) → (∀ j, j < i → r1 j = nI (t j) ∧ r2 j = nI (g j)) → kk - i < n_21 → GW E X 0 0 [ob c 1 [.ref m, .ref d, .ref w], ob m 5 [.ref a, .int (nI k)], ia E a 60 f, ob d 3 [.ref ro, .ref tb, .ref ka, .int (nI kd)], ia E ka 3600 kn, ob rs 7 [.ref ra, .ref rb, .int (nI i)], ia E ra 60 r1, ia E rb 60 r2, ia E w 60 gg] [(0, .ref c), (1, .int (nI kk)), (2, .ref rs), (3, .int (nI nx)), (4, .int (nI gap)), (5, .int (nI i))] 21 [] := by
    intro n_21
    induction n_21 with
    | zero => intro i nx gap gg r1 r2 t g tk hi hcei hgp hr hm_21; exact absurd hm_21 (Nat.not_lt_zero _)
    | succ n_21 ih_21 =>
      intro i nx gap gg r1 r2 t g tk hi hcei hgp hr hm_21
      refine g_iload F 5 rfl dX1_take_21 ?_
      refine g_iload_n F 1 rfl dX1_take_23 ?_
      refine n_icmp_ge F 83 dX1_take_24 (by decide) (by omega) (by omega) (fun c_24 => ?_) (fun c_24 => ?_)
      · have hii : i = kk := by omega
        subst hii
        refine g_iload F 4 rfl dX1_take_83 ?_
        exact R _ ((gg, r1, r2)) _ _ dX1_take_85 (by (try dsimp only); exact (⟨t, g, gap, rfl, hcei.2.2.1, hcei.2.2.2.2.2.2.2 (by omega), hr⟩))
      · have hnx := hcei.1
        refine g_aload_n F 2 rfl dX1_take_27 ?_
        refine g_aload_n F 0 rfl dX1_take_28 ?_
        refine g_get F 1 0 0 inX1 rfl rfl (by decide) tw_fl_X1_15 rfl dX1_take_29 ?_
        refine g_iload_n F 3 rfl dX1_take_32 ?_
        refine g_rVi F (wr := [ob c 1 [.ref m, .ref d, .ref w], ob d 3 [.ref ro, .ref tb, .ref ka, .int (nI kd)], ia E ka 3600 kn, ob rs 7 [.ref ra, .ref rb, .int (nI i)], ia E ra 60 r1, ia E rb 60 r2, ia E w 60 gg]) [.ref rs] (c_X5_at E m a f k b nx (fun i hi => (hb.2.1 i hi).1) (by omega) (by omega)) (gi_V tw_ml_X1_35 tw_im_X5_at tw_se_X5_at tw_in_X5 tw_co_X5_at) 1 rfl (by decide) ⟨rfl, rfl, by decide, by decide, Nat.zero_le _, Nat.zero_le _⟩ 5 0 rfl rfl [1, 2] [0, 3, 4, 5, 6, 7, 8] [0, 7, 8, 1, 2, 3, 4, 5, 6] rfl rfl (by decide) rfl rfl (Nat.le_of_ble_eq_true rfl) dX1_take_33 ?_
        refine g_iload F 4 rfl dX1_take_36 ?_
        refine g_cVv F (wr := [ob c 1 [.ref m, .ref d, .ref w], ob m 5 [.ref a, .int (nI k)], ia E a 60 f, ob d 3 [.ref ro, .ref tb, .ref ka, .int (nI kd)], ia E ka 3600 kn, ia E w 60 gg]) [] (c_X7_append E rs ra rb r1 r2 i (nI (b nx)) (nI gap) (by omega)) (gi_V tw_ml_X1_41 tw_im_X7_append tw_se_X7_append tw_in_X7 tw_co_X7_append) 2 rfl (by decide) ⟨rfl, rfl, by decide, by decide, Nat.zero_le _, Nat.zero_le _⟩ 7 0 rfl rfl [5, 6, 7] [0, 1, 2, 3, 4, 8] [0, 1, 2, 3, 4, 6, 7, 8, 5] (fun u => [ob c 1 [.ref m, .ref d, .ref w], ob m 5 [.ref a, .int (nI k)], ia E a 60 f, ob d 3 [.ref ro, .ref tb, .ref ka, .int (nI kd)], ia E ka 3600 kn, ob rs 7 [.ref ra, .ref rb, .int (nI (i + 1))], ia E ra 60 (upd r1 i (nI (b nx))), ia E rb 60 (upd r2 i (nI gap)), ia E w 60 gg]) rfl rfl (by decide) (fun _ => rfl) rfl (Nat.le_of_ble_eq_true rfl) dX1_take_38 (fun u hu_38 => ?_)
        refine g_aload_n F 0 rfl dX1_take_41 ?_
        refine g_get F 1 0 2 inX1 rfl rfl (by decide) tw_fl_X1_9 rfl dX1_take_42 ?_
        refine g_iload_n F 3 rfl dX1_take_45 ?_
        refine g_iconst F (-1) (by decide) dX1_take_46 ?_
        refine g_iast F 8 [ob c 1 [.ref m, .ref d, .ref w], ob m 5 [.ref a, .int (nI k)], ia E a 60 f, ob d 3 [.ref ro, .ref tb, .ref ka, .int (nI kd)], ia E ka 3600 kn, ob rs 7 [.ref ra, .ref rb, .int (nI (i + 1))], ia E ra 60 (upd r1 i (nI (b nx))), ia E rb 60 (upd r2 i (nI gap)), ia E w 60 (upd gg nx (-1))] rfl (by omega) (by decide) rfl dX1_take_47 ?_
        refine g_aload_n F 0 rfl dX1_take_48 ?_
        refine g_aload_n F 0 rfl dX1_take_49 ?_
        refine g_get F 1 0 0 inX1 rfl rfl (by decide) tw_fl_X1_15 rfl dX1_take_50 ?_
        refine g_iload_n F 3 rfl dX1_take_53 ?_
        refine g_rVi F (wr := [ob c 1 [.ref m, .ref d, .ref w], ob d 3 [.ref ro, .ref tb, .ref ka, .int (nI kd)], ia E ka 3600 kn, ob rs 7 [.ref ra, .ref rb, .int (nI (i + 1))], ia E ra 60 (upd r1 i (nI (b nx))), ia E rb 60 (upd r2 i (nI gap)), ia E w 60 (upd gg nx (-1))]) [.ref c] (c_X5_at E m a f k b nx (fun i hi => (hb.2.1 i hi).1) (by omega) (by omega)) (gi_V tw_ml_X1_35 tw_im_X5_at tw_se_X5_at tw_in_X5 tw_co_X5_at) 1 rfl (by decide) ⟨rfl, rfl, by decide, by decide, Nat.zero_le _, Nat.zero_le _⟩ 5 0 rfl rfl [1, 2] [0, 3, 4, 5, 6, 7, 8] [0, 7, 8, 1, 2, 3, 4, 5, 6] rfl rfl (by decide) rfl rfl (Nat.le_of_ble_eq_true rfl) dX1_take_54 ?_
        refine g_cVv F (wr := [ob rs 7 [.ref ra, .ref rb, .int (nI (i + 1))], ia E ra 60 (upd r1 i (nI (b nx))), ia E rb 60 (upd r2 i (nI gap))]) [] (c_X1_closeGaps E c w (upd gg nx (-1)) m a f k d ro tb ka kn kd b (setB tk nx) (fun j => md dd t i (b j)) dd (b nx) (hb) ((hb.2.1 nx hnx).2) (fun j hj => ⟨by
          unfold setB upd
          by_cases q : j = nx
          · rw [if_pos q, if_pos q]; rfl
          · rw [if_neg q, if_neg q]; exact (hgp j hj).1, md_le _ _ _ _⟩) (fun j hj => hd nx j hnx hj)) (gi_V tw_ml_X1_45 tw_im_X1_closeGaps tw_se_X1_closeGaps tw_in_X1 tw_co_X1_closeGaps) 1 rfl (by decide) ⟨rfl, rfl, by decide, by decide, Nat.zero_le _, Nat.zero_le _⟩ 1 0 rfl rfl [0, 1, 2, 3, 4, 8] [5, 6, 7] [3, 4, 5, 6, 7, 0, 1, 2, 8] (fun u => [ob c 1 [.ref m, .ref d, .ref w], ob m 5 [.ref a, .int (nI k)], ia E a 60 f, ob d 3 [.ref ro, .ref tb, .ref ka, .int (nI kd)], ia E ka 3600 kn, ob rs 7 [.ref ra, .ref rb, .int (nI (i + 1))], ia E ra 60 (upd r1 i (nI (b nx))), ia E rb 60 (upd r2 i (nI gap)), ia E w 60 u]) rfl rfl (by decide) (fun _ => rfl) rfl (Nat.le_of_ble_eq_true rfl) dX1_take_57 (fun u hu_57 => ?_)
        revert hu_57; revert u; intro gp2_57 hu_57
        have hu_57 : GP gp2_57 k (setB tk nx) (fun j => md dd (setN t i (b nx)) (i + 1) (b j)) := fun j hj => by
          have q := hu_57 j hj
          have e : Nat.min (md dd t i (b j)) (dd (b nx) (b j)) = md dd (setN t i (b nx)) (i + 1) (b j) := by
            show _ = Nat.min _ _
            rw [setN_s, md_congr (b j) (fun l hl => setN_n (t := t) (x := b nx) (show l ≠ i by omega))]
          simp only at q ⊢
          rw [e] at q
          exact q
        refine g_aload_n F 0 rfl dX1_take_60 ?_
        refine g_cVi F (wr := [ob d 3 [.ref ro, .ref tb, .ref ka, .int (nI kd)], ia E ka 3600 kn, ob rs 7 [.ref ra, .ref rb, .int (nI (i + 1))], ia E ra 60 (upd r1 i (nI (b nx))), ia E rb 60 (upd r2 i (nI gap))]) [] (c_X1_farthestLoose E c w gp2_57 m a f k d b (hb) (by omega)) (gi_V tw_ml_X1_49 tw_im_X1_farthestLoose tw_se_X1_farthestLoose tw_in_X1 tw_co_X1_farthestLoose) 0 rfl (by decide) ⟨rfl, rfl, by decide, by decide, Nat.zero_le _, Nat.zero_le _⟩ 1 0 rfl rfl [0, 1, 2, 8] [3, 4, 5, 6, 7] [5, 6, 7, 0, 1, 2, 3, 4, 8] (fun u => [ob c 1 [.ref m, .ref d, .ref w], ob m 5 [.ref a, .int (nI k)], ia E a 60 f, ob d 3 [.ref ro, .ref tb, .ref ka, .int (nI kd)], ia E ka 3600 kn, ob rs 7 [.ref ra, .ref rb, .int (nI (i + 1))], ia E ra 60 (upd r1 i (nI (b nx))), ia E rb 60 (upd r2 i (nI gap)), ia E w 60 gp2_57]) rfl rfl (by decide) (fun _ => rfl) rfl (Nat.le_of_ble_eq_true rfl) dX1_take_61 (fun r_61 u hu_61 => ?_)
        revert hu_61; revert u; intro s_61 hu_61
        obtain ⟨rfl, hs2, hs3, hs4⟩ := hu_61
        refine g_istore_n F 3 [(0, .ref c), (1, .int (nI kk)), (2, .ref rs), (3, .int (nI s_61)), (4, .int (nI gap)), (5, .int (nI i))] [1, 2, 3, 0, 4, 5] dX1_take_64 rfl (by decide) rfl ?_
        have hcei2 := cei_step hb hI hz hcei (by omega) hu_57 hs2 hs3 hs4
        refine g_aload_n F 0 rfl dX1_take_65 ?_
        refine g_get F 1 0 2 inX1 rfl rfl (by decide) tw_fl_X1_9 rfl dX1_take_66 ?_
        refine g_iload_n F 3 rfl dX1_take_69 ?_
        refine g_iald F 8 rfl (by omega) (by decide) dX1_take_70 ?_
        refine g_iconst F (nI 0) (by decide) dX1_take_71 ?_
        refine g_mmax F tw_ml_X1_53 (by decide) (Nat.le_of_ble_eq_true rfl) (Nat.zero_le _) (Nat.zero_le _) dX1_take_72 ?_
        refine g_top (nI (if setB tk nx s_61 = true then 0 else md dd (setN t i (b nx)) (i + 1) (b s_61))) (gp_max hu_57 hs2) ?_
        refine g_istore F 4 [(0, .ref c), (1, .int (nI kk)), (2, .ref rs), (3, .int (nI s_61)), (4, .int (nI (if setB tk nx s_61 = true then 0 else md dd (setN t i (b nx)) (i + 1) (b s_61)))), (5, .int (nI i))] [1, 2, 3, 4, 0, 5] dX1_take_75 (by decide) rfl ?_
        refine g_iinc F (nI (i + 1)) 5 5 [(0, .ref c), (1, .int (nI kk)), (2, .ref rs), (3, .int (nI s_61)), (4, .int (nI (if setB tk nx s_61 = true then 0 else md dd (setN t i (b nx)) (i + 1) (b s_61)))), (5, .int (nI (i + 1)))] [1, 2, 3, 4, 5, 0] dX1_take_77 rfl (n_inc i) (by decide) rfl ?_
        refine g_goto F 21 dX1_take_80 (by decide) ?_
        exact ih_21 (i + 1) s_61 (if setB tk nx s_61 = true then 0 else md dd (setN t i (b nx)) (i + 1) (b s_61)) gp2_57 (upd r1 i (nI (b nx))) (upd r2 i (nI gap)) (setN t i (b nx)) (setN g i gap) (setB tk nx) (by omega) (hcei2) (hu_57) (lt_s (fun j hj => ⟨by rw [pk_un (by omega), setN_n (by omega)]; exact (hr j hj).1, by rw [pk_un (by omega), setN_n (by omega)]; exact (hr j hj).2⟩) ⟨by rw [pk_us, setN_s], by rw [pk_us, setN_s]⟩) (by omega)
  exact lp_21 _ 0 0 0 (fl gp 60 (nI 100000)) rf rg (fun _ => 0) (fun _ => 0) (fun _ => false) (by omega) (cei_0 hb hI (by omega)) (fun j hj => ⟨by rw [fl_at (by omega)]; rfl, Nat.le_refl _⟩) (fun j hj => absurd hj (Nat.not_lt_zero j)) (Nat.lt_succ_self _)
end
section
theorem g_copy {E : Ev} {X : Cx} {cc : ByteArray} {own : String} {rm : Room} {nL0 k n pc : Nat} {ws : va_W} {lv : List (Nat × Value)} {st : List Value} (F : FX E X cc own rm nL0) {a0 a1 N0 N1 sp dp nn index : Nat} {f g : Nat → Int32} (q0 q1 : Nat) (ws' : va_W) (hq0 : ws[q0]? = some (ia E a0 N0 f)) (hq1 : ws[q1]? = some (ia E a1 N1 g)) (h4 : sp + nn ≤ N0) (h5 : dp + nn ≤ N1) (hN0 : N0 < 2 ^ 31) (hN1 : N1 < 2 ^ 31) (hlink : Cond.methodLink own index arraycopyName ∈ lw_g) (hfr : 1 ≤ rm.frames) (hlo : (st.map fun v => v.category).sum + (nativeFrameWords "java/lang/System" "arraycopy" 5 + 11) ≤ rm.locals) (hw : ws.set q1 (ia E a1 N1 (va_cpy f g sp dp nn)) = ws') (hdg : decode cc pc = .ok (.invokestatic index, 3)) (kk : GW E X k n ws' lv (pc + 3) st) : GW E X k n ws lv pc (.int (nI nn) :: .int (nI dp) :: .ref a1 :: .int (nI sp) :: .ref a0 :: st) := by
  subst hw
  obtain ⟨l, D, cI, cZ⟩ := E
  obtain ⟨p, e, R, s, m, args, below, meth, c, Q, A, nL⟩ := X
  obtain ⟨hx, hb, hml, hown, hts, hK, hA, hR, hnL, hlk⟩ := F
  subst hR
  subst hnL
  intro H locs ls hP hD hS hl
  have e1 : (nI sp).toNatClampNeg = sp := nI_clamp (by omega)
  have e2 : (nI dp).toNatClampNeg = dp := nI_clamp (by omega)
  have e3 : (nI nn).toNatClampNeg = nn := nI_clamp (by omega)
  refine va_copyi hx hb (hml.trans hl.1.symm) hown (hts _ hlink) (hts _ tw_na_arraycopyName) (hts _ tw_sm_arraycopyName) (hts _ tw_in_J10) hK hP hD hS q0 q1 0 0 hq0 hq1 (ty := .int) rfl rfl rfl (nI_pos (by omega)) (nI_pos (by omega)) (nI_pos (by omega)) (by rw [e1, e3]; exact h4) (by rw [e2, e3]; exact h5) (fun _ _ => rfl) hfr hlo hdg (fun H1 locs1 hP1 hD1 hS1 => ?_)
  rw [e1, e2, e3] at hP1 hD1
  exact kk H1 locs1 ls hP1 hD1 hS1 hl
def agr (q : Nat) (t t2 : Nat → Nat) : Prop := ∀ i, i ≤ q → t i = t2 i
/-- q + 1 of the book, rising -/
def CDT (I : Nat → Bool) (q : Nat) (t : Nat → Nat) : Prop := (∀ i, i ≤ q → I (t i) = true) ∧ ∀ i, i < q → t i < t (i + 1)
def lxl (q : Nat) (t t2 : Nat → Nat) : Prop := t 0 < t2 0 ∨ (t 0 = t2 0 ∧ (q = 0 ∨ t 1 < t2 1 ∨ (t 1 = t2 1 ∧ (q = 1 ∨ t 2 ≤ t2 2))))
theorem lx_agr {q : Nat} {t t1 t2 : Nat → Nat} (hq : q ≤ 2) (h : lxl q t t1) (ha : agr q t2 t1) : lxl q t t2 := by
  unfold lxl at h ⊢
  have a0 := ha 0 (by omega)
  rcases (show q = 0 ∨ q = 1 ∨ q = 2 by omega) with rfl | rfl | rfl
  · omega
  · have a1 := ha 1 (by omega)
    omega
  · have a1 := ha 1 (by omega)
    have a2 := ha 2 (by omega)
    omega
theorem lx_rf {q : Nat} {t t2 : Nat → Nat} (hq : q ≤ 2) (ha : agr q t2 t) : lxl q t t2 := lx_agr hq (by unfold lxl; omega) ha
theorem lx_last {q : Nat} {t t2 : Nat → Nat} (hq : q ≤ 2) (hp : ∀ i, i < q → t i = t2 i) (hl : t q < t2 q) : lxl q t t2 := by
  unfold lxl
  rcases (show q = 0 ∨ q = 1 ∨ q = 2 by omega) with rfl | rfl | rfl
  · omega
  · have a0 := hp 0 (by omega)
    omega
  · have a0 := hp 0 (by omega)
    have a1 := hp 1 (by omega)
    omega
theorem rad_uni {dd : Nat → Nat → Nat} {I : Nat → Bool} {t : Nat → Nat} {c r1 r2 : Nat} (h1 : RAD dd I t c r1) (h2 : RAD dd I t c r2) : r1 = r2 := by
  obtain ⟨a1, x, hx, e1⟩ := h1
  obtain ⟨a2, y, hy, e2⟩ := h2
  have := a1 y hy
  have := a2 x hx
  omega
theorem rad_agr {dd : Nat → Nat → Nat} {I : Nat → Bool} {q ro : Nat} {t t2 : Nat → Nat} (ha : agr q t2 t) (h : RAD dd I t2 (q + 1) ro) : RAD dd I t (q + 1) ro := by
  have e : ∀ x, md dd t (q + 1) x = md dd t2 (q + 1) x := fun x => md_congr x (fun j hj => (ha j (by omega)).symm)
  obtain ⟨a1, x, hx, e1⟩ := h
  exact ⟨fun y hy => by rw [e]; exact a1 y hy, x, hx, by rw [e]; exact e1⟩
/-- the search: Dn the choices that were tried, rad and bt the best of them -/
def BSI (dd : Nat → Nat → Nat) (I : Nat → Bool) (q : Nat) (Dn : (Nat → Nat) → Prop) (rad : Nat) (bt : Nat → Nat) : Prop := (rad = 100001 ∧ ∀ t, ¬ Dn t) ∨ (Dn bt ∧ rad ≤ 100000 ∧ CDT I q bt ∧ RAD dd I bt (q + 1) rad ∧ ∀ t, Dn t → ∀ ro, RAD dd I t (q + 1) ro → rad < ro ∨ (rad = ro ∧ lxl q bt t))
theorem bsi_iff {dd : Nat → Nat → Nat} {I : Nat → Bool} {q rad : Nat} {D1 D2 : (Nat → Nat) → Prop} {bt : Nat → Nat} (h : BSI dd I q D1 rad bt) (e : ∀ t, D1 t ↔ D2 t) : BSI dd I q D2 rad bt := by
  rcases h with ⟨h1, h2⟩ | ⟨h1, h2, h3, h4, h5⟩
  · exact Or.inl ⟨h1, fun t z => h2 t ((e t).mpr z)⟩
  · exact Or.inr ⟨(e bt).mp h1, h2, h3, h4, fun t ht => h5 t ((e t).mpr ht)⟩
theorem bs_new {dd : Nat → Nat → Nat} {I : Nat → Bool} {q rad ro : Nat} {Dn : (Nat → Nat) → Prop} {bt t : Nat → Nat} (hq : q ≤ 2) (h : BSI dd I q Dn rad bt) (hc : CDT I q t) (h1 : ∃ x, I x = true ∧ md dd t (q + 1) x = ro) (h2 : ∀ x, I x = true → md dd t (q + 1) x ≤ ro) (hlt : ro < rad) : BSI dd I q (fun t2 => Dn t2 ∨ agr q t2 t) ro t := by
  refine Or.inr ⟨Or.inr (fun _ _ => rfl), ?_, hc, ⟨h2, h1⟩, fun t2 ht r2 hr2 => ?_⟩
  · obtain ⟨x, -, e⟩ := h1
    rw [← e]
    exact md_le _ _ _ _
  · rcases ht with ht | ht
    · rcases h with ⟨-, z⟩ | ⟨-, -, -, -, z⟩
      · exact absurd ht (z t2)
      · have := z t2 ht r2 hr2
        omega
    · have := rad_uni (rad_agr ht hr2) ⟨h2, h1⟩
      exact Or.inr ⟨this.symm, lx_rf hq ht⟩
theorem bs_old {dd : Nat → Nat → Nat} {I : Nat → Bool} {q rad ro : Nat} {Dn : (Nat → Nat) → Prop} {bt t : Nat → Nat} (hq : q ≤ 2) (h : BSI dd I q Dn rad bt) (h1 : ∃ x, I x = true ∧ md dd t (q + 1) x = ro) (hord : ∀ t2, Dn t2 → lxl q t2 t) (hge : rad ≤ ro) : BSI dd I q (fun t2 => Dn t2 ∨ agr q t2 t) rad bt := by
  obtain ⟨x, hx, e⟩ := h1
  have hm := md_le dd t (q + 1) x
  rcases h with ⟨z, -⟩ | ⟨z1, z2, z3, z4, z5⟩
  · omega
  · refine Or.inr ⟨Or.inl z1, z2, z3, z4, fun t2 ht r2 hr2 => ?_⟩
    rcases ht with ht | ht
    · exact z5 t2 ht r2 hr2
    · have := (rad_agr ht hr2).1 x hx
      have := lx_agr hq (hord bt z1) ht
      rcases Nat.lt_or_ge rad r2 with c | c
      · exact Or.inl c
      · exact Or.inr ⟨by omega, this⟩

set_option maxHeartbeats 4000000 in
set_option maxRecDepth 100000 in
theorem c_X0_gapWith (E : Ev) (e : Nat) (ga : Nat) (pa : Nat) (ba : Nat) (gf : Nat → Int32) (pf : Nat → Int32) (bf : Nat → Int32) (rad : Nat) (sus : Nat) (m : Nat) (a : Nat) (f : Nat → Int32) (k : Nat) (d : Nat) (ro : Nat) (tb : Nat) (ka : Nat) (kn : Nat → Int32) (kd : Nat) (b : Nat → Nat) (dd : Nat → Nat → Nat) (t : Nat → Nat) (q : Nat) (j : Nat) (hb : MB f k b) (hg : ∀ j, j < k → gf (q * 60 + j) = nI (md dd t q (b j))) (hp : pf q = nI (t q) ∧ t q < 60 ∧ ∀ j, j < k → kn (t q * 60 + b j) = nI (dd (t q) (b j)) ∧ dd (t q) (b j) ≤ 100000) (hq : q < 3) (hj : j < k) : RDi E yX0_gapWith (wq yX0_gapWith cX0_gapWith 5 (some .int)) (rmk 1 22) [.ref e, .int (nI q), .int (nI j)] [ob e 0 [.ref m, .ref d, .ref ga, .ref pa, .ref ba, .int (nI rad), .int (nI sus)], ob m 5 [.ref a, .int (nI k)], ia E a 60 f, ob d 3 [.ref ro, .ref tb, .ref ka, .int (nI kd)], ia E ka 3600 kn, ia E ga 180 gf, ia E pa 3 pf, ia E ba 3 bf] (nI (md dd t (q + 1) (b j))) := by
  refine CTi.of (by decide) (Nat.le_of_ble_eq_true rfl) (fun X F R => ?_)
  refine g_lv [0, 1, 2] [(0, .ref e), (1, .int (nI q)), (2, .int (nI j))] rfl ?_
  have hk := hb.1
  have hmd := md_le dd t q (b j)
  have hdj := (hp.2.2 j hj).2
  refine g_aload_n F 0 rfl dX0_gapWith_0 ?_
  refine g_get F 0 0 2 inX0 rfl rfl (by decide) tw_fl_X0_9 rfl dX0_gapWith_1 ?_
  refine g_iload_n F 1 rfl dX0_gapWith_4 ?_
  refine g_bipush F (nI 60) (by decide) dX0_gapWith_5 ?_
  refine n_mul F dX0_gapWith_7 ?_
  refine g_iload_n F 2 rfl dX0_gapWith_8 ?_
  refine n_add F dX0_gapWith_9 ?_
  refine g_iald F 5 rfl (by omega) (by decide) dX0_gapWith_10 ?_
  refine g_top (nI (md dd t q (b j))) (hg j hj) ?_
  refine g_istore_n F 3 [(0, .ref e), (1, .int (nI q)), (2, .int (nI j)), (3, .int (nI (md dd t q (b j))))] [1, 2, 3, 0] dX0_gapWith_11 rfl (by decide) rfl ?_
  refine g_aload_n F 0 rfl dX0_gapWith_12 ?_
  refine g_get F 0 0 1 inX0 rfl rfl (by decide) tw_fl_X0_32 rfl dX0_gapWith_13 ?_
  refine g_aload_n F 0 rfl dX0_gapWith_16 ?_
  refine g_get F 0 0 3 inX0 rfl rfl (by decide) tw_fl_X0_15 rfl dX0_gapWith_17 ?_
  refine g_iload_n F 1 rfl dX0_gapWith_20 ?_
  refine g_iald F 6 rfl (by omega) (by decide) dX0_gapWith_21 ?_
  refine g_top (nI (t q)) (hp.1) ?_
  refine g_aload_n F 0 rfl dX0_gapWith_22 ?_
  refine g_get F 0 0 0 inX0 rfl rfl (by decide) tw_fl_X0_28 rfl dX0_gapWith_23 ?_
  refine g_iload_n F 2 rfl dX0_gapWith_26 ?_
  refine g_rVi F (wr := [ob e 0 [.ref m, .ref d, .ref ga, .ref pa, .ref ba, .int (nI rad), .int (nI sus)], ob d 3 [.ref ro, .ref tb, .ref ka, .int (nI kd)], ia E ka 3600 kn, ia E ga 180 gf, ia E pa 3 pf, ia E ba 3 bf]) [.int (nI (t q)), .ref d] (c_X5_at E m a f k b j (fun i hi => (hb.2.1 i hi).1) (by omega) (by omega)) (gi_V tw_ml_X0_71 tw_im_X5_at tw_se_X5_at tw_in_X5 tw_co_X5_at) 1 rfl (by decide) ⟨rfl, rfl, by decide, by decide, Nat.zero_le _, Nat.zero_le _⟩ 5 0 rfl rfl [1, 2] [0, 3, 4, 5, 6, 7] [0, 6, 7, 1, 2, 3, 4, 5] rfl rfl (by decide) rfl rfl (Nat.le_of_ble_eq_true rfl) dX0_gapWith_27 ?_
  refine g_rVi F (wr := [ob e 0 [.ref m, .ref d, .ref ga, .ref pa, .ref ba, .int (nI rad), .int (nI sus)], ob m 5 [.ref a, .int (nI k)], ia E a 60 f, ia E ga 180 gf, ia E pa 3 pf, ia E ba 3 bf]) [] (c_X3_at E d ro tb ka kn kd dd (t q) (b j) (hp.2.1) ((hb.2.1 j hj).2) ((hp.2.2 j hj).1)) (gi_V tw_ml_X0_88 tw_im_X3_at tw_se_X3_at tw_in_X3 tw_co_X3_at) 2 rfl (by decide) ⟨rfl, rfl, by decide, by decide, Nat.zero_le _, Nat.zero_le _⟩ 3 0 rfl rfl [3, 4] [0, 1, 2, 5, 6, 7] [0, 1, 2, 6, 7, 3, 4, 5] rfl rfl (by decide) rfl rfl (Nat.le_of_ble_eq_true rfl) dX0_gapWith_30 ?_
  refine g_istore F 4 [(0, .ref e), (1, .int (nI q)), (2, .int (nI j)), (3, .int (nI (md dd t q (b j)))), (4, .int (nI (dd (t q) (b j))))] [1, 2, 3, 4, 0] dX0_gapWith_33 (by decide) rfl ?_
  refine g_iload F 4 rfl dX0_gapWith_35 ?_
  refine g_iload_n F 3 rfl dX0_gapWith_37 ?_
  refine n_icmp_ge F 46 dX0_gapWith_38 (by decide) (by omega) (by omega) (fun c_38 => ?_) (fun c_38 => ?_)
  · refine g_iload_n F 3 rfl dX0_gapWith_46 ?_
    exact R _ (()) _ _ dX0_gapWith_47 (by rw [show md dd t (q + 1) (b j) = md dd t q (b j) from Nat.min_eq_left c_38])
  · refine g_iload F 4 rfl dX0_gapWith_41 ?_
    refine g_goto F 47 dX0_gapWith_43 (by decide) ?_
    exact R _ (()) _ _ dX0_gapWith_47 (by rw [show md dd t (q + 1) (b j) = dd (t q) (b j) from Nat.min_eq_right (Nat.le_of_lt c_38)])

set_option maxHeartbeats 4000000 in
set_option maxRecDepth 100000 in
theorem c_X0_reachOf (E : Ev) (e : Nat) (ga : Nat) (pa : Nat) (ba : Nat) (gf : Nat → Int32) (pf : Nat → Int32) (bf : Nat → Int32) (rad : Nat) (sus : Nat) (m : Nat) (a : Nat) (f : Nat → Int32) (k : Nat) (d : Nat) (ro : Nat) (tb : Nat) (ka : Nat) (kn : Nat → Int32) (kd : Nat) (b : Nat → Nat) (dd : Nat → Nat → Nat) (t : Nat → Nat) (q : Nat) (hb : MB f k b) (hg : ∀ j, j < k → gf (q * 60 + j) = nI (md dd t q (b j))) (hp : pf q = nI (t q) ∧ t q < 60 ∧ ∀ j, j < k → kn (t q * 60 + b j) = nI (dd (t q) (b j)) ∧ dd (t q) (b j) ≤ 100000) (hq : q < 3) (hs : sus < k) (hr : rad ≤ 100001) : CTi E yX0_reachOf (wq yX0_reachOf cX0_reachOf 5 (some .int)) (rmk 2 46) [.ref e, .int (nI q)] [ob e 0 [.ref m, .ref d, .ref ga, .ref pa, .ref ba, .int (nI rad), .int (nI sus)], ob m 5 [.ref a, .int (nI k)], ia E a 60 f, ob d 3 [.ref ro, .ref tb, .ref ka, .int (nI kd)], ia E ka 3600 kn, ia E ga 180 gf, ia E pa 3 pf, ia E ba 3 bf] (fun (r : Int32) (u : Nat × Nat) => r = nI u.1 ∧ u.1 ≤ 100000 ∧ u.2 < k ∧ (∃ j, j < k ∧ md dd t (q + 1) (b j) = u.1) ∧ (u.1 < rad → ∀ j, j < k → md dd t (q + 1) (b j) ≤ u.1)) (fun (u : Nat × Nat) => [ob e 0 [.ref m, .ref d, .ref ga, .ref pa, .ref ba, .int (nI rad), .int (nI u.2)], ob m 5 [.ref a, .int (nI k)], ia E a 60 f, ob d 3 [.ref ro, .ref tb, .ref ka, .int (nI kd)], ia E ka 3600 kn, ia E ga 180 gf, ia E pa 3 pf, ia E ba 3 bf]) := by
  refine CTi.of (by decide) (Nat.le_of_ble_eq_true rfl) (fun X F R => ?_)
  refine g_lv [0, 1] [(0, .ref e), (1, .int (nI q))] rfl ?_
  have hk := hb.1
  have hmd := fun j => md_le dd t (q + 1) (b j)
  refine g_aload_n F 0 rfl dX0_reachOf_0 ?_
  refine g_iload_n F 1 rfl dX0_reachOf_1 ?_
  refine g_aload_n F 0 rfl dX0_reachOf_2 ?_
  refine g_get F 0 0 6 inX0 rfl rfl (by decide) tw_fl_X0_25 rfl dX0_reachOf_3 ?_
  refine g_rVi F (wr := []) [] (c_X0_gapWith E e ga pa ba gf pf bf rad sus m a f k d ro tb ka kn kd b dd t q sus (hb) (hg) (hp) (hq) (by omega)) (gi_V tw_ml_X0_84 tw_im_X0_gapWith tw_se_X0_gapWith tw_in_X0 tw_co_X0_gapWith) 2 rfl (by decide) ⟨rfl, rfl, by decide, by decide, Nat.zero_le _, Nat.zero_le _⟩ 0 0 rfl rfl [0, 1, 2, 3, 4, 5, 6, 7] [] [0, 1, 2, 3, 4, 5, 6, 7] rfl rfl (by decide) rfl rfl (Nat.le_of_ble_eq_true rfl) dX0_reachOf_6 ?_
  refine g_istore_n F 2 [(0, .ref e), (1, .int (nI q)), (2, .int (nI (md dd t (q + 1) (b sus))))] [1, 2, 0] dX0_reachOf_9 rfl (by decide) rfl ?_
  refine g_iconst F (nI 0) (by decide) dX0_reachOf_10 ?_
  refine g_istore_n F 3 [(0, .ref e), (1, .int (nI q)), (2, .int (nI (md dd t (q + 1) (b sus)))), (3, .int (nI 0))] [1, 2, 3, 0] dX0_reachOf_11 rfl (by decide) rfl ?_
  have lp_12 : ∀ (n_12 : Nat) (i : Nat) (rh : Nat) (s2 : Nat), (i ≤ k) → (rh ≤ 100000) → (s2 < k) → (∃ j, j < k ∧ md dd t (q + 1) (b j) = rh) → (∀ j, j < i → md dd t (q + 1) (b j) ≤ rh) → k - i < n_12 → GW E X 0 0 [ob e 0 [.ref m, .ref d, .ref ga, .ref pa, .ref ba, .int (nI rad), .int (nI s2)], ob m 5 [.ref a, .int (nI k)], ia E a 60 f, ob d 3 [.ref ro, .ref tb, .ref ka, .int (nI kd)], ia E ka 3600 kn, ia E ga 180 gf, ia E pa 3 pf, ia E ba 3 bf] [(0, .ref e), (1, .int (nI q)), (2, .int (nI rh)), (3, .int (nI i))] 12 [] := by
    intro n_12
    induction n_12 with
    | zero => intro i rh s2 hi hro hs2 he hm hm_12; exact absurd hm_12 (Nat.not_lt_zero _)
    | succ n_12 ih_12 =>
      intro i rh s2 hi hro hs2 he hm hm_12
      refine g_iload_n F 3 rfl dX0_reachOf_12 ?_
      refine g_aload_n F 0 rfl dX0_reachOf_13 ?_
      refine g_get F 0 0 0 inX0 rfl rfl (by decide) tw_fl_X0_28 rfl dX0_reachOf_14 ?_
      refine g_rVi F (wr := [ob e 0 [.ref m, .ref d, .ref ga, .ref pa, .ref ba, .int (nI rad), .int (nI s2)], ob d 3 [.ref ro, .ref tb, .ref ka, .int (nI kd)], ia E ka 3600 kn, ia E ga 180 gf, ia E pa 3 pf, ia E ba 3 bf]) [.int (nI i)] (c_X5_size E m a f k ) (gi_V tw_ml_X0_62 tw_im_X5_size tw_se_X5_size tw_in_X5 tw_co_X5_size) 0 rfl (by decide) ⟨rfl, rfl, by decide, by decide, Nat.zero_le _, Nat.zero_le _⟩ 5 0 rfl rfl [1, 2] [0, 3, 4, 5, 6, 7] [0, 6, 7, 1, 2, 3, 4, 5] rfl rfl (by decide) rfl rfl (Nat.le_of_ble_eq_true rfl) dX0_reachOf_17 ?_
      refine n_icmp_ge F 59 dX0_reachOf_20 (by decide) (by omega) (by omega) (fun c_20 => ?_) (fun c_20 => ?_)
      · refine g_iload_n F 2 rfl dX0_reachOf_59 ?_
        exact R _ ((rh, s2)) _ _ dX0_reachOf_60 (by (try dsimp only); exact (⟨rfl, hro, hs2, he, fun _ j hj => hm j (by omega)⟩))
      · refine g_iload_n F 2 rfl dX0_reachOf_23 ?_
        refine g_aload_n F 0 rfl dX0_reachOf_24 ?_
        refine g_get F 0 0 5 inX0 rfl rfl (by decide) tw_fl_X0_21 rfl dX0_reachOf_25 ?_
        refine n_icmp_ge F 59 dX0_reachOf_28 (by decide) (by omega) (by omega) (fun c_28 => ?_) (fun c_28 => ?_)
        · refine g_iload_n F 2 rfl dX0_reachOf_59 ?_
          exact R _ ((rh, s2)) _ _ dX0_reachOf_60 (by (try dsimp only); exact (⟨rfl, hro, hs2, he, fun z => absurd z (by omega)⟩))
        · refine g_aload_n F 0 rfl dX0_reachOf_31 ?_
          refine g_iload_n F 1 rfl dX0_reachOf_32 ?_
          refine g_iload_n F 3 rfl dX0_reachOf_33 ?_
          refine g_rVi F (wr := []) [] (c_X0_gapWith E e ga pa ba gf pf bf rad s2 m a f k d ro tb ka kn kd b dd t q i (hb) (hg) (hp) (hq) (by omega)) (gi_V tw_ml_X0_84 tw_im_X0_gapWith tw_se_X0_gapWith tw_in_X0 tw_co_X0_gapWith) 2 rfl (by decide) ⟨rfl, rfl, by decide, by decide, Nat.zero_le _, Nat.zero_le _⟩ 0 0 rfl rfl [0, 1, 2, 3, 4, 5, 6, 7] [] [0, 1, 2, 3, 4, 5, 6, 7] rfl rfl (by decide) rfl rfl (Nat.le_of_ble_eq_true rfl) dX0_reachOf_34 ?_
          refine g_istore F 4 [(0, .ref e), (1, .int (nI q)), (2, .int (nI rh)), (3, .int (nI i)), (4, .int (nI (md dd t (q + 1) (b i))))] [1, 2, 3, 4, 0] dX0_reachOf_37 (by decide) rfl ?_
          refine g_iload F 4 rfl dX0_reachOf_39 ?_
          refine g_iload_n F 2 rfl dX0_reachOf_41 ?_
          refine n_icmp_le F 53 dX0_reachOf_42 (by decide) (by have := hmd i; omega) (by omega) (fun c_42 => ?_) (fun c_42 => ?_)
          · refine g_iinc F (nI (i + 1)) 3 3 [(0, .ref e), (1, .int (nI q)), (2, .int (nI rh)), (3, .int (nI (i + 1))), (4, .int (nI (md dd t (q + 1) (b i))))] [1, 2, 3, 0, 4] dX0_reachOf_53 rfl (n_inc i) (by decide) rfl ?_
            refine g_goto F 12 dX0_reachOf_56 (by decide) ?_
            refine g_lv [0, 1, 2, 3] [(0, .ref e), (1, .int (nI q)), (2, .int (nI rh)), (3, .int (nI (i + 1)))] rfl ?_
            exact ih_12 (i + 1) rh s2 (by omega) (hro) (hs2) (he) (lt_s hm c_42) (by omega)
          · refine g_iload F 4 rfl dX0_reachOf_45 ?_
            refine g_istore_n F 2 [(0, .ref e), (1, .int (nI q)), (2, .int (nI (md dd t (q + 1) (b i)))), (3, .int (nI i)), (4, .int (nI (md dd t (q + 1) (b i))))] [1, 2, 0, 3, 4] dX0_reachOf_47 rfl (by decide) rfl ?_
            refine g_aload_n F 0 rfl dX0_reachOf_48 ?_
            refine g_iload_n F 3 rfl dX0_reachOf_49 ?_
            refine g_put F 0 0 6 [ob e 0 [.ref m, .ref d, .ref ga, .ref pa, .ref ba, .int (nI rad), .int (nI i)], ob m 5 [.ref a, .int (nI k)], ia E a 60 f, ob d 3 [.ref ro, .ref tb, .ref ka, .int (nI kd)], ia E ka 3600 kn, ia E ga 180 gf, ia E pa 3 pf, ia E ba 3 bf] inX0 tyX0_ok nmX0 rfl rfl (by decide) tw_fl_X0_25 rfl rfl rfl rfl (Nat.le_of_ble_eq_true rfl) rfl dX0_reachOf_50 ?_
            refine g_iinc F (nI (i + 1)) 3 3 [(0, .ref e), (1, .int (nI q)), (2, .int (nI (md dd t (q + 1) (b i)))), (3, .int (nI (i + 1))), (4, .int (nI (md dd t (q + 1) (b i))))] [1, 2, 3, 0, 4] dX0_reachOf_53 rfl (n_inc i) (by decide) rfl ?_
            refine g_goto F 12 dX0_reachOf_56 (by decide) ?_
            refine g_lv [0, 1, 2, 3] [(0, .ref e), (1, .int (nI q)), (2, .int (nI (md dd t (q + 1) (b i)))), (3, .int (nI (i + 1)))] rfl ?_
            exact ih_12 (i + 1) (md dd t (q + 1) (b i)) i (by omega) (hmd i) (by omega) (⟨i, by omega, rfl⟩) (lt_s (fun j hj => by have := hm j hj; omega) (Nat.le_refl _)) (by omega)
  exact lp_12 _ 0 (md dd t (q + 1) (b sus)) sus (by omega) (hmd sus) (hs) (⟨sus, hs, rfl⟩) (fun j hj => absurd hj (Nat.not_lt_zero j)) (Nat.lt_succ_self _)

set_option maxHeartbeats 4000000 in
set_option maxRecDepth 100000 in
theorem c_X0_pick (E : Ev) (e : Nat) (ga : Nat) (pa : Nat) (ba : Nat) (gf : Nat → Int32) (pf : Nat → Int32) (bf : Nat → Int32) (rad : Nat) (sus : Nat) (m : Nat) (a : Nat) (f : Nat → Int32) (k : Nat) (d : Nat) (ro : Nat) (tb : Nat) (ka : Nat) (kn : Nat → Int32) (kd : Nat) (b : Nat → Nat) (dd : Nat → Nat → Nat) (t : Nat → Nat) (q : Nat) (i0 : Nat) (hb : MB f k b) (hd : ∀ i j, i < k → j < k → kn (b i * 60 + b j) = nI (dd (b i) (b j)) ∧ dd (b i) (b j) ≤ 100000) (hq : q < 2) (hi0 : i0 < k) (hg : ∀ j, j < k → gf (q * 60 + j) = nI (md dd t q (b j))) : CTv E yX0_pick (wq yX0_pick cX0_pick 5 none) (rmk 2 46) [.ref e, .int (nI q), .int (nI i0)] [ob e 0 [.ref m, .ref d, .ref ga, .ref pa, .ref ba, .int (nI rad), .int (nI sus)], ob m 5 [.ref a, .int (nI k)], ia E a 60 f, ob d 3 [.ref ro, .ref tb, .ref ka, .int (nI kd)], ia E ka 3600 kn, ia E ga 180 gf, ia E pa 3 pf, ia E ba 3 bf] (fun (u : (Nat → Int32)) => (∀ j, j < k → u ((q + 1) * 60 + j) = nI (md dd (setN t q (b i0)) (q + 1) (b j))) ∧ ∀ x, x < (q + 1) * 60 → u x = gf x) (fun (u : (Nat → Int32)) => [ob e 0 [.ref m, .ref d, .ref ga, .ref pa, .ref ba, .int (nI rad), .int (nI sus)], ob m 5 [.ref a, .int (nI k)], ia E a 60 f, ob d 3 [.ref ro, .ref tb, .ref ka, .int (nI kd)], ia E ka 3600 kn, ia E ga 180 u, ia E pa 3 (upd pf q (nI (b i0))), ia E ba 3 bf]) := by
  refine CTv.of (by decide) (Nat.le_of_ble_eq_true rfl) (fun X F R => ?_)
  refine g_lv [0, 1, 2] [(0, .ref e), (1, .int (nI q)), (2, .int (nI i0))] rfl ?_
  have hk := hb.1
  refine g_aload_n F 0 rfl dX0_pick_0 ?_
  refine g_get F 0 0 3 inX0 rfl rfl (by decide) tw_fl_X0_15 rfl dX0_pick_1 ?_
  refine g_iload_n F 1 rfl dX0_pick_4 ?_
  refine g_aload_n F 0 rfl dX0_pick_5 ?_
  refine g_get F 0 0 0 inX0 rfl rfl (by decide) tw_fl_X0_28 rfl dX0_pick_6 ?_
  refine g_iload_n F 2 rfl dX0_pick_9 ?_
  refine g_rVi F (wr := [ob e 0 [.ref m, .ref d, .ref ga, .ref pa, .ref ba, .int (nI rad), .int (nI sus)], ob d 3 [.ref ro, .ref tb, .ref ka, .int (nI kd)], ia E ka 3600 kn, ia E ga 180 gf, ia E pa 3 pf, ia E ba 3 bf]) [.int (nI q), .ref pa] (c_X5_at E m a f k b i0 (fun i hi => (hb.2.1 i hi).1) (by omega) (by omega)) (gi_V tw_ml_X0_71 tw_im_X5_at tw_se_X5_at tw_in_X5 tw_co_X5_at) 1 rfl (by decide) ⟨rfl, rfl, by decide, by decide, Nat.zero_le _, Nat.zero_le _⟩ 5 0 rfl rfl [1, 2] [0, 3, 4, 5, 6, 7] [0, 6, 7, 1, 2, 3, 4, 5] rfl rfl (by decide) rfl rfl (Nat.le_of_ble_eq_true rfl) dX0_pick_10 ?_
  refine g_iast F 6 [ob e 0 [.ref m, .ref d, .ref ga, .ref pa, .ref ba, .int (nI rad), .int (nI sus)], ob m 5 [.ref a, .int (nI k)], ia E a 60 f, ob d 3 [.ref ro, .ref tb, .ref ka, .int (nI kd)], ia E ka 3600 kn, ia E ga 180 gf, ia E pa 3 (upd pf q (nI (b i0))), ia E ba 3 bf] rfl (by omega) (by decide) rfl dX0_pick_13 ?_
  refine g_iload_n F 1 rfl dX0_pick_14 ?_
  refine g_iconst F (nI 1) (by decide) dX0_pick_15 ?_
  refine n_add F dX0_pick_16 ?_
  refine g_bipush F (nI 60) (by decide) dX0_pick_17 ?_
  refine n_mul F dX0_pick_19 ?_
  refine g_istore_n F 3 [(0, .ref e), (1, .int (nI q)), (2, .int (nI i0)), (3, .int (nI ((q + 1) * 60)))] [1, 2, 3, 0] dX0_pick_20 rfl (by decide) rfl ?_
  refine g_iconst F (nI 0) (by decide) dX0_pick_21 ?_
  refine g_istore F 4 [(0, .ref e), (1, .int (nI q)), (2, .int (nI i0)), (3, .int (nI ((q + 1) * 60))), (4, .int (nI 0))] [1, 2, 3, 4, 0] dX0_pick_22 (by decide) rfl ?_
  have lp_24 : ∀ (n_24 : Nat) (i : Nat) (g : Nat → Int32), (i ≤ k) → (∀ j, j < i → g ((q + 1) * 60 + j) = nI (md dd (setN t q (b i0)) (q + 1) (b j))) → (∀ x, x < (q + 1) * 60 → g x = gf x) → k - i < n_24 → GW E X 0 0 [ob e 0 [.ref m, .ref d, .ref ga, .ref pa, .ref ba, .int (nI rad), .int (nI sus)], ob m 5 [.ref a, .int (nI k)], ia E a 60 f, ob d 3 [.ref ro, .ref tb, .ref ka, .int (nI kd)], ia E ka 3600 kn, ia E ga 180 g, ia E pa 3 (upd pf q (nI (b i0))), ia E ba 3 bf] [(0, .ref e), (1, .int (nI q)), (2, .int (nI i0)), (3, .int (nI ((q + 1) * 60))), (4, .int (nI i))] 24 [] := by
    intro n_24
    induction n_24 with
    | zero => intro i g hi g1 g2 hm_24; exact absurd hm_24 (Nat.not_lt_zero _)
    | succ n_24 ih_24 =>
      intro i g hi g1 g2 hm_24
      refine g_iload F 4 rfl dX0_pick_24 ?_
      refine g_aload_n F 0 rfl dX0_pick_26 ?_
      refine g_get F 0 0 0 inX0 rfl rfl (by decide) tw_fl_X0_28 rfl dX0_pick_27 ?_
      refine g_rVi F (wr := [ob e 0 [.ref m, .ref d, .ref ga, .ref pa, .ref ba, .int (nI rad), .int (nI sus)], ob d 3 [.ref ro, .ref tb, .ref ka, .int (nI kd)], ia E ka 3600 kn, ia E ga 180 g, ia E pa 3 (upd pf q (nI (b i0))), ia E ba 3 bf]) [.int (nI i)] (c_X5_size E m a f k ) (gi_V tw_ml_X0_62 tw_im_X5_size tw_se_X5_size tw_in_X5 tw_co_X5_size) 0 rfl (by decide) ⟨rfl, rfl, by decide, by decide, Nat.zero_le _, Nat.zero_le _⟩ 5 0 rfl rfl [1, 2] [0, 3, 4, 5, 6, 7] [0, 6, 7, 1, 2, 3, 4, 5] rfl rfl (by decide) rfl rfl (Nat.le_of_ble_eq_true rfl) dX0_pick_30 ?_
      refine n_icmp_ge F 58 dX0_pick_33 (by decide) (by omega) (by omega) (fun c_33 => ?_) (fun c_33 => ?_)
      · exact R g _ _ dX0_pick_58 (⟨fun j hj => g1 j (by omega), g2⟩)
      · refine g_aload_n F 0 rfl dX0_pick_36 ?_
        refine g_get F 0 0 2 inX0 rfl rfl (by decide) tw_fl_X0_9 rfl dX0_pick_37 ?_
        refine g_iload_n F 3 rfl dX0_pick_40 ?_
        refine g_iload F 4 rfl dX0_pick_41 ?_
        refine n_add F dX0_pick_43 ?_
        refine g_aload_n F 0 rfl dX0_pick_44 ?_
        refine g_iload_n F 1 rfl dX0_pick_45 ?_
        refine g_iload F 4 rfl dX0_pick_46 ?_
        refine g_rVi F (wr := []) [.int (nI (((q + 1) * 60) + i)), .ref ga] (c_X0_gapWith E e ga pa ba g (upd pf q (nI (b i0))) bf rad sus m a f k d ro tb ka kn kd b dd (setN t q (b i0)) q i (hb) (fun j hj => by rw [g2 _ (by omega), hg j hj, md_congr (b j) (fun l hl => (setN_n (t := t) (x := b i0) (show l ≠ q by omega)).symm)]) (⟨by rw [pk_us, setN_s], by rw [setN_s]; exact (hb.2.1 i0 hi0).2, by rw [setN_s]; exact fun j hj => hd i0 j hi0 hj⟩) (by omega) (by omega)) (gi_V tw_ml_X0_84 tw_im_X0_gapWith tw_se_X0_gapWith tw_in_X0 tw_co_X0_gapWith) 2 rfl (by decide) ⟨rfl, rfl, by decide, by decide, Nat.zero_le _, Nat.zero_le _⟩ 0 0 rfl rfl [0, 1, 2, 3, 4, 5, 6, 7] [] [0, 1, 2, 3, 4, 5, 6, 7] rfl rfl (by decide) rfl rfl (Nat.le_of_ble_eq_true rfl) dX0_pick_48 ?_
        refine g_iast F 5 [ob e 0 [.ref m, .ref d, .ref ga, .ref pa, .ref ba, .int (nI rad), .int (nI sus)], ob m 5 [.ref a, .int (nI k)], ia E a 60 f, ob d 3 [.ref ro, .ref tb, .ref ka, .int (nI kd)], ia E ka 3600 kn, ia E ga 180 (upd g (((q + 1) * 60) + i) (nI (md dd (setN t q (b i0)) (q + 1) (b i)))), ia E pa 3 (upd pf q (nI (b i0))), ia E ba 3 bf] rfl (by omega) (by decide) rfl dX0_pick_51 ?_
        refine g_iinc F (nI (i + 1)) 4 4 [(0, .ref e), (1, .int (nI q)), (2, .int (nI i0)), (3, .int (nI ((q + 1) * 60))), (4, .int (nI (i + 1)))] [1, 2, 3, 4, 0] dX0_pick_52 rfl (n_inc i) (by decide) rfl ?_
        refine g_goto F 24 dX0_pick_55 (by decide) ?_
        exact ih_24 (i + 1) (upd g (((q + 1) * 60) + i) (nI (md dd (setN t q (b i0)) (q + 1) (b i)))) (by omega) (lt_s (fun j hj => (pk_un (by omega)).trans (g1 j hj)) pk_us) (fun x hx => (pk_un (by omega)).trans (g2 x hx)) (by omega)
  exact lp_24 _ 0 gf (by omega) (fun j hj => absurd hj (Nat.not_lt_zero j)) (fun _ _ => rfl) (Nat.lt_succ_self _)

set_option maxHeartbeats 4000000 in
set_option maxRecDepth 100000 in
theorem c_X0_tryLast (E : Ev) (e : Nat) (ga : Nat) (pa : Nat) (ba : Nat) (gf : Nat → Int32) (pf : Nat → Int32) (bf : Nat → Int32) (rad : Nat) (sus : Nat) (m : Nat) (a : Nat) (f : Nat → Int32) (k : Nat) (d : Nat) (ro : Nat) (tb : Nat) (ka : Nat) (kn : Nat → Int32) (kd : Nat) (b : Nat → Nat) (dd : Nat → Nat → Nat) (t : Nat → Nat) (I : Nat → Bool) (Dn : (Nat → Nat) → Prop) (bt : Nat → Nat) (q : Nat) (fr : Nat) (hb : MB f k b) (hI : BK b k I) (hd : ∀ i j, i < k → j < k → kn (b i * 60 + b j) = nI (dd (b i) (b j)) ∧ dd (b i) (b j) ≤ 100000) (hq : q < 3) (hg : ∀ j, j < k → gf (q * 60 + j) = nI (md dd t q (b j))) (hfr : fr ≤ k) (hs : sus < k) (hpf : ∀ j, j < q → pf j = nI (t j)) (hbf : rad ≤ 100000 → ∀ j, j ≤ q → bf j = nI (bt j)) (hB : BSI dd I q Dn rad bt) (hcd : ∀ i, fr ≤ i → i < k → CDT I q (setN t q (b i))) (hor : ∀ i, fr ≤ i → i < k → ∀ t2, Dn t2 → lxl q t2 (setN t q (b i))) : CTv E yX0_tryLast (wq yX0_tryLast cX0_tryLast 5 none) (rmk 3 70) [.ref e, .int (nI q), .int (nI fr)] [ob e 0 [.ref m, .ref d, .ref ga, .ref pa, .ref ba, .int (nI rad), .int (nI sus)], ob m 5 [.ref a, .int (nI k)], ia E a 60 f, ob d 3 [.ref ro, .ref tb, .ref ka, .int (nI kd)], ia E ka 3600 kn, ia E ga 180 gf, ia E pa 3 pf, ia E ba 3 bf] (fun (u : (Nat → Int32) × (Nat → Int32) × Nat × Nat) => (∀ j, j < q → u.1 j = nI (t j)) ∧ u.2.2.2 < k ∧ ∃ bt2, (u.2.2.1 ≤ 100000 → ∀ j, j ≤ q → u.2.1 j = nI (bt2 j)) ∧ BSI dd I q (fun t2 => Dn t2 ∨ ∃ i, fr ≤ i ∧ i < k ∧ agr q t2 (setN t q (b i))) u.2.2.1 bt2) (fun (u : (Nat → Int32) × (Nat → Int32) × Nat × Nat) => [ob e 0 [.ref m, .ref d, .ref ga, .ref pa, .ref ba, .int (nI u.2.2.1), .int (nI u.2.2.2)], ob m 5 [.ref a, .int (nI k)], ia E a 60 f, ob d 3 [.ref ro, .ref tb, .ref ka, .int (nI kd)], ia E ka 3600 kn, ia E ga 180 gf, ia E pa 3 u.1, ia E ba 3 u.2.1]) := by
  refine CTv.of (by decide) (Nat.le_of_ble_eq_true rfl) (fun X F R => ?_)
  refine g_lv [0, 1, 2] [(0, .ref e), (1, .int (nI q)), (2, .int (nI fr))] rfl ?_
  have hk := hb.1
  refine g_iload_n F 2 rfl dX0_tryLast_0 ?_
  refine g_istore_n F 3 [(0, .ref e), (1, .int (nI q)), (2, .int (nI fr)), (3, .int (nI fr))] [1, 2, 3, 0] dX0_tryLast_1 rfl (by decide) rfl ?_
  have lp_2 : ∀ (n_2 : Nat) (i : Nat) (p1 : Nat → Int32) (b1 : Nat → Int32) (r1 : Nat) (s2 : Nat) (bt1 : Nat → Nat), (fr ≤ i) → (i ≤ k) → (∀ j, j < q → p1 j = nI (t j)) → (s2 < k) → (r1 ≤ 100001) → (r1 ≤ 100000 → ∀ j, j ≤ q → b1 j = nI (bt1 j)) → (BSI dd I q (fun t2 => Dn t2 ∨ ∃ i2, fr ≤ i2 ∧ i2 < i ∧ agr q t2 (setN t q (b i2))) r1 bt1) → k - i < n_2 → GW E X 0 0 [ob e 0 [.ref m, .ref d, .ref ga, .ref pa, .ref ba, .int (nI r1), .int (nI s2)], ob m 5 [.ref a, .int (nI k)], ia E a 60 f, ob d 3 [.ref ro, .ref tb, .ref ka, .int (nI kd)], ia E ka 3600 kn, ia E ga 180 gf, ia E pa 3 p1, ia E ba 3 b1] [(0, .ref e), (1, .int (nI q)), (2, .int (nI fr)), (3, .int (nI i))] 2 [] := by
    intro n_2
    induction n_2 with
    | zero => intro i p1 b1 r1 s2 bt1 hfi hi hp1 hs2 hrad hb1 hB1 hm_2; exact absurd hm_2 (Nat.not_lt_zero _)
    | succ n_2 ih_2 =>
      intro i p1 b1 r1 s2 bt1 hfi hi hp1 hs2 hrad hb1 hB1 hm_2
      refine g_iload_n F 3 rfl dX0_tryLast_2 ?_
      refine g_aload_n F 0 rfl dX0_tryLast_3 ?_
      refine g_get F 0 0 0 inX0 rfl rfl (by decide) tw_fl_X0_28 rfl dX0_tryLast_4 ?_
      refine g_rVi F (wr := [ob e 0 [.ref m, .ref d, .ref ga, .ref pa, .ref ba, .int (nI r1), .int (nI s2)], ob d 3 [.ref ro, .ref tb, .ref ka, .int (nI kd)], ia E ka 3600 kn, ia E ga 180 gf, ia E pa 3 p1, ia E ba 3 b1]) [.int (nI i)] (c_X5_size E m a f k ) (gi_V tw_ml_X0_62 tw_im_X5_size tw_se_X5_size tw_in_X5 tw_co_X5_size) 0 rfl (by decide) ⟨rfl, rfl, by decide, by decide, Nat.zero_le _, Nat.zero_le _⟩ 5 0 rfl rfl [1, 2] [0, 3, 4, 5, 6, 7] [0, 6, 7, 1, 2, 3, 4, 5] rfl rfl (by decide) rfl rfl (Nat.le_of_ble_eq_true rfl) dX0_tryLast_7 ?_
      refine n_icmp_ge F 69 dX0_tryLast_10 (by decide) (by omega) (by omega) (fun c_10 => ?_) (fun c_10 => ?_)
      · exact R ((p1, b1, r1, s2)) _ _ dX0_tryLast_69 (by (try dsimp only); exact (⟨hp1, hs2, bt1, hb1, bsi_iff hB1 (fun t2 => ⟨fun z => z.elim Or.inl (fun ⟨i2, y1, y2, y3⟩ => Or.inr ⟨i2, y1, by omega, y3⟩), fun z => z.elim Or.inl (fun ⟨i2, y1, y2, y3⟩ => Or.inr ⟨i2, y1, by omega, y3⟩)⟩)⟩))
      · have hcdi := hcd i hfi c_10
        refine g_aload_n F 0 rfl dX0_tryLast_13 ?_
        refine g_get F 0 0 3 inX0 rfl rfl (by decide) tw_fl_X0_15 rfl dX0_tryLast_14 ?_
        refine g_iload_n F 1 rfl dX0_tryLast_17 ?_
        refine g_aload_n F 0 rfl dX0_tryLast_18 ?_
        refine g_get F 0 0 0 inX0 rfl rfl (by decide) tw_fl_X0_28 rfl dX0_tryLast_19 ?_
        refine g_iload_n F 3 rfl dX0_tryLast_22 ?_
        refine g_rVi F (wr := [ob e 0 [.ref m, .ref d, .ref ga, .ref pa, .ref ba, .int (nI r1), .int (nI s2)], ob d 3 [.ref ro, .ref tb, .ref ka, .int (nI kd)], ia E ka 3600 kn, ia E ga 180 gf, ia E pa 3 p1, ia E ba 3 b1]) [.int (nI q), .ref pa] (c_X5_at E m a f k b i (fun i hi => (hb.2.1 i hi).1) (by omega) (by omega)) (gi_V tw_ml_X0_71 tw_im_X5_at tw_se_X5_at tw_in_X5 tw_co_X5_at) 1 rfl (by decide) ⟨rfl, rfl, by decide, by decide, Nat.zero_le _, Nat.zero_le _⟩ 5 0 rfl rfl [1, 2] [0, 3, 4, 5, 6, 7] [0, 6, 7, 1, 2, 3, 4, 5] rfl rfl (by decide) rfl rfl (Nat.le_of_ble_eq_true rfl) dX0_tryLast_23 ?_
        refine g_iast F 6 [ob e 0 [.ref m, .ref d, .ref ga, .ref pa, .ref ba, .int (nI r1), .int (nI s2)], ob m 5 [.ref a, .int (nI k)], ia E a 60 f, ob d 3 [.ref ro, .ref tb, .ref ka, .int (nI kd)], ia E ka 3600 kn, ia E ga 180 gf, ia E pa 3 (upd p1 q (nI (b i))), ia E ba 3 b1] rfl (by omega) (by decide) rfl dX0_tryLast_26 ?_
        refine g_aload_n F 0 rfl dX0_tryLast_27 ?_
        refine g_iload_n F 1 rfl dX0_tryLast_28 ?_
        refine g_cVi F (wr := []) [] (c_X0_reachOf E e ga pa ba gf (upd p1 q (nI (b i))) b1 r1 s2 m a f k d ro tb ka kn kd b dd (setN t q (b i)) q (hb) (fun j hj => by rw [hg j hj, md_congr (b j) (fun l hl => (setN_n (t := t) (x := b i) (show l ≠ q by omega)).symm)]) (⟨by rw [pk_us, setN_s], by rw [setN_s]; exact (hb.2.1 i (by omega)).2, by rw [setN_s]; exact fun j hj => hd i j (by omega) hj⟩) (hq) (hs2) (hrad)) (gi_V tw_ml_X0_75 tw_im_X0_reachOf tw_se_X0_reachOf tw_in_X0 tw_co_X0_reachOf) 1 rfl (by decide) ⟨rfl, rfl, by decide, by decide, Nat.zero_le _, Nat.zero_le _⟩ 0 0 rfl rfl [0, 1, 2, 3, 4, 5, 6, 7] [] [0, 1, 2, 3, 4, 5, 6, 7] (fun u => [ob e 0 [.ref m, .ref d, .ref ga, .ref pa, .ref ba, .int (nI r1), .int (nI u.2)], ob m 5 [.ref a, .int (nI k)], ia E a 60 f, ob d 3 [.ref ro, .ref tb, .ref ka, .int (nI kd)], ia E ka 3600 kn, ia E ga 180 gf, ia E pa 3 ((upd p1 q (nI (b i)))), ia E ba 3 b1]) rfl rfl (by decide) (fun _ => rfl) rfl (Nat.le_of_ble_eq_true rfl) dX0_tryLast_29 (fun r_29 u hu_29 => ?_)
        obtain ⟨ro_29, s_29⟩ := u
        refine g_ws [ob e 0 [.ref m, .ref d, .ref ga, .ref pa, .ref ba, .int (nI r1), .int (nI s_29)], ob m 5 [.ref a, .int (nI k)], ia E a 60 f, ob d 3 [.ref ro, .ref tb, .ref ka, .int (nI kd)], ia E ka 3600 kn, ia E ga 180 gf, ia E pa 3 ((upd p1 q (nI (b i)))), ia E ba 3 b1] rfl ?_
        dsimp only at hu_29
        obtain ⟨rfl, hro, hs3, hex, hle⟩ := hu_29
        refine g_istore F 4 [(0, .ref e), (1, .int (nI q)), (2, .int (nI fr)), (3, .int (nI i)), (4, .int (nI ro_29))] [1, 2, 3, 4, 0] dX0_tryLast_32 (by decide) rfl ?_
        have hex2 : ∃ x, I x = true ∧ md dd (setN t q (b i)) (q + 1) x = ro_29 := by
          obtain ⟨j, hj, e9⟩ := hex
          exact ⟨b j, hI.at hj, e9⟩
        refine g_iload F 4 rfl dX0_tryLast_34 ?_
        refine g_aload_n F 0 rfl dX0_tryLast_36 ?_
        refine g_get F 0 0 5 inX0 rfl rfl (by decide) tw_fl_X0_21 rfl dX0_tryLast_37 ?_
        refine n_icmp_ge F 63 dX0_tryLast_40 (by decide) (by omega) (by omega) (fun c_40 => ?_) (fun c_40 => ?_)
        · refine g_iinc F (nI (i + 1)) 3 3 [(0, .ref e), (1, .int (nI q)), (2, .int (nI fr)), (3, .int (nI (i + 1))), (4, .int (nI ro_29))] [1, 2, 3, 0, 4] dX0_tryLast_63 rfl (n_inc i) (by decide) rfl ?_
          refine g_goto F 2 dX0_tryLast_66 (by decide) ?_
          refine g_lv [0, 1, 2, 3] [(0, .ref e), (1, .int (nI q)), (2, .int (nI fr)), (3, .int (nI (i + 1)))] rfl ?_
          exact ih_2 (i + 1) ((upd p1 q (nI (b i)))) b1 r1 s_29 bt1 (by omega) (by omega) (fun j hj => (pk_un (by omega)).trans (hp1 j hj)) (hs3) (hrad) (hb1) (bsi_iff (bs_old (by omega) hB1 hex2 (fun t2 z => z.elim (hor i (by omega) (by omega) t2) (fun ⟨i2, y1, y2, y3⟩ => lx_last (by omega) (fun l hl => by rw [y3 l (by omega), setN_n (by omega), setN_n (by omega)]) (by rw [y3 q (Nat.le_refl _), setN_s, setN_s]; exact hb.2.2 i2 i y2 (by omega)))) c_40) (fun t2 => ⟨fun z => z.elim (fun y => y.elim Or.inl (fun ⟨i2, y1, y2, y3⟩ => Or.inr ⟨i2, y1, by omega, y3⟩)) (fun y => Or.inr ⟨i, by omega, by omega, y⟩), fun z => z.elim (fun y => Or.inl (Or.inl y)) (fun ⟨i2, y1, y2, y3⟩ => (Nat.lt_or_ge i2 i).elim (fun c => Or.inl (Or.inr ⟨i2, y1, c, y3⟩)) (fun c => Or.inr (by rw [show i = i2 by omega]; exact y3)))⟩)) (by omega)
        · refine g_aload_n F 0 rfl dX0_tryLast_43 ?_
          refine g_iload F 4 rfl dX0_tryLast_44 ?_
          refine g_put F 0 0 5 [ob e 0 [.ref m, .ref d, .ref ga, .ref pa, .ref ba, .int (nI ro_29), .int (nI s_29)], ob m 5 [.ref a, .int (nI k)], ia E a 60 f, ob d 3 [.ref ro, .ref tb, .ref ka, .int (nI kd)], ia E ka 3600 kn, ia E ga 180 gf, ia E pa 3 ((upd p1 q (nI (b i)))), ia E ba 3 b1] inX0 tyX0_ok nmX0 rfl rfl (by decide) tw_fl_X0_21 rfl rfl rfl rfl (Nat.le_of_ble_eq_true rfl) rfl dX0_tryLast_46 ?_
          refine g_aload_n F 0 rfl dX0_tryLast_49 ?_
          refine g_get F 0 0 3 inX0 rfl rfl (by decide) tw_fl_X0_15 rfl dX0_tryLast_50 ?_
          refine g_iconst F (nI 0) (by decide) dX0_tryLast_53 ?_
          refine g_aload_n F 0 rfl dX0_tryLast_54 ?_
          refine g_get F 0 0 4 inX0 rfl rfl (by decide) tw_fl_X0_18 rfl dX0_tryLast_55 ?_
          refine g_iconst F (nI 0) (by decide) dX0_tryLast_58 ?_
          refine g_iconst F (nI 3) (by decide) dX0_tryLast_59 ?_
          refine g_copy F 6 7 [ob e 0 [.ref m, .ref d, .ref ga, .ref pa, .ref ba, .int (nI ro_29), .int (nI s_29)], ob m 5 [.ref a, .int (nI k)], ia E a 60 f, ob d 3 [.ref ro, .ref tb, .ref ka, .int (nI kd)], ia E ka 3600 kn, ia E ga 180 gf, ia E pa 3 ((upd p1 q (nI (b i)))), ia E ba 3 (va_cpy ((upd p1 q (nI (b i)))) b1 0 0 3)] rfl rfl (by omega) (by omega) (by decide) (by decide) tw_ml_X0_78 (by decide) (Nat.le_of_ble_eq_true rfl) rfl dX0_tryLast_60 ?_
          refine g_iinc F (nI (i + 1)) 3 3 [(0, .ref e), (1, .int (nI q)), (2, .int (nI fr)), (3, .int (nI (i + 1))), (4, .int (nI ro_29))] [1, 2, 3, 0, 4] dX0_tryLast_63 rfl (n_inc i) (by decide) rfl ?_
          refine g_goto F 2 dX0_tryLast_66 (by decide) ?_
          refine g_lv [0, 1, 2, 3] [(0, .ref e), (1, .int (nI q)), (2, .int (nI fr)), (3, .int (nI (i + 1)))] rfl ?_
          exact ih_2 (i + 1) ((upd p1 q (nI (b i)))) (va_cpy ((upd p1 q (nI (b i)))) b1 0 0 3) ro_29 s_29 (setN t q (b i)) (by omega) (by omega) (fun j hj => (pk_un (by omega)).trans (hp1 j hj)) (hs3) (by omega) (fun _ j hj => by
          rw [pk_cpy_in (Nat.zero_le _) (by omega)]
          rw [show 0 + (j - 0) = j by omega]
          unfold upd setN
          split
          · rfl
          · exact hp1 j (by omega)) (bsi_iff (bs_new (by omega) hB1 hcdi hex2 (fun x hx => by
          obtain ⟨j, hj, e9⟩ := (hI x).mp hx
          rw [← e9]
          exact hle (by omega) j hj) c_40) (fun t2 => ⟨fun z => z.elim (fun y => y.elim Or.inl (fun ⟨i2, y1, y2, y3⟩ => Or.inr ⟨i2, y1, by omega, y3⟩)) (fun y => Or.inr ⟨i, by omega, by omega, y⟩), fun z => z.elim (fun y => Or.inl (Or.inl y)) (fun ⟨i2, y1, y2, y3⟩ => (Nat.lt_or_ge i2 i).elim (fun c => Or.inl (Or.inr ⟨i2, y1, c, y3⟩)) (fun c => Or.inr (by rw [show i = i2 by omega]; exact y3)))⟩)) (by omega)
  exact lp_2 _ fr pf bf rad sus bt (by omega) (by omega) (hpf) (hs) (by rcases hB with z | z <;> omega) (hbf) (bsi_iff hB (fun t2 => ⟨Or.inl, fun z => z.elim id (fun ⟨i2, y1, y2, y3⟩ => absurd y1 (by omega))⟩)) (Nat.lt_succ_self _)
end
