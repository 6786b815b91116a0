/-- a private method of a class that the tables say can be made, by its rows of tables_1 -/
def lw_okq (q : MethodName × Nat) : Prop := (q.1.cls ≠ "java/lang/invoke/MethodHandle" ∧ q.1.cls ≠ "java/lang/invoke/VarHandle") ∧ Cond.instantiable q.1.cls q.2 ∈ tables_1 ∧ Cond.privateMethod q.1 ∈ tables_1 ∧ Cond.instanceMethod q.1 ∈ tables_1
theorem lw_p0 : lw_okq (⟨"NearBook$Distances", "remember", "(III)V"⟩, 4) := ⟨⟨by decide +kernel, by decide +kernel⟩, List.mem_of_getElem? (i := 64) (by decide +kernel), List.mem_of_getElem? (i := 272) (by decide +kernel), List.mem_of_getElem? (i := 273) (by decide +kernel)⟩
theorem lw_p1 : lw_okq (⟨"NearBook$Distances", "measure", "(II)I"⟩, 4) := ⟨⟨by decide +kernel, by decide +kernel⟩, List.mem_of_getElem? (i := 64) (by decide +kernel), List.mem_of_getElem? (i := 305) (by decide +kernel), List.mem_of_getElem? (i := 306) (by decide +kernel)⟩
theorem lw_p2 : lw_okq (⟨"NearBook$Rows", "difference", "(III)I"⟩, 4) := ⟨⟨by decide +kernel, by decide +kernel⟩, List.mem_of_getElem? (i := 25) (by decide +kernel), List.mem_of_getElem? (i := 320) (by decide +kernel), List.mem_of_getElem? (i := 321) (by decide +kernel)⟩
theorem lw_p3 : lw_okq (⟨"NearBook$Rows", "hasBefore", "(III)Z"⟩, 4) := ⟨⟨by decide +kernel, by decide +kernel⟩, List.mem_of_getElem? (i := 25) (by decide +kernel), List.mem_of_getElem? (i := 338) (by decide +kernel), List.mem_of_getElem? (i := 339) (by decide +kernel)⟩
theorem lw_p4 : lw_okq (⟨"NearBook$Table", "findBreakers", "(I)Z"⟩, 4) := ⟨⟨by decide +kernel, by decide +kernel⟩, List.mem_of_getElem? (i := 45) (by decide +kernel), List.mem_of_getElem? (i := 363) (by decide +kernel), List.mem_of_getElem? (i := 364) (by decide +kernel)⟩
theorem lw_p5 : lw_okq (⟨"NearBook$Table", "endBeyond", "(III)I"⟩, 4) := ⟨⟨by decide +kernel, by decide +kernel⟩, List.mem_of_getElem? (i := 45) (by decide +kernel), List.mem_of_getElem? (i := 367) (by decide +kernel), List.mem_of_getElem? (i := 368) (by decide +kernel)⟩
theorem lw_p6 : lw_okq (⟨"NearBook$Members", "spotOf", "(I)I"⟩, 2) := ⟨⟨by decide +kernel, by decide +kernel⟩, List.mem_of_getElem? (i := 86) (by decide +kernel), List.mem_of_getElem? (i := 387) (by decide +kernel), List.mem_of_getElem? (i := 388) (by decide +kernel)⟩
theorem lw_p7 : lw_okq (⟨"NearBook", "rankNearFirst", "(II)V"⟩, 10) := ⟨⟨by decide +kernel, by decide +kernel⟩, List.mem_of_getElem? (i := 17) (by decide +kernel), List.mem_of_getElem? (i := 414) (by decide +kernel), List.mem_of_getElem? (i := 415) (by decide +kernel)⟩
theorem lw_p8 : lw_okq (⟨"NearBook", "takeRanked", "(II)I"⟩, 10) := ⟨⟨by decide +kernel, by decide +kernel⟩, List.mem_of_getElem? (i := 17) (by decide +kernel), List.mem_of_getElem? (i := 434) (by decide +kernel), List.mem_of_getElem? (i := 435) (by decide +kernel)⟩
theorem lw_p9 : lw_okq (⟨"NearBook", "rankFarFirst", "(I)V"⟩, 10) := ⟨⟨by decide +kernel, by decide +kernel⟩, List.mem_of_getElem? (i := 17) (by decide +kernel), List.mem_of_getElem? (i := 463) (by decide +kernel), List.mem_of_getElem? (i := 464) (by decide +kernel)⟩
theorem lw_p10 : lw_okq (⟨"NearBook", "openBook", "()Z"⟩, 10) := ⟨⟨by decide +kernel, by decide +kernel⟩, List.mem_of_getElem? (i := 17) (by decide +kernel), List.mem_of_getElem? (i := 487) (by decide +kernel), List.mem_of_getElem? (i := 488) (by decide +kernel)⟩
theorem lw_p11 : lw_okq (⟨"NearBook", "closestKey", "()I"⟩, 10) := ⟨⟨by decide +kernel, by decide +kernel⟩, List.mem_of_getElem? (i := 17) (by decide +kernel), List.mem_of_getElem? (i := 491) (by decide +kernel), List.mem_of_getElem? (i := 492) (by decide +kernel)⟩
theorem lw_p12 : lw_okq (⟨"NearBook$Centres", "closeGaps", "(I)V"⟩, 3) := ⟨⟨by decide +kernel, by decide +kernel⟩, List.mem_of_getElem? (i := 165) (by decide +kernel), List.mem_of_getElem? (i := 522) (by decide +kernel), List.mem_of_getElem? (i := 523) (by decide +kernel)⟩
theorem lw_p13 : lw_okq (⟨"NearBook$Centres", "farthestLoose", "()I"⟩, 3) := ⟨⟨by decide +kernel, by decide +kernel⟩, List.mem_of_getElem? (i := 165) (by decide +kernel), List.mem_of_getElem? (i := 529) (by decide +kernel), List.mem_of_getElem? (i := 530) (by decide +kernel)⟩
theorem lw_p14 : lw_okq (⟨"NearBook$BestCentres", "tryLast", "(II)V"⟩, 7) := ⟨⟨by decide +kernel, by decide +kernel⟩, List.mem_of_getElem? (i := 181) (by decide +kernel), List.mem_of_getElem? (i := 545) (by decide +kernel), List.mem_of_getElem? (i := 546) (by decide +kernel)⟩
theorem lw_p15 : lw_okq (⟨"NearBook$BestCentres", "reachOf", "(I)I"⟩, 7) := ⟨⟨by decide +kernel, by decide +kernel⟩, List.mem_of_getElem? (i := 181) (by decide +kernel), List.mem_of_getElem? (i := 551) (by decide +kernel), List.mem_of_getElem? (i := 552) (by decide +kernel)⟩
def lw_privs_1 : List (MethodName × Nat) := [(⟨"NearBook$Distances", "remember", "(III)V"⟩, 4), (⟨"NearBook$Distances", "measure", "(II)I"⟩, 4), (⟨"NearBook$Rows", "difference", "(III)I"⟩, 4), (⟨"NearBook$Rows", "hasBefore", "(III)Z"⟩, 4), (⟨"NearBook$Table", "findBreakers", "(I)Z"⟩, 4), (⟨"NearBook$Table", "endBeyond", "(III)I"⟩, 4), (⟨"NearBook$Members", "spotOf", "(I)I"⟩, 2), (⟨"NearBook", "rankNearFirst", "(II)V"⟩, 10), (⟨"NearBook", "takeRanked", "(II)I"⟩, 10), (⟨"NearBook", "rankFarFirst", "(I)V"⟩, 10), (⟨"NearBook", "openBook", "()Z"⟩, 10), (⟨"NearBook", "closestKey", "()I"⟩, 10), (⟨"NearBook$Centres", "closeGaps", "(I)V"⟩, 3), (⟨"NearBook$Centres", "farthestLoose", "()I"⟩, 3), (⟨"NearBook$BestCentres", "tryLast", "(II)V"⟩, 7), (⟨"NearBook$BestCentres", "reachOf", "(I)I"⟩, 7)]
theorem lw_r1 : ∀ q ∈ lw_privs_1, lw_okq q := List.forall_mem_cons.mpr ⟨lw_p0, List.forall_mem_cons.mpr ⟨lw_p1, List.forall_mem_cons.mpr ⟨lw_p2, List.forall_mem_cons.mpr ⟨lw_p3, List.forall_mem_cons.mpr ⟨lw_p4, List.forall_mem_cons.mpr ⟨lw_p5, List.forall_mem_cons.mpr ⟨lw_p6, List.forall_mem_cons.mpr ⟨lw_p7, List.forall_mem_cons.mpr ⟨lw_p8, List.forall_mem_cons.mpr ⟨lw_p9, List.forall_mem_cons.mpr ⟨lw_p10, List.forall_mem_cons.mpr ⟨lw_p11, List.forall_mem_cons.mpr ⟨lw_p12, List.forall_mem_cons.mpr ⟨lw_p13, List.forall_mem_cons.mpr ⟨lw_p14, List.forall_mem_cons.mpr ⟨lw_p15, fun _ h => absurd h List.not_mem_nil⟩⟩⟩⟩⟩⟩⟩⟩⟩⟩⟩⟩⟩⟩⟩⟩
theorem lw_p16 : lw_okq (⟨"NearBook$BestCentres", "gapWith", "(II)I"⟩, 7) := ⟨⟨by decide +kernel, by decide +kernel⟩, List.mem_of_getElem? (i := 181) (by decide +kernel), List.mem_of_getElem? (i := 555) (by decide +kernel), List.mem_of_getElem? (i := 556) (by decide +kernel)⟩
theorem lw_p17 : lw_okq (⟨"NearBook$BestCentres", "tryTwos", "()V"⟩, 7) := ⟨⟨by decide +kernel, by decide +kernel⟩, List.mem_of_getElem? (i := 181) (by decide +kernel), List.mem_of_getElem? (i := 563) (by decide +kernel), List.mem_of_getElem? (i := 564) (by decide +kernel)⟩
theorem lw_p18 : lw_okq (⟨"NearBook$BestCentres", "pick", "(II)V"⟩, 7) := ⟨⟨by decide +kernel, by decide +kernel⟩, List.mem_of_getElem? (i := 181) (by decide +kernel), List.mem_of_getElem? (i := 567) (by decide +kernel), List.mem_of_getElem? (i := 568) (by decide +kernel)⟩
theorem lw_p19 : lw_okq (⟨"NearBook$BestCentres", "tryThrees", "()V"⟩, 7) := ⟨⟨by decide +kernel, by decide +kernel⟩, List.mem_of_getElem? (i := 181) (by decide +kernel), List.mem_of_getElem? (i := 571) (by decide +kernel), List.mem_of_getElem? (i := 572) (by decide +kernel)⟩
theorem lw_p20 : lw_okq (⟨"NearBook$Chain", "reachFrom", "(I)V"⟩, 4) := ⟨⟨by decide +kernel, by decide +kernel⟩, List.mem_of_getElem? (i := 128) (by decide +kernel), List.mem_of_getElem? (i := 591) (by decide +kernel), List.mem_of_getElem? (i := 592) (by decide +kernel)⟩
theorem lw_p21 : lw_okq (⟨"NearBook$Chain", "leastLoose", "()I"⟩, 4) := ⟨⟨by decide +kernel, by decide +kernel⟩, List.mem_of_getElem? (i := 128) (by decide +kernel), List.mem_of_getElem? (i := 598) (by decide +kernel), List.mem_of_getElem? (i := 599) (by decide +kernel)⟩
theorem lw_p22 : lw_okq (⟨"NearBook$Pieces", "join", "(II)V"⟩, 3) := ⟨⟨by decide +kernel, by decide +kernel⟩, List.mem_of_getElem? (i := 149) (by decide +kernel), List.mem_of_getElem? (i := 621) (by decide +kernel), List.mem_of_getElem? (i := 622) (by decide +kernel)⟩
theorem lw_p23 : lw_okq (⟨"NearBook", "isBeyondResults", "(II)Z"⟩, 10) := ⟨⟨by decide +kernel, by decide +kernel⟩, List.mem_of_getElem? (i := 17) (by decide +kernel), List.mem_of_getElem? (i := 643) (by decide +kernel), List.mem_of_getElem? (i := 644) (by decide +kernel)⟩
theorem lw_p24 : lw_okq (⟨"NearBook", "sumFrom", "(I)I"⟩, 10) := ⟨⟨by decide +kernel, by decide +kernel⟩, List.mem_of_getElem? (i := 17) (by decide +kernel), List.mem_of_getElem? (i := 652) (by decide +kernel), List.mem_of_getElem? (i := 653) (by decide +kernel)⟩
theorem lw_p25 : lw_okq (⟨"NearBook", "greatestInBook", "()I"⟩, 10) := ⟨⟨by decide +kernel, by decide +kernel⟩, List.mem_of_getElem? (i := 17) (by decide +kernel), List.mem_of_getElem? (i := 664) (by decide +kernel), List.mem_of_getElem? (i := 665) (by decide +kernel)⟩
theorem lw_p26 : lw_okq (⟨"NearBook", "lengthAsked", "(I)I"⟩, 10) := ⟨⟨by decide +kernel, by decide +kernel⟩, List.mem_of_getElem? (i := 17) (by decide +kernel), List.mem_of_getElem? (i := 669) (by decide +kernel), List.mem_of_getElem? (i := 670) (by decide +kernel)⟩
theorem lw_p27 : lw_okq (⟨"NearBookModel", "isThing", "(I)Z"⟩, 17) := ⟨⟨by decide +kernel, by decide +kernel⟩, List.mem_of_getElem? (i := 673) (by decide +kernel), List.mem_of_getElem? (i := 743) (by decide +kernel), List.mem_of_getElem? (i := 744) (by decide +kernel)⟩
theorem lw_p28 : lw_okq (⟨"NearBookModel", "far", "(II)I"⟩, 17) := ⟨⟨by decide +kernel, by decide +kernel⟩, List.mem_of_getElem? (i := 673) (by decide +kernel), List.mem_of_getElem? (i := 760) (by decide +kernel), List.mem_of_getElem? (i := 761) (by decide +kernel)⟩
theorem lw_p29 : lw_okq (⟨"NearBookModel", "unlike", "(II)I"⟩, 17) := ⟨⟨by decide +kernel, by decide +kernel⟩, List.mem_of_getElem? (i := 673) (by decide +kernel), List.mem_of_getElem? (i := 767) (by decide +kernel), List.mem_of_getElem? (i := 768) (by decide +kernel)⟩
theorem lw_p30 : lw_okq (⟨"NearBookModel", "edits", "(II)I"⟩, 17) := ⟨⟨by decide +kernel, by decide +kernel⟩, List.mem_of_getElem? (i := 673) (by decide +kernel), List.mem_of_getElem? (i := 771) (by decide +kernel), List.mem_of_getElem? (i := 772) (by decide +kernel)⟩
theorem lw_p31 : lw_okq (⟨"NearBookModel", "alone", "(II)I"⟩, 17) := ⟨⟨by decide +kernel, by decide +kernel⟩, List.mem_of_getElem? (i := 673) (by decide +kernel), List.mem_of_getElem? (i := 778) (by decide +kernel), List.mem_of_getElem? (i := 779) (by decide +kernel)⟩
def lw_privs_2 : List (MethodName × Nat) := [(⟨"NearBook$BestCentres", "gapWith", "(II)I"⟩, 7), (⟨"NearBook$BestCentres", "tryTwos", "()V"⟩, 7), (⟨"NearBook$BestCentres", "pick", "(II)V"⟩, 7), (⟨"NearBook$BestCentres", "tryThrees", "()V"⟩, 7), (⟨"NearBook$Chain", "reachFrom", "(I)V"⟩, 4), (⟨"NearBook$Chain", "leastLoose", "()I"⟩, 4), (⟨"NearBook$Pieces", "join", "(II)V"⟩, 3), (⟨"NearBook", "isBeyondResults", "(II)Z"⟩, 10), (⟨"NearBook", "sumFrom", "(I)I"⟩, 10), (⟨"NearBook", "greatestInBook", "()I"⟩, 10), (⟨"NearBook", "lengthAsked", "(I)I"⟩, 10), (⟨"NearBookModel", "isThing", "(I)Z"⟩, 17), (⟨"NearBookModel", "far", "(II)I"⟩, 17), (⟨"NearBookModel", "unlike", "(II)I"⟩, 17), (⟨"NearBookModel", "edits", "(II)I"⟩, 17), (⟨"NearBookModel", "alone", "(II)I"⟩, 17)]
theorem lw_r2 : ∀ q ∈ lw_privs_2, lw_okq q := List.forall_mem_cons.mpr ⟨lw_p16, List.forall_mem_cons.mpr ⟨lw_p17, List.forall_mem_cons.mpr ⟨lw_p18, List.forall_mem_cons.mpr ⟨lw_p19, List.forall_mem_cons.mpr ⟨lw_p20, List.forall_mem_cons.mpr ⟨lw_p21, List.forall_mem_cons.mpr ⟨lw_p22, List.forall_mem_cons.mpr ⟨lw_p23, List.forall_mem_cons.mpr ⟨lw_p24, List.forall_mem_cons.mpr ⟨lw_p25, List.forall_mem_cons.mpr ⟨lw_p26, List.forall_mem_cons.mpr ⟨lw_p27, List.forall_mem_cons.mpr ⟨lw_p28, List.forall_mem_cons.mpr ⟨lw_p29, List.forall_mem_cons.mpr ⟨lw_p30, List.forall_mem_cons.mpr ⟨lw_p31, fun _ h => absurd h List.not_mem_nil⟩⟩⟩⟩⟩⟩⟩⟩⟩⟩⟩⟩⟩⟩⟩⟩
theorem lw_p32 : lw_okq (⟨"NearBookModel", "has", "(III)Z"⟩, 17) := ⟨⟨by decide +kernel, by decide +kernel⟩, List.mem_of_getElem? (i := 673) (by decide +kernel), List.mem_of_getElem? (i := 782) (by decide +kernel), List.mem_of_getElem? (i := 783) (by decide +kernel)⟩
theorem lw_p33 : lw_okq (⟨"NearBookModel", "holds", "()Z"⟩, 17) := ⟨⟨by decide +kernel, by decide +kernel⟩, List.mem_of_getElem? (i := 673) (by decide +kernel), List.mem_of_getElem? (i := 790) (by decide +kernel), List.mem_of_getElem? (i := 791) (by decide +kernel)⟩
theorem lw_p34 : lw_okq (⟨"NearBookModel", "those", "(IIZI)I"⟩, 17) := ⟨⟨by decide +kernel, by decide +kernel⟩, List.mem_of_getElem? (i := 673) (by decide +kernel), List.mem_of_getElem? (i := 815) (by decide +kernel), List.mem_of_getElem? (i := 816) (by decide +kernel)⟩
theorem lw_p35 : lw_okq (⟨"NearBookModel", "takesNone", "()V"⟩, 17) := ⟨⟨by decide +kernel, by decide +kernel⟩, List.mem_of_getElem? (i := 673) (by decide +kernel), List.mem_of_getElem? (i := 819) (by decide +kernel), List.mem_of_getElem? (i := 820) (by decide +kernel)⟩
theorem lw_p36 : lw_okq (⟨"NearBookModel", "next", "(IZ)I"⟩, 17) := ⟨⟨by decide +kernel, by decide +kernel⟩, List.mem_of_getElem? (i := 673) (by decide +kernel), List.mem_of_getElem? (i := 823) (by decide +kernel), List.mem_of_getElem? (i := 824) (by decide +kernel)⟩
theorem lw_p37 : lw_okq (⟨"NearBookModel", "gives", "(II)V"⟩, 17) := ⟨⟨by decide +kernel, by decide +kernel⟩, List.mem_of_getElem? (i := 673) (by decide +kernel), List.mem_of_getElem? (i := 827) (by decide +kernel), List.mem_of_getElem? (i := 828) (by decide +kernel)⟩
theorem lw_p38 : lw_okq (⟨"NearBookModel", "inBook", "()I"⟩, 17) := ⟨⟨by decide +kernel, by decide +kernel⟩, List.mem_of_getElem? (i := 673) (by decide +kernel), List.mem_of_getElem? (i := 847) (by decide +kernel), List.mem_of_getElem? (i := 848) (by decide +kernel)⟩
theorem lw_p39 : lw_okq (⟨"NearBookModel", "fromResults", "(I)I"⟩, 17) := ⟨⟨by decide +kernel, by decide +kernel⟩, List.mem_of_getElem? (i := 673) (by decide +kernel), List.mem_of_getElem? (i := 855) (by decide +kernel), List.mem_of_getElem? (i := 856) (by decide +kernel)⟩
theorem lw_p40 : lw_okq (⟨"NearBookModel", "radius", "()I"⟩, 17) := ⟨⟨by decide +kernel, by decide +kernel⟩, List.mem_of_getElem? (i := 673) (by decide +kernel), List.mem_of_getElem? (i := 859) (by decide +kernel), List.mem_of_getElem? (i := 860) (by decide +kernel)⟩
theorem lw_p41 : lw_okq (⟨"NearBookModel", "radiusOf", "(III)I"⟩, 17) := ⟨⟨by decide +kernel, by decide +kernel⟩, List.mem_of_getElem? (i := 673) (by decide +kernel), List.mem_of_getElem? (i := 867) (by decide +kernel), List.mem_of_getElem? (i := 868) (by decide +kernel)⟩
theorem lw_p42 : lw_okq (⟨"NearBookModel", "chains", "()V"⟩, 17) := ⟨⟨by decide +kernel, by decide +kernel⟩, List.mem_of_getElem? (i := 673) (by decide +kernel), List.mem_of_getElem? (i := 876) (by decide +kernel), List.mem_of_getElem? (i := 877) (by decide +kernel)⟩
theorem lw_p43 : lw_okq (⟨"NearBookModel", "alonePieces", "()V"⟩, 17) := ⟨⟨by decide +kernel, by decide +kernel⟩, List.mem_of_getElem? (i := 673) (by decide +kernel), List.mem_of_getElem? (i := 880) (by decide +kernel), List.mem_of_getElem? (i := 881) (by decide +kernel)⟩
theorem lw_p44 : lw_okq (⟨"NearBookModel", "joins", "(II)V"⟩, 17) := ⟨⟨by decide +kernel, by decide +kernel⟩, List.mem_of_getElem? (i := 673) (by decide +kernel), List.mem_of_getElem? (i := 884) (by decide +kernel), List.mem_of_getElem? (i := 885) (by decide +kernel)⟩
theorem lw_p45 : lw_okq (⟨"NearBookModel", "pieces", "(I)V"⟩, 17) := ⟨⟨by decide +kernel, by decide +kernel⟩, List.mem_of_getElem? (i := 673) (by decide +kernel), List.mem_of_getElem? (i := 896) (by decide +kernel), List.mem_of_getElem? (i := 897) (by decide +kernel)⟩
def lw_privs_3 : List (MethodName × Nat) := [(⟨"NearBookModel", "has", "(III)Z"⟩, 17), (⟨"NearBookModel", "holds", "()Z"⟩, 17), (⟨"NearBookModel", "those", "(IIZI)I"⟩, 17), (⟨"NearBookModel", "takesNone", "()V"⟩, 17), (⟨"NearBookModel", "next", "(IZ)I"⟩, 17), (⟨"NearBookModel", "gives", "(II)V"⟩, 17), (⟨"NearBookModel", "inBook", "()I"⟩, 17), (⟨"NearBookModel", "fromResults", "(I)I"⟩, 17), (⟨"NearBookModel", "radius", "()I"⟩, 17), (⟨"NearBookModel", "radiusOf", "(III)I"⟩, 17), (⟨"NearBookModel", "chains", "()V"⟩, 17), (⟨"NearBookModel", "alonePieces", "()V"⟩, 17), (⟨"NearBookModel", "joins", "(II)V"⟩, 17), (⟨"NearBookModel", "pieces", "(I)V"⟩, 17)]
theorem lw_r3 : ∀ q ∈ lw_privs_3, lw_okq q := List.forall_mem_cons.mpr ⟨lw_p32, List.forall_mem_cons.mpr ⟨lw_p33, List.forall_mem_cons.mpr ⟨lw_p34, List.forall_mem_cons.mpr ⟨lw_p35, List.forall_mem_cons.mpr ⟨lw_p36, List.forall_mem_cons.mpr ⟨lw_p37, List.forall_mem_cons.mpr ⟨lw_p38, List.forall_mem_cons.mpr ⟨lw_p39, List.forall_mem_cons.mpr ⟨lw_p40, List.forall_mem_cons.mpr ⟨lw_p41, List.forall_mem_cons.mpr ⟨lw_p42, List.forall_mem_cons.mpr ⟨lw_p43, List.forall_mem_cons.mpr ⟨lw_p44, List.forall_mem_cons.mpr ⟨lw_p45, fun _ h => absurd h List.not_mem_nil⟩⟩⟩⟩⟩⟩⟩⟩⟩⟩⟩⟩⟩⟩
def lw_privs : List (MethodName × Nat) := lw_privs_1 ++ (lw_privs_2 ++ (lw_privs_3))
def lw_tbl : List Cond := k2_sels lw_privs ++ tables_1
theorem lw_privs_ok : ∀ q ∈ lw_privs, lw_okq q := by
  show ∀ q ∈ lw_privs_1 ++ (lw_privs_2 ++ (lw_privs_3)), lw_okq q
  exact List.forall_mem_append.mpr ⟨lw_r1, List.forall_mem_append.mpr ⟨lw_r2, lw_r3⟩⟩

theorem goodIn_r {big : List Cond} (ws : List Cond) (ps : List Nat) (hp : ws = ps.filterMap (fun i => big[i]?)) (h : ws.all goodWord = true) : GoodIn big ws := by
  intro w hw
  have h1 := List.all_eq_true.mp h w hw
  rw [hp] at hw
  obtain ⟨i, -, hi⟩ := List.mem_filterMap.mp hw
  have hm : w ∈ big := by first | exact List.mem_of_getElem? hi | exact List.getElem?_mem hi
  exact ⟨hm, good_of_word h1⟩
theorem goodIn_app {big a b : List Cond} (ha : GoodIn big a) (hb : GoodIn big b) : GoodIn big (a ++ b) := fun w h => (List.mem_append.mp h).elim (ha w) (hb w)
theorem goodIn_ca {big a b : List Cond} {c : Cond} (ha : GoodIn big (c :: a)) (hb : GoodIn big b) : GoodIn big (c :: (a ++ b)) := fun w h => (List.mem_cons.mp h).elim (fun e => ha w (List.mem_cons.mpr (Or.inl e))) (fun h => (List.mem_append.mp h).elim (fun h => ha w (List.mem_cons.mpr (Or.inr h))) (hb w))
theorem goodIn_sub {big ws : List Cond} (hm : ∀ w ∈ ws, w ∈ big) (h : ws.all goodWord = true) : GoodIn big ws := fun w hw => ⟨hm w hw, good_of_word (List.all_eq_true.mp h w hw)⟩

def RX0 : String := "NearBook$BestCentres"
def TX0 : u_T := fun k => match k with
  | 0 => ("NearBook$BestCentres", "members", "LNearBook$Members;", true)
  | 1 => ("NearBook$BestCentres", "distances", "LNearBook$Distances;", true)
  | 2 => ("NearBook$BestCentres", "gaps", "[I", true)
  | 3 => ("NearBook$BestCentres", "picked", "[I", true)
  | 4 => ("NearBook$BestCentres", "best", "[I", true)
  | 5 => ("NearBook$BestCentres", "radius", "I", false)
  | _ => ("NearBook$BestCentres", "suspect", "I", false)
def tyX0 : Nat → FieldType := fun k => match k with
  | 0 => .object "NearBook$Members"
  | 1 => .object "NearBook$Distances"
  | 2 => .array .int
  | 3 => .array .int
  | 4 => .array .int
  | 5 => .int
  | _ => .int
abbrev wsX00 : List Cond := u_ws RX0 TX0 7
theorem nmX0 : ∀ a, a < 7 → ∀ b, b < 7 → a ≠ b → (TX0 a).2.1 ≠ (TX0 b).2.1 := by decide +kernel
theorem tyX0_ok : ∀ k, k < 7 → parseFieldDescriptor (TX0 k).2.2.1 = some (tyX0 k) := by decide +kernel
abbrev cX0_init : ByteArray := prog_2_method_1_code
def yX0_init : MethodName := ⟨RX0, "<init>", "(LNearBook$Members;LNearBook$Distances;)V"⟩
abbrev cX0_take : ByteArray := prog_2_method_2_code
def yX0_take : MethodName := ⟨RX0, "take", "(ILNearBook$Results;)I"⟩
abbrev cX0_tryTwos : ByteArray := prog_2_method_3_code
def yX0_tryTwos : MethodName := ⟨RX0, "tryTwos", "()V"⟩
abbrev cX0_tryThrees : ByteArray := prog_2_method_4_code
def yX0_tryThrees : MethodName := ⟨RX0, "tryThrees", "()V"⟩
abbrev cX0_tryLast : ByteArray := prog_2_method_5_code
def yX0_tryLast : MethodName := ⟨RX0, "tryLast", "(II)V"⟩
abbrev cX0_pick : ByteArray := prog_2_method_6_code
def yX0_pick : MethodName := ⟨RX0, "pick", "(II)V"⟩
abbrev cX0_reachOf : ByteArray := prog_2_method_7_code
def yX0_reachOf : MethodName := ⟨RX0, "reachOf", "(I)I"⟩
abbrev cX0_gapWith : ByteArray := prog_2_method_8_code
def yX0_gapWith : MethodName := ⟨RX0, "gapWith", "(II)I"⟩
def RX1 : String := "NearBook$Centres"
def TX1 : u_T := fun k => match k with
  | 0 => ("NearBook$Centres", "members", "LNearBook$Members;", true)
  | 1 => ("NearBook$Centres", "distances", "LNearBook$Distances;", true)
  | _ => ("NearBook$Centres", "gaps", "[I", true)
def tyX1 : Nat → FieldType := fun k => match k with
  | 0 => .object "NearBook$Members"
  | 1 => .object "NearBook$Distances"
  | _ => .array .int
abbrev wsX10 : List Cond := u_ws RX1 TX1 3
theorem nmX1 : ∀ a, a < 3 → ∀ b, b < 3 → a ≠ b → (TX1 a).2.1 ≠ (TX1 b).2.1 := by decide +kernel
theorem tyX1_ok : ∀ k, k < 3 → parseFieldDescriptor (TX1 k).2.2.1 = some (tyX1 k) := by decide +kernel
abbrev cX1_init : ByteArray := prog_3_method_1_code
def yX1_init : MethodName := ⟨RX1, "<init>", "(LNearBook$Members;LNearBook$Distances;)V"⟩
abbrev cX1_take : ByteArray := prog_3_method_2_code
def yX1_take : MethodName := ⟨RX1, "take", "(ILNearBook$Results;)I"⟩
abbrev cX1_closeGaps : ByteArray := prog_3_method_3_code
def yX1_closeGaps : MethodName := ⟨RX1, "closeGaps", "(I)V"⟩
abbrev cX1_farthestLoose : ByteArray := prog_3_method_4_code
def yX1_farthestLoose : MethodName := ⟨RX1, "farthestLoose", "()I"⟩
def RX2 : String := "NearBook$Chain"
def TX2 : u_T := fun k => match k with
  | 0 => ("NearBook$Chain", "members", "LNearBook$Members;", true)
  | 1 => ("NearBook$Chain", "distances", "LNearBook$Distances;", true)
  | 2 => ("NearBook$Chain", "taken", "LNearBook$Keys;", true)
  | _ => ("NearBook$Chain", "nearestLink", "[I", true)
def tyX2 : Nat → FieldType := fun k => match k with
  | 0 => .object "NearBook$Members"
  | 1 => .object "NearBook$Distances"
  | 2 => .object "NearBook$Keys"
  | _ => .array .int
abbrev wsX20 : List Cond := u_ws RX2 TX2 4
theorem nmX2 : ∀ a, a < 4 → ∀ b, b < 4 → a ≠ b → (TX2 a).2.1 ≠ (TX2 b).2.1 := by decide +kernel
theorem tyX2_ok : ∀ k, k < 4 → parseFieldDescriptor (TX2 k).2.2.1 = some (tyX2 k) := by decide +kernel
abbrev cX2_init : ByteArray := prog_4_method_1_code
def yX2_init : MethodName := ⟨RX2, "<init>", "(LNearBook$Members;LNearBook$Distances;)V"⟩
abbrev cX2_hangTogether : ByteArray := prog_4_method_2_code
def yX2_hangTogether : MethodName := ⟨RX2, "hangTogether", "()LNearBook$Keys;"⟩
abbrev cX2_reachFrom : ByteArray := prog_4_method_3_code
def yX2_reachFrom : MethodName := ⟨RX2, "reachFrom", "(I)V"⟩
abbrev cX2_leastLoose : ByteArray := prog_4_method_4_code
def yX2_leastLoose : MethodName := ⟨RX2, "leastLoose", "()I"⟩
def RX3 : String := "NearBook$Distances"
def TX3 : u_T := fun k => match k with
  | 0 => ("NearBook$Distances", "rows", "LNearBook$Rows;", true)
  | 1 => ("NearBook$Distances", "table", "LNearBook$Table;", true)
  | 2 => ("NearBook$Distances", "known", "[I", true)
  | _ => ("NearBook$Distances", "kind", "I", false)
def tyX3 : Nat → FieldType := fun k => match k with
  | 0 => .object "NearBook$Rows"
  | 1 => .object "NearBook$Table"
  | 2 => .array .int
  | _ => .int
abbrev wsX30 : List Cond := u_ws RX3 TX3 4
theorem nmX3 : ∀ a, a < 4 → ∀ b, b < 4 → a ≠ b → (TX3 a).2.1 ≠ (TX3 b).2.1 := by decide +kernel
theorem tyX3_ok : ∀ k, k < 4 → parseFieldDescriptor (TX3 k).2.2.1 = some (tyX3 k) := by decide +kernel
abbrev cX3_init : ByteArray := prog_5_method_1_code
def yX3_init : MethodName := ⟨RX3, "<init>", "(LNearBook$Rows;LNearBook$Table;)V"⟩
abbrev cX3_kindAtHand : ByteArray := prog_5_method_2_code
def yX3_kindAtHand : MethodName := ⟨RX3, "kindAtHand", "()I"⟩
abbrev cX3_useKind : ByteArray := prog_5_method_3_code
def yX3_useKind : MethodName := ⟨RX3, "useKind", "(I)V"⟩
abbrev cX3_forgetAllOf : ByteArray := prog_5_method_4_code
def yX3_forgetAllOf : MethodName := ⟨RX3, "forgetAllOf", "(I)V"⟩
abbrev cX3_forgetPair : ByteArray := prog_5_method_5_code
def yX3_forgetPair : MethodName := ⟨RX3, "forgetPair", "(II)V"⟩
abbrev cX3_lawHolds : ByteArray := prog_5_method_6_code
def yX3_lawHolds : MethodName := ⟨RX3, "lawHolds", "()Z"⟩
abbrev cX3_between : ByteArray := prog_5_method_7_code
def yX3_between : MethodName := ⟨RX3, "between", "(II)I"⟩
abbrev cX3_at : ByteArray := prog_5_method_8_code
def yX3_at : MethodName := ⟨RX3, "at", "(II)I"⟩
abbrev cX3_pairKey : ByteArray := prog_5_method_9_code
def yX3_pairKey : MethodName := ⟨RX3, "pairKey", "(II)I"⟩
abbrev cX3_remember : ByteArray := prog_5_method_10_code
def yX3_remember : MethodName := ⟨RX3, "remember", "(III)V"⟩
abbrev cX3_measure : ByteArray := prog_5_method_11_code
def yX3_measure : MethodName := ⟨RX3, "measure", "(II)I"⟩
def RX4 : String := "NearBook$Keys"
def TX4 : u_T := fun k => match k with
  | 0 => ("NearBook$Keys", "keys", "[I", true)
  | _ => ("NearBook$Keys", "size", "I", false)
def tyX4 : Nat → FieldType := fun k => match k with
  | 0 => .array .int
  | _ => .int
abbrev wsX40 : List Cond := u_ws RX4 TX4 2
theorem nmX4 : ∀ a, a < 2 → ∀ b, b < 2 → a ≠ b → (TX4 a).2.1 ≠ (TX4 b).2.1 := by decide +kernel
theorem tyX4_ok : ∀ k, k < 2 → parseFieldDescriptor (TX4 k).2.2.1 = some (tyX4 k) := by decide +kernel
abbrev cX4_init : ByteArray := prog_6_method_1_code
def yX4_init : MethodName := ⟨RX4, "<init>", "()V"⟩
abbrev cX4_size : ByteArray := prog_6_method_2_code
def yX4_size : MethodName := ⟨RX4, "size", "()I"⟩
abbrev cX4_at : ByteArray := prog_6_method_3_code
def yX4_at : MethodName := ⟨RX4, "at", "(I)I"⟩
abbrev cX4_clear : ByteArray := prog_6_method_4_code
def yX4_clear : MethodName := ⟨RX4, "clear", "()V"⟩
abbrev cX4_insert : ByteArray := prog_6_method_5_code
def yX4_insert : MethodName := ⟨RX4, "insert", "(I)V"⟩
def RX5 : String := "NearBook$Members"
def TX5 : u_T := fun k => match k with
  | 0 => ("NearBook$Members", "numbers", "[I", true)
  | _ => ("NearBook$Members", "size", "I", false)
def tyX5 : Nat → FieldType := fun k => match k with
  | 0 => .array .int
  | _ => .int
abbrev wsX50 : List Cond := u_ws RX5 TX5 2
theorem nmX5 : ∀ a, a < 2 → ∀ b, b < 2 → a ≠ b → (TX5 a).2.1 ≠ (TX5 b).2.1 := by decide +kernel
theorem tyX5_ok : ∀ k, k < 2 → parseFieldDescriptor (TX5 k).2.2.1 = some (tyX5 k) := by decide +kernel
abbrev cX5_init : ByteArray := prog_7_method_1_code
def yX5_init : MethodName := ⟨RX5, "<init>", "()V"⟩
abbrev cX5_size : ByteArray := prog_7_method_2_code
def yX5_size : MethodName := ⟨RX5, "size", "()I"⟩
abbrev cX5_at : ByteArray := prog_7_method_3_code
def yX5_at : MethodName := ⟨RX5, "at", "(I)I"⟩
abbrev cX5_holds : ByteArray := prog_7_method_4_code
def yX5_holds : MethodName := ⟨RX5, "holds", "(I)Z"⟩
abbrev cX5_insert : ByteArray := prog_7_method_5_code
def yX5_insert : MethodName := ⟨RX5, "insert", "(I)V"⟩
abbrev cX5_remove : ByteArray := prog_7_method_6_code
def yX5_remove : MethodName := ⟨RX5, "remove", "(I)V"⟩
abbrev cX5_spotOf : ByteArray := prog_7_method_7_code
def yX5_spotOf : MethodName := ⟨RX5, "spotOf", "(I)I"⟩
def RX6 : String := "NearBook$Pieces"
def TX6 : u_T := fun k => match k with
  | 0 => ("NearBook$Pieces", "members", "LNearBook$Members;", true)
  | 1 => ("NearBook$Pieces", "distances", "LNearBook$Distances;", true)
  | _ => ("NearBook$Pieces", "lowest", "[I", true)
def tyX6 : Nat → FieldType := fun k => match k with
  | 0 => .object "NearBook$Members"
  | 1 => .object "NearBook$Distances"
  | _ => .array .int
abbrev wsX60 : List Cond := u_ws RX6 TX6 3
theorem nmX6 : ∀ a, a < 3 → ∀ b, b < 3 → a ≠ b → (TX6 a).2.1 ≠ (TX6 b).2.1 := by decide +kernel
theorem tyX6_ok : ∀ k, k < 3 → parseFieldDescriptor (TX6 k).2.2.1 = some (tyX6 k) := by decide +kernel
abbrev cX6_init : ByteArray := prog_8_method_1_code
def yX6_init : MethodName := ⟨RX6, "<init>", "(LNearBook$Members;LNearBook$Distances;)V"⟩
abbrev cX6_gather : ByteArray := prog_8_method_2_code
def yX6_gather : MethodName := ⟨RX6, "gather", "(I)V"⟩
abbrev cX6_howMany : ByteArray := prog_8_method_3_code
def yX6_howMany : MethodName := ⟨RX6, "howMany", "()I"⟩
abbrev cX6_lowestWith : ByteArray := prog_8_method_4_code
def yX6_lowestWith : MethodName := ⟨RX6, "lowestWith", "(I)I"⟩
abbrev cX6_join : ByteArray := prog_8_method_5_code
def yX6_join : MethodName := ⟨RX6, "join", "(II)V"⟩
def RX7 : String := "NearBook$Results"
def TX7 : u_T := fun k => match k with
  | 0 => ("NearBook$Results", "things", "[I", true)
  | 1 => ("NearBook$Results", "apart", "[I", true)
  | _ => ("NearBook$Results", "size", "I", false)
def tyX7 : Nat → FieldType := fun k => match k with
  | 0 => .array .int
  | 1 => .array .int
  | _ => .int
abbrev wsX70 : List Cond := u_ws RX7 TX7 3
theorem nmX7 : ∀ a, a < 3 → ∀ b, b < 3 → a ≠ b → (TX7 a).2.1 ≠ (TX7 b).2.1 := by decide +kernel
theorem tyX7_ok : ∀ k, k < 3 → parseFieldDescriptor (TX7 k).2.2.1 = some (tyX7 k) := by decide +kernel
abbrev cX7_init : ByteArray := prog_9_method_1_code
def yX7_init : MethodName := ⟨RX7, "<init>", "()V"⟩
abbrev cX7_size : ByteArray := prog_9_method_2_code
def yX7_size : MethodName := ⟨RX7, "size", "()I"⟩
abbrev cX7_thingAt : ByteArray := prog_9_method_3_code
def yX7_thingAt : MethodName := ⟨RX7, "thingAt", "(I)I"⟩
abbrev cX7_distanceAt : ByteArray := prog_9_method_4_code
def yX7_distanceAt : MethodName := ⟨RX7, "distanceAt", "(I)I"⟩
abbrev cX7_clear : ByteArray := prog_9_method_5_code
def yX7_clear : MethodName := ⟨RX7, "clear", "()V"⟩
abbrev cX7_append : ByteArray := prog_9_method_6_code
def yX7_append : MethodName := ⟨RX7, "append", "(II)V"⟩
def RX8 : String := "NearBook$Rows"
def TX8 : u_T := fun k => match k with
  | 0 => ("NearBook$Rows", "lengths", "[I", true)
  | 1 => ("NearBook$Rows", "places", "[I", true)
  | 2 => ("NearBook$Rows", "line", "[I", true)
  | _ => ("NearBook$Rows", "size", "I", false)
def tyX8 : Nat → FieldType := fun k => match k with
  | 0 => .array .int
  | 1 => .array .int
  | 2 => .array .int
  | _ => .int
abbrev wsX80 : List Cond := u_ws RX8 TX8 4
theorem nmX8 : ∀ a, a < 4 → ∀ b, b < 4 → a ≠ b → (TX8 a).2.1 ≠ (TX8 b).2.1 := by decide +kernel
theorem tyX8_ok : ∀ k, k < 4 → parseFieldDescriptor (TX8 k).2.2.1 = some (tyX8 k) := by decide +kernel
abbrev cX8_init : ByteArray := prog_10_method_1_code
def yX8_init : MethodName := ⟨RX8, "<init>", "()V"⟩
abbrev cX8_size : ByteArray := prog_10_method_2_code
def yX8_size : MethodName := ⟨RX8, "size", "()I"⟩
abbrev cX8_holds : ByteArray := prog_10_method_3_code
def yX8_holds : MethodName := ⟨RX8, "holds", "(I)Z"⟩
abbrev cX8_lengthOf : ByteArray := prog_10_method_4_code
def yX8_lengthOf : MethodName := ⟨RX8, "lengthOf", "(I)I"⟩
abbrev cX8_append : ByteArray := prog_10_method_5_code
def yX8_append : MethodName := ⟨RX8, "append", "(I)I"⟩
abbrev cX8_change : ByteArray := prog_10_method_6_code
def yX8_change : MethodName := ⟨RX8, "change", "(III)V"⟩
abbrev cX8_unlikePlaces : ByteArray := prog_10_method_7_code
def yX8_unlikePlaces : MethodName := ⟨RX8, "unlikePlaces", "(II)I"⟩
abbrev cX8_sumOfDifferences : ByteArray := prog_10_method_8_code
def yX8_sumOfDifferences : MethodName := ⟨RX8, "sumOfDifferences", "(II)I"⟩
abbrev cX8_greatestDifference : ByteArray := prog_10_method_9_code
def yX8_greatestDifference : MethodName := ⟨RX8, "greatestDifference", "(II)I"⟩
abbrev cX8_fewestEdits : ByteArray := prog_10_method_10_code
def yX8_fewestEdits : MethodName := ⟨RX8, "fewestEdits", "(II)I"⟩
abbrev cX8_valuesMissing : ByteArray := prog_10_method_11_code
def yX8_valuesMissing : MethodName := ⟨RX8, "valuesMissing", "(II)I"⟩
abbrev cX8_hasBefore : ByteArray := prog_10_method_12_code
def yX8_hasBefore : MethodName := ⟨RX8, "hasBefore", "(III)Z"⟩
abbrev cX8_difference : ByteArray := prog_10_method_13_code
def yX8_difference : MethodName := ⟨RX8, "difference", "(III)I"⟩
def RX9 : String := "NearBook$Table"
def TX9 : u_T := fun k => match k with
  | 0 => ("NearBook$Table", "told", "[I", true)
  | 1 => ("NearBook$Table", "breakers", "[I", true)
  | 2 => ("NearBook$Table", "broken", "Z", false)
  | _ => ("NearBook$Table", "checkedThings", "I", false)
def tyX9 : Nat → FieldType := fun k => match k with
  | 0 => .array .int
  | 1 => .array .int
  | 2 => .boolean
  | _ => .int
abbrev wsX90 : List Cond := u_ws RX9 TX9 4
theorem nmX9 : ∀ a, a < 4 → ∀ b, b < 4 → a ≠ b → (TX9 a).2.1 ≠ (TX9 b).2.1 := by decide +kernel
theorem tyX9_ok : ∀ k, k < 4 → parseFieldDescriptor (TX9 k).2.2.1 = some (tyX9 k) := by decide +kernel
abbrev cX9_init : ByteArray := prog_11_method_1_code
def yX9_init : MethodName := ⟨RX9, "<init>", "()V"⟩
abbrev cX9_read : ByteArray := prog_11_method_2_code
def yX9_read : MethodName := ⟨RX9, "read", "(II)I"⟩
abbrev cX9_write : ByteArray := prog_11_method_3_code
def yX9_write : MethodName := ⟨RX9, "write", "(III)V"⟩
abbrev cX9_breaker : ByteArray := prog_11_method_4_code
def yX9_breaker : MethodName := ⟨RX9, "breaker", "(I)I"⟩
abbrev cX9_lawHolds : ByteArray := prog_11_method_5_code
def yX9_lawHolds : MethodName := ⟨RX9, "lawHolds", "(I)Z"⟩
abbrev cX9_findBreakers : ByteArray := prog_11_method_6_code
def yX9_findBreakers : MethodName := ⟨RX9, "findBreakers", "(I)Z"⟩
abbrev cX9_endBeyond : ByteArray := prog_11_method_7_code
def yX9_endBeyond : MethodName := ⟨RX9, "endBeyond", "(III)I"⟩
def RX10 : String := "NearBook"
def TX10 : u_T := fun k => match k with
  | 0 => ("NearBook", "rows", "LNearBook$Rows;", true)
  | 1 => ("NearBook", "table", "LNearBook$Table;", true)
  | 2 => ("NearBook", "distances", "LNearBook$Distances;", true)
  | 3 => ("NearBook", "members", "LNearBook$Members;", true)
  | 4 => ("NearBook", "results", "LNearBook$Results;", true)
  | 5 => ("NearBook", "ranked", "LNearBook$Keys;", true)
  | 6 => ("NearBook", "links", "LNearBook$Chain;", true)
  | 7 => ("NearBook", "pieces", "LNearBook$Pieces;", true)
  | 8 => ("NearBook", "spread", "LNearBook$Centres;", true)
  | _ => ("NearBook", "search", "LNearBook$BestCentres;", true)
def tyX10 : Nat → FieldType := fun k => match k with
  | 0 => .object "NearBook$Rows"
  | 1 => .object "NearBook$Table"
  | 2 => .object "NearBook$Distances"
  | 3 => .object "NearBook$Members"
  | 4 => .object "NearBook$Results"
  | 5 => .object "NearBook$Keys"
  | 6 => .object "NearBook$Chain"
  | 7 => .object "NearBook$Pieces"
  | 8 => .object "NearBook$Centres"
  | _ => .object "NearBook$BestCentres"
abbrev wsX100 : List Cond := u_ws RX10 TX10 10
theorem nmX10 : ∀ a, a < 10 → ∀ b, b < 10 → a ≠ b → (TX10 a).2.1 ≠ (TX10 b).2.1 := by decide +kernel
theorem tyX10_ok : ∀ k, k < 10 → parseFieldDescriptor (TX10 k).2.2.1 = some (tyX10 k) := by decide +kernel
abbrev cX10_init : ByteArray := prog_1_method_1_code
def yX10_init : MethodName := ⟨RX10, "<init>", "()V"⟩
abbrev cX10_thing : ByteArray := prog_1_method_2_code
def yX10_thing : MethodName := ⟨RX10, "thing", "(I)I"⟩
abbrev cX10_value : ByteArray := prog_1_method_3_code
def yX10_value : MethodName := ⟨RX10, "value", "(III)Z"⟩
abbrev cX10_tell : ByteArray := prog_1_method_4_code
def yX10_tell : MethodName := ⟨RX10, "tell", "(III)Z"⟩
abbrev cX10_kind : ByteArray := prog_1_method_5_code
def yX10_kind : MethodName := ⟨RX10, "kind", "(I)Z"⟩
abbrev cX10_distance : ByteArray := prog_1_method_6_code
def yX10_distance : MethodName := ⟨RX10, "distance", "(II)I"⟩
abbrev cX10_law : ByteArray := prog_1_method_7_code
def yX10_law : MethodName := ⟨RX10, "law", "()I"⟩
abbrev cX10_three : ByteArray := prog_1_method_8_code
def yX10_three : MethodName := ⟨RX10, "three", "(I)I"⟩
abbrev cX10_put : ByteArray := prog_1_method_9_code
def yX10_put : MethodName := ⟨RX10, "put", "(I)Z"⟩
abbrev cX10_drop : ByteArray := prog_1_method_10_code
def yX10_drop : MethodName := ⟨RX10, "drop", "(I)Z"⟩
abbrev cX10_has : ByteArray := prog_1_method_11_code
def yX10_has : MethodName := ⟨RX10, "has", "(I)I"⟩
abbrev cX10_nearest : ByteArray := prog_1_method_12_code
def yX10_nearest : MethodName := ⟨RX10, "nearest", "(II)I"⟩
abbrev cX10_within : ByteArray := prog_1_method_13_code
def yX10_within : MethodName := ⟨RX10, "within", "(II)I"⟩
abbrev cX10_farthest : ByteArray := prog_1_method_14_code
def yX10_farthest : MethodName := ⟨RX10, "farthest", "(II)I"⟩
abbrev cX10_result : ByteArray := prog_1_method_15_code
def yX10_result : MethodName := ⟨RX10, "result", "(II)I"⟩
abbrev cX10_closest : ByteArray := prog_1_method_16_code
def yX10_closest : MethodName := ⟨RX10, "closest", "(I)I"⟩
abbrev cX10_centres : ByteArray := prog_1_method_17_code
def yX10_centres : MethodName := ⟨RX10, "centres", "(I)I"⟩
abbrev cX10_best : ByteArray := prog_1_method_18_code
def yX10_best : MethodName := ⟨RX10, "best", "(I)I"⟩
abbrev cX10_chain : ByteArray := prog_1_method_19_code
def yX10_chain : MethodName := ⟨RX10, "chain", "(I)J"⟩
abbrev cX10_pair : ByteArray := prog_1_method_20_code
def yX10_pair : MethodName := ⟨RX10, "pair", "(II)I"⟩
abbrev cX10_clusters : ByteArray := prog_1_method_21_code
def yX10_clusters : MethodName := ⟨RX10, "clusters", "(I)I"⟩
abbrev cX10_cluster : ByteArray := prog_1_method_22_code
def yX10_cluster : MethodName := ⟨RX10, "cluster", "(II)I"⟩
abbrev cX10_net : ByteArray := prog_1_method_23_code
def yX10_net : MethodName := ⟨RX10, "net", "(I)I"⟩
abbrev cX10_middle : ByteArray := prog_1_method_24_code
def yX10_middle : MethodName := ⟨RX10, "middle", "(I)J"⟩
abbrev cX10_count : ByteArray := prog_1_method_25_code
def yX10_count : MethodName := ⟨RX10, "count", "(I)I"⟩
abbrev cX10_openBook : ByteArray := prog_1_method_26_code
def yX10_openBook : MethodName := ⟨RX10, "openBook", "()Z"⟩
abbrev cX10_lengthAsked : ByteArray := prog_1_method_27_code
def yX10_lengthAsked : MethodName := ⟨RX10, "lengthAsked", "(I)I"⟩
abbrev cX10_greatestInBook : ByteArray := prog_1_method_28_code
def yX10_greatestInBook : MethodName := ⟨RX10, "greatestInBook", "()I"⟩
abbrev cX10_closestKey : ByteArray := prog_1_method_29_code
def yX10_closestKey : MethodName := ⟨RX10, "closestKey", "()I"⟩
abbrev cX10_sumFrom : ByteArray := prog_1_method_30_code
def yX10_sumFrom : MethodName := ⟨RX10, "sumFrom", "(I)I"⟩
abbrev cX10_isBeyondResults : ByteArray := prog_1_method_31_code
def yX10_isBeyondResults : MethodName := ⟨RX10, "isBeyondResults", "(II)Z"⟩
abbrev cX10_rankNearFirst : ByteArray := prog_1_method_32_code
def yX10_rankNearFirst : MethodName := ⟨RX10, "rankNearFirst", "(II)V"⟩
abbrev cX10_rankFarFirst : ByteArray := prog_1_method_33_code
def yX10_rankFarFirst : MethodName := ⟨RX10, "rankFarFirst", "(I)V"⟩
abbrev cX10_takeRanked : ByteArray := prog_1_method_34_code
def yX10_takeRanked : MethodName := ⟨RX10, "takeRanked", "(II)I"⟩
abbrev cX10_isHowMany : ByteArray := prog_1_method_35_code
def yX10_isHowMany : MethodName := ⟨RX10, "isHowMany", "(I)Z"⟩
abbrev cX10_sumOfPairs : ByteArray := prog_1_method_36_code
def yX10_sumOfPairs : MethodName := ⟨RX10, "sumOfPairs", "(LNearBook$Keys;)J"⟩
abbrev cX10_partOfPair : ByteArray := prog_1_method_37_code
def yX10_partOfPair : MethodName := ⟨RX10, "partOfPair", "(II)I"⟩
def RX11 : String := "NearBookModel"
def TX11 : u_T := fun k => match k with
  | 0 => ("NearBookModel", "things", "I", false)
  | 1 => ("NearBookModel", "kind", "I", false)
  | 2 => ("NearBookModel", "long8", "[I", true)
  | 3 => ("NearBookModel", "value", "[I", true)
  | 4 => ("NearBookModel", "told", "[I", true)
  | 5 => ("NearBookModel", "isIn", "[Z", true)
  | 6 => ("NearBookModel", "results", "I", false)
  | 7 => ("NearBookModel", "result", "[I", true)
  | 8 => ("NearBookModel", "away", "[I", true)
  | 9 => ("NearBookModel", "cost", "[I", true)
  | 10 => ("NearBookModel", "breaks", "[I", true)
  | 11 => ("NearBookModel", "isTaken", "[Z", true)
  | 12 => ("NearBookModel", "all", "[I", true)
  | 13 => ("NearBookModel", "piece", "[I", true)
  | 14 => ("NearBookModel", "pairs", "I", false)
  | 15 => ("NearBookModel", "pairLow", "[I", true)
  | _ => ("NearBookModel", "pairHigh", "[I", true)
def tyX11 : Nat → FieldType := fun k => match k with
  | 0 => .int
  | 1 => .int
  | 2 => .array .int
  | 3 => .array .int
  | 4 => .array .int
  | 5 => .array .boolean
  | 6 => .int
  | 7 => .array .int
  | 8 => .array .int
  | 9 => .array .int
  | 10 => .array .int
  | 11 => .array .boolean
  | 12 => .array .int
  | 13 => .array .int
  | 14 => .int
  | 15 => .array .int
  | _ => .array .int
abbrev wsX110 : List Cond := u_ws RX11 TX11 17
theorem nmX11 : ∀ a, a < 17 → ∀ b, b < 17 → a ≠ b → (TX11 a).2.1 ≠ (TX11 b).2.1 := by decide +kernel
theorem tyX11_ok : ∀ k, k < 17 → parseFieldDescriptor (TX11 k).2.2.1 = some (tyX11 k) := by decide +kernel
abbrev cX11_init : ByteArray := prog_13_method_1_code
def yX11_init : MethodName := ⟨RX11, "<init>", "()V"⟩
abbrev cX11_lies : ByteArray := prog_13_method_2_code
def yX11_lies : MethodName := ⟨RX11, "lies", "(III)Z"⟩
abbrev cX11_isThing : ByteArray := prog_13_method_3_code
def yX11_isThing : MethodName := ⟨RX11, "isThing", "(I)Z"⟩
abbrev cX11_thing : ByteArray := prog_13_method_4_code
def yX11_thing : MethodName := ⟨RX11, "thing", "(I)I"⟩
abbrev cX11_value : ByteArray := prog_13_method_5_code
def yX11_value : MethodName := ⟨RX11, "value", "(III)Z"⟩
abbrev cX11_tell : ByteArray := prog_13_method_6_code
def yX11_tell : MethodName := ⟨RX11, "tell", "(III)Z"⟩
abbrev cX11_kind : ByteArray := prog_13_method_7_code
def yX11_kind : MethodName := ⟨RX11, "kind", "(I)Z"⟩
abbrev cX11_size : ByteArray := prog_13_method_8_code
def yX11_size : MethodName := ⟨RX11, "size", "(I)I"⟩
abbrev cX11_unlike : ByteArray := prog_13_method_9_code
def yX11_unlike : MethodName := ⟨RX11, "unlike", "(II)I"⟩
abbrev cX11_least : ByteArray := prog_13_method_10_code
def yX11_least : MethodName := ⟨RX11, "least", "(II)I"⟩
abbrev cX11_edits : ByteArray := prog_13_method_11_code
def yX11_edits : MethodName := ⟨RX11, "edits", "(II)I"⟩
abbrev cX11_has : ByteArray := prog_13_method_12_code
def yX11_has : MethodName := ⟨RX11, "has", "(III)Z"⟩
abbrev cX11_alone : ByteArray := prog_13_method_13_code
def yX11_alone : MethodName := ⟨RX11, "alone", "(II)I"⟩
abbrev cX11_far : ByteArray := prog_13_method_14_code
def yX11_far : MethodName := ⟨RX11, "far", "(II)I"⟩
abbrev cX11_distance : ByteArray := prog_13_method_15_code
def yX11_distance : MethodName := ⟨RX11, "distance", "(II)I"⟩
abbrev cX11_holds : ByteArray := prog_13_method_16_code
def yX11_holds : MethodName := ⟨RX11, "holds", "()Z"⟩
abbrev cX11_law : ByteArray := prog_13_method_17_code
def yX11_law : MethodName := ⟨RX11, "law", "()I"⟩
abbrev cX11_three : ByteArray := prog_13_method_18_code
def yX11_three : MethodName := ⟨RX11, "three", "(I)I"⟩
abbrev cX11_put : ByteArray := prog_13_method_19_code
def yX11_put : MethodName := ⟨RX11, "put", "(I)Z"⟩
abbrev cX11_drop : ByteArray := prog_13_method_20_code
def yX11_drop : MethodName := ⟨RX11, "drop", "(I)Z"⟩
abbrev cX11_has_ : ByteArray := prog_13_method_21_code
def yX11_has_ : MethodName := ⟨RX11, "has", "(I)I"⟩
abbrev cX11_inBook : ByteArray := prog_13_method_22_code
def yX11_inBook : MethodName := ⟨RX11, "inBook", "()I"⟩
abbrev cX11_takesNone : ByteArray := prog_13_method_23_code
def yX11_takesNone : MethodName := ⟨RX11, "takesNone", "()V"⟩
abbrev cX11_gives : ByteArray := prog_13_method_24_code
def yX11_gives : MethodName := ⟨RX11, "gives", "(II)V"⟩
abbrev cX11_next : ByteArray := prog_13_method_25_code
def yX11_next : MethodName := ⟨RX11, "next", "(IZ)I"⟩
abbrev cX11_those : ByteArray := prog_13_method_26_code
def yX11_those : MethodName := ⟨RX11, "those", "(IIZI)I"⟩
abbrev cX11_nearest : ByteArray := prog_13_method_27_code
def yX11_nearest : MethodName := ⟨RX11, "nearest", "(II)I"⟩
abbrev cX11_within : ByteArray := prog_13_method_28_code
def yX11_within : MethodName := ⟨RX11, "within", "(II)I"⟩
abbrev cX11_farthest : ByteArray := prog_13_method_29_code
def yX11_farthest : MethodName := ⟨RX11, "farthest", "(II)I"⟩
abbrev cX11_result : ByteArray := prog_13_method_30_code
def yX11_result : MethodName := ⟨RX11, "result", "(II)I"⟩
abbrev cX11_closest : ByteArray := prog_13_method_31_code
def yX11_closest : MethodName := ⟨RX11, "closest", "(I)I"⟩
abbrev cX11_fromResults : ByteArray := prog_13_method_32_code
def yX11_fromResults : MethodName := ⟨RX11, "fromResults", "(I)I"⟩
abbrev cX11_radius : ByteArray := prog_13_method_33_code
def yX11_radius : MethodName := ⟨RX11, "radius", "()I"⟩
abbrev cX11_centres : ByteArray := prog_13_method_34_code
def yX11_centres : MethodName := ⟨RX11, "centres", "(I)I"⟩
abbrev cX11_radiusOf : ByteArray := prog_13_method_35_code
def yX11_radiusOf : MethodName := ⟨RX11, "radiusOf", "(III)I"⟩
abbrev cX11_best : ByteArray := prog_13_method_36_code
def yX11_best : MethodName := ⟨RX11, "best", "(I)I"⟩
abbrev cX11_joins : ByteArray := prog_13_method_37_code
def yX11_joins : MethodName := ⟨RX11, "joins", "(II)V"⟩
abbrev cX11_alonePieces : ByteArray := prog_13_method_38_code
def yX11_alonePieces : MethodName := ⟨RX11, "alonePieces", "()V"⟩
abbrev cX11_chains : ByteArray := prog_13_method_39_code
def yX11_chains : MethodName := ⟨RX11, "chains", "()V"⟩
abbrev cX11_chain : ByteArray := prog_13_method_40_code
def yX11_chain : MethodName := ⟨RX11, "chain", "(I)J"⟩
abbrev cX11_pair : ByteArray := prog_13_method_41_code
def yX11_pair : MethodName := ⟨RX11, "pair", "(II)I"⟩
abbrev cX11_pieces : ByteArray := prog_13_method_42_code
def yX11_pieces : MethodName := ⟨RX11, "pieces", "(I)V"⟩
abbrev cX11_clusters : ByteArray := prog_13_method_43_code
def yX11_clusters : MethodName := ⟨RX11, "clusters", "(I)I"⟩
abbrev cX11_cluster : ByteArray := prog_13_method_44_code
def yX11_cluster : MethodName := ⟨RX11, "cluster", "(II)I"⟩
abbrev cX11_net : ByteArray := prog_13_method_45_code
def yX11_net : MethodName := ⟨RX11, "net", "(I)I"⟩
abbrev cX11_middle : ByteArray := prog_13_method_46_code
def yX11_middle : MethodName := ⟨RX11, "middle", "(I)J"⟩
abbrev cX11_count : ByteArray := prog_13_method_47_code
def yX11_count : MethodName := ⟨RX11, "count", "(I)I"⟩
def RJ9 : String := "java/lang/Math"
def TJ9 : u_T := fun k => match k with
  | _ => ("", "", "", false)
def tyJ9 : Nat → FieldType := fun k => match k with
  | _ => .int
abbrev wsJ90 : List Cond := u_ws RJ9 TJ9 0
theorem nmJ9 : ∀ a, a < 0 → ∀ b, b < 0 → a ≠ b → (TJ9 a).2.1 ≠ (TJ9 b).2.1 := by decide +kernel
theorem tyJ9_ok : ∀ k, k < 0 → parseFieldDescriptor (TJ9 k).2.2.1 = some (tyJ9 k) := by decide +kernel
abbrev cJ9_abs_0f7a4 : ByteArray := prog_14_method_59_code
def yJ9_abs_0f7a4 : MethodName := ⟨RJ9, "abs", "(I)I"⟩
abbrev cJ9_max_7cf53 : ByteArray := prog_14_method_65_code
def yJ9_max_7cf53 : MethodName := ⟨RJ9, "max", "(II)I"⟩
abbrev cJ9_min_7cf53 : ByteArray := prog_14_method_69_code
def yJ9_min_7cf53 : MethodName := ⟨RJ9, "min", "(II)I"⟩
def RJ10 : String := "java/lang/System"
def TJ10 : u_T := fun k => match k with
  | _ => ("", "", "", false)
def tyJ10 : Nat → FieldType := fun k => match k with
  | _ => .int
abbrev wsJ100 : List Cond := u_ws RJ10 TJ10 0
theorem nmJ10 : ∀ a, a < 0 → ∀ b, b < 0 → a ≠ b → (TJ10 a).2.1 ≠ (TJ10 b).2.1 := by decide +kernel
theorem tyJ10_ok : ∀ k, k < 0 → parseFieldDescriptor (TJ10 k).2.2.1 = some (tyJ10 k) := by decide +kernel
def RJ7 : String := "java/util/Arrays"
def TJ7 : u_T := fun k => match k with
  | _ => ("", "", "", false)
def tyJ7 : Nat → FieldType := fun k => match k with
  | _ => .int
abbrev wsJ70 : List Cond := u_ws RJ7 TJ7 0
theorem nmJ7 : ∀ a, a < 0 → ∀ b, b < 0 → a ≠ b → (TJ7 a).2.1 ≠ (TJ7 b).2.1 := by decide +kernel
theorem tyJ7_ok : ∀ k, k < 0 → parseFieldDescriptor (TJ7 k).2.2.1 = some (tyJ7 k) := by decide +kernel
abbrev cJ7_fill_53178 : ByteArray := prog_16_method_103_code
def yJ7_fill_53178 : MethodName := ⟨RJ7, "fill", "([II)V"⟩
def RL : String := "NearBookLaw"
abbrev cL_law : ByteArray := code
abbrev vwCl : List vw_C := [(RX0, TX0, 7), (RX1, TX1, 3), (RX2, TX2, 4), (RX3, TX3, 4), (RX4, TX4, 2), (RX5, TX5, 2), (RX6, TX6, 3), (RX7, TX7, 3), (RX8, TX8, 4), (RX9, TX9, 4), (RX10, TX10, 10), (RX11, TX11, 17)]
