-- ===== PART A: goes FIRST, ahead of the names: the tables' words, and 'selects' of the private methods out of them =====
/-- a private method of a class that the tables say can be made, by its rows of tables_1 -/
def lw_okq (q : MethodName × Nat) : Prop := (q.1.cls ≠ "java/lang/invoke/MethodHandle" ∧ q.1.cls ≠ "java/lang/invoke/VarHandle") ∧ Cond.instantiable q.1.cls q.2 ∈ tables_1 ∧ Cond.privateMethod q.1 ∈ tables_1 ∧ Cond.instanceMethod q.1 ∈ tables_1
theorem lw_p0 : lw_okq (⟨"LeastPays", "comesFrom", "(LLeastPays$Shelf;J)Z"⟩, 10) := ⟨⟨by decide +kernel, by decide +kernel⟩, List.mem_of_getElem? (i := 17) (by decide +kernel), List.mem_of_getElem? (i := 442) (by decide +kernel), List.mem_of_getElem? (i := 443) (by decide +kernel)⟩
theorem lw_p1 : lw_okq (⟨"LeastPays$Changes", "dropOldest", "()V"⟩, 6) := ⟨⟨by decide +kernel, by decide +kernel⟩, List.mem_of_getElem? (i := 279) (by decide +kernel), List.mem_of_getElem? (i := 479) (by decide +kernel), List.mem_of_getElem? (i := 480) (by decide +kernel)⟩
theorem lw_p2 : lw_okq (⟨"LeastPays", "ofTheTable", "(I)I"⟩, 10) := ⟨⟨by decide +kernel, by decide +kernel⟩, List.mem_of_getElem? (i := 17) (by decide +kernel), List.mem_of_getElem? (i := 490) (by decide +kernel), List.mem_of_getElem? (i := 491) (by decide +kernel)⟩
theorem lw_p3 : lw_okq (⟨"LeastPays", "ofOne", "(II)I"⟩, 10) := ⟨⟨by decide +kernel, by decide +kernel⟩, List.mem_of_getElem? (i := 17) (by decide +kernel), List.mem_of_getElem? (i := 512) (by decide +kernel), List.mem_of_getElem? (i := 513) (by decide +kernel)⟩
theorem lw_p4 : lw_okq (⟨"LeastPays$Hat", "partAmongAlike", "(I)I"⟩, 11) := ⟨⟨by decide +kernel, by decide +kernel⟩, List.mem_of_getElem? (i := 105) (by decide +kernel), List.mem_of_getElem? (i := 524) (by decide +kernel), List.mem_of_getElem? (i := 525) (by decide +kernel)⟩
theorem lw_p5 : lw_okq (⟨"LeastPays$Hat", "partOfTwo", "(I)I"⟩, 11) := ⟨⟨by decide +kernel, by decide +kernel⟩, List.mem_of_getElem? (i := 105) (by decide +kernel), List.mem_of_getElem? (i := 528) (by decide +kernel), List.mem_of_getElem? (i := 529) (by decide +kernel)⟩
theorem lw_p6 : lw_okq (⟨"LeastPays$Hat", "givenBack", "(I)I"⟩, 11) := ⟨⟨by decide +kernel, by decide +kernel⟩, List.mem_of_getElem? (i := 105) (by decide +kernel), List.mem_of_getElem? (i := 532) (by decide +kernel), List.mem_of_getElem? (i := 533) (by decide +kernel)⟩
theorem lw_p7 : lw_okq (⟨"LeastPays$Law", "readLines", "()V"⟩, 11) := ⟨⟨by decide +kernel, by decide +kernel⟩, List.mem_of_getElem? (i := 209) (by decide +kernel), List.mem_of_getElem? (i := 559) (by decide +kernel), List.mem_of_getElem? (i := 560) (by decide +kernel)⟩
theorem lw_p8 : lw_okq (⟨"LeastPays$Law", "readLine", "()V"⟩, 11) := ⟨⟨by decide +kernel, by decide +kernel⟩, List.mem_of_getElem? (i := 209) (by decide +kernel), List.mem_of_getElem? (i := 563) (by decide +kernel), List.mem_of_getElem? (i := 564) (by decide +kernel)⟩
theorem lw_p9 : lw_okq (⟨"LeastPays$Law", "readEither", "(I)V"⟩, 11) := ⟨⟨by decide +kernel, by decide +kernel⟩, List.mem_of_getElem? (i := 209) (by decide +kernel), List.mem_of_getElem? (i := 567) (by decide +kernel), List.mem_of_getElem? (i := 568) (by decide +kernel)⟩
theorem lw_p10 : lw_okq (⟨"LeastPays$Law", "readBoth", "(I)V"⟩, 11) := ⟨⟨by decide +kernel, by decide +kernel⟩, List.mem_of_getElem? (i := 209) (by decide +kernel), List.mem_of_getElem? (i := 571) (by decide +kernel), List.mem_of_getElem? (i := 572) (by decide +kernel)⟩
theorem lw_p11 : lw_okq (⟨"LeastPays$Law", "readCompared", "(I)V"⟩, 11) := ⟨⟨by decide +kernel, by decide +kernel⟩, List.mem_of_getElem? (i := 209) (by decide +kernel), List.mem_of_getElem? (i := 575) (by decide +kernel), List.mem_of_getElem? (i := 576) (by decide +kernel)⟩
theorem lw_p12 : lw_okq (⟨"LeastPays$Law", "readSum", "(I)V"⟩, 11) := ⟨⟨by decide +kernel, by decide +kernel⟩, List.mem_of_getElem? (i := 209) (by decide +kernel), List.mem_of_getElem? (i := 579) (by decide +kernel), List.mem_of_getElem? (i := 580) (by decide +kernel)⟩
theorem lw_p13 : lw_okq (⟨"LeastPays$Law", "readProduct", "(I)V"⟩, 11) := ⟨⟨by decide +kernel, by decide +kernel⟩, List.mem_of_getElem? (i := 209) (by decide +kernel), List.mem_of_getElem? (i := 583) (by decide +kernel), List.mem_of_getElem? (i := 584) (by decide +kernel)⟩
theorem lw_p14 : lw_okq (⟨"LeastPays$Law", "readOperand", "(I)V"⟩, 11) := ⟨⟨by decide +kernel, by decide +kernel⟩, List.mem_of_getElem? (i := 209) (by decide +kernel), List.mem_of_getElem? (i := 587) (by decide +kernel), List.mem_of_getElem? (i := 588) (by decide +kernel)⟩
theorem lw_p15 : lw_okq (⟨"LeastPays$Law", "letterHere", "()I"⟩, 11) := ⟨⟨by decide +kernel, by decide +kernel⟩, List.mem_of_getElem? (i := 209) (by decide +kernel), List.mem_of_getElem? (i := 591) (by decide +kernel), List.mem_of_getElem? (i := 592) (by decide +kernel)⟩
def lw_privs_1 : List (MethodName × Nat) := [(⟨"LeastPays", "comesFrom", "(LLeastPays$Shelf;J)Z"⟩, 10), (⟨"LeastPays$Changes", "dropOldest", "()V"⟩, 6), (⟨"LeastPays", "ofTheTable", "(I)I"⟩, 10), (⟨"LeastPays", "ofOne", "(II)I"⟩, 10), (⟨"LeastPays$Hat", "partAmongAlike", "(I)I"⟩, 11), (⟨"LeastPays$Hat", "partOfTwo", "(I)I"⟩, 11), (⟨"LeastPays$Hat", "givenBack", "(I)I"⟩, 11), (⟨"LeastPays$Law", "readLines", "()V"⟩, 11), (⟨"LeastPays$Law", "readLine", "()V"⟩, 11), (⟨"LeastPays$Law", "readEither", "(I)V"⟩, 11), (⟨"LeastPays$Law", "readBoth", "(I)V"⟩, 11), (⟨"LeastPays$Law", "readCompared", "(I)V"⟩, 11), (⟨"LeastPays$Law", "readSum", "(I)V"⟩, 11), (⟨"LeastPays$Law", "readProduct", "(I)V"⟩, 11), (⟨"LeastPays$Law", "readOperand", "(I)V"⟩, 11), (⟨"LeastPays$Law", "letterHere", "()I"⟩, 11)]
theorem lw_r1 : ∀ q ∈ lw_privs_1, lw_okq q := List.forall_mem_cons.mpr ⟨lw_p0, List.forall_mem_cons.mpr ⟨lw_p1, List.forall_mem_cons.mpr ⟨lw_p2, List.forall_mem_cons.mpr ⟨lw_p3, List.forall_mem_cons.mpr ⟨lw_p4, List.forall_mem_cons.mpr ⟨lw_p5, List.forall_mem_cons.mpr ⟨lw_p6, List.forall_mem_cons.mpr ⟨lw_p7, List.forall_mem_cons.mpr ⟨lw_p8, List.forall_mem_cons.mpr ⟨lw_p9, List.forall_mem_cons.mpr ⟨lw_p10, List.forall_mem_cons.mpr ⟨lw_p11, List.forall_mem_cons.mpr ⟨lw_p12, List.forall_mem_cons.mpr ⟨lw_p13, List.forall_mem_cons.mpr ⟨lw_p14, List.forall_mem_cons.mpr ⟨lw_p15, fun _ h => absurd h List.not_mem_nil⟩⟩⟩⟩⟩⟩⟩⟩⟩⟩⟩⟩⟩⟩⟩⟩
theorem lw_p16 : lw_okq (⟨"LeastPays$Law", "readNumber", "()V"⟩, 11) := ⟨⟨by decide +kernel, by decide +kernel⟩, List.mem_of_getElem? (i := 209) (by decide +kernel), List.mem_of_getElem? (i := 601) (by decide +kernel), List.mem_of_getElem? (i := 602) (by decide +kernel)⟩
theorem lw_p17 : lw_okq (⟨"LeastPays$Law", "write", "(I)V"⟩, 11) := ⟨⟨by decide +kernel, by decide +kernel⟩, List.mem_of_getElem? (i := 209) (by decide +kernel), List.mem_of_getElem? (i := 605) (by decide +kernel), List.mem_of_getElem? (i := 606) (by decide +kernel)⟩
theorem lw_p18 : lw_okq (⟨"LeastPays$Law", "fail", "()V"⟩, 11) := ⟨⟨by decide +kernel, by decide +kernel⟩, List.mem_of_getElem? (i := 209) (by decide +kernel), List.mem_of_getElem? (i := 609) (by decide +kernel), List.mem_of_getElem? (i := 610) (by decide +kernel)⟩
theorem lw_p19 : lw_okq (⟨"LeastPays$Law", "takes", "(C)Z"⟩, 11) := ⟨⟨by decide +kernel, by decide +kernel⟩, List.mem_of_getElem? (i := 209) (by decide +kernel), List.mem_of_getElem? (i := 613) (by decide +kernel), List.mem_of_getElem? (i := 614) (by decide +kernel)⟩
theorem lw_p20 : lw_okq (⟨"LeastPays$Law", "takesProductSign", "()I"⟩, 11) := ⟨⟨by decide +kernel, by decide +kernel⟩, List.mem_of_getElem? (i := 209) (by decide +kernel), List.mem_of_getElem? (i := 617) (by decide +kernel), List.mem_of_getElem? (i := 618) (by decide +kernel)⟩
theorem lw_p21 : lw_okq (⟨"LeastPays$Law", "takesSumSign", "()I"⟩, 11) := ⟨⟨by decide +kernel, by decide +kernel⟩, List.mem_of_getElem? (i := 209) (by decide +kernel), List.mem_of_getElem? (i := 621) (by decide +kernel), List.mem_of_getElem? (i := 622) (by decide +kernel)⟩
theorem lw_p22 : lw_okq (⟨"LeastPays$Minds", "sumsOf", "(I)I"⟩, 6) := ⟨⟨by decide +kernel, by decide +kernel⟩, List.mem_of_getElem? (i := 153) (by decide +kernel), List.mem_of_getElem? (i := 635) (by decide +kernel), List.mem_of_getElem? (i := 636) (by decide +kernel)⟩
theorem lw_p23 : lw_okq (⟨"LeastPays$Minds", "costBy", "(II)I"⟩, 6) := ⟨⟨by decide +kernel, by decide +kernel⟩, List.mem_of_getElem? (i := 153) (by decide +kernel), List.mem_of_getElem? (i := 639) (by decide +kernel), List.mem_of_getElem? (i := 640) (by decide +kernel)⟩
theorem lw_p24 : lw_okq (⟨"LeastPays$Minds", "layByChance", "(II)J"⟩, 6) := ⟨⟨by decide +kernel, by decide +kernel⟩, List.mem_of_getElem? (i := 153) (by decide +kernel), List.mem_of_getElem? (i := 655) (by decide +kernel), List.mem_of_getElem? (i := 656) (by decide +kernel)⟩
theorem lw_p25 : lw_okq (⟨"LeastPays$Minds", "wouldChange", "(I)Z"⟩, 6) := ⟨⟨by decide +kernel, by decide +kernel⟩, List.mem_of_getElem? (i := 153) (by decide +kernel), List.mem_of_getElem? (i := 684) (by decide +kernel), List.mem_of_getElem? (i := 685) (by decide +kernel)⟩
theorem lw_p26 : lw_okq (⟨"LeastPays$Minds", "ways", "()J"⟩, 6) := ⟨⟨by decide +kernel, by decide +kernel⟩, List.mem_of_getElem? (i := 153) (by decide +kernel), List.mem_of_getElem? (i := 696) (by decide +kernel), List.mem_of_getElem? (i := 697) (by decide +kernel)⟩
theorem lw_p27 : lw_okq (⟨"LeastPays$Minds", "layWay", "(I)V"⟩, 6) := ⟨⟨by decide +kernel, by decide +kernel⟩, List.mem_of_getElem? (i := 153) (by decide +kernel), List.mem_of_getElem? (i := 708) (by decide +kernel), List.mem_of_getElem? (i := 709) (by decide +kernel)⟩
theorem lw_p28 : lw_okq (⟨"LeastPays$Menu", "playOut", "(II)I"⟩, 6) := ⟨⟨by decide +kernel, by decide +kernel⟩, List.mem_of_getElem? (i := 182) (by decide +kernel), List.mem_of_getElem? (i := 765) (by decide +kernel), List.mem_of_getElem? (i := 766) (by decide +kernel)⟩
theorem lw_p29 : lw_okq (⟨"LeastPays$Menu", "priceOf", "(I)I"⟩, 6) := ⟨⟨by decide +kernel, by decide +kernel⟩, List.mem_of_getElem? (i := 182) (by decide +kernel), List.mem_of_getElem? (i := 776) (by decide +kernel), List.mem_of_getElem? (i := 777) (by decide +kernel)⟩
theorem lw_p30 : lw_okq (⟨"LeastPays$Law", "workOut", "(LLeastPays$Guests;II)I"⟩, 11) := ⟨⟨by decide +kernel, by decide +kernel⟩, List.mem_of_getElem? (i := 209) (by decide +kernel), List.mem_of_getElem? (i := 789) (by decide +kernel), List.mem_of_getElem? (i := 790) (by decide +kernel)⟩
theorem lw_p31 : lw_okq (⟨"LeastPays$Law", "pop", "()I"⟩, 11) := ⟨⟨by decide +kernel, by decide +kernel⟩, List.mem_of_getElem? (i := 209) (by decide +kernel), List.mem_of_getElem? (i := 793) (by decide +kernel), List.mem_of_getElem? (i := 794) (by decide +kernel)⟩
def lw_privs_2 : List (MethodName × Nat) := [(⟨"LeastPays$Law", "readNumber", "()V"⟩, 11), (⟨"LeastPays$Law", "write", "(I)V"⟩, 11), (⟨"LeastPays$Law", "fail", "()V"⟩, 11), (⟨"LeastPays$Law", "takes", "(C)Z"⟩, 11), (⟨"LeastPays$Law", "takesProductSign", "()I"⟩, 11), (⟨"LeastPays$Law", "takesSumSign", "()I"⟩, 11), (⟨"LeastPays$Minds", "sumsOf", "(I)I"⟩, 6), (⟨"LeastPays$Minds", "costBy", "(II)I"⟩, 6), (⟨"LeastPays$Minds", "layByChance", "(II)J"⟩, 6), (⟨"LeastPays$Minds", "wouldChange", "(I)Z"⟩, 6), (⟨"LeastPays$Minds", "ways", "()J"⟩, 6), (⟨"LeastPays$Minds", "layWay", "(I)V"⟩, 6), (⟨"LeastPays$Menu", "playOut", "(II)I"⟩, 6), (⟨"LeastPays$Menu", "priceOf", "(I)I"⟩, 6), (⟨"LeastPays$Law", "workOut", "(LLeastPays$Guests;II)I"⟩, 11), (⟨"LeastPays$Law", "pop", "()I"⟩, 11)]
theorem lw_r2 : ∀ q ∈ lw_privs_2, lw_okq q := List.forall_mem_cons.mpr ⟨lw_p16, List.forall_mem_cons.mpr ⟨lw_p17, List.forall_mem_cons.mpr ⟨lw_p18, List.forall_mem_cons.mpr ⟨lw_p19, List.forall_mem_cons.mpr ⟨lw_p20, List.forall_mem_cons.mpr ⟨lw_p21, List.forall_mem_cons.mpr ⟨lw_p22, List.forall_mem_cons.mpr ⟨lw_p23, List.forall_mem_cons.mpr ⟨lw_p24, List.forall_mem_cons.mpr ⟨lw_p25, List.forall_mem_cons.mpr ⟨lw_p26, List.forall_mem_cons.mpr ⟨lw_p27, List.forall_mem_cons.mpr ⟨lw_p28, List.forall_mem_cons.mpr ⟨lw_p29, List.forall_mem_cons.mpr ⟨lw_p30, List.forall_mem_cons.mpr ⟨lw_p31, fun _ h => absurd h List.not_mem_nil⟩⟩⟩⟩⟩⟩⟩⟩⟩⟩⟩⟩⟩⟩⟩⟩
theorem lw_p32 : lw_okq (⟨"LeastPays$Law", "push", "(I)V"⟩, 11) := ⟨⟨by decide +kernel, by decide +kernel⟩, List.mem_of_getElem? (i := 209) (by decide +kernel), List.mem_of_getElem? (i := 800) (by decide +kernel), List.mem_of_getElem? (i := 801) (by decide +kernel)⟩
theorem lw_p33 : lw_okq (⟨"LeastPays$Law", "apply", "(I)V"⟩, 11) := ⟨⟨by decide +kernel, by decide +kernel⟩, List.mem_of_getElem? (i := 209) (by decide +kernel), List.mem_of_getElem? (i := 804) (by decide +kernel), List.mem_of_getElem? (i := 805) (by decide +kernel)⟩
theorem lw_p34 : lw_okq (⟨"LeastPays", "givenBy", "(I)I"⟩, 10) := ⟨⟨by decide +kernel, by decide +kernel⟩, List.mem_of_getElem? (i := 17) (by decide +kernel), List.mem_of_getElem? (i := 823) (by decide +kernel), List.mem_of_getElem? (i := 824) (by decide +kernel)⟩
theorem lw_p35 : lw_okq (⟨"LeastPays", "refusalOfTold", "(I)I"⟩, 10) := ⟨⟨by decide +kernel, by decide +kernel⟩, List.mem_of_getElem? (i := 17) (by decide +kernel), List.mem_of_getElem? (i := 865) (by decide +kernel), List.mem_of_getElem? (i := 866) (by decide +kernel)⟩
theorem lw_p36 : lw_okq (⟨"LeastPays$Nights", "greatestCost", "()I"⟩, 6) := ⟨⟨by decide +kernel, by decide +kernel⟩, List.mem_of_getElem? (i := 250) (by decide +kernel), List.mem_of_getElem? (i := 891) (by decide +kernel), List.mem_of_getElem? (i := 892) (by decide +kernel)⟩
theorem lw_p37 : lw_okq (⟨"LeastPays$Bodies", "call", "(III)I"⟩, 5) := ⟨⟨by decide +kernel, by decide +kernel⟩, List.mem_of_getElem? (i := 331) (by decide +kernel), List.mem_of_getElem? (i := 953) (by decide +kernel), List.mem_of_getElem? (i := 954) (by decide +kernel)⟩
theorem lw_p38 : lw_okq (⟨"LeastPays$Bodies", "from", "(IIII)I"⟩, 5) := ⟨⟨by decide +kernel, by decide +kernel⟩, List.mem_of_getElem? (i := 331) (by decide +kernel), List.mem_of_getElem? (i := 957) (by decide +kernel), List.mem_of_getElem? (i := 958) (by decide +kernel)⟩
theorem lw_p39 : lw_okq (⟨"LeastPays$Bodies", "run", "(III)I"⟩, 5) := ⟨⟨by decide +kernel, by decide +kernel⟩, List.mem_of_getElem? (i := 331) (by decide +kernel), List.mem_of_getElem? (i := 965) (by decide +kernel), List.mem_of_getElem? (i := 966) (by decide +kernel)⟩
theorem lw_p40 : lw_okq (⟨"LeastPays$Shelf", "lowestBits", "(J)J"⟩, 5) := ⟨⟨by decide +kernel, by decide +kernel⟩, List.mem_of_getElem? (i := 356) (by decide +kernel), List.mem_of_getElem? (i := 1009) (by decide +kernel), List.mem_of_getElem? (i := 1010) (by decide +kernel)⟩
theorem lw_p41 : lw_okq (⟨"LeastPaysModel", "isGuest", "(I)Z"⟩, 47) := ⟨⟨by decide +kernel, by decide +kernel⟩, List.mem_of_getElem? (i := 1042) (by decide +kernel), List.mem_of_getElem? (i := 1219) (by decide +kernel), List.mem_of_getElem? (i := 1220) (by decide +kernel)⟩
theorem lw_p42 : lw_okq (⟨"LeastPaysModel", "becomes", "(II)I"⟩, 47) := ⟨⟨by decide +kernel, by decide +kernel⟩, List.mem_of_getElem? (i := 1042) (by decide +kernel), List.mem_of_getElem? (i := 1223) (by decide +kernel), List.mem_of_getElem? (i := 1224) (by decide +kernel)⟩
theorem lw_p43 : lw_okq (⟨"LeastPaysModel", "ofGuest", "(II)I"⟩, 47) := ⟨⟨by decide +kernel, by decide +kernel⟩, List.mem_of_getElem? (i := 1042) (by decide +kernel), List.mem_of_getElem? (i := 1234) (by decide +kernel), List.mem_of_getElem? (i := 1235) (by decide +kernel)⟩
theorem lw_p44 : lw_okq (⟨"LeastPaysModel", "costNow", "(I)I"⟩, 47) := ⟨⟨by decide +kernel, by decide +kernel⟩, List.mem_of_getElem? (i := 1042) (by decide +kernel), List.mem_of_getElem? (i := 1238) (by decide +kernel), List.mem_of_getElem? (i := 1239) (by decide +kernel)⟩
theorem lw_p45 : lw_okq (⟨"LeastPaysModel", "laysOut", "()V"⟩, 47) := ⟨⟨by decide +kernel, by decide +kernel⟩, List.mem_of_getElem? (i := 1042) (by decide +kernel), List.mem_of_getElem? (i := 1242) (by decide +kernel), List.mem_of_getElem? (i := 1243) (by decide +kernel)⟩
theorem lw_p46 : lw_okq (⟨"LeastPaysModel", "nightAsIs", "()V"⟩, 47) := ⟨⟨by decide +kernel, by decide +kernel⟩, List.mem_of_getElem? (i := 1042) (by decide +kernel), List.mem_of_getElem? (i := 1246) (by decide +kernel), List.mem_of_getElem? (i := 1247) (by decide +kernel)⟩
theorem lw_p47 : lw_okq (⟨"LeastPaysModel", "nightBy", "(II)V"⟩, 47) := ⟨⟨by decide +kernel, by decide +kernel⟩, List.mem_of_getElem? (i := 1042) (by decide +kernel), List.mem_of_getElem? (i := 1250) (by decide +kernel), List.mem_of_getElem? (i := 1251) (by decide +kernel)⟩
def lw_privs_3 : List (MethodName × Nat) := [(⟨"LeastPays$Law", "push", "(I)V"⟩, 11), (⟨"LeastPays$Law", "apply", "(I)V"⟩, 11), (⟨"LeastPays", "givenBy", "(I)I"⟩, 10), (⟨"LeastPays", "refusalOfTold", "(I)I"⟩, 10), (⟨"LeastPays$Nights", "greatestCost", "()I"⟩, 6), (⟨"LeastPays$Bodies", "call", "(III)I"⟩, 5), (⟨"LeastPays$Bodies", "from", "(IIII)I"⟩, 5), (⟨"LeastPays$Bodies", "run", "(III)I"⟩, 5), (⟨"LeastPays$Shelf", "lowestBits", "(J)J"⟩, 5), (⟨"LeastPaysModel", "isGuest", "(I)Z"⟩, 47), (⟨"LeastPaysModel", "becomes", "(II)I"⟩, 47), (⟨"LeastPaysModel", "ofGuest", "(II)I"⟩, 47), (⟨"LeastPaysModel", "costNow", "(I)I"⟩, 47), (⟨"LeastPaysModel", "laysOut", "()V"⟩, 47), (⟨"LeastPaysModel", "nightAsIs", "()V"⟩, 47), (⟨"LeastPaysModel", "nightBy", "(II)V"⟩, 47)]
theorem lw_r3 : ∀ q ∈ lw_privs_3, lw_okq q := List.forall_mem_cons.mpr ⟨lw_p32, List.forall_mem_cons.mpr ⟨lw_p33, List.forall_mem_cons.mpr ⟨lw_p34, List.forall_mem_cons.mpr ⟨lw_p35, List.forall_mem_cons.mpr ⟨lw_p36, List.forall_mem_cons.mpr ⟨lw_p37, List.forall_mem_cons.mpr ⟨lw_p38, List.forall_mem_cons.mpr ⟨lw_p39, List.forall_mem_cons.mpr ⟨lw_p40, List.forall_mem_cons.mpr ⟨lw_p41, List.forall_mem_cons.mpr ⟨lw_p42, List.forall_mem_cons.mpr ⟨lw_p43, List.forall_mem_cons.mpr ⟨lw_p44, List.forall_mem_cons.mpr ⟨lw_p45, List.forall_mem_cons.mpr ⟨lw_p46, List.forall_mem_cons.mpr ⟨lw_p47, fun _ h => absurd h List.not_mem_nil⟩⟩⟩⟩⟩⟩⟩⟩⟩⟩⟩⟩⟩⟩⟩⟩
theorem lw_p48 : lw_okq (⟨"LeastPaysModel", "leastBut", "(I)I"⟩, 47) := ⟨⟨by decide +kernel, by decide +kernel⟩, List.mem_of_getElem? (i := 1042) (by decide +kernel), List.mem_of_getElem? (i := 1254) (by decide +kernel), List.mem_of_getElem? (i := 1255) (by decide +kernel)⟩
theorem lw_p49 : lw_okq (⟨"LeastPaysModel", "alikePay", "(I)V"⟩, 47) := ⟨⟨by decide +kernel, by decide +kernel⟩, List.mem_of_getElem? (i := 1042) (by decide +kernel), List.mem_of_getElem? (i := 1258) (by decide +kernel), List.mem_of_getElem? (i := 1259) (by decide +kernel)⟩
theorem lw_p50 : lw_okq (⟨"LeastPaysModel", "twoPay", "(I)V"⟩, 47) := ⟨⟨by decide +kernel, by decide +kernel⟩, List.mem_of_getElem? (i := 1042) (by decide +kernel), List.mem_of_getElem? (i := 1262) (by decide +kernel), List.mem_of_getElem? (i := 1263) (by decide +kernel)⟩
theorem lw_p51 : lw_okq (⟨"LeastPaysModel", "givesBack", "(I)V"⟩, 47) := ⟨⟨by decide +kernel, by decide +kernel⟩, List.mem_of_getElem? (i := 1042) (by decide +kernel), List.mem_of_getElem? (i := 1266) (by decide +kernel), List.mem_of_getElem? (i := 1267) (by decide +kernel)⟩
theorem lw_p52 : lw_okq (⟨"LeastPaysModel", "costIn", "(I)I"⟩, 47) := ⟨⟨by decide +kernel, by decide +kernel⟩, List.mem_of_getElem? (i := 1042) (by decide +kernel), List.mem_of_getElem? (i := 1270) (by decide +kernel), List.mem_of_getElem? (i := 1271) (by decide +kernel)⟩
theorem lw_p53 : lw_okq (⟨"LeastPaysModel", "leastCost", "(I)I"⟩, 47) := ⟨⟨by decide +kernel, by decide +kernel⟩, List.mem_of_getElem? (i := 1042) (by decide +kernel), List.mem_of_getElem? (i := 1284) (by decide +kernel), List.mem_of_getElem? (i := 1285) (by decide +kernel)⟩
theorem lw_p54 : lw_okq (⟨"LeastPaysModel", "costBy", "(II)I"⟩, 47) := ⟨⟨by decide +kernel, by decide +kernel⟩, List.mem_of_getElem? (i := 1042) (by decide +kernel), List.mem_of_getElem? (i := 1288) (by decide +kernel), List.mem_of_getElem? (i := 1289) (by decide +kernel)⟩
theorem lw_p55 : lw_okq (⟨"LeastPaysModel", "meanOf", "(II)J"⟩, 47) := ⟨⟨by decide +kernel, by decide +kernel⟩, List.mem_of_getElem? (i := 1042) (by decide +kernel), List.mem_of_getElem? (i := 1297) (by decide +kernel), List.mem_of_getElem? (i := 1298) (by decide +kernel)⟩
theorem lw_p56 : lw_okq (⟨"LeastPaysModel", "wholeOf", "()J"⟩, 47) := ⟨⟨by decide +kernel, by decide +kernel⟩, List.mem_of_getElem? (i := 1042) (by decide +kernel), List.mem_of_getElem? (i := 1301) (by decide +kernel), List.mem_of_getElem? (i := 1302) (by decide +kernel)⟩
theorem lw_p57 : lw_okq (⟨"LeastPaysModel", "firstWho", "()I"⟩, 47) := ⟨⟨by decide +kernel, by decide +kernel⟩, List.mem_of_getElem? (i := 1042) (by decide +kernel), List.mem_of_getElem? (i := 1319) (by decide +kernel), List.mem_of_getElem? (i := 1320) (by decide +kernel)⟩
theorem lw_p58 : lw_okq (⟨"LeastPaysModel", "wouldChange", "(I)Z"⟩, 47) := ⟨⟨by decide +kernel, by decide +kernel⟩, List.mem_of_getElem? (i := 1042) (by decide +kernel), List.mem_of_getElem? (i := 1323) (by decide +kernel), List.mem_of_getElem? (i := 1324) (by decide +kernel)⟩
theorem lw_p59 : lw_okq (⟨"LeastPaysModel", "sumsOf", "(I)I"⟩, 47) := ⟨⟨by decide +kernel, by decide +kernel⟩, List.mem_of_getElem? (i := 1042) (by decide +kernel), List.mem_of_getElem? (i := 1331) (by decide +kernel), List.mem_of_getElem? (i := 1332) (by decide +kernel)⟩
theorem lw_p60 : lw_okq (⟨"LeastPaysModel", "billFrom", "(II)I"⟩, 47) := ⟨⟨by decide +kernel, by decide +kernel⟩, List.mem_of_getElem? (i := 1042) (by decide +kernel), List.mem_of_getElem? (i := 1357) (by decide +kernel), List.mem_of_getElem? (i := 1358) (by decide +kernel)⟩
theorem lw_p61 : lw_okq (⟨"LeastPaysModel", "joyOf", "(II)I"⟩, 47) := ⟨⟨by decide +kernel, by decide +kernel⟩, List.mem_of_getElem? (i := 1042) (by decide +kernel), List.mem_of_getElem? (i := 1361) (by decide +kernel), List.mem_of_getElem? (i := 1362) (by decide +kernel)⟩
theorem lw_p62 : lw_okq (⟨"LeastPaysModel", "workOut", "(II)I"⟩, 47) := ⟨⟨by decide +kernel, by decide +kernel⟩, List.mem_of_getElem? (i := 1042) (by decide +kernel), List.mem_of_getElem? (i := 1374) (by decide +kernel), List.mem_of_getElem? (i := 1375) (by decide +kernel)⟩
theorem lw_p63 : lw_okq (⟨"LeastPaysModel", "either", "()I"⟩, 47) := ⟨⟨by decide +kernel, by decide +kernel⟩, List.mem_of_getElem? (i := 1042) (by decide +kernel), List.mem_of_getElem? (i := 1378) (by decide +kernel), List.mem_of_getElem? (i := 1379) (by decide +kernel)⟩
def lw_privs_4 : List (MethodName × Nat) := [(⟨"LeastPaysModel", "leastBut", "(I)I"⟩, 47), (⟨"LeastPaysModel", "alikePay", "(I)V"⟩, 47), (⟨"LeastPaysModel", "twoPay", "(I)V"⟩, 47), (⟨"LeastPaysModel", "givesBack", "(I)V"⟩, 47), (⟨"LeastPaysModel", "costIn", "(I)I"⟩, 47), (⟨"LeastPaysModel", "leastCost", "(I)I"⟩, 47), (⟨"LeastPaysModel", "costBy", "(II)I"⟩, 47), (⟨"LeastPaysModel", "meanOf", "(II)J"⟩, 47), (⟨"LeastPaysModel", "wholeOf", "()J"⟩, 47), (⟨"LeastPaysModel", "firstWho", "()I"⟩, 47), (⟨"LeastPaysModel", "wouldChange", "(I)Z"⟩, 47), (⟨"LeastPaysModel", "sumsOf", "(I)I"⟩, 47), (⟨"LeastPaysModel", "billFrom", "(II)I"⟩, 47), (⟨"LeastPaysModel", "joyOf", "(II)I"⟩, 47), (⟨"LeastPaysModel", "workOut", "(II)I"⟩, 47), (⟨"LeastPaysModel", "either", "()I"⟩, 47)]
theorem lw_r4 : ∀ q ∈ lw_privs_4, lw_okq q := List.forall_mem_cons.mpr ⟨lw_p48, List.forall_mem_cons.mpr ⟨lw_p49, List.forall_mem_cons.mpr ⟨lw_p50, List.forall_mem_cons.mpr ⟨lw_p51, List.forall_mem_cons.mpr ⟨lw_p52, List.forall_mem_cons.mpr ⟨lw_p53, List.forall_mem_cons.mpr ⟨lw_p54, List.forall_mem_cons.mpr ⟨lw_p55, List.forall_mem_cons.mpr ⟨lw_p56, List.forall_mem_cons.mpr ⟨lw_p57, List.forall_mem_cons.mpr ⟨lw_p58, List.forall_mem_cons.mpr ⟨lw_p59, List.forall_mem_cons.mpr ⟨lw_p60, List.forall_mem_cons.mpr ⟨lw_p61, List.forall_mem_cons.mpr ⟨lw_p62, List.forall_mem_cons.mpr ⟨lw_p63, fun _ h => absurd h List.not_mem_nil⟩⟩⟩⟩⟩⟩⟩⟩⟩⟩⟩⟩⟩⟩⟩⟩
theorem lw_p64 : lw_okq (⟨"LeastPaysModel", "both", "()I"⟩, 47) := ⟨⟨by decide +kernel, by decide +kernel⟩, List.mem_of_getElem? (i := 1042) (by decide +kernel), List.mem_of_getElem? (i := 1382) (by decide +kernel), List.mem_of_getElem? (i := 1383) (by decide +kernel)⟩
theorem lw_p65 : lw_okq (⟨"LeastPaysModel", "compared", "()I"⟩, 47) := ⟨⟨by decide +kernel, by decide +kernel⟩, List.mem_of_getElem? (i := 1042) (by decide +kernel), List.mem_of_getElem? (i := 1386) (by decide +kernel), List.mem_of_getElem? (i := 1387) (by decide +kernel)⟩
theorem lw_p66 : lw_okq (⟨"LeastPaysModel", "sums", "()I"⟩, 47) := ⟨⟨by decide +kernel, by decide +kernel⟩, List.mem_of_getElem? (i := 1042) (by decide +kernel), List.mem_of_getElem? (i := 1390) (by decide +kernel), List.mem_of_getElem? (i := 1391) (by decide +kernel)⟩
theorem lw_p67 : lw_okq (⟨"LeastPaysModel", "product", "()I"⟩, 47) := ⟨⟨by decide +kernel, by decide +kernel⟩, List.mem_of_getElem? (i := 1042) (by decide +kernel), List.mem_of_getElem? (i := 1394) (by decide +kernel), List.mem_of_getElem? (i := 1395) (by decide +kernel)⟩
theorem lw_p68 : lw_okq (⟨"LeastPaysModel", "one", "()I"⟩, 47) := ⟨⟨by decide +kernel, by decide +kernel⟩, List.mem_of_getElem? (i := 1042) (by decide +kernel), List.mem_of_getElem? (i := 1398) (by decide +kernel), List.mem_of_getElem? (i := 1399) (by decide +kernel)⟩
theorem lw_p69 : lw_okq (⟨"LeastPaysModel", "byteAt", "()I"⟩, 47) := ⟨⟨by decide +kernel, by decide +kernel⟩, List.mem_of_getElem? (i := 1042) (by decide +kernel), List.mem_of_getElem? (i := 1402) (by decide +kernel), List.mem_of_getElem? (i := 1403) (by decide +kernel)⟩
theorem lw_p70 : lw_okq (⟨"LeastPaysModel", "wrong", "()I"⟩, 47) := ⟨⟨by decide +kernel, by decide +kernel⟩, List.mem_of_getElem? (i := 1042) (by decide +kernel), List.mem_of_getElem? (i := 1406) (by decide +kernel), List.mem_of_getElem? (i := 1407) (by decide +kernel)⟩
theorem lw_p71 : lw_okq (⟨"LeastPaysModel", "takes", "(I)Z"⟩, 47) := ⟨⟨by decide +kernel, by decide +kernel⟩, List.mem_of_getElem? (i := 1042) (by decide +kernel), List.mem_of_getElem? (i := 1410) (by decide +kernel), List.mem_of_getElem? (i := 1411) (by decide +kernel)⟩
theorem lw_p72 : lw_okq (⟨"LeastPaysModel", "wouldGive", "(II)I"⟩, 47) := ⟨⟨by decide +kernel, by decide +kernel⟩, List.mem_of_getElem? (i := 1042) (by decide +kernel), List.mem_of_getElem? (i := 1421) (by decide +kernel), List.mem_of_getElem? (i := 1422) (by decide +kernel)⟩
theorem lw_p73 : lw_okq (⟨"LeastPaysModel", "givenBy", "(I)I"⟩, 47) := ⟨⟨by decide +kernel, by decide +kernel⟩, List.mem_of_getElem? (i := 1042) (by decide +kernel), List.mem_of_getElem? (i := 1429) (by decide +kernel), List.mem_of_getElem? (i := 1430) (by decide +kernel)⟩
theorem lw_p74 : lw_okq (⟨"LeastPaysModel", "hatIs", "(I)I"⟩, 47) := ⟨⟨by decide +kernel, by decide +kernel⟩, List.mem_of_getElem? (i := 1042) (by decide +kernel), List.mem_of_getElem? (i := 1451) (by decide +kernel), List.mem_of_getElem? (i := 1452) (by decide +kernel)⟩
theorem lw_p75 : lw_okq (⟨"LeastPaysModel", "firstFalse", "(II)I"⟩, 47) := ⟨⟨by decide +kernel, by decide +kernel⟩, List.mem_of_getElem? (i := 1042) (by decide +kernel), List.mem_of_getElem? (i := 1455) (by decide +kernel), List.mem_of_getElem? (i := 1456) (by decide +kernel)⟩
theorem lw_p76 : lw_okq (⟨"LeastPaysModel", "isBody", "(I)Z"⟩, 47) := ⟨⟨by decide +kernel, by decide +kernel⟩, List.mem_of_getElem? (i := 1042) (by decide +kernel), List.mem_of_getElem? (i := 1484) (by decide +kernel), List.mem_of_getElem? (i := 1485) (by decide +kernel)⟩
theorem lw_p77 : lw_okq (⟨"LeastPaysModel", "givesAs", "(II)I"⟩, 47) := ⟨⟨by decide +kernel, by decide +kernel⟩, List.mem_of_getElem? (i := 1042) (by decide +kernel), List.mem_of_getElem? (i := 1488) (by decide +kernel), List.mem_of_getElem? (i := 1489) (by decide +kernel)⟩
theorem lw_p78 : lw_okq (⟨"LeastPaysModel", "begins", "(I)V"⟩, 47) := ⟨⟨by decide +kernel, by decide +kernel⟩, List.mem_of_getElem? (i := 1042) (by decide +kernel), List.mem_of_getElem? (i := 1492) (by decide +kernel), List.mem_of_getElem? (i := 1493) (by decide +kernel)⟩
theorem lw_p79 : lw_okq (⟨"LeastPaysModel", "owesAs", "(II)I"⟩, 47) := ⟨⟨by decide +kernel, by decide +kernel⟩, List.mem_of_getElem? (i := 1042) (by decide +kernel), List.mem_of_getElem? (i := 1496) (by decide +kernel), List.mem_of_getElem? (i := 1497) (by decide +kernel)⟩
def lw_privs_5 : List (MethodName × Nat) := [(⟨"LeastPaysModel", "both", "()I"⟩, 47), (⟨"LeastPaysModel", "compared", "()I"⟩, 47), (⟨"LeastPaysModel", "sums", "()I"⟩, 47), (⟨"LeastPaysModel", "product", "()I"⟩, 47), (⟨"LeastPaysModel", "one", "()I"⟩, 47), (⟨"LeastPaysModel", "byteAt", "()I"⟩, 47), (⟨"LeastPaysModel", "wrong", "()I"⟩, 47), (⟨"LeastPaysModel", "takes", "(I)Z"⟩, 47), (⟨"LeastPaysModel", "wouldGive", "(II)I"⟩, 47), (⟨"LeastPaysModel", "givenBy", "(I)I"⟩, 47), (⟨"LeastPaysModel", "hatIs", "(I)I"⟩, 47), (⟨"LeastPaysModel", "firstFalse", "(II)I"⟩, 47), (⟨"LeastPaysModel", "isBody", "(I)Z"⟩, 47), (⟨"LeastPaysModel", "givesAs", "(II)I"⟩, 47), (⟨"LeastPaysModel", "begins", "(I)V"⟩, 47), (⟨"LeastPaysModel", "owesAs", "(II)I"⟩, 47)]
theorem lw_r5 : ∀ q ∈ lw_privs_5, lw_okq q := List.forall_mem_cons.mpr ⟨lw_p64, List.forall_mem_cons.mpr ⟨lw_p65, List.forall_mem_cons.mpr ⟨lw_p66, List.forall_mem_cons.mpr ⟨lw_p67, List.forall_mem_cons.mpr ⟨lw_p68, List.forall_mem_cons.mpr ⟨lw_p69, List.forall_mem_cons.mpr ⟨lw_p70, List.forall_mem_cons.mpr ⟨lw_p71, List.forall_mem_cons.mpr ⟨lw_p72, List.forall_mem_cons.mpr ⟨lw_p73, List.forall_mem_cons.mpr ⟨lw_p74, List.forall_mem_cons.mpr ⟨lw_p75, List.forall_mem_cons.mpr ⟨lw_p76, List.forall_mem_cons.mpr ⟨lw_p77, List.forall_mem_cons.mpr ⟨lw_p78, List.forall_mem_cons.mpr ⟨lw_p79, fun _ h => absurd h List.not_mem_nil⟩⟩⟩⟩⟩⟩⟩⟩⟩⟩⟩⟩⟩⟩⟩⟩
theorem lw_p80 : lw_okq (⟨"LeastPaysModel", "lacksAs", "(II)I"⟩, 47) := ⟨⟨by decide +kernel, by decide +kernel⟩, List.mem_of_getElem? (i := 1042) (by decide +kernel), List.mem_of_getElem? (i := 1500) (by decide +kernel), List.mem_of_getElem? (i := 1501) (by decide +kernel)⟩
theorem lw_p81 : lw_okq (⟨"LeastPaysModel", "tellsAs", "(II)I"⟩, 47) := ⟨⟨by decide +kernel, by decide +kernel⟩, List.mem_of_getElem? (i := 1042) (by decide +kernel), List.mem_of_getElem? (i := 1504) (by decide +kernel), List.mem_of_getElem? (i := 1505) (by decide +kernel)⟩
theorem lw_p82 : lw_okq (⟨"LeastPaysModel", "refusal", "(II)I"⟩, 47) := ⟨⟨by decide +kernel, by decide +kernel⟩, List.mem_of_getElem? (i := 1042) (by decide +kernel), List.mem_of_getElem? (i := 1524) (by decide +kernel), List.mem_of_getElem? (i := 1525) (by decide +kernel)⟩
theorem lw_p83 : lw_okq (⟨"LeastPaysModel", "kindOf", "(I)I"⟩, 47) := ⟨⟨by decide +kernel, by decide +kernel⟩, List.mem_of_getElem? (i := 1042) (by decide +kernel), List.mem_of_getElem? (i := 1543) (by decide +kernel), List.mem_of_getElem? (i := 1544) (by decide +kernel)⟩
def lw_privs_6 : List (MethodName × Nat) := [(⟨"LeastPaysModel", "lacksAs", "(II)I"⟩, 47), (⟨"LeastPaysModel", "tellsAs", "(II)I"⟩, 47), (⟨"LeastPaysModel", "refusal", "(II)I"⟩, 47), (⟨"LeastPaysModel", "kindOf", "(I)I"⟩, 47)]
theorem lw_r6 : ∀ q ∈ lw_privs_6, lw_okq q := List.forall_mem_cons.mpr ⟨lw_p80, List.forall_mem_cons.mpr ⟨lw_p81, List.forall_mem_cons.mpr ⟨lw_p82, List.forall_mem_cons.mpr ⟨lw_p83, fun _ h => absurd h List.not_mem_nil⟩⟩⟩⟩
def lw_privs : List (MethodName × Nat) := lw_privs_1 ++ (lw_privs_2 ++ (lw_privs_3 ++ (lw_privs_4 ++ (lw_privs_5 ++ (lw_privs_6)))))
def lw_tbl : List Cond := k2_sels lw_privs ++ tables_1
theorem lw_privs_ok : ∀ q ∈ lw_privs, lw_okq q := by
  show ∀ q ∈ lw_privs_1 ++ (lw_privs_2 ++ (lw_privs_3 ++ (lw_privs_4 ++ (lw_privs_5 ++ (lw_privs_6))))), lw_okq q
  exact List.forall_mem_append.mpr ⟨lw_r1, List.forall_mem_append.mpr ⟨lw_r2, List.forall_mem_append.mpr ⟨lw_r3, List.forall_mem_append.mpr ⟨lw_r4, List.forall_mem_append.mpr ⟨lw_r5, lw_r6⟩⟩⟩⟩⟩
def RX0 : String := "LeastPays$Bodies"
def TX0 : u_T := fun k => match k with
  | 0 => ("LeastPays$Bodies", "kinds", "[I", true)
  | 1 => ("LeastPays$Bodies", "ranFirst", "[I", true)
  | 2 => ("LeastPays$Bodies", "size", "I", false)
  | 3 => ("LeastPays$Bodies", "ran", "I", false)
  | _ => ("LeastPays$Bodies", "actor", "I", false)
def tyX0 : Nat → FieldType := fun k => match k with
  | 0 => .array .int
  | 1 => .array .int
  | 2 => .int
  | 3 => .int
  | _ => .int
abbrev wsX00 : List Cond := u_ws RX0 TX0 5
theorem nmX0 : ∀ a, a < 5 → ∀ b, b < 5 → a ≠ b → (TX0 a).2.1 ≠ (TX0 b).2.1 := by decide +kernel
theorem tyX0_ok : ∀ k, k < 5 → parseFieldDescriptor (TX0 k).2.2.1 = some (tyX0 k) := by decide +kernel
abbrev cX0_init : ByteArray := prog_2_method_1_code
def yX0_init : MethodName := ⟨RX0, "<init>", "()V"⟩
abbrev cX0_has : ByteArray := prog_2_method_2_code
def yX0_has : MethodName := ⟨RX0, "has", "(I)Z"⟩
abbrev cX0_kindOf : ByteArray := prog_2_method_3_code
def yX0_kindOf : MethodName := ⟨RX0, "kindOf", "(I)I"⟩
abbrev cX0_add : ByteArray := prog_2_method_4_code
def yX0_add : MethodName := ⟨RX0, "add", "(I)I"⟩
abbrev cX0_isUnder : ByteArray := prog_2_method_5_code
def yX0_isUnder : MethodName := ⟨RX0, "isUnder", "(II)Z"⟩
abbrev cX0_ranAt : ByteArray := prog_2_method_6_code
def yX0_ranAt : MethodName := ⟨RX0, "ranAt", "(I)I"⟩
abbrev cX0_perform : ByteArray := prog_2_method_7_code
def yX0_perform : MethodName := ⟨RX0, "perform", "(III)I"⟩
abbrev cX0_call : ByteArray := prog_2_method_8_code
def yX0_call : MethodName := ⟨RX0, "call", "(III)I"⟩
abbrev cX0_from : ByteArray := prog_2_method_9_code
def yX0_from : MethodName := ⟨RX0, "from", "(IIII)I"⟩
abbrev cX0_run : ByteArray := prog_2_method_10_code
def yX0_run : MethodName := ⟨RX0, "run", "(III)I"⟩
def RX1 : String := "LeastPays$Changes"
def TX1 : u_T := fun k => match k with
  | 0 => ("LeastPays$Changes", "number", "[I", true)
  | 1 => ("LeastPays$Changes", "what", "[I", true)
  | 2 => ("LeastPays$Changes", "was", "[I", true)
  | 3 => ("LeastPays$Changes", "became", "[I", true)
  | 4 => ("LeastPays$Changes", "done", "I", false)
  | _ => ("LeastPays$Changes", "kept", "I", false)
def tyX1 : Nat → FieldType := fun k => match k with
  | 0 => .array .int
  | 1 => .array .int
  | 2 => .array .int
  | 3 => .array .int
  | 4 => .int
  | _ => .int
abbrev wsX10 : List Cond := u_ws RX1 TX1 6
theorem nmX1 : ∀ a, a < 6 → ∀ b, b < 6 → a ≠ b → (TX1 a).2.1 ≠ (TX1 b).2.1 := by decide +kernel
theorem tyX1_ok : ∀ k, k < 6 → parseFieldDescriptor (TX1 k).2.2.1 = some (tyX1 k) := by decide +kernel
abbrev cX1_init : ByteArray := prog_3_method_1_code
def yX1_init : MethodName := ⟨RX1, "<init>", "()V"⟩
abbrev cX1_note : ByteArray := prog_3_method_2_code
def yX1_note : MethodName := ⟨RX1, "note", "(IIII)V"⟩
abbrev cX1_dropOldest : ByteArray := prog_3_method_3_code
def yX1_dropOldest : MethodName := ⟨RX1, "dropOldest", "()V"⟩
abbrev cX1_takeBack : ByteArray := prog_3_method_4_code
def yX1_takeBack : MethodName := ⟨RX1, "takeBack", "(LLeastPays$Guests;)I"⟩
abbrev cX1_doAgain : ByteArray := prog_3_method_5_code
def yX1_doAgain : MethodName := ⟨RX1, "doAgain", "(LLeastPays$Guests;)I"⟩
def RX2 : String := "LeastPays$Guests"
def TX2 : u_T := fun k => match k with
  | 0 => ("LeastPays$Guests", "purse", "[I", true)
  | 1 => ("LeastPays$Guests", "gift", "[I", true)
  | 2 => ("LeastPays$Guests", "odds", "[I", true)
  | 3 => ("LeastPays$Guests", "instead", "[I", true)
  | 4 => ("LeastPays$Guests", "guess", "[I", true)
  | 5 => ("LeastPays$Guests", "paid", "[I", true)
  | 6 => ("LeastPays$Guests", "size", "I", false)
  | 7 => ("LeastPays$Guests", "bill", "I", false)
  | 8 => ("LeastPays$Guests", "rule", "I", false)
  | 9 => ("LeastPays$Guests", "step", "I", false)
  | 10 => ("LeastPays$Guests", "chest", "I", false)
  | _ => ("LeastPays$Guests", "nights", "I", false)
def tyX2 : Nat → FieldType := fun k => match k with
  | 0 => .array .int
  | 1 => .array .int
  | 2 => .array .int
  | 3 => .array .int
  | 4 => .array .int
  | 5 => .array .int
  | 6 => .int
  | 7 => .int
  | 8 => .int
  | 9 => .int
  | 10 => .int
  | _ => .int
abbrev wsX20 : List Cond := u_ws RX2 TX2 12
theorem nmX2 : ∀ a, a < 12 → ∀ b, b < 12 → a ≠ b → (TX2 a).2.1 ≠ (TX2 b).2.1 := by decide +kernel
theorem tyX2_ok : ∀ k, k < 12 → parseFieldDescriptor (TX2 k).2.2.1 = some (tyX2 k) := by decide +kernel
abbrev cX2_init : ByteArray := prog_4_method_1_code
def yX2_init : MethodName := ⟨RX2, "<init>", "()V"⟩
abbrev cX2_has : ByteArray := prog_4_method_2_code
def yX2_has : MethodName := ⟨RX2, "has", "(I)Z"⟩
abbrev cX2_welcome : ByteArray := prog_4_method_3_code
def yX2_welcome : MethodName := ⟨RX2, "welcome", "(II)V"⟩
abbrev cX2_allows : ByteArray := prog_4_method_4_code
def yX2_allows : MethodName := ⟨RX2, "allows", "(III)Z"⟩
abbrev cX2_told : ByteArray := prog_4_method_5_code
def yX2_told : MethodName := ⟨RX2, "told", "(II)I"⟩
abbrev cX2_tell : ByteArray := prog_4_method_6_code
def yX2_tell : MethodName := ⟨RX2, "tell", "(III)V"⟩
def RX3 : String := "LeastPays$Hat"
def TX3 : u_T := fun k => match k with
  | 0 => ("LeastPays$Hat", "gifts", "[I", true)
  | 1 => ("LeastPays$Hat", "size", "I", false)
  | 2 => ("LeastPays$Hat", "rule", "I", false)
  | 3 => ("LeastPays$Hat", "bill", "I", false)
  | 4 => ("LeastPays$Hat", "sum", "I", false)
  | 5 => ("LeastPays$Hat", "lack", "I", false)
  | 6 => ("LeastPays$Hat", "over", "I", false)
  | 7 => ("LeastPays$Hat", "least", "I", false)
  | 8 => ("LeastPays$Hat", "next", "I", false)
  | 9 => ("LeastPays$Hat", "most", "I", false)
  | _ => ("LeastPays$Hat", "alike", "I", false)
def tyX3 : Nat → FieldType := fun k => match k with
  | 0 => .array .int
  | 1 => .int
  | 2 => .int
  | 3 => .int
  | 4 => .int
  | 5 => .int
  | 6 => .int
  | 7 => .int
  | 8 => .int
  | 9 => .int
  | _ => .int
abbrev wsX30 : List Cond := u_ws RX3 TX3 11
theorem nmX3 : ∀ a, a < 11 → ∀ b, b < 11 → a ≠ b → (TX3 a).2.1 ≠ (TX3 b).2.1 := by decide +kernel
theorem tyX3_ok : ∀ k, k < 11 → parseFieldDescriptor (TX3 k).2.2.1 = some (tyX3 k) := by decide +kernel
abbrev cX3_init : ByteArray := prog_5_method_1_code
def yX3_init : MethodName := ⟨RX3, "<init>", "()V"⟩
abbrev cX3_lay : ByteArray := prog_5_method_2_code
def yX3_lay : MethodName := ⟨RX3, "lay", "(LLeastPays$Guests;)V"⟩
abbrev cX3_join : ByteArray := prog_5_method_3_code
def yX3_join : MethodName := ⟨RX3, "join", "(I)V"⟩
abbrev cX3_weigh : ByteArray := prog_5_method_4_code
def yX3_weigh : MethodName := ⟨RX3, "weigh", "()V"⟩
abbrev cX3_charge : ByteArray := prog_5_method_5_code
def yX3_charge : MethodName := ⟨RX3, "charge", "(I)V"⟩
abbrev cX3_cost : ByteArray := prog_5_method_6_code
def yX3_cost : MethodName := ⟨RX3, "cost", "(I)I"⟩
abbrev cX3_besides : ByteArray := prog_5_method_7_code
def yX3_besides : MethodName := ⟨RX3, "besides", "(I)I"⟩
abbrev cX3_partAmongAlike : ByteArray := prog_5_method_8_code
def yX3_partAmongAlike : MethodName := ⟨RX3, "partAmongAlike", "(I)I"⟩
abbrev cX3_partOfTwo : ByteArray := prog_5_method_9_code
def yX3_partOfTwo : MethodName := ⟨RX3, "partOfTwo", "(I)I"⟩
abbrev cX3_givenBack : ByteArray := prog_5_method_10_code
def yX3_givenBack : MethodName := ⟨RX3, "givenBack", "(I)I"⟩
abbrev cX3_intoChest : ByteArray := prog_5_method_11_code
def yX3_intoChest : MethodName := ⟨RX3, "intoChest", "()I"⟩
def RX4 : String := "LeastPays$Law"
def TX4 : u_T := fun k => match k with
  | 0 => ("LeastPays$Law", "tape", "[I", true)
  | 1 => ("LeastPays$Law", "draft", "[I", true)
  | 2 => ("LeastPays$Law", "steps", "[I", true)
  | 3 => ("LeastPays$Law", "stack", "[I", true)
  | 4 => ("LeastPays$Law", "length", "I", false)
  | 5 => ("LeastPays$Law", "at", "I", false)
  | 6 => ("LeastPays$Law", "fault", "I", false)
  | 7 => ("LeastPays$Law", "drafted", "I", false)
  | 8 => ("LeastPays$Law", "stepCount", "I", false)
  | 9 => ("LeastPays$Law", "told", "Z", false)
  | _ => ("LeastPays$Law", "top", "I", false)
def tyX4 : Nat → FieldType := fun k => match k with
  | 0 => .array .int
  | 1 => .array .int
  | 2 => .array .int
  | 3 => .array .int
  | 4 => .int
  | 5 => .int
  | 6 => .int
  | 7 => .int
  | 8 => .int
  | 9 => .boolean
  | _ => .int
abbrev wsX40 : List Cond := u_ws RX4 TX4 11
theorem nmX4 : ∀ a, a < 11 → ∀ b, b < 11 → a ≠ b → (TX4 a).2.1 ≠ (TX4 b).2.1 := by decide +kernel
theorem tyX4_ok : ∀ k, k < 11 → parseFieldDescriptor (TX4 k).2.2.1 = some (tyX4 k) := by decide +kernel
abbrev cX4_init : ByteArray := prog_6_method_1_code
def yX4_init : MethodName := ⟨RX4, "<init>", "()V"⟩
abbrev cX4_add : ByteArray := prog_6_method_2_code
def yX4_add : MethodName := ⟨RX4, "add", "(I)I"⟩
abbrev cX4_enact : ByteArray := prog_6_method_3_code
def yX4_enact : MethodName := ⟨RX4, "enact", "()I"⟩
abbrev cX4_readLines : ByteArray := prog_6_method_4_code
def yX4_readLines : MethodName := ⟨RX4, "readLines", "()V"⟩
abbrev cX4_readLine : ByteArray := prog_6_method_5_code
def yX4_readLine : MethodName := ⟨RX4, "readLine", "()V"⟩
abbrev cX4_readEither : ByteArray := prog_6_method_6_code
def yX4_readEither : MethodName := ⟨RX4, "readEither", "(I)V"⟩
abbrev cX4_readBoth : ByteArray := prog_6_method_7_code
def yX4_readBoth : MethodName := ⟨RX4, "readBoth", "(I)V"⟩
abbrev cX4_readCompared : ByteArray := prog_6_method_8_code
def yX4_readCompared : MethodName := ⟨RX4, "readCompared", "(I)V"⟩
abbrev cX4_readSum : ByteArray := prog_6_method_9_code
def yX4_readSum : MethodName := ⟨RX4, "readSum", "(I)V"⟩
abbrev cX4_takesSumSign : ByteArray := prog_6_method_10_code
def yX4_takesSumSign : MethodName := ⟨RX4, "takesSumSign", "()I"⟩
abbrev cX4_readProduct : ByteArray := prog_6_method_11_code
def yX4_readProduct : MethodName := ⟨RX4, "readProduct", "(I)V"⟩
abbrev cX4_takesProductSign : ByteArray := prog_6_method_12_code
def yX4_takesProductSign : MethodName := ⟨RX4, "takesProductSign", "()I"⟩
abbrev cX4_readOperand : ByteArray := prog_6_method_13_code
def yX4_readOperand : MethodName := ⟨RX4, "readOperand", "(I)V"⟩
abbrev cX4_readNumber : ByteArray := prog_6_method_14_code
def yX4_readNumber : MethodName := ⟨RX4, "readNumber", "()V"⟩
abbrev cX4_letterHere : ByteArray := prog_6_method_15_code
def yX4_letterHere : MethodName := ⟨RX4, "letterHere", "()I"⟩
abbrev cX4_isDigit : ByteArray := prog_6_method_16_code
def yX4_isDigit : MethodName := ⟨RX4, "isDigit", "(I)Z"⟩
abbrev cX4_nameOf : ByteArray := prog_6_method_17_code
def yX4_nameOf : MethodName := ⟨RX4, "nameOf", "(I)I"⟩
abbrev cX4_takes : ByteArray := prog_6_method_18_code
def yX4_takes : MethodName := ⟨RX4, "takes", "(C)Z"⟩
abbrev cX4_fail : ByteArray := prog_6_method_19_code
def yX4_fail : MethodName := ⟨RX4, "fail", "()V"⟩
abbrev cX4_write : ByteArray := prog_6_method_20_code
def yX4_write : MethodName := ⟨RX4, "write", "(I)V"⟩
abbrev cX4_gift : ByteArray := prog_6_method_21_code
def yX4_gift : MethodName := ⟨RX4, "gift", "(LLeastPays$Guests;II)I"⟩
abbrev cX4_shareOf : ByteArray := prog_6_method_22_code
def yX4_shareOf : MethodName := ⟨RX4, "shareOf", "(II)I"⟩
abbrev cX4_workOut : ByteArray := prog_6_method_23_code
def yX4_workOut : MethodName := ⟨RX4, "workOut", "(LLeastPays$Guests;II)I"⟩
abbrev cX4_apply : ByteArray := prog_6_method_24_code
def yX4_apply : MethodName := ⟨RX4, "apply", "(I)V"⟩
abbrev cX4_push : ByteArray := prog_6_method_25_code
def yX4_push : MethodName := ⟨RX4, "push", "(I)V"⟩
abbrev cX4_pop : ByteArray := prog_6_method_26_code
def yX4_pop : MethodName := ⟨RX4, "pop", "()I"⟩
abbrev cX4_valueOf : ByteArray := prog_6_method_27_code
def yX4_valueOf : MethodName := ⟨RX4, "valueOf", "(ILLeastPays$Guests;II)I"⟩
abbrev cX4_joined : ByteArray := prog_6_method_28_code
def yX4_joined : MethodName := ⟨RX4, "joined", "(III)I"⟩
abbrev cX4_truth : ByteArray := prog_6_method_29_code
def yX4_truth : MethodName := ⟨RX4, "truth", "(Z)I"⟩
def RX5 : String := "LeastPays$Menu"
def TX5 : u_T := fun k => match k with
  | 0 => ("LeastPays$Menu", "guests", "LLeastPays$Guests;", true)
  | 1 => ("LeastPays$Menu", "hat", "LLeastPays$Hat;", true)
  | 2 => ("LeastPays$Menu", "prices", "[I", true)
  | 3 => ("LeastPays$Menu", "joys", "[I", true)
  | 4 => ("LeastPays$Menu", "chosen", "[I", true)
  | _ => ("LeastPays$Menu", "size", "I", false)
def tyX5 : Nat → FieldType := fun k => match k with
  | 0 => .object "LeastPays$Guests"
  | 1 => .object "LeastPays$Hat"
  | 2 => .array .int
  | 3 => .array .int
  | 4 => .array .int
  | _ => .int
abbrev wsX50 : List Cond := u_ws RX5 TX5 6
theorem nmX5 : ∀ a, a < 6 → ∀ b, b < 6 → a ≠ b → (TX5 a).2.1 ≠ (TX5 b).2.1 := by decide +kernel
theorem tyX5_ok : ∀ k, k < 6 → parseFieldDescriptor (TX5 k).2.2.1 = some (tyX5 k) := by decide +kernel
abbrev cX5_init : ByteArray := prog_7_method_1_code
def yX5_init : MethodName := ⟨RX5, "<init>", "(LLeastPays$Guests;LLeastPays$Hat;)V"⟩
abbrev cX5_has : ByteArray := prog_7_method_2_code
def yX5_has : MethodName := ⟨RX5, "has", "(I)Z"⟩
abbrev cX5_add : ByteArray := prog_7_method_3_code
def yX5_add : MethodName := ⟨RX5, "add", "(I)I"⟩
abbrev cX5_enjoy : ByteArray := prog_7_method_4_code
def yX5_enjoy : MethodName := ⟨RX5, "enjoy", "(III)I"⟩
abbrev cX5_orderAll : ByteArray := prog_7_method_5_code
def yX5_orderAll : MethodName := ⟨RX5, "orderAll", "()I"⟩
abbrev cX5_playOut : ByteArray := prog_7_method_6_code
def yX5_playOut : MethodName := ⟨RX5, "playOut", "(II)I"⟩
abbrev cX5_priceOf : ByteArray := prog_7_method_7_code
def yX5_priceOf : MethodName := ⟨RX5, "priceOf", "(I)I"⟩
abbrev cX5_worth : ByteArray := prog_7_method_8_code
def yX5_worth : MethodName := ⟨RX5, "worth", "(III)I"⟩
def RX6 : String := "LeastPays$Minds"
def TX6 : u_T := fun k => match k with
  | 0 => ("LeastPays$Minds", "guests", "LLeastPays$Guests;", true)
  | 1 => ("LeastPays$Minds", "hat", "LLeastPays$Hat;", true)
  | 2 => ("LeastPays$Minds", "first", "[I", true)
  | 3 => ("LeastPays$Minds", "bestSum", "I", false)
  | 4 => ("LeastPays$Minds", "bestCost", "I", false)
  | _ => ("LeastPays$Minds", "otherSum", "I", false)
def tyX6 : Nat → FieldType := fun k => match k with
  | 0 => .object "LeastPays$Guests"
  | 1 => .object "LeastPays$Hat"
  | 2 => .array .int
  | 3 => .int
  | 4 => .int
  | _ => .int
abbrev wsX60 : List Cond := u_ws RX6 TX6 6
theorem nmX6 : ∀ a, a < 6 → ∀ b, b < 6 → a ≠ b → (TX6 a).2.1 ≠ (TX6 b).2.1 := by decide +kernel
theorem tyX6_ok : ∀ k, k < 6 → parseFieldDescriptor (TX6 k).2.2.1 = some (tyX6 k) := by decide +kernel
abbrev cX6_init : ByteArray := prog_8_method_1_code
def yX6_init : MethodName := ⟨RX6, "<init>", "(LLeastPays$Guests;LLeastPays$Hat;)V"⟩
abbrev cX6_costBy : ByteArray := prog_8_method_2_code
def yX6_costBy : MethodName := ⟨RX6, "costBy", "(II)I"⟩
abbrev cX6_search : ByteArray := prog_8_method_3_code
def yX6_search : MethodName := ⟨RX6, "search", "(I)V"⟩
abbrev cX6_wouldChange : ByteArray := prog_8_method_4_code
def yX6_wouldChange : MethodName := ⟨RX6, "wouldChange", "(I)Z"⟩
abbrev cX6_firstRestless : ByteArray := prog_8_method_5_code
def yX6_firstRestless : MethodName := ⟨RX6, "firstRestless", "()I"⟩
abbrev cX6_sumsOf : ByteArray := prog_8_method_6_code
def yX6_sumsOf : MethodName := ⟨RX6, "sumsOf", "(I)I"⟩
abbrev cX6_ways : ByteArray := prog_8_method_7_code
def yX6_ways : MethodName := ⟨RX6, "ways", "()J"⟩
abbrev cX6_fewWays : ByteArray := prog_8_method_8_code
def yX6_fewWays : MethodName := ⟨RX6, "fewWays", "()Z"⟩
abbrev cX6_goThroughWays : ByteArray := prog_8_method_9_code
def yX6_goThroughWays : MethodName := ⟨RX6, "goThroughWays", "()I"⟩
abbrev cX6_layWay : ByteArray := prog_8_method_10_code
def yX6_layWay : MethodName := ⟨RX6, "layWay", "(I)V"⟩
abbrev cX6_takeTurns : ByteArray := prog_8_method_11_code
def yX6_takeTurns : MethodName := ⟨RX6, "takeTurns", "()I"⟩
abbrev cX6_settle : ByteArray := prog_8_method_12_code
def yX6_settle : MethodName := ⟨RX6, "settle", "(II)V"⟩
abbrev cX6_victimOf : ByteArray := prog_8_method_13_code
def yX6_victimOf : MethodName := ⟨RX6, "victimOf", "(II)I"⟩
abbrev cX6_allWeights : ByteArray := prog_8_method_14_code
def yX6_allWeights : MethodName := ⟨RX6, "allWeights", "()J"⟩
abbrev cX6_weighedCost : ByteArray := prog_8_method_15_code
def yX6_weighedCost : MethodName := ⟨RX6, "weighedCost", "(II)J"⟩
abbrev cX6_layByChance : ByteArray := prog_8_method_16_code
def yX6_layByChance : MethodName := ⟨RX6, "layByChance", "(II)J"⟩
abbrev cX6_sumOfLeastMean : ByteArray := prog_8_method_17_code
def yX6_sumOfLeastMean : MethodName := ⟨RX6, "sumOfLeastMean", "(I)I"⟩
def RX7 : String := "LeastPays$Nights"
def TX7 : u_T := fun k => match k with
  | 0 => ("LeastPays$Nights", "guests", "LLeastPays$Guests;", true)
  | 1 => ("LeastPays$Nights", "hat", "LLeastPays$Hat;", true)
  | 2 => ("LeastPays$Nights", "besidesOften", "I", false)
  | 3 => ("LeastPays$Nights", "costsDrawn", "I", false)
  | 4 => ("LeastPays$Nights", "fairRule", "I", false)
  | _ => ("LeastPays$Nights", "fairCost", "I", false)
def tyX7 : Nat → FieldType := fun k => match k with
  | 0 => .object "LeastPays$Guests"
  | 1 => .object "LeastPays$Hat"
  | 2 => .int
  | 3 => .int
  | 4 => .int
  | _ => .int
abbrev wsX70 : List Cond := u_ws RX7 TX7 6
theorem nmX7 : ∀ a, a < 6 → ∀ b, b < 6 → a ≠ b → (TX7 a).2.1 ≠ (TX7 b).2.1 := by decide +kernel
theorem tyX7_ok : ∀ k, k < 6 → parseFieldDescriptor (TX7 k).2.2.1 = some (tyX7 k) := by decide +kernel
abbrev cX7_init : ByteArray := prog_9_method_1_code
def yX7_init : MethodName := ⟨RX7, "<init>", "(LLeastPays$Guests;LLeastPays$Hat;)V"⟩
abbrev cX7_pass : ByteArray := prog_9_method_2_code
def yX7_pass : MethodName := ⟨RX7, "pass", "()I"⟩
abbrev cX7_draw : ByteArray := prog_9_method_3_code
def yX7_draw : MethodName := ⟨RX7, "draw", "(III)V"⟩
abbrev cX7_firstWrong : ByteArray := prog_9_method_4_code
def yX7_firstWrong : MethodName := ⟨RX7, "firstWrong", "(LLeastPays$Shelf;I)I"⟩
abbrev cX7_rulesThatFit : ByteArray := prog_9_method_5_code
def yX7_rulesThatFit : MethodName := ⟨RX7, "rulesThatFit", "(LLeastPays$Shelf;)I"⟩
abbrev cX7_weighRules : ByteArray := prog_9_method_6_code
def yX7_weighRules : MethodName := ⟨RX7, "weighRules", "()V"⟩
abbrev cX7_greatestCost : ByteArray := prog_9_method_7_code
def yX7_greatestCost : MethodName := ⟨RX7, "greatestCost", "()I"⟩
def RX8 : String := "LeastPays$Picture"
def TX8 : u_T := fun k => match k with
  | 0 => ("LeastPays$Picture", "gift", "[I", true)
  | 1 => ("LeastPays$Picture", "paid", "[I", true)
  | 2 => ("LeastPays$Picture", "size", "I", false)
  | 3 => ("LeastPays$Picture", "nights", "I", false)
  | 4 => ("LeastPays$Picture", "chest", "I", false)
  | _ => ("LeastPays$Picture", "taken", "Z", false)
def tyX8 : Nat → FieldType := fun k => match k with
  | 0 => .array .int
  | 1 => .array .int
  | 2 => .int
  | 3 => .int
  | 4 => .int
  | _ => .boolean
abbrev wsX80 : List Cond := u_ws RX8 TX8 6
theorem nmX8 : ∀ a, a < 6 → ∀ b, b < 6 → a ≠ b → (TX8 a).2.1 ≠ (TX8 b).2.1 := by decide +kernel
theorem tyX8_ok : ∀ k, k < 6 → parseFieldDescriptor (TX8 k).2.2.1 = some (tyX8 k) := by decide +kernel
abbrev cX8_init : ByteArray := prog_10_method_1_code
def yX8_init : MethodName := ⟨RX8, "<init>", "()V"⟩
abbrev cX8_take : ByteArray := prog_10_method_2_code
def yX8_take : MethodName := ⟨RX8, "take", "(LLeastPays$Guests;)V"⟩
abbrev cX8_layBack : ByteArray := prog_10_method_3_code
def yX8_layBack : MethodName := ⟨RX8, "layBack", "(LLeastPays$Guests;)V"⟩
def RX9 : String := "LeastPays$Shelf"
def TX9 : u_T := fun k => match k with
  | 0 => ("LeastPays$Shelf", "places", "[J", true)
  | 1 => ("LeastPays$Shelf", "sort", "I", false)
  | 2 => ("LeastPays$Shelf", "length", "I", false)
  | 3 => ("LeastPays$Shelf", "body", "I", false)
  | _ => ("LeastPays$Shelf", "holds", "I", false)
def tyX9 : Nat → FieldType := fun k => match k with
  | 0 => .array .long
  | 1 => .int
  | 2 => .int
  | 3 => .int
  | _ => .int
abbrev wsX90 : List Cond := u_ws RX9 TX9 5
theorem nmX9 : ∀ a, a < 5 → ∀ b, b < 5 → a ≠ b → (TX9 a).2.1 ≠ (TX9 b).2.1 := by decide +kernel
theorem tyX9_ok : ∀ k, k < 5 → parseFieldDescriptor (TX9 k).2.2.1 = some (tyX9 k) := by decide +kernel
abbrev cX9_init : ByteArray := prog_11_method_1_code
def yX9_init : MethodName := ⟨RX9, "<init>", "()V"⟩
abbrev cX9_holdsNothing : ByteArray := prog_11_method_2_code
def yX9_holdsNothing : MethodName := ⟨RX9, "holdsNothing", "()Z"⟩
abbrev cX9_isRow : ByteArray := prog_11_method_3_code
def yX9_isRow : MethodName := ⟨RX9, "isRow", "()Z"⟩
abbrev cX9_isRowOf : ByteArray := prog_11_method_4_code
def yX9_isRowOf : MethodName := ⟨RX9, "isRowOf", "(I)Z"⟩
abbrev cX9_holdHat : ByteArray := prog_11_method_5_code
def yX9_holdHat : MethodName := ⟨RX9, "holdHat", "(I)V"⟩
abbrev cX9_holdRow : ByteArray := prog_11_method_6_code
def yX9_holdRow : MethodName := ⟨RX9, "holdRow", "(II)V"⟩
abbrev cX9_hasPlaces : ByteArray := prog_11_method_7_code
def yX9_hasPlaces : MethodName := ⟨RX9, "hasPlaces", "(II)Z"⟩
abbrev cX9_refusalAt : ByteArray := prog_11_method_8_code
def yX9_refusalAt : MethodName := ⟨RX9, "refusalAt", "(I)I"⟩
abbrev cX9_get : ByteArray := prog_11_method_9_code
def yX9_get : MethodName := ⟨RX9, "get", "(I)J"⟩
abbrev cX9_set : ByteArray := prog_11_method_10_code
def yX9_set : MethodName := ⟨RX9, "set", "(IJ)V"⟩
abbrev cX9_lowestBits : ByteArray := prog_11_method_11_code
def yX9_lowestBits : MethodName := ⟨RX9, "lowestBits", "(J)J"⟩
def RX10 : String := "LeastPays"
def TX10 : u_T := fun k => match k with
  | 0 => ("LeastPays", "guests", "LLeastPays$Guests;", true)
  | 1 => ("LeastPays", "hat", "LLeastPays$Hat;", true)
  | 2 => ("LeastPays", "minds", "LLeastPays$Minds;", true)
  | 3 => ("LeastPays", "menu", "LLeastPays$Menu;", true)
  | 4 => ("LeastPays", "tapeAndLaw", "LLeastPays$Law;", true)
  | 5 => ("LeastPays", "nights", "LLeastPays$Nights;", true)
  | 6 => ("LeastPays", "changes", "LLeastPays$Changes;", true)
  | 7 => ("LeastPays", "picture", "LLeastPays$Picture;", true)
  | 8 => ("LeastPays", "bodies", "LLeastPays$Bodies;", true)
  | _ => ("LeastPays", "shelves", "[LLeastPays$Shelf;", true)
def tyX10 : Nat → FieldType := fun k => match k with
  | 0 => .object "LeastPays$Guests"
  | 1 => .object "LeastPays$Hat"
  | 2 => .object "LeastPays$Minds"
  | 3 => .object "LeastPays$Menu"
  | 4 => .object "LeastPays$Law"
  | 5 => .object "LeastPays$Nights"
  | 6 => .object "LeastPays$Changes"
  | 7 => .object "LeastPays$Picture"
  | 8 => .object "LeastPays$Bodies"
  | _ => .array (.object "LeastPays$Shelf")
abbrev wsX100 : List Cond := u_ws RX10 TX10 10
theorem nmX10 : ∀ a, a < 10 → ∀ b, b < 10 → a ≠ b → (TX10 a).2.1 ≠ (TX10 b).2.1 := by decide +kernel
theorem tyX10_ok : ∀ k, k < 10 → parseFieldDescriptor (TX10 k).2.2.1 = some (tyX10 k) := by decide +kernel
abbrev cX10_init : ByteArray := prog_1_method_1_code
def yX10_init : MethodName := ⟨RX10, "<init>", "()V"⟩
abbrev cX10_guest : ByteArray := prog_1_method_2_code
def yX10_guest : MethodName := ⟨RX10, "guest", "(I)I"⟩
abbrev cX10_guests : ByteArray := prog_1_method_3_code
def yX10_guests : MethodName := ⟨RX10, "guests", "(III)I"⟩
abbrev cX10_mend : ByteArray := prog_1_method_4_code
def yX10_mend : MethodName := ⟨RX10, "mend", "(III)I"⟩
abbrev cX10_of : ByteArray := prog_1_method_5_code
def yX10_of : MethodName := ⟨RX10, "of", "(II)I"⟩
abbrev cX10_think : ByteArray := prog_1_method_6_code
def yX10_think : MethodName := ⟨RX10, "think", "(II)I"⟩
abbrev cX10_feed : ByteArray := prog_1_method_7_code
def yX10_feed : MethodName := ⟨RX10, "feed", "(I)I"⟩
abbrev cX10_law : ByteArray := prog_1_method_8_code
def yX10_law : MethodName := ⟨RX10, "law", "()I"⟩
abbrev cX10_putIn : ByteArray := prog_1_method_9_code
def yX10_putIn : MethodName := ⟨RX10, "putIn", "(II)I"⟩
abbrev cX10_mean : ByteArray := prog_1_method_10_code
def yX10_mean : MethodName := ⟨RX10, "mean", "(III)J"⟩
abbrev cX10_bestMean : ByteArray := prog_1_method_11_code
def yX10_bestMean : MethodName := ⟨RX10, "bestMean", "(I)I"⟩
abbrev cX10_rest : ByteArray := prog_1_method_12_code
def yX10_rest : MethodName := ⟨RX10, "rest", "(I)I"⟩
abbrev cX10_rests : ByteArray := prog_1_method_13_code
def yX10_rests : MethodName := ⟨RX10, "rests", "(I)I"⟩
abbrev cX10_turns : ByteArray := prog_1_method_14_code
def yX10_turns : MethodName := ⟨RX10, "turns", "(I)I"⟩
abbrev cX10_agree : ByteArray := prog_1_method_15_code
def yX10_agree : MethodName := ⟨RX10, "agree", "(II)I"⟩
abbrev cX10_dish : ByteArray := prog_1_method_16_code
def yX10_dish : MethodName := ⟨RX10, "dish", "(I)I"⟩
abbrev cX10_joy : ByteArray := prog_1_method_17_code
def yX10_joy : MethodName := ⟨RX10, "joy", "(II)I"⟩
abbrev cX10_ordered : ByteArray := prog_1_method_18_code
def yX10_ordered : MethodName := ⟨RX10, "ordered", "(II)I"⟩
abbrev cX10_thought : ByteArray := prog_1_method_19_code
def yX10_thought : MethodName := ⟨RX10, "thought", "(III)I"⟩
abbrev cX10_given : ByteArray := prog_1_method_20_code
def yX10_given : MethodName := ⟨RX10, "given", "(I)I"⟩
abbrev cX10_stranger : ByteArray := prog_1_method_21_code
def yX10_stranger : MethodName := ⟨RX10, "stranger", "(III)J"⟩
abbrev cX10_night : ByteArray := prog_1_method_22_code
def yX10_night : MethodName := ⟨RX10, "night", "()I"⟩
abbrev cX10_drawn : ByteArray := prog_1_method_23_code
def yX10_drawn : MethodName := ⟨RX10, "drawn", "(IIII)I"⟩
abbrev cX10_judge : ByteArray := prog_1_method_24_code
def yX10_judge : MethodName := ⟨RX10, "judge", "(I)I"⟩
abbrev cX10_fits : ByteArray := prog_1_method_25_code
def yX10_fits : MethodName := ⟨RX10, "fits", "(I)I"⟩
abbrev cX10_fair : ByteArray := prog_1_method_26_code
def yX10_fair : MethodName := ⟨RX10, "fair", "(I)I"⟩
abbrev cX10_image : ByteArray := prog_1_method_27_code
def yX10_image : MethodName := ⟨RX10, "image", "()I"⟩
abbrev cX10_back : ByteArray := prog_1_method_28_code
def yX10_back : MethodName := ⟨RX10, "back", "()I"⟩
abbrev cX10_undo : ByteArray := prog_1_method_29_code
def yX10_undo : MethodName := ⟨RX10, "undo", "()I"⟩
abbrev cX10_redo : ByteArray := prog_1_method_30_code
def yX10_redo : MethodName := ⟨RX10, "redo", "()I"⟩
abbrev cX10_body : ByteArray := prog_1_method_31_code
def yX10_body : MethodName := ⟨RX10, "body", "(I)I"⟩
abbrev cX10_act : ByteArray := prog_1_method_32_code
def yX10_act : MethodName := ⟨RX10, "act", "(III)I"⟩
abbrev cX10_trace : ByteArray := prog_1_method_33_code
def yX10_trace : MethodName := ⟨RX10, "trace", "(I)I"⟩
abbrev cX10_keep : ByteArray := prog_1_method_34_code
def yX10_keep : MethodName := ⟨RX10, "keep", "(II)I"⟩
abbrev cX10_row : ByteArray := prog_1_method_35_code
def yX10_row : MethodName := ⟨RX10, "row", "(III)I"⟩
abbrev cX10_put : ByteArray := prog_1_method_36_code
def yX10_put : MethodName := ⟨RX10, "put", "(IIJ)I"⟩
abbrev cX10_element : ByteArray := prog_1_method_37_code
def yX10_element : MethodName := ⟨RX10, "element", "(II)J"⟩
abbrev cX10_shift : ByteArray := prog_1_method_38_code
def yX10_shift : MethodName := ⟨RX10, "shift", "(IIIII)I"⟩
abbrev cX10_taken : ByteArray := prog_1_method_39_code
def yX10_taken : MethodName := ⟨RX10, "taken", "(II)I"⟩
abbrev cX10_count : ByteArray := prog_1_method_40_code
def yX10_count : MethodName := ⟨RX10, "count", "(I)I"⟩
abbrev cX10_within : ByteArray := prog_1_method_41_code
def yX10_within : MethodName := ⟨RX10, "within", "(III)Z"⟩
abbrev cX10_isShelf : ByteArray := prog_1_method_42_code
def yX10_isShelf : MethodName := ⟨RX10, "isShelf", "(I)Z"⟩
abbrev cX10_comesFrom : ByteArray := prog_1_method_43_code
def yX10_comesFrom : MethodName := ⟨RX10, "comesFrom", "(LLeastPays$Shelf;J)Z"⟩
abbrev cX10_ofOne : ByteArray := prog_1_method_44_code
def yX10_ofOne : MethodName := ⟨RX10, "ofOne", "(II)I"⟩
abbrev cX10_ofTheTable : ByteArray := prog_1_method_45_code
def yX10_ofTheTable : MethodName := ⟨RX10, "ofTheTable", "(I)I"⟩
abbrev cX10_givenBy : ByteArray := prog_1_method_46_code
def yX10_givenBy : MethodName := ⟨RX10, "givenBy", "(I)I"⟩
abbrev cX10_refusalOfTold : ByteArray := prog_1_method_47_code
def yX10_refusalOfTold : MethodName := ⟨RX10, "refusalOfTold", "(I)I"⟩
abbrev cX10_fraction : ByteArray := prog_1_method_48_code
def yX10_fraction : MethodName := ⟨RX10, "fraction", "(JJI)J"⟩
def RX11 : String := "LeastPaysModel"
def TX11 : u_T := fun k => match k with
  | 0 => ("LeastPaysModel", "may", "[I", true)
  | 1 => ("LeastPaysModel", "changeAt", "[I", true)
  | 2 => ("LeastPaysModel", "changeWas", "[I", true)
  | 3 => ("LeastPaysModel", "changeIs", "[I", true)
  | 4 => ("LeastPaysModel", "keptMany", "I", false)
  | 5 => ("LeastPaysModel", "done", "I", false)
  | 6 => ("LeastPaysModel", "guests", "I", false)
  | 7 => ("LeastPaysModel", "guess", "[I", true)
  | 8 => ("LeastPaysModel", "paidBy", "[I", true)
  | 9 => ("LeastPaysModel", "nights", "I", false)
  | 10 => ("LeastPaysModel", "chest", "I", false)
  | 11 => ("LeastPaysModel", "gift", "[I", true)
  | 12 => ("LeastPaysModel", "gifts", "I", false)
  | 13 => ("LeastPaysModel", "besides", "[I", true)
  | 14 => ("LeastPaysModel", "back", "[I", true)
  | 15 => ("LeastPaysModel", "toChest", "I", false)
  | 16 => ("LeastPaysModel", "sumBest", "I", false)
  | 17 => ("LeastPaysModel", "dishes", "I", false)
  | 18 => ("LeastPaysModel", "price", "[I", true)
  | 19 => ("LeastPaysModel", "joys", "[I", true)
  | 20 => ("LeastPaysModel", "orders", "[I", true)
  | 21 => ("LeastPaysModel", "tape", "[I", true)
  | 22 => ("LeastPaysModel", "tapeMany", "I", false)
  | 23 => ("LeastPaysModel", "text", "[I", true)
  | 24 => ("LeastPaysModel", "textMany", "I", false)
  | 25 => ("LeastPaysModel", "base", "I", false)
  | 26 => ("LeastPaysModel", "at", "I", false)
  | 27 => ("LeastPaysModel", "ends", "I", false)
  | 28 => ("LeastPaysModel", "fault", "I", false)
  | 29 => ("LeastPaysModel", "opened", "I", false)
  | 30 => ("LeastPaysModel", "names", "[I", true)
  | 31 => ("LeastPaysModel", "isKept", "Z", false)
  | 32 => ("LeastPaysModel", "imageGuests", "I", false)
  | 33 => ("LeastPaysModel", "imageNights", "I", false)
  | 34 => ("LeastPaysModel", "imageChest", "I", false)
  | 35 => ("LeastPaysModel", "imageGift", "[I", true)
  | 36 => ("LeastPaysModel", "imagePaid", "[I", true)
  | 37 => ("LeastPaysModel", "bodies", "I", false)
  | 38 => ("LeastPaysModel", "bodyKind", "[I", true)
  | 39 => ("LeastPaysModel", "trace", "[I", true)
  | 40 => ("LeastPaysModel", "ran", "I", false)
  | 41 => ("LeastPaysModel", "ownKind", "I", false)
  | 42 => ("LeastPaysModel", "ownNumber", "I", false)
  | 43 => ("LeastPaysModel", "shelf", "[I", true)
  | 44 => ("LeastPaysModel", "many", "[I", true)
  | 45 => ("LeastPaysModel", "items", "[J", true)
  | _ => ("LeastPaysModel", "carried", "[J", true)
def tyX11 : Nat → FieldType := fun k => match k with
  | 0 => .array .int
  | 1 => .array .int
  | 2 => .array .int
  | 3 => .array .int
  | 4 => .int
  | 5 => .int
  | 6 => .int
  | 7 => .array .int
  | 8 => .array .int
  | 9 => .int
  | 10 => .int
  | 11 => .array .int
  | 12 => .int
  | 13 => .array .int
  | 14 => .array .int
  | 15 => .int
  | 16 => .int
  | 17 => .int
  | 18 => .array .int
  | 19 => .array .int
  | 20 => .array .int
  | 21 => .array .int
  | 22 => .int
  | 23 => .array .int
  | 24 => .int
  | 25 => .int
  | 26 => .int
  | 27 => .int
  | 28 => .int
  | 29 => .int
  | 30 => .array .int
  | 31 => .boolean
  | 32 => .int
  | 33 => .int
  | 34 => .int
  | 35 => .array .int
  | 36 => .array .int
  | 37 => .int
  | 38 => .array .int
  | 39 => .array .int
  | 40 => .int
  | 41 => .int
  | 42 => .int
  | 43 => .array .int
  | 44 => .array .int
  | 45 => .array .long
  | _ => .array .long
abbrev wsX110 : List Cond := u_ws RX11 TX11 47
theorem nmX11 : ∀ a, a < 47 → ∀ b, b < 47 → a ≠ b → (TX11 a).2.1 ≠ (TX11 b).2.1 := by decide +kernel
theorem tyX11_ok : ∀ k, k < 47 → parseFieldDescriptor (TX11 k).2.2.1 = some (tyX11 k) := by decide +kernel
abbrev cX11_within : ByteArray := prog_13_method_1_code
def yX11_within : MethodName := ⟨RX11, "within", "(JJJ)Z"⟩
abbrev cX11_init : ByteArray := prog_13_method_2_code
def yX11_init : MethodName := ⟨RX11, "<init>", "()V"⟩
abbrev cX11_becomes : ByteArray := prog_13_method_3_code
def yX11_becomes : MethodName := ⟨RX11, "becomes", "(II)I"⟩
abbrev cX11_undo : ByteArray := prog_13_method_4_code
def yX11_undo : MethodName := ⟨RX11, "undo", "()I"⟩
abbrev cX11_redo : ByteArray := prog_13_method_5_code
def yX11_redo : MethodName := ⟨RX11, "redo", "()I"⟩
abbrev cX11_isGuest : ByteArray := prog_13_method_6_code
def yX11_isGuest : MethodName := ⟨RX11, "isGuest", "(I)Z"⟩
abbrev cX11_guest : ByteArray := prog_13_method_7_code
def yX11_guest : MethodName := ⟨RX11, "guest", "(I)I"⟩
abbrev cX11_guests : ByteArray := prog_13_method_8_code
def yX11_guests : MethodName := ⟨RX11, "guests", "(III)I"⟩
abbrev cX11_mend : ByteArray := prog_13_method_9_code
def yX11_mend : MethodName := ⟨RX11, "mend", "(III)I"⟩
abbrev cX11_ofGuest : ByteArray := prog_13_method_10_code
def yX11_ofGuest : MethodName := ⟨RX11, "ofGuest", "(II)I"⟩
abbrev cX11_of : ByteArray := prog_13_method_11_code
def yX11_of : MethodName := ⟨RX11, "of", "(II)I"⟩
abbrev cX11_think : ByteArray := prog_13_method_12_code
def yX11_think : MethodName := ⟨RX11, "think", "(II)I"⟩
abbrev cX11_laysOut : ByteArray := prog_13_method_13_code
def yX11_laysOut : MethodName := ⟨RX11, "laysOut", "()V"⟩
abbrev cX11_leastBut : ByteArray := prog_13_method_14_code
def yX11_leastBut : MethodName := ⟨RX11, "leastBut", "(I)I"⟩
abbrev cX11_alikePay : ByteArray := prog_13_method_15_code
def yX11_alikePay : MethodName := ⟨RX11, "alikePay", "(I)V"⟩
abbrev cX11_twoPay : ByteArray := prog_13_method_16_code
def yX11_twoPay : MethodName := ⟨RX11, "twoPay", "(I)V"⟩
abbrev cX11_givesBack : ByteArray := prog_13_method_17_code
def yX11_givesBack : MethodName := ⟨RX11, "givesBack", "(I)V"⟩
abbrev cX11_nightBy : ByteArray := prog_13_method_18_code
def yX11_nightBy : MethodName := ⟨RX11, "nightBy", "(II)V"⟩
abbrev cX11_nightAsIs : ByteArray := prog_13_method_19_code
def yX11_nightAsIs : MethodName := ⟨RX11, "nightAsIs", "()V"⟩
abbrev cX11_costIn : ByteArray := prog_13_method_20_code
def yX11_costIn : MethodName := ⟨RX11, "costIn", "(I)I"⟩
abbrev cX11_costNow : ByteArray := prog_13_method_21_code
def yX11_costNow : MethodName := ⟨RX11, "costNow", "(I)I"⟩
abbrev cX11_costBy : ByteArray := prog_13_method_22_code
def yX11_costBy : MethodName := ⟨RX11, "costBy", "(II)I"⟩
abbrev cX11_leastCost : ByteArray := prog_13_method_23_code
def yX11_leastCost : MethodName := ⟨RX11, "leastCost", "(I)I"⟩
abbrev cX11_putIn : ByteArray := prog_13_method_24_code
def yX11_putIn : MethodName := ⟨RX11, "putIn", "(II)I"⟩
abbrev cX11_common : ByteArray := prog_13_method_25_code
def yX11_common : MethodName := ⟨RX11, "common", "(JJ)J"⟩
abbrev cX11_partOf : ByteArray := prog_13_method_26_code
def yX11_partOf : MethodName := ⟨RX11, "partOf", "(JJI)J"⟩
abbrev cX11_meanOf : ByteArray := prog_13_method_27_code
def yX11_meanOf : MethodName := ⟨RX11, "meanOf", "(II)J"⟩
abbrev cX11_wholeOf : ByteArray := prog_13_method_28_code
def yX11_wholeOf : MethodName := ⟨RX11, "wholeOf", "()J"⟩
abbrev cX11_mean : ByteArray := prog_13_method_29_code
def yX11_mean : MethodName := ⟨RX11, "mean", "(III)J"⟩
abbrev cX11_bestMean : ByteArray := prog_13_method_30_code
def yX11_bestMean : MethodName := ⟨RX11, "bestMean", "(I)I"⟩
abbrev cX11_wouldChange : ByteArray := prog_13_method_31_code
def yX11_wouldChange : MethodName := ⟨RX11, "wouldChange", "(I)Z"⟩
abbrev cX11_firstWho : ByteArray := prog_13_method_32_code
def yX11_firstWho : MethodName := ⟨RX11, "firstWho", "()I"⟩
abbrev cX11_rest : ByteArray := prog_13_method_33_code
def yX11_rest : MethodName := ⟨RX11, "rest", "(I)I"⟩
abbrev cX11_sumsOf : ByteArray := prog_13_method_34_code
def yX11_sumsOf : MethodName := ⟨RX11, "sumsOf", "(I)I"⟩
abbrev cX11_rests : ByteArray := prog_13_method_35_code
def yX11_rests : MethodName := ⟨RX11, "rests", "(I)I"⟩
abbrev cX11_turns : ByteArray := prog_13_method_36_code
def yX11_turns : MethodName := ⟨RX11, "turns", "(I)I"⟩
abbrev cX11_agree : ByteArray := prog_13_method_37_code
def yX11_agree : MethodName := ⟨RX11, "agree", "(II)I"⟩
abbrev cX11_dish : ByteArray := prog_13_method_38_code
def yX11_dish : MethodName := ⟨RX11, "dish", "(I)I"⟩
abbrev cX11_joy : ByteArray := prog_13_method_39_code
def yX11_joy : MethodName := ⟨RX11, "joy", "(II)I"⟩
abbrev cX11_joyOf : ByteArray := prog_13_method_40_code
def yX11_joyOf : MethodName := ⟨RX11, "joyOf", "(II)I"⟩
abbrev cX11_billFrom : ByteArray := prog_13_method_41_code
def yX11_billFrom : MethodName := ⟨RX11, "billFrom", "(II)I"⟩
abbrev cX11_ordered : ByteArray := prog_13_method_42_code
def yX11_ordered : MethodName := ⟨RX11, "ordered", "(II)I"⟩
abbrev cX11_feed : ByteArray := prog_13_method_43_code
def yX11_feed : MethodName := ⟨RX11, "feed", "(I)I"⟩
abbrev cX11_byteAt : ByteArray := prog_13_method_44_code
def yX11_byteAt : MethodName := ⟨RX11, "byteAt", "()I"⟩
abbrev cX11_wrong : ByteArray := prog_13_method_45_code
def yX11_wrong : MethodName := ⟨RX11, "wrong", "()I"⟩
abbrev cX11_takes : ByteArray := prog_13_method_46_code
def yX11_takes : MethodName := ⟨RX11, "takes", "(I)Z"⟩
abbrev cX11_either : ByteArray := prog_13_method_47_code
def yX11_either : MethodName := ⟨RX11, "either", "()I"⟩
abbrev cX11_both : ByteArray := prog_13_method_48_code
def yX11_both : MethodName := ⟨RX11, "both", "()I"⟩
abbrev cX11_compared : ByteArray := prog_13_method_49_code
def yX11_compared : MethodName := ⟨RX11, "compared", "()I"⟩
abbrev cX11_sums : ByteArray := prog_13_method_50_code
def yX11_sums : MethodName := ⟨RX11, "sums", "()I"⟩
abbrev cX11_product : ByteArray := prog_13_method_51_code
def yX11_product : MethodName := ⟨RX11, "product", "()I"⟩
abbrev cX11_nameOf : ByteArray := prog_13_method_52_code
def yX11_nameOf : MethodName := ⟨RX11, "nameOf", "(I)I"⟩
abbrev cX11_one : ByteArray := prog_13_method_53_code
def yX11_one : MethodName := ⟨RX11, "one", "()I"⟩
abbrev cX11_workOut : ByteArray := prog_13_method_54_code
def yX11_workOut : MethodName := ⟨RX11, "workOut", "(II)I"⟩
abbrev cX11_law : ByteArray := prog_13_method_55_code
def yX11_law : MethodName := ⟨RX11, "law", "()I"⟩
abbrev cX11_wouldGive : ByteArray := prog_13_method_56_code
def yX11_wouldGive : MethodName := ⟨RX11, "wouldGive", "(II)I"⟩
abbrev cX11_thought : ByteArray := prog_13_method_57_code
def yX11_thought : MethodName := ⟨RX11, "thought", "(III)I"⟩
abbrev cX11_givenBy : ByteArray := prog_13_method_58_code
def yX11_givenBy : MethodName := ⟨RX11, "givenBy", "(I)I"⟩
abbrev cX11_given : ByteArray := prog_13_method_59_code
def yX11_given : MethodName := ⟨RX11, "given", "(I)I"⟩
abbrev cX11_stranger : ByteArray := prog_13_method_60_code
def yX11_stranger : MethodName := ⟨RX11, "stranger", "(III)J"⟩
abbrev cX11_night : ByteArray := prog_13_method_61_code
def yX11_night : MethodName := ⟨RX11, "night", "()I"⟩
abbrev cX11_drawn : ByteArray := prog_13_method_62_code
def yX11_drawn : MethodName := ⟨RX11, "drawn", "(IIII)I"⟩
abbrev cX11_hatIs : ByteArray := prog_13_method_63_code
def yX11_hatIs : MethodName := ⟨RX11, "hatIs", "(I)I"⟩
abbrev cX11_firstFalse : ByteArray := prog_13_method_64_code
def yX11_firstFalse : MethodName := ⟨RX11, "firstFalse", "(II)I"⟩
abbrev cX11_judge : ByteArray := prog_13_method_65_code
def yX11_judge : MethodName := ⟨RX11, "judge", "(I)I"⟩
abbrev cX11_fits : ByteArray := prog_13_method_66_code
def yX11_fits : MethodName := ⟨RX11, "fits", "(I)I"⟩
abbrev cX11_fair : ByteArray := prog_13_method_67_code
def yX11_fair : MethodName := ⟨RX11, "fair", "(I)I"⟩
abbrev cX11_image : ByteArray := prog_13_method_68_code
def yX11_image : MethodName := ⟨RX11, "image", "()I"⟩
abbrev cX11_back : ByteArray := prog_13_method_69_code
def yX11_back : MethodName := ⟨RX11, "back", "()I"⟩
abbrev cX11_isBody : ByteArray := prog_13_method_70_code
def yX11_isBody : MethodName := ⟨RX11, "isBody", "(I)Z"⟩
abbrev cX11_kindOf : ByteArray := prog_13_method_71_code
def yX11_kindOf : MethodName := ⟨RX11, "kindOf", "(I)I"⟩
abbrev cX11_body : ByteArray := prog_13_method_72_code
def yX11_body : MethodName := ⟨RX11, "body", "(I)I"⟩
abbrev cX11_above : ByteArray := prog_13_method_73_code
def yX11_above : MethodName := ⟨RX11, "above", "(I)I"⟩
abbrev cX11_begins : ByteArray := prog_13_method_74_code
def yX11_begins : MethodName := ⟨RX11, "begins", "(I)V"⟩
abbrev cX11_givesAs : ByteArray := prog_13_method_75_code
def yX11_givesAs : MethodName := ⟨RX11, "givesAs", "(II)I"⟩
abbrev cX11_owesAs : ByteArray := prog_13_method_76_code
def yX11_owesAs : MethodName := ⟨RX11, "owesAs", "(II)I"⟩
abbrev cX11_lacksAs : ByteArray := prog_13_method_77_code
def yX11_lacksAs : MethodName := ⟨RX11, "lacksAs", "(II)I"⟩
abbrev cX11_tellsAs : ByteArray := prog_13_method_78_code
def yX11_tellsAs : MethodName := ⟨RX11, "tellsAs", "(II)I"⟩
abbrev cX11_act : ByteArray := prog_13_method_79_code
def yX11_act : MethodName := ⟨RX11, "act", "(III)I"⟩
abbrev cX11_trace : ByteArray := prog_13_method_80_code
def yX11_trace : MethodName := ⟨RX11, "trace", "(I)I"⟩
abbrev cX11_isShelf : ByteArray := prog_13_method_81_code
def yX11_isShelf : MethodName := ⟨RX11, "isShelf", "(I)Z"⟩
abbrev cX11_keep : ByteArray := prog_13_method_82_code
def yX11_keep : MethodName := ⟨RX11, "keep", "(II)I"⟩
abbrev cX11_row : ByteArray := prog_13_method_83_code
def yX11_row : MethodName := ⟨RX11, "row", "(III)I"⟩
abbrev cX11_refusal : ByteArray := prog_13_method_84_code
def yX11_refusal : MethodName := ⟨RX11, "refusal", "(II)I"⟩
abbrev cX11_asSort : ByteArray := prog_13_method_85_code
def yX11_asSort : MethodName := ⟨RX11, "asSort", "(IJ)J"⟩
abbrev cX11_put : ByteArray := prog_13_method_86_code
def yX11_put : MethodName := ⟨RX11, "put", "(IIJ)I"⟩
abbrev cX11_element : ByteArray := prog_13_method_87_code
def yX11_element : MethodName := ⟨RX11, "element", "(II)J"⟩
abbrev cX11_shift : ByteArray := prog_13_method_88_code
def yX11_shift : MethodName := ⟨RX11, "shift", "(IIIII)I"⟩
abbrev cX11_taken : ByteArray := prog_13_method_89_code
def yX11_taken : MethodName := ⟨RX11, "taken", "(II)I"⟩
abbrev cX11_count : ByteArray := prog_13_method_90_code
def yX11_count : MethodName := ⟨RX11, "count", "(I)I"⟩
def RJ9 : String := "java/lang/Math"
def TJ9 : u_T := fun k => match k with
  | _ => ("", "", "", false)
def tyJ9 : Nat → FieldType := fun k => match k with
  | _ => .int
abbrev wsJ90 : List Cond := u_ws RJ9 TJ9 0
theorem nmJ9 : ∀ a, a < 0 → ∀ b, b < 0 → a ≠ b → (TJ9 a).2.1 ≠ (TJ9 b).2.1 := by decide +kernel
theorem tyJ9_ok : ∀ k, k < 0 → parseFieldDescriptor (TJ9 k).2.2.1 = some (tyJ9 k) := by decide +kernel
abbrev cJ9_max_7cf53 : ByteArray := prog_14_method_65_code
def yJ9_max_7cf53 : MethodName := ⟨RJ9, "max", "(II)I"⟩
abbrev cJ9_min_7cf53 : ByteArray := prog_14_method_69_code
def yJ9_min_7cf53 : MethodName := ⟨RJ9, "min", "(II)I"⟩
abbrev cJ9_min_f86c9 : ByteArray := prog_14_method_70_code
def yJ9_min_f86c9 : MethodName := ⟨RJ9, "min", "(JJ)J"⟩
def RJ10 : String := "java/lang/System"
def TJ10 : u_T := fun k => match k with
  | _ => ("", "", "", false)
def tyJ10 : Nat → FieldType := fun k => match k with
  | _ => .int
abbrev wsJ100 : List Cond := u_ws RJ10 TJ10 0
theorem nmJ10 : ∀ a, a < 0 → ∀ b, b < 0 → a ≠ b → (TJ10 a).2.1 ≠ (TJ10 b).2.1 := by decide +kernel
theorem tyJ10_ok : ∀ k, k < 0 → parseFieldDescriptor (TJ10 k).2.2.1 = some (tyJ10 k) := by decide +kernel
def RJ7 : String := "java/util/Arrays"
def TJ7 : u_T := fun k => match k with
  | _ => ("", "", "", false)
def tyJ7 : Nat → FieldType := fun k => match k with
  | _ => .int
abbrev wsJ70 : List Cond := u_ws RJ7 TJ7 0
theorem nmJ7 : ∀ a, a < 0 → ∀ b, b < 0 → a ≠ b → (TJ7 a).2.1 ≠ (TJ7 b).2.1 := by decide +kernel
theorem tyJ7_ok : ∀ k, k < 0 → parseFieldDescriptor (TJ7 k).2.2.1 = some (tyJ7 k) := by decide +kernel
abbrev cJ7_fill_d0a16 : ByteArray := prog_16_method_101_code
def yJ7_fill_d0a16 : MethodName := ⟨RJ7, "fill", "([JJ)V"⟩
abbrev cJ7_fill_53178 : ByteArray := prog_16_method_103_code
def yJ7_fill_53178 : MethodName := ⟨RJ7, "fill", "([II)V"⟩
def RL : String := "LeastPaysLaw"
abbrev cL_law : ByteArray := code
def yL_law : MethodName := ⟨RL, "law", "([I)Z"⟩
abbrev vwCl : List vw_C := [(RX0, TX0, 5), (RX1, TX1, 6), (RX2, TX2, 12), (RX3, TX3, 11), (RX4, TX4, 11), (RX5, TX5, 6), (RX6, TX6, 6), (RX7, TX7, 6), (RX8, TX8, 6), (RX9, TX9, 5), (RX10, TX10, 10), (RX11, TX11, 47)]
