section
-- ===== PART A: goes FIRST, ahead of the names: the tables' words, and 'selects' of the private methods out of them =====
/-- a private method of a class that the tables say can be made, by its rows of tables_1 -/
def lw_okq (q : MethodName × Nat) : Prop := (q.1.cls ≠ "java/lang/invoke/MethodHandle" ∧ q.1.cls ≠ "java/lang/invoke/VarHandle") ∧ Cond.instantiable q.1.cls q.2 ∈ tables_1 ∧ Cond.privateMethod q.1 ∈ tables_1 ∧ Cond.instanceMethod q.1 ∈ tables_1
theorem lw_p0 : lw_okq (⟨"LeastPays", "comesFrom", "(LLeastPays$Shelf;J)Z"⟩, 10) := ⟨⟨by decide +kernel, by decide +kernel⟩, List.mem_of_getElem? (i := 17) (by decide +kernel), List.mem_of_getElem? (i := 442) (by decide +kernel), List.mem_of_getElem? (i := 443) (by decide +kernel)⟩
theorem lw_p1 : lw_okq (⟨"LeastPays$Changes", "dropOldest", "()V"⟩, 6) := ⟨⟨by decide +kernel, by decide +kernel⟩, List.mem_of_getElem? (i := 279) (by decide +kernel), List.mem_of_getElem? (i := 479) (by decide +kernel), List.mem_of_getElem? (i := 480) (by decide +kernel)⟩
theorem lw_p2 : lw_okq (⟨"LeastPays", "ofTheTable", "(I)I"⟩, 10) := ⟨⟨by decide +kernel, by decide +kernel⟩, List.mem_of_getElem? (i := 17) (by decide +kernel), List.mem_of_getElem? (i := 490) (by decide +kernel), List.mem_of_getElem? (i := 491) (by decide +kernel)⟩
theorem lw_p3 : lw_okq (⟨"LeastPays", "ofOne", "(II)I"⟩, 10) := ⟨⟨by decide +kernel, by decide +kernel⟩, List.mem_of_getElem? (i := 17) (by decide +kernel), List.mem_of_getElem? (i := 512) (by decide +kernel), List.mem_of_getElem? (i := 513) (by decide +kernel)⟩
theorem lw_p4 : lw_okq (⟨"LeastPays$Hat", "partAmongAlike", "(I)I"⟩, 11) := ⟨⟨by decide +kernel, by decide +kernel⟩, List.mem_of_getElem? (i := 105) (by decide +kernel), List.mem_of_getElem? (i := 524) (by decide +kernel), List.mem_of_getElem? (i := 525) (by decide +kernel)⟩
theorem lw_p5 : lw_okq (⟨"LeastPays$Hat", "partOfTwo", "(I)I"⟩, 11) := ⟨⟨by decide +kernel, by decide +kernel⟩, List.mem_of_getElem? (i := 105) (by decide +kernel), List.mem_of_getElem? (i := 528) (by decide +kernel), List.mem_of_getElem? (i := 529) (by decide +kernel)⟩
theorem lw_p6 : lw_okq (⟨"LeastPays$Hat", "givenBack", "(I)I"⟩, 11) := ⟨⟨by decide +kernel, by decide +kernel⟩, List.mem_of_getElem? (i := 105) (by decide +kernel), List.mem_of_getElem? (i := 532) (by decide +kernel), List.mem_of_getElem? (i := 533) (by decide +kernel)⟩
theorem lw_p7 : lw_okq (⟨"LeastPays$Law", "readLines", "()V"⟩, 11) := ⟨⟨by decide +kernel, by decide +kernel⟩, List.mem_of_getElem? (i := 209) (by decide +kernel), List.mem_of_getElem? (i := 559) (by decide +kernel), List.mem_of_getElem? (i := 560) (by decide +kernel)⟩
theorem lw_p8 : lw_okq (⟨"LeastPays$Law", "readLine", "()V"⟩, 11) := ⟨⟨by decide +kernel, by decide +kernel⟩, List.mem_of_getElem? (i := 209) (by decide +kernel), List.mem_of_getElem? (i := 563) (by decide +kernel), List.mem_of_getElem? (i := 564) (by decide +kernel)⟩
theorem lw_p9 : lw_okq (⟨"LeastPays$Law", "readEither", "(I)V"⟩, 11) := ⟨⟨by decide +kernel, by decide +kernel⟩, List.mem_of_getElem? (i := 209) (by decide +kernel), List.mem_of_getElem? (i := 567) (by decide +kernel), List.mem_of_getElem? (i := 568) (by decide +kernel)⟩
theorem lw_p10 : lw_okq (⟨"LeastPays$Law", "readBoth", "(I)V"⟩, 11) := ⟨⟨by decide +kernel, by decide +kernel⟩, List.mem_of_getElem? (i := 209) (by decide +kernel), List.mem_of_getElem? (i := 571) (by decide +kernel), List.mem_of_getElem? (i := 572) (by decide +kernel)⟩
theorem lw_p11 : lw_okq (⟨"LeastPays$Law", "readCompared", "(I)V"⟩, 11) := ⟨⟨by decide +kernel, by decide +kernel⟩, List.mem_of_getElem? (i := 209) (by decide +kernel), List.mem_of_getElem? (i := 575) (by decide +kernel), List.mem_of_getElem? (i := 576) (by decide +kernel)⟩
theorem lw_p12 : lw_okq (⟨"LeastPays$Law", "readSum", "(I)V"⟩, 11) := ⟨⟨by decide +kernel, by decide +kernel⟩, List.mem_of_getElem? (i := 209) (by decide +kernel), List.mem_of_getElem? (i := 579) (by decide +kernel), List.mem_of_getElem? (i := 580) (by decide +kernel)⟩
theorem lw_p13 : lw_okq (⟨"LeastPays$Law", "readProduct", "(I)V"⟩, 11) := ⟨⟨by decide +kernel, by decide +kernel⟩, List.mem_of_getElem? (i := 209) (by decide +kernel), List.mem_of_getElem? (i := 583) (by decide +kernel), List.mem_of_getElem? (i := 584) (by decide +kernel)⟩
theorem lw_p14 : lw_okq (⟨"LeastPays$Law", "readOperand", "(I)V"⟩, 11) := ⟨⟨by decide +kernel, by decide +kernel⟩, List.mem_of_getElem? (i := 209) (by decide +kernel), List.mem_of_getElem? (i := 587) (by decide +kernel), List.mem_of_getElem? (i := 588) (by decide +kernel)⟩
theorem lw_p15 : lw_okq (⟨"LeastPays$Law", "letterHere", "()I"⟩, 11) := ⟨⟨by decide +kernel, by decide +kernel⟩, List.mem_of_getElem? (i := 209) (by decide +kernel), List.mem_of_getElem? (i := 591) (by decide +kernel), List.mem_of_getElem? (i := 592) (by decide +kernel)⟩
def lw_privs_1 : List (MethodName × Nat) := [(⟨"LeastPays", "comesFrom", "(LLeastPays$Shelf;J)Z"⟩, 10), (⟨"LeastPays$Changes", "dropOldest", "()V"⟩, 6), (⟨"LeastPays", "ofTheTable", "(I)I"⟩, 10), (⟨"LeastPays", "ofOne", "(II)I"⟩, 10), (⟨"LeastPays$Hat", "partAmongAlike", "(I)I"⟩, 11), (⟨"LeastPays$Hat", "partOfTwo", "(I)I"⟩, 11), (⟨"LeastPays$Hat", "givenBack", "(I)I"⟩, 11), (⟨"LeastPays$Law", "readLines", "()V"⟩, 11), (⟨"LeastPays$Law", "readLine", "()V"⟩, 11), (⟨"LeastPays$Law", "readEither", "(I)V"⟩, 11), (⟨"LeastPays$Law", "readBoth", "(I)V"⟩, 11), (⟨"LeastPays$Law", "readCompared", "(I)V"⟩, 11), (⟨"LeastPays$Law", "readSum", "(I)V"⟩, 11), (⟨"LeastPays$Law", "readProduct", "(I)V"⟩, 11), (⟨"LeastPays$Law", "readOperand", "(I)V"⟩, 11), (⟨"LeastPays$Law", "letterHere", "()I"⟩, 11)]
theorem lw_r1 : ∀ q ∈ lw_privs_1, lw_okq q := List.forall_mem_cons.mpr ⟨lw_p0, List.forall_mem_cons.mpr ⟨lw_p1, List.forall_mem_cons.mpr ⟨lw_p2, List.forall_mem_cons.mpr ⟨lw_p3, List.forall_mem_cons.mpr ⟨lw_p4, List.forall_mem_cons.mpr ⟨lw_p5, List.forall_mem_cons.mpr ⟨lw_p6, List.forall_mem_cons.mpr ⟨lw_p7, List.forall_mem_cons.mpr ⟨lw_p8, List.forall_mem_cons.mpr ⟨lw_p9, List.forall_mem_cons.mpr ⟨lw_p10, List.forall_mem_cons.mpr ⟨lw_p11, List.forall_mem_cons.mpr ⟨lw_p12, List.forall_mem_cons.mpr ⟨lw_p13, List.forall_mem_cons.mpr ⟨lw_p14, List.forall_mem_cons.mpr ⟨lw_p15, fun _ h => absurd h List.not_mem_nil⟩⟩⟩⟩⟩⟩⟩⟩⟩⟩⟩⟩⟩⟩⟩⟩
theorem lw_p16 : lw_okq (⟨"LeastPays$Law", "readNumber", "()V"⟩, 11) := ⟨⟨by decide +kernel, by decide +kernel⟩, List.mem_of_getElem? (i := 209) (by decide +kernel), List.mem_of_getElem? (i := 601) (by decide +kernel), List.mem_of_getElem? (i := 602) (by decide +kernel)⟩
theorem lw_p17 : lw_okq (⟨"LeastPays$Law", "write", "(I)V"⟩, 11) := ⟨⟨by decide +kernel, by decide +kernel⟩, List.mem_of_getElem? (i := 209) (by decide +kernel), List.mem_of_getElem? (i := 605) (by decide +kernel), List.mem_of_getElem? (i := 606) (by decide +kernel)⟩
theorem lw_p18 : lw_okq (⟨"LeastPays$Law", "fail", "()V"⟩, 11) := ⟨⟨by decide +kernel, by decide +kernel⟩, List.mem_of_getElem? (i := 209) (by decide +kernel), List.mem_of_getElem? (i := 609) (by decide +kernel), List.mem_of_getElem? (i := 610) (by decide +kernel)⟩
theorem lw_p19 : lw_okq (⟨"LeastPays$Law", "takes", "(C)Z"⟩, 11) := ⟨⟨by decide +kernel, by decide +kernel⟩, List.mem_of_getElem? (i := 209) (by decide +kernel), List.mem_of_getElem? (i := 613) (by decide +kernel), List.mem_of_getElem? (i := 614) (by decide +kernel)⟩
theorem lw_p20 : lw_okq (⟨"LeastPays$Law", "takesProductSign", "()I"⟩, 11) := ⟨⟨by decide +kernel, by decide +kernel⟩, List.mem_of_getElem? (i := 209) (by decide +kernel), List.mem_of_getElem? (i := 617) (by decide +kernel), List.mem_of_getElem? (i := 618) (by decide +kernel)⟩
theorem lw_p21 : lw_okq (⟨"LeastPays$Law", "takesSumSign", "()I"⟩, 11) := ⟨⟨by decide +kernel, by decide +kernel⟩, List.mem_of_getElem? (i := 209) (by decide +kernel), List.mem_of_getElem? (i := 621) (by decide +kernel), List.mem_of_getElem? (i := 622) (by decide +kernel)⟩
theorem lw_p22 : lw_okq (⟨"LeastPays$Minds", "sumsOf", "(I)I"⟩, 6) := ⟨⟨by decide +kernel, by decide +kernel⟩, List.mem_of_getElem? (i := 153) (by decide +kernel), List.mem_of_getElem? (i := 635) (by decide +kernel), List.mem_of_getElem? (i := 636) (by decide +kernel)⟩
theorem lw_p23 : lw_okq (⟨"LeastPays$Minds", "costBy", "(II)I"⟩, 6) := ⟨⟨by decide +kernel, by decide +kernel⟩, List.mem_of_getElem? (i := 153) (by decide +kernel), List.mem_of_getElem? (i := 639) (by decide +kernel), List.mem_of_getElem? (i := 640) (by decide +kernel)⟩
theorem lw_p24 : lw_okq (⟨"LeastPays$Minds", "layByChance", "(II)J"⟩, 6) := ⟨⟨by decide +kernel, by decide +kernel⟩, List.mem_of_getElem? (i := 153) (by decide +kernel), List.mem_of_getElem? (i := 655) (by decide +kernel), List.mem_of_getElem? (i := 656) (by decide +kernel)⟩
theorem lw_p25 : lw_okq (⟨"LeastPays$Minds", "wouldChange", "(I)Z"⟩, 6) := ⟨⟨by decide +kernel, by decide +kernel⟩, List.mem_of_getElem? (i := 153) (by decide +kernel), List.mem_of_getElem? (i := 684) (by decide +kernel), List.mem_of_getElem? (i := 685) (by decide +kernel)⟩
theorem lw_p26 : lw_okq (⟨"LeastPays$Minds", "ways", "()J"⟩, 6) := ⟨⟨by decide +kernel, by decide +kernel⟩, List.mem_of_getElem? (i := 153) (by decide +kernel), List.mem_of_getElem? (i := 696) (by decide +kernel), List.mem_of_getElem? (i := 697) (by decide +kernel)⟩
theorem lw_p27 : lw_okq (⟨"LeastPays$Minds", "layWay", "(I)V"⟩, 6) := ⟨⟨by decide +kernel, by decide +kernel⟩, List.mem_of_getElem? (i := 153) (by decide +kernel), List.mem_of_getElem? (i := 708) (by decide +kernel), List.mem_of_getElem? (i := 709) (by decide +kernel)⟩
theorem lw_p28 : lw_okq (⟨"LeastPays$Menu", "playOut", "(II)I"⟩, 6) := ⟨⟨by decide +kernel, by decide +kernel⟩, List.mem_of_getElem? (i := 182) (by decide +kernel), List.mem_of_getElem? (i := 765) (by decide +kernel), List.mem_of_getElem? (i := 766) (by decide +kernel)⟩
theorem lw_p29 : lw_okq (⟨"LeastPays$Menu", "priceOf", "(I)I"⟩, 6) := ⟨⟨by decide +kernel, by decide +kernel⟩, List.mem_of_getElem? (i := 182) (by decide +kernel), List.mem_of_getElem? (i := 776) (by decide +kernel), List.mem_of_getElem? (i := 777) (by decide +kernel)⟩
theorem lw_p30 : lw_okq (⟨"LeastPays$Law", "workOut", "(LLeastPays$Guests;II)I"⟩, 11) := ⟨⟨by decide +kernel, by decide +kernel⟩, List.mem_of_getElem? (i := 209) (by decide +kernel), List.mem_of_getElem? (i := 789) (by decide +kernel), List.mem_of_getElem? (i := 790) (by decide +kernel)⟩
theorem lw_p31 : lw_okq (⟨"LeastPays$Law", "pop", "()I"⟩, 11) := ⟨⟨by decide +kernel, by decide +kernel⟩, List.mem_of_getElem? (i := 209) (by decide +kernel), List.mem_of_getElem? (i := 793) (by decide +kernel), List.mem_of_getElem? (i := 794) (by decide +kernel)⟩
def lw_privs_2 : List (MethodName × Nat) := [(⟨"LeastPays$Law", "readNumber", "()V"⟩, 11), (⟨"LeastPays$Law", "write", "(I)V"⟩, 11), (⟨"LeastPays$Law", "fail", "()V"⟩, 11), (⟨"LeastPays$Law", "takes", "(C)Z"⟩, 11), (⟨"LeastPays$Law", "takesProductSign", "()I"⟩, 11), (⟨"LeastPays$Law", "takesSumSign", "()I"⟩, 11), (⟨"LeastPays$Minds", "sumsOf", "(I)I"⟩, 6), (⟨"LeastPays$Minds", "costBy", "(II)I"⟩, 6), (⟨"LeastPays$Minds", "layByChance", "(II)J"⟩, 6), (⟨"LeastPays$Minds", "wouldChange", "(I)Z"⟩, 6), (⟨"LeastPays$Minds", "ways", "()J"⟩, 6), (⟨"LeastPays$Minds", "layWay", "(I)V"⟩, 6), (⟨"LeastPays$Menu", "playOut", "(II)I"⟩, 6), (⟨"LeastPays$Menu", "priceOf", "(I)I"⟩, 6), (⟨"LeastPays$Law", "workOut", "(LLeastPays$Guests;II)I"⟩, 11), (⟨"LeastPays$Law", "pop", "()I"⟩, 11)]
theorem lw_r2 : ∀ q ∈ lw_privs_2, lw_okq q := List.forall_mem_cons.mpr ⟨lw_p16, List.forall_mem_cons.mpr ⟨lw_p17, List.forall_mem_cons.mpr ⟨lw_p18, List.forall_mem_cons.mpr ⟨lw_p19, List.forall_mem_cons.mpr ⟨lw_p20, List.forall_mem_cons.mpr ⟨lw_p21, List.forall_mem_cons.mpr ⟨lw_p22, List.forall_mem_cons.mpr ⟨lw_p23, List.forall_mem_cons.mpr ⟨lw_p24, List.forall_mem_cons.mpr ⟨lw_p25, List.forall_mem_cons.mpr ⟨lw_p26, List.forall_mem_cons.mpr ⟨lw_p27, List.forall_mem_cons.mpr ⟨lw_p28, List.forall_mem_cons.mpr ⟨lw_p29, List.forall_mem_cons.mpr ⟨lw_p30, List.forall_mem_cons.mpr ⟨lw_p31, fun _ h => absurd h List.not_mem_nil⟩⟩⟩⟩⟩⟩⟩⟩⟩⟩⟩⟩⟩⟩⟩⟩
theorem lw_p32 : lw_okq (⟨"LeastPays$Law", "push", "(I)V"⟩, 11) := ⟨⟨by decide +kernel, by decide +kernel⟩, List.mem_of_getElem? (i := 209) (by decide +kernel), List.mem_of_getElem? (i := 800) (by decide +kernel), List.mem_of_getElem? (i := 801) (by decide +kernel)⟩
theorem lw_p33 : lw_okq (⟨"LeastPays$Law", "apply", "(I)V"⟩, 11) := ⟨⟨by decide +kernel, by decide +kernel⟩, List.mem_of_getElem? (i := 209) (by decide +kernel), List.mem_of_getElem? (i := 804) (by decide +kernel), List.mem_of_getElem? (i := 805) (by decide +kernel)⟩
theorem lw_p34 : lw_okq (⟨"LeastPays", "givenBy", "(I)I"⟩, 10) := ⟨⟨by decide +kernel, by decide +kernel⟩, List.mem_of_getElem? (i := 17) (by decide +kernel), List.mem_of_getElem? (i := 823) (by decide +kernel), List.mem_of_getElem? (i := 824) (by decide +kernel)⟩
theorem lw_p35 : lw_okq (⟨"LeastPays", "refusalOfTold", "(I)I"⟩, 10) := ⟨⟨by decide +kernel, by decide +kernel⟩, List.mem_of_getElem? (i := 17) (by decide +kernel), List.mem_of_getElem? (i := 865) (by decide +kernel), List.mem_of_getElem? (i := 866) (by decide +kernel)⟩
theorem lw_p36 : lw_okq (⟨"LeastPays$Nights", "greatestCost", "()I"⟩, 6) := ⟨⟨by decide +kernel, by decide +kernel⟩, List.mem_of_getElem? (i := 250) (by decide +kernel), List.mem_of_getElem? (i := 891) (by decide +kernel), List.mem_of_getElem? (i := 892) (by decide +kernel)⟩
theorem lw_p37 : lw_okq (⟨"LeastPays$Bodies", "call", "(III)I"⟩, 5) := ⟨⟨by decide +kernel, by decide +kernel⟩, List.mem_of_getElem? (i := 331) (by decide +kernel), List.mem_of_getElem? (i := 953) (by decide +kernel), List.mem_of_getElem? (i := 954) (by decide +kernel)⟩
theorem lw_p38 : lw_okq (⟨"LeastPays$Bodies", "from", "(IIII)I"⟩, 5) := ⟨⟨by decide +kernel, by decide +kernel⟩, List.mem_of_getElem? (i := 331) (by decide +kernel), List.mem_of_getElem? (i := 957) (by decide +kernel), List.mem_of_getElem? (i := 958) (by decide +kernel)⟩
theorem lw_p39 : lw_okq (⟨"LeastPays$Bodies", "run", "(III)I"⟩, 5) := ⟨⟨by decide +kernel, by decide +kernel⟩, List.mem_of_getElem? (i := 331) (by decide +kernel), List.mem_of_getElem? (i := 965) (by decide +kernel), List.mem_of_getElem? (i := 966) (by decide +kernel)⟩
theorem lw_p40 : lw_okq (⟨"LeastPays$Shelf", "lowestBits", "(J)J"⟩, 5) := ⟨⟨by decide +kernel, by decide +kernel⟩, List.mem_of_getElem? (i := 356) (by decide +kernel), List.mem_of_getElem? (i := 1009) (by decide +kernel), List.mem_of_getElem? (i := 1010) (by decide +kernel)⟩
theorem lw_p41 : lw_okq (⟨"LeastPaysModel", "isGuest", "(I)Z"⟩, 47) := ⟨⟨by decide +kernel, by decide +kernel⟩, List.mem_of_getElem? (i := 1042) (by decide +kernel), List.mem_of_getElem? (i := 1219) (by decide +kernel), List.mem_of_getElem? (i := 1220) (by decide +kernel)⟩
theorem lw_p42 : lw_okq (⟨"LeastPaysModel", "becomes", "(II)I"⟩, 47) := ⟨⟨by decide +kernel, by decide +kernel⟩, List.mem_of_getElem? (i := 1042) (by decide +kernel), List.mem_of_getElem? (i := 1223) (by decide +kernel), List.mem_of_getElem? (i := 1224) (by decide +kernel)⟩
theorem lw_p43 : lw_okq (⟨"LeastPaysModel", "ofGuest", "(II)I"⟩, 47) := ⟨⟨by decide +kernel, by decide +kernel⟩, List.mem_of_getElem? (i := 1042) (by decide +kernel), List.mem_of_getElem? (i := 1234) (by decide +kernel), List.mem_of_getElem? (i := 1235) (by decide +kernel)⟩
theorem lw_p44 : lw_okq (⟨"LeastPaysModel", "costNow", "(I)I"⟩, 47) := ⟨⟨by decide +kernel, by decide +kernel⟩, List.mem_of_getElem? (i := 1042) (by decide +kernel), List.mem_of_getElem? (i := 1238) (by decide +kernel), List.mem_of_getElem? (i := 1239) (by decide +kernel)⟩
theorem lw_p45 : lw_okq (⟨"LeastPaysModel", "laysOut", "()V"⟩, 47) := ⟨⟨by decide +kernel, by decide +kernel⟩, List.mem_of_getElem? (i := 1042) (by decide +kernel), List.mem_of_getElem? (i := 1242) (by decide +kernel), List.mem_of_getElem? (i := 1243) (by decide +kernel)⟩
theorem lw_p46 : lw_okq (⟨"LeastPaysModel", "nightAsIs", "()V"⟩, 47) := ⟨⟨by decide +kernel, by decide +kernel⟩, List.mem_of_getElem? (i := 1042) (by decide +kernel), List.mem_of_getElem? (i := 1246) (by decide +kernel), List.mem_of_getElem? (i := 1247) (by decide +kernel)⟩
theorem lw_p47 : lw_okq (⟨"LeastPaysModel", "nightBy", "(II)V"⟩, 47) := ⟨⟨by decide +kernel, by decide +kernel⟩, List.mem_of_getElem? (i := 1042) (by decide +kernel), List.mem_of_getElem? (i := 1250) (by decide +kernel), List.mem_of_getElem? (i := 1251) (by decide +kernel)⟩
def lw_privs_3 : List (MethodName × Nat) := [(⟨"LeastPays$Law", "push", "(I)V"⟩, 11), (⟨"LeastPays$Law", "apply", "(I)V"⟩, 11), (⟨"LeastPays", "givenBy", "(I)I"⟩, 10), (⟨"LeastPays", "refusalOfTold", "(I)I"⟩, 10), (⟨"LeastPays$Nights", "greatestCost", "()I"⟩, 6), (⟨"LeastPays$Bodies", "call", "(III)I"⟩, 5), (⟨"LeastPays$Bodies", "from", "(IIII)I"⟩, 5), (⟨"LeastPays$Bodies", "run", "(III)I"⟩, 5), (⟨"LeastPays$Shelf", "lowestBits", "(J)J"⟩, 5), (⟨"LeastPaysModel", "isGuest", "(I)Z"⟩, 47), (⟨"LeastPaysModel", "becomes", "(II)I"⟩, 47), (⟨"LeastPaysModel", "ofGuest", "(II)I"⟩, 47), (⟨"LeastPaysModel", "costNow", "(I)I"⟩, 47), (⟨"LeastPaysModel", "laysOut", "()V"⟩, 47), (⟨"LeastPaysModel", "nightAsIs", "()V"⟩, 47), (⟨"LeastPaysModel", "nightBy", "(II)V"⟩, 47)]
theorem lw_r3 : ∀ q ∈ lw_privs_3, lw_okq q := List.forall_mem_cons.mpr ⟨lw_p32, List.forall_mem_cons.mpr ⟨lw_p33, List.forall_mem_cons.mpr ⟨lw_p34, List.forall_mem_cons.mpr ⟨lw_p35, List.forall_mem_cons.mpr ⟨lw_p36, List.forall_mem_cons.mpr ⟨lw_p37, List.forall_mem_cons.mpr ⟨lw_p38, List.forall_mem_cons.mpr ⟨lw_p39, List.forall_mem_cons.mpr ⟨lw_p40, List.forall_mem_cons.mpr ⟨lw_p41, List.forall_mem_cons.mpr ⟨lw_p42, List.forall_mem_cons.mpr ⟨lw_p43, List.forall_mem_cons.mpr ⟨lw_p44, List.forall_mem_cons.mpr ⟨lw_p45, List.forall_mem_cons.mpr ⟨lw_p46, List.forall_mem_cons.mpr ⟨lw_p47, fun _ h => absurd h List.not_mem_nil⟩⟩⟩⟩⟩⟩⟩⟩⟩⟩⟩⟩⟩⟩⟩⟩
theorem lw_p48 : lw_okq (⟨"LeastPaysModel", "leastBut", "(I)I"⟩, 47) := ⟨⟨by decide +kernel, by decide +kernel⟩, List.mem_of_getElem? (i := 1042) (by decide +kernel), List.mem_of_getElem? (i := 1254) (by decide +kernel), List.mem_of_getElem? (i := 1255) (by decide +kernel)⟩
theorem lw_p49 : lw_okq (⟨"LeastPaysModel", "alikePay", "(I)V"⟩, 47) := ⟨⟨by decide +kernel, by decide +kernel⟩, List.mem_of_getElem? (i := 1042) (by decide +kernel), List.mem_of_getElem? (i := 1258) (by decide +kernel), List.mem_of_getElem? (i := 1259) (by decide +kernel)⟩
theorem lw_p50 : lw_okq (⟨"LeastPaysModel", "twoPay", "(I)V"⟩, 47) := ⟨⟨by decide +kernel, by decide +kernel⟩, List.mem_of_getElem? (i := 1042) (by decide +kernel), List.mem_of_getElem? (i := 1262) (by decide +kernel), List.mem_of_getElem? (i := 1263) (by decide +kernel)⟩
theorem lw_p51 : lw_okq (⟨"LeastPaysModel", "givesBack", "(I)V"⟩, 47) := ⟨⟨by decide +kernel, by decide +kernel⟩, List.mem_of_getElem? (i := 1042) (by decide +kernel), List.mem_of_getElem? (i := 1266) (by decide +kernel), List.mem_of_getElem? (i := 1267) (by decide +kernel)⟩
theorem lw_p52 : lw_okq (⟨"LeastPaysModel", "costIn", "(I)I"⟩, 47) := ⟨⟨by decide +kernel, by decide +kernel⟩, List.mem_of_getElem? (i := 1042) (by decide +kernel), List.mem_of_getElem? (i := 1270) (by decide +kernel), List.mem_of_getElem? (i := 1271) (by decide +kernel)⟩
theorem lw_p53 : lw_okq (⟨"LeastPaysModel", "leastCost", "(I)I"⟩, 47) := ⟨⟨by decide +kernel, by decide +kernel⟩, List.mem_of_getElem? (i := 1042) (by decide +kernel), List.mem_of_getElem? (i := 1284) (by decide +kernel), List.mem_of_getElem? (i := 1285) (by decide +kernel)⟩
theorem lw_p54 : lw_okq (⟨"LeastPaysModel", "costBy", "(II)I"⟩, 47) := ⟨⟨by decide +kernel, by decide +kernel⟩, List.mem_of_getElem? (i := 1042) (by decide +kernel), List.mem_of_getElem? (i := 1288) (by decide +kernel), List.mem_of_getElem? (i := 1289) (by decide +kernel)⟩
theorem lw_p55 : lw_okq (⟨"LeastPaysModel", "meanOf", "(II)J"⟩, 47) := ⟨⟨by decide +kernel, by decide +kernel⟩, List.mem_of_getElem? (i := 1042) (by decide +kernel), List.mem_of_getElem? (i := 1297) (by decide +kernel), List.mem_of_getElem? (i := 1298) (by decide +kernel)⟩
theorem lw_p56 : lw_okq (⟨"LeastPaysModel", "wholeOf", "()J"⟩, 47) := ⟨⟨by decide +kernel, by decide +kernel⟩, List.mem_of_getElem? (i := 1042) (by decide +kernel), List.mem_of_getElem? (i := 1301) (by decide +kernel), List.mem_of_getElem? (i := 1302) (by decide +kernel)⟩
theorem lw_p57 : lw_okq (⟨"LeastPaysModel", "firstWho", "()I"⟩, 47) := ⟨⟨by decide +kernel, by decide +kernel⟩, List.mem_of_getElem? (i := 1042) (by decide +kernel), List.mem_of_getElem? (i := 1319) (by decide +kernel), List.mem_of_getElem? (i := 1320) (by decide +kernel)⟩
theorem lw_p58 : lw_okq (⟨"LeastPaysModel", "wouldChange", "(I)Z"⟩, 47) := ⟨⟨by decide +kernel, by decide +kernel⟩, List.mem_of_getElem? (i := 1042) (by decide +kernel), List.mem_of_getElem? (i := 1323) (by decide +kernel), List.mem_of_getElem? (i := 1324) (by decide +kernel)⟩
theorem lw_p59 : lw_okq (⟨"LeastPaysModel", "sumsOf", "(I)I"⟩, 47) := ⟨⟨by decide +kernel, by decide +kernel⟩, List.mem_of_getElem? (i := 1042) (by decide +kernel), List.mem_of_getElem? (i := 1331) (by decide +kernel), List.mem_of_getElem? (i := 1332) (by decide +kernel)⟩
theorem lw_p60 : lw_okq (⟨"LeastPaysModel", "billFrom", "(II)I"⟩, 47) := ⟨⟨by decide +kernel, by decide +kernel⟩, List.mem_of_getElem? (i := 1042) (by decide +kernel), List.mem_of_getElem? (i := 1357) (by decide +kernel), List.mem_of_getElem? (i := 1358) (by decide +kernel)⟩
theorem lw_p61 : lw_okq (⟨"LeastPaysModel", "joyOf", "(II)I"⟩, 47) := ⟨⟨by decide +kernel, by decide +kernel⟩, List.mem_of_getElem? (i := 1042) (by decide +kernel), List.mem_of_getElem? (i := 1361) (by decide +kernel), List.mem_of_getElem? (i := 1362) (by decide +kernel)⟩
theorem lw_p62 : lw_okq (⟨"LeastPaysModel", "workOut", "(II)I"⟩, 47) := ⟨⟨by decide +kernel, by decide +kernel⟩, List.mem_of_getElem? (i := 1042) (by decide +kernel), List.mem_of_getElem? (i := 1374) (by decide +kernel), List.mem_of_getElem? (i := 1375) (by decide +kernel)⟩
theorem lw_p63 : lw_okq (⟨"LeastPaysModel", "either", "()I"⟩, 47) := ⟨⟨by decide +kernel, by decide +kernel⟩, List.mem_of_getElem? (i := 1042) (by decide +kernel), List.mem_of_getElem? (i := 1378) (by decide +kernel), List.mem_of_getElem? (i := 1379) (by decide +kernel)⟩
def lw_privs_4 : List (MethodName × Nat) := [(⟨"LeastPaysModel", "leastBut", "(I)I"⟩, 47), (⟨"LeastPaysModel", "alikePay", "(I)V"⟩, 47), (⟨"LeastPaysModel", "twoPay", "(I)V"⟩, 47), (⟨"LeastPaysModel", "givesBack", "(I)V"⟩, 47), (⟨"LeastPaysModel", "costIn", "(I)I"⟩, 47), (⟨"LeastPaysModel", "leastCost", "(I)I"⟩, 47), (⟨"LeastPaysModel", "costBy", "(II)I"⟩, 47), (⟨"LeastPaysModel", "meanOf", "(II)J"⟩, 47), (⟨"LeastPaysModel", "wholeOf", "()J"⟩, 47), (⟨"LeastPaysModel", "firstWho", "()I"⟩, 47), (⟨"LeastPaysModel", "wouldChange", "(I)Z"⟩, 47), (⟨"LeastPaysModel", "sumsOf", "(I)I"⟩, 47), (⟨"LeastPaysModel", "billFrom", "(II)I"⟩, 47), (⟨"LeastPaysModel", "joyOf", "(II)I"⟩, 47), (⟨"LeastPaysModel", "workOut", "(II)I"⟩, 47), (⟨"LeastPaysModel", "either", "()I"⟩, 47)]
theorem lw_r4 : ∀ q ∈ lw_privs_4, lw_okq q := List.forall_mem_cons.mpr ⟨lw_p48, List.forall_mem_cons.mpr ⟨lw_p49, List.forall_mem_cons.mpr ⟨lw_p50, List.forall_mem_cons.mpr ⟨lw_p51, List.forall_mem_cons.mpr ⟨lw_p52, List.forall_mem_cons.mpr ⟨lw_p53, List.forall_mem_cons.mpr ⟨lw_p54, List.forall_mem_cons.mpr ⟨lw_p55, List.forall_mem_cons.mpr ⟨lw_p56, List.forall_mem_cons.mpr ⟨lw_p57, List.forall_mem_cons.mpr ⟨lw_p58, List.forall_mem_cons.mpr ⟨lw_p59, List.forall_mem_cons.mpr ⟨lw_p60, List.forall_mem_cons.mpr ⟨lw_p61, List.forall_mem_cons.mpr ⟨lw_p62, List.forall_mem_cons.mpr ⟨lw_p63, fun _ h => absurd h List.not_mem_nil⟩⟩⟩⟩⟩⟩⟩⟩⟩⟩⟩⟩⟩⟩⟩⟩
theorem lw_p64 : lw_okq (⟨"LeastPaysModel", "both", "()I"⟩, 47) := ⟨⟨by decide +kernel, by decide +kernel⟩, List.mem_of_getElem? (i := 1042) (by decide +kernel), List.mem_of_getElem? (i := 1382) (by decide +kernel), List.mem_of_getElem? (i := 1383) (by decide +kernel)⟩
theorem lw_p65 : lw_okq (⟨"LeastPaysModel", "compared", "()I"⟩, 47) := ⟨⟨by decide +kernel, by decide +kernel⟩, List.mem_of_getElem? (i := 1042) (by decide +kernel), List.mem_of_getElem? (i := 1386) (by decide +kernel), List.mem_of_getElem? (i := 1387) (by decide +kernel)⟩
theorem lw_p66 : lw_okq (⟨"LeastPaysModel", "sums", "()I"⟩, 47) := ⟨⟨by decide +kernel, by decide +kernel⟩, List.mem_of_getElem? (i := 1042) (by decide +kernel), List.mem_of_getElem? (i := 1390) (by decide +kernel), List.mem_of_getElem? (i := 1391) (by decide +kernel)⟩
theorem lw_p67 : lw_okq (⟨"LeastPaysModel", "product", "()I"⟩, 47) := ⟨⟨by decide +kernel, by decide +kernel⟩, List.mem_of_getElem? (i := 1042) (by decide +kernel), List.mem_of_getElem? (i := 1394) (by decide +kernel), List.mem_of_getElem? (i := 1395) (by decide +kernel)⟩
theorem lw_p68 : lw_okq (⟨"LeastPaysModel", "one", "()I"⟩, 47) := ⟨⟨by decide +kernel, by decide +kernel⟩, List.mem_of_getElem? (i := 1042) (by decide +kernel), List.mem_of_getElem? (i := 1398) (by decide +kernel), List.mem_of_getElem? (i := 1399) (by decide +kernel)⟩
theorem lw_p69 : lw_okq (⟨"LeastPaysModel", "byteAt", "()I"⟩, 47) := ⟨⟨by decide +kernel, by decide +kernel⟩, List.mem_of_getElem? (i := 1042) (by decide +kernel), List.mem_of_getElem? (i := 1402) (by decide +kernel), List.mem_of_getElem? (i := 1403) (by decide +kernel)⟩
theorem lw_p70 : lw_okq (⟨"LeastPaysModel", "wrong", "()I"⟩, 47) := ⟨⟨by decide +kernel, by decide +kernel⟩, List.mem_of_getElem? (i := 1042) (by decide +kernel), List.mem_of_getElem? (i := 1406) (by decide +kernel), List.mem_of_getElem? (i := 1407) (by decide +kernel)⟩
theorem lw_p71 : lw_okq (⟨"LeastPaysModel", "takes", "(I)Z"⟩, 47) := ⟨⟨by decide +kernel, by decide +kernel⟩, List.mem_of_getElem? (i := 1042) (by decide +kernel), List.mem_of_getElem? (i := 1410) (by decide +kernel), List.mem_of_getElem? (i := 1411) (by decide +kernel)⟩
theorem lw_p72 : lw_okq (⟨"LeastPaysModel", "wouldGive", "(II)I"⟩, 47) := ⟨⟨by decide +kernel, by decide +kernel⟩, List.mem_of_getElem? (i := 1042) (by decide +kernel), List.mem_of_getElem? (i := 1421) (by decide +kernel), List.mem_of_getElem? (i := 1422) (by decide +kernel)⟩
theorem lw_p73 : lw_okq (⟨"LeastPaysModel", "givenBy", "(I)I"⟩, 47) := ⟨⟨by decide +kernel, by decide +kernel⟩, List.mem_of_getElem? (i := 1042) (by decide +kernel), List.mem_of_getElem? (i := 1429) (by decide +kernel), List.mem_of_getElem? (i := 1430) (by decide +kernel)⟩
theorem lw_p74 : lw_okq (⟨"LeastPaysModel", "hatIs", "(I)I"⟩, 47) := ⟨⟨by decide +kernel, by decide +kernel⟩, List.mem_of_getElem? (i := 1042) (by decide +kernel), List.mem_of_getElem? (i := 1451) (by decide +kernel), List.mem_of_getElem? (i := 1452) (by decide +kernel)⟩
theorem lw_p75 : lw_okq (⟨"LeastPaysModel", "firstFalse", "(II)I"⟩, 47) := ⟨⟨by decide +kernel, by decide +kernel⟩, List.mem_of_getElem? (i := 1042) (by decide +kernel), List.mem_of_getElem? (i := 1455) (by decide +kernel), List.mem_of_getElem? (i := 1456) (by decide +kernel)⟩
theorem lw_p76 : lw_okq (⟨"LeastPaysModel", "isBody", "(I)Z"⟩, 47) := ⟨⟨by decide +kernel, by decide +kernel⟩, List.mem_of_getElem? (i := 1042) (by decide +kernel), List.mem_of_getElem? (i := 1484) (by decide +kernel), List.mem_of_getElem? (i := 1485) (by decide +kernel)⟩
theorem lw_p77 : lw_okq (⟨"LeastPaysModel", "givesAs", "(II)I"⟩, 47) := ⟨⟨by decide +kernel, by decide +kernel⟩, List.mem_of_getElem? (i := 1042) (by decide +kernel), List.mem_of_getElem? (i := 1488) (by decide +kernel), List.mem_of_getElem? (i := 1489) (by decide +kernel)⟩
theorem lw_p78 : lw_okq (⟨"LeastPaysModel", "begins", "(I)V"⟩, 47) := ⟨⟨by decide +kernel, by decide +kernel⟩, List.mem_of_getElem? (i := 1042) (by decide +kernel), List.mem_of_getElem? (i := 1492) (by decide +kernel), List.mem_of_getElem? (i := 1493) (by decide +kernel)⟩
theorem lw_p79 : lw_okq (⟨"LeastPaysModel", "owesAs", "(II)I"⟩, 47) := ⟨⟨by decide +kernel, by decide +kernel⟩, List.mem_of_getElem? (i := 1042) (by decide +kernel), List.mem_of_getElem? (i := 1496) (by decide +kernel), List.mem_of_getElem? (i := 1497) (by decide +kernel)⟩
def lw_privs_5 : List (MethodName × Nat) := [(⟨"LeastPaysModel", "both", "()I"⟩, 47), (⟨"LeastPaysModel", "compared", "()I"⟩, 47), (⟨"LeastPaysModel", "sums", "()I"⟩, 47), (⟨"LeastPaysModel", "product", "()I"⟩, 47), (⟨"LeastPaysModel", "one", "()I"⟩, 47), (⟨"LeastPaysModel", "byteAt", "()I"⟩, 47), (⟨"LeastPaysModel", "wrong", "()I"⟩, 47), (⟨"LeastPaysModel", "takes", "(I)Z"⟩, 47), (⟨"LeastPaysModel", "wouldGive", "(II)I"⟩, 47), (⟨"LeastPaysModel", "givenBy", "(I)I"⟩, 47), (⟨"LeastPaysModel", "hatIs", "(I)I"⟩, 47), (⟨"LeastPaysModel", "firstFalse", "(II)I"⟩, 47), (⟨"LeastPaysModel", "isBody", "(I)Z"⟩, 47), (⟨"LeastPaysModel", "givesAs", "(II)I"⟩, 47), (⟨"LeastPaysModel", "begins", "(I)V"⟩, 47), (⟨"LeastPaysModel", "owesAs", "(II)I"⟩, 47)]
theorem lw_r5 : ∀ q ∈ lw_privs_5, lw_okq q := List.forall_mem_cons.mpr ⟨lw_p64, List.forall_mem_cons.mpr ⟨lw_p65, List.forall_mem_cons.mpr ⟨lw_p66, List.forall_mem_cons.mpr ⟨lw_p67, List.forall_mem_cons.mpr ⟨lw_p68, List.forall_mem_cons.mpr ⟨lw_p69, List.forall_mem_cons.mpr ⟨lw_p70, List.forall_mem_cons.mpr ⟨lw_p71, List.forall_mem_cons.mpr ⟨lw_p72, List.forall_mem_cons.mpr ⟨lw_p73, List.forall_mem_cons.mpr ⟨lw_p74, List.forall_mem_cons.mpr ⟨lw_p75, List.forall_mem_cons.mpr ⟨lw_p76, List.forall_mem_cons.mpr ⟨lw_p77, List.forall_mem_cons.mpr ⟨lw_p78, List.forall_mem_cons.mpr ⟨lw_p79, fun _ h => absurd h List.not_mem_nil⟩⟩⟩⟩⟩⟩⟩⟩⟩⟩⟩⟩⟩⟩⟩⟩
theorem lw_p80 : lw_okq (⟨"LeastPaysModel", "lacksAs", "(II)I"⟩, 47) := ⟨⟨by decide +kernel, by decide +kernel⟩, List.mem_of_getElem? (i := 1042) (by decide +kernel), List.mem_of_getElem? (i := 1500) (by decide +kernel), List.mem_of_getElem? (i := 1501) (by decide +kernel)⟩
theorem lw_p81 : lw_okq (⟨"LeastPaysModel", "tellsAs", "(II)I"⟩, 47) := ⟨⟨by decide +kernel, by decide +kernel⟩, List.mem_of_getElem? (i := 1042) (by decide +kernel), List.mem_of_getElem? (i := 1504) (by decide +kernel), List.mem_of_getElem? (i := 1505) (by decide +kernel)⟩
theorem lw_p82 : lw_okq (⟨"LeastPaysModel", "refusal", "(II)I"⟩, 47) := ⟨⟨by decide +kernel, by decide +kernel⟩, List.mem_of_getElem? (i := 1042) (by decide +kernel), List.mem_of_getElem? (i := 1524) (by decide +kernel), List.mem_of_getElem? (i := 1525) (by decide +kernel)⟩
theorem lw_p83 : lw_okq (⟨"LeastPaysModel", "kindOf", "(I)I"⟩, 47) := ⟨⟨by decide +kernel, by decide +kernel⟩, List.mem_of_getElem? (i := 1042) (by decide +kernel), List.mem_of_getElem? (i := 1543) (by decide +kernel), List.mem_of_getElem? (i := 1544) (by decide +kernel)⟩
def lw_privs_6 : List (MethodName × Nat) := [(⟨"LeastPaysModel", "lacksAs", "(II)I"⟩, 47), (⟨"LeastPaysModel", "tellsAs", "(II)I"⟩, 47), (⟨"LeastPaysModel", "refusal", "(II)I"⟩, 47), (⟨"LeastPaysModel", "kindOf", "(I)I"⟩, 47)]
theorem lw_r6 : ∀ q ∈ lw_privs_6, lw_okq q := List.forall_mem_cons.mpr ⟨lw_p80, List.forall_mem_cons.mpr ⟨lw_p81, List.forall_mem_cons.mpr ⟨lw_p82, List.forall_mem_cons.mpr ⟨lw_p83, fun _ h => absurd h List.not_mem_nil⟩⟩⟩⟩
def lw_privs : List (MethodName × Nat) := lw_privs_1 ++ (lw_privs_2 ++ (lw_privs_3 ++ (lw_privs_4 ++ (lw_privs_5 ++ (lw_privs_6)))))
def lw_tbl : List Cond := k2_sels lw_privs ++ tables_1
theorem lw_privs_ok : ∀ q ∈ lw_privs, lw_okq q := by
  show ∀ q ∈ lw_privs_1 ++ (lw_privs_2 ++ (lw_privs_3 ++ (lw_privs_4 ++ (lw_privs_5 ++ (lw_privs_6))))), lw_okq q
  exact List.forall_mem_append.mpr ⟨lw_r1, List.forall_mem_append.mpr ⟨lw_r2, List.forall_mem_append.mpr ⟨lw_r3, List.forall_mem_append.mpr ⟨lw_r4, List.forall_mem_append.mpr ⟨lw_r5, lw_r6⟩⟩⟩⟩⟩
def RX0 : String := "LeastPays$Bodies"
def TX0 : u_T := fun k => match k with
  | 0 => ("LeastPays$Bodies", "kinds", "[I", true)
  | 1 => ("LeastPays$Bodies", "ranFirst", "[I", true)
  | 2 => ("LeastPays$Bodies", "size", "I", false)
  | 3 => ("LeastPays$Bodies", "ran", "I", false)
  | _ => ("LeastPays$Bodies", "actor", "I", false)
def tyX0 : Nat → FieldType := fun k => match k with
  | 0 => .array .int
  | 1 => .array .int
  | 2 => .int
  | 3 => .int
  | _ => .int
abbrev wsX00 : List Cond := u_ws RX0 TX0 5
theorem nmX0 : ∀ a, a < 5 → ∀ b, b < 5 → a ≠ b → (TX0 a).2.1 ≠ (TX0 b).2.1 := by decide +kernel
theorem tyX0_ok : ∀ k, k < 5 → parseFieldDescriptor (TX0 k).2.2.1 = some (tyX0 k) := by decide +kernel
abbrev cX0_init : ByteArray := prog_2_method_1_code
def yX0_init : MethodName := ⟨RX0, "<init>", "()V"⟩
abbrev cX0_has : ByteArray := prog_2_method_2_code
def yX0_has : MethodName := ⟨RX0, "has", "(I)Z"⟩
abbrev cX0_kindOf : ByteArray := prog_2_method_3_code
def yX0_kindOf : MethodName := ⟨RX0, "kindOf", "(I)I"⟩
abbrev cX0_add : ByteArray := prog_2_method_4_code
def yX0_add : MethodName := ⟨RX0, "add", "(I)I"⟩
abbrev cX0_isUnder : ByteArray := prog_2_method_5_code
def yX0_isUnder : MethodName := ⟨RX0, "isUnder", "(II)Z"⟩
abbrev cX0_ranAt : ByteArray := prog_2_method_6_code
def yX0_ranAt : MethodName := ⟨RX0, "ranAt", "(I)I"⟩
abbrev cX0_perform : ByteArray := prog_2_method_7_code
def yX0_perform : MethodName := ⟨RX0, "perform", "(III)I"⟩
abbrev cX0_call : ByteArray := prog_2_method_8_code
def yX0_call : MethodName := ⟨RX0, "call", "(III)I"⟩
abbrev cX0_from : ByteArray := prog_2_method_9_code
def yX0_from : MethodName := ⟨RX0, "from", "(IIII)I"⟩
abbrev cX0_run : ByteArray := prog_2_method_10_code
def yX0_run : MethodName := ⟨RX0, "run", "(III)I"⟩
def RX1 : String := "LeastPays$Changes"
def TX1 : u_T := fun k => match k with
  | 0 => ("LeastPays$Changes", "number", "[I", true)
  | 1 => ("LeastPays$Changes", "what", "[I", true)
  | 2 => ("LeastPays$Changes", "was", "[I", true)
  | 3 => ("LeastPays$Changes", "became", "[I", true)
  | 4 => ("LeastPays$Changes", "done", "I", false)
  | _ => ("LeastPays$Changes", "kept", "I", false)
def tyX1 : Nat → FieldType := fun k => match k with
  | 0 => .array .int
  | 1 => .array .int
  | 2 => .array .int
  | 3 => .array .int
  | 4 => .int
  | _ => .int
abbrev wsX10 : List Cond := u_ws RX1 TX1 6
theorem nmX1 : ∀ a, a < 6 → ∀ b, b < 6 → a ≠ b → (TX1 a).2.1 ≠ (TX1 b).2.1 := by decide +kernel
theorem tyX1_ok : ∀ k, k < 6 → parseFieldDescriptor (TX1 k).2.2.1 = some (tyX1 k) := by decide +kernel
abbrev cX1_init : ByteArray := prog_3_method_1_code
def yX1_init : MethodName := ⟨RX1, "<init>", "()V"⟩
abbrev cX1_note : ByteArray := prog_3_method_2_code
def yX1_note : MethodName := ⟨RX1, "note", "(IIII)V"⟩
abbrev cX1_dropOldest : ByteArray := prog_3_method_3_code
def yX1_dropOldest : MethodName := ⟨RX1, "dropOldest", "()V"⟩
abbrev cX1_takeBack : ByteArray := prog_3_method_4_code
def yX1_takeBack : MethodName := ⟨RX1, "takeBack", "(LLeastPays$Guests;)I"⟩
abbrev cX1_doAgain : ByteArray := prog_3_method_5_code
def yX1_doAgain : MethodName := ⟨RX1, "doAgain", "(LLeastPays$Guests;)I"⟩
def RX2 : String := "LeastPays$Guests"
def TX2 : u_T := fun k => match k with
  | 0 => ("LeastPays$Guests", "purse", "[I", true)
  | 1 => ("LeastPays$Guests", "gift", "[I", true)
  | 2 => ("LeastPays$Guests", "odds", "[I", true)
  | 3 => ("LeastPays$Guests", "instead", "[I", true)
  | 4 => ("LeastPays$Guests", "guess", "[I", true)
  | 5 => ("LeastPays$Guests", "paid", "[I", true)
  | 6 => ("LeastPays$Guests", "size", "I", false)
  | 7 => ("LeastPays$Guests", "bill", "I", false)
  | 8 => ("LeastPays$Guests", "rule", "I", false)
  | 9 => ("LeastPays$Guests", "step", "I", false)
  | 10 => ("LeastPays$Guests", "chest", "I", false)
  | _ => ("LeastPays$Guests", "nights", "I", false)
def tyX2 : Nat → FieldType := fun k => match k with
  | 0 => .array .int
  | 1 => .array .int
  | 2 => .array .int
  | 3 => .array .int
  | 4 => .array .int
  | 5 => .array .int
  | 6 => .int
  | 7 => .int
  | 8 => .int
  | 9 => .int
  | 10 => .int
  | _ => .int
abbrev wsX20 : List Cond := u_ws RX2 TX2 12
theorem nmX2 : ∀ a, a < 12 → ∀ b, b < 12 → a ≠ b → (TX2 a).2.1 ≠ (TX2 b).2.1 := by decide +kernel
theorem tyX2_ok : ∀ k, k < 12 → parseFieldDescriptor (TX2 k).2.2.1 = some (tyX2 k) := by decide +kernel
abbrev cX2_init : ByteArray := prog_4_method_1_code
def yX2_init : MethodName := ⟨RX2, "<init>", "()V"⟩
abbrev cX2_has : ByteArray := prog_4_method_2_code
def yX2_has : MethodName := ⟨RX2, "has", "(I)Z"⟩
abbrev cX2_welcome : ByteArray := prog_4_method_3_code
def yX2_welcome : MethodName := ⟨RX2, "welcome", "(II)V"⟩
abbrev cX2_allows : ByteArray := prog_4_method_4_code
def yX2_allows : MethodName := ⟨RX2, "allows", "(III)Z"⟩
abbrev cX2_told : ByteArray := prog_4_method_5_code
def yX2_told : MethodName := ⟨RX2, "told", "(II)I"⟩
abbrev cX2_tell : ByteArray := prog_4_method_6_code
def yX2_tell : MethodName := ⟨RX2, "tell", "(III)V"⟩
def RX3 : String := "LeastPays$Hat"
def TX3 : u_T := fun k => match k with
  | 0 => ("LeastPays$Hat", "gifts", "[I", true)
  | 1 => ("LeastPays$Hat", "size", "I", false)
  | 2 => ("LeastPays$Hat", "rule", "I", false)
  | 3 => ("LeastPays$Hat", "bill", "I", false)
  | 4 => ("LeastPays$Hat", "sum", "I", false)
  | 5 => ("LeastPays$Hat", "lack", "I", false)
  | 6 => ("LeastPays$Hat", "over", "I", false)
  | 7 => ("LeastPays$Hat", "least", "I", false)
  | 8 => ("LeastPays$Hat", "next", "I", false)
  | 9 => ("LeastPays$Hat", "most", "I", false)
  | _ => ("LeastPays$Hat", "alike", "I", false)
def tyX3 : Nat → FieldType := fun k => match k with
  | 0 => .array .int
  | 1 => .int
  | 2 => .int
  | 3 => .int
  | 4 => .int
  | 5 => .int
  | 6 => .int
  | 7 => .int
  | 8 => .int
  | 9 => .int
  | _ => .int
abbrev wsX30 : List Cond := u_ws RX3 TX3 11
theorem nmX3 : ∀ a, a < 11 → ∀ b, b < 11 → a ≠ b → (TX3 a).2.1 ≠ (TX3 b).2.1 := by decide +kernel
theorem tyX3_ok : ∀ k, k < 11 → parseFieldDescriptor (TX3 k).2.2.1 = some (tyX3 k) := by decide +kernel
abbrev cX3_init : ByteArray := prog_5_method_1_code
def yX3_init : MethodName := ⟨RX3, "<init>", "()V"⟩
abbrev cX3_lay : ByteArray := prog_5_method_2_code
def yX3_lay : MethodName := ⟨RX3, "lay", "(LLeastPays$Guests;)V"⟩
abbrev cX3_join : ByteArray := prog_5_method_3_code
def yX3_join : MethodName := ⟨RX3, "join", "(I)V"⟩
abbrev cX3_weigh : ByteArray := prog_5_method_4_code
def yX3_weigh : MethodName := ⟨RX3, "weigh", "()V"⟩
abbrev cX3_charge : ByteArray := prog_5_method_5_code
def yX3_charge : MethodName := ⟨RX3, "charge", "(I)V"⟩
abbrev cX3_cost : ByteArray := prog_5_method_6_code
def yX3_cost : MethodName := ⟨RX3, "cost", "(I)I"⟩
abbrev cX3_besides : ByteArray := prog_5_method_7_code
def yX3_besides : MethodName := ⟨RX3, "besides", "(I)I"⟩
abbrev cX3_partAmongAlike : ByteArray := prog_5_method_8_code
def yX3_partAmongAlike : MethodName := ⟨RX3, "partAmongAlike", "(I)I"⟩
abbrev cX3_partOfTwo : ByteArray := prog_5_method_9_code
def yX3_partOfTwo : MethodName := ⟨RX3, "partOfTwo", "(I)I"⟩
abbrev cX3_givenBack : ByteArray := prog_5_method_10_code
def yX3_givenBack : MethodName := ⟨RX3, "givenBack", "(I)I"⟩
abbrev cX3_intoChest : ByteArray := prog_5_method_11_code
def yX3_intoChest : MethodName := ⟨RX3, "intoChest", "()I"⟩
def RX4 : String := "LeastPays$Law"
def TX4 : u_T := fun k => match k with
  | 0 => ("LeastPays$Law", "tape", "[I", true)
  | 1 => ("LeastPays$Law", "draft", "[I", true)
  | 2 => ("LeastPays$Law", "steps", "[I", true)
  | 3 => ("LeastPays$Law", "stack", "[I", true)
  | 4 => ("LeastPays$Law", "length", "I", false)
  | 5 => ("LeastPays$Law", "at", "I", false)
  | 6 => ("LeastPays$Law", "fault", "I", false)
  | 7 => ("LeastPays$Law", "drafted", "I", false)
  | 8 => ("LeastPays$Law", "stepCount", "I", false)
  | 9 => ("LeastPays$Law", "told", "Z", false)
  | _ => ("LeastPays$Law", "top", "I", false)
def tyX4 : Nat → FieldType := fun k => match k with
  | 0 => .array .int
  | 1 => .array .int
  | 2 => .array .int
  | 3 => .array .int
  | 4 => .int
  | 5 => .int
  | 6 => .int
  | 7 => .int
  | 8 => .int
  | 9 => .boolean
  | _ => .int
abbrev wsX40 : List Cond := u_ws RX4 TX4 11
theorem nmX4 : ∀ a, a < 11 → ∀ b, b < 11 → a ≠ b → (TX4 a).2.1 ≠ (TX4 b).2.1 := by decide +kernel
theorem tyX4_ok : ∀ k, k < 11 → parseFieldDescriptor (TX4 k).2.2.1 = some (tyX4 k) := by decide +kernel
abbrev cX4_init : ByteArray := prog_6_method_1_code
def yX4_init : MethodName := ⟨RX4, "<init>", "()V"⟩
abbrev cX4_add : ByteArray := prog_6_method_2_code
def yX4_add : MethodName := ⟨RX4, "add", "(I)I"⟩
abbrev cX4_enact : ByteArray := prog_6_method_3_code
def yX4_enact : MethodName := ⟨RX4, "enact", "()I"⟩
abbrev cX4_readLines : ByteArray := prog_6_method_4_code
def yX4_readLines : MethodName := ⟨RX4, "readLines", "()V"⟩
abbrev cX4_readLine : ByteArray := prog_6_method_5_code
def yX4_readLine : MethodName := ⟨RX4, "readLine", "()V"⟩
abbrev cX4_readEither : ByteArray := prog_6_method_6_code
def yX4_readEither : MethodName := ⟨RX4, "readEither", "(I)V"⟩
abbrev cX4_readBoth : ByteArray := prog_6_method_7_code
def yX4_readBoth : MethodName := ⟨RX4, "readBoth", "(I)V"⟩
abbrev cX4_readCompared : ByteArray := prog_6_method_8_code
def yX4_readCompared : MethodName := ⟨RX4, "readCompared", "(I)V"⟩
abbrev cX4_readSum : ByteArray := prog_6_method_9_code
def yX4_readSum : MethodName := ⟨RX4, "readSum", "(I)V"⟩
abbrev cX4_takesSumSign : ByteArray := prog_6_method_10_code
def yX4_takesSumSign : MethodName := ⟨RX4, "takesSumSign", "()I"⟩
abbrev cX4_readProduct : ByteArray := prog_6_method_11_code
def yX4_readProduct : MethodName := ⟨RX4, "readProduct", "(I)V"⟩
abbrev cX4_takesProductSign : ByteArray := prog_6_method_12_code
def yX4_takesProductSign : MethodName := ⟨RX4, "takesProductSign", "()I"⟩
abbrev cX4_readOperand : ByteArray := prog_6_method_13_code
def yX4_readOperand : MethodName := ⟨RX4, "readOperand", "(I)V"⟩
abbrev cX4_readNumber : ByteArray := prog_6_method_14_code
def yX4_readNumber : MethodName := ⟨RX4, "readNumber", "()V"⟩
abbrev cX4_letterHere : ByteArray := prog_6_method_15_code
def yX4_letterHere : MethodName := ⟨RX4, "letterHere", "()I"⟩
abbrev cX4_isDigit : ByteArray := prog_6_method_16_code
def yX4_isDigit : MethodName := ⟨RX4, "isDigit", "(I)Z"⟩
abbrev cX4_nameOf : ByteArray := prog_6_method_17_code
def yX4_nameOf : MethodName := ⟨RX4, "nameOf", "(I)I"⟩
abbrev cX4_takes : ByteArray := prog_6_method_18_code
def yX4_takes : MethodName := ⟨RX4, "takes", "(C)Z"⟩
abbrev cX4_fail : ByteArray := prog_6_method_19_code
def yX4_fail : MethodName := ⟨RX4, "fail", "()V"⟩
abbrev cX4_write : ByteArray := prog_6_method_20_code
def yX4_write : MethodName := ⟨RX4, "write", "(I)V"⟩
abbrev cX4_gift : ByteArray := prog_6_method_21_code
def yX4_gift : MethodName := ⟨RX4, "gift", "(LLeastPays$Guests;II)I"⟩
abbrev cX4_shareOf : ByteArray := prog_6_method_22_code
def yX4_shareOf : MethodName := ⟨RX4, "shareOf", "(II)I"⟩
abbrev cX4_workOut : ByteArray := prog_6_method_23_code
def yX4_workOut : MethodName := ⟨RX4, "workOut", "(LLeastPays$Guests;II)I"⟩
abbrev cX4_apply : ByteArray := prog_6_method_24_code
def yX4_apply : MethodName := ⟨RX4, "apply", "(I)V"⟩
abbrev cX4_push : ByteArray := prog_6_method_25_code
def yX4_push : MethodName := ⟨RX4, "push", "(I)V"⟩
abbrev cX4_pop : ByteArray := prog_6_method_26_code
def yX4_pop : MethodName := ⟨RX4, "pop", "()I"⟩
abbrev cX4_valueOf : ByteArray := prog_6_method_27_code
def yX4_valueOf : MethodName := ⟨RX4, "valueOf", "(ILLeastPays$Guests;II)I"⟩
abbrev cX4_joined : ByteArray := prog_6_method_28_code
def yX4_joined : MethodName := ⟨RX4, "joined", "(III)I"⟩
abbrev cX4_truth : ByteArray := prog_6_method_29_code
def yX4_truth : MethodName := ⟨RX4, "truth", "(Z)I"⟩
def RX5 : String := "LeastPays$Menu"
def TX5 : u_T := fun k => match k with
  | 0 => ("LeastPays$Menu", "guests", "LLeastPays$Guests;", true)
  | 1 => ("LeastPays$Menu", "hat", "LLeastPays$Hat;", true)
  | 2 => ("LeastPays$Menu", "prices", "[I", true)
  | 3 => ("LeastPays$Menu", "joys", "[I", true)
  | 4 => ("LeastPays$Menu", "chosen", "[I", true)
  | _ => ("LeastPays$Menu", "size", "I", false)
def tyX5 : Nat → FieldType := fun k => match k with
  | 0 => .object "LeastPays$Guests"
  | 1 => .object "LeastPays$Hat"
  | 2 => .array .int
  | 3 => .array .int
  | 4 => .array .int
  | _ => .int
abbrev wsX50 : List Cond := u_ws RX5 TX5 6
theorem nmX5 : ∀ a, a < 6 → ∀ b, b < 6 → a ≠ b → (TX5 a).2.1 ≠ (TX5 b).2.1 := by decide +kernel
theorem tyX5_ok : ∀ k, k < 6 → parseFieldDescriptor (TX5 k).2.2.1 = some (tyX5 k) := by decide +kernel
abbrev cX5_init : ByteArray := prog_7_method_1_code
def yX5_init : MethodName := ⟨RX5, "<init>", "(LLeastPays$Guests;LLeastPays$Hat;)V"⟩
abbrev cX5_has : ByteArray := prog_7_method_2_code
def yX5_has : MethodName := ⟨RX5, "has", "(I)Z"⟩
abbrev cX5_add : ByteArray := prog_7_method_3_code
def yX5_add : MethodName := ⟨RX5, "add", "(I)I"⟩
abbrev cX5_enjoy : ByteArray := prog_7_method_4_code
def yX5_enjoy : MethodName := ⟨RX5, "enjoy", "(III)I"⟩
abbrev cX5_orderAll : ByteArray := prog_7_method_5_code
def yX5_orderAll : MethodName := ⟨RX5, "orderAll", "()I"⟩
abbrev cX5_playOut : ByteArray := prog_7_method_6_code
def yX5_playOut : MethodName := ⟨RX5, "playOut", "(II)I"⟩
abbrev cX5_priceOf : ByteArray := prog_7_method_7_code
def yX5_priceOf : MethodName := ⟨RX5, "priceOf", "(I)I"⟩
abbrev cX5_worth : ByteArray := prog_7_method_8_code
def yX5_worth : MethodName := ⟨RX5, "worth", "(III)I"⟩
def RX6 : String := "LeastPays$Minds"
def TX6 : u_T := fun k => match k with
  | 0 => ("LeastPays$Minds", "guests", "LLeastPays$Guests;", true)
  | 1 => ("LeastPays$Minds", "hat", "LLeastPays$Hat;", true)
  | 2 => ("LeastPays$Minds", "first", "[I", true)
  | 3 => ("LeastPays$Minds", "bestSum", "I", false)
  | 4 => ("LeastPays$Minds", "bestCost", "I", false)
  | _ => ("LeastPays$Minds", "otherSum", "I", false)
def tyX6 : Nat → FieldType := fun k => match k with
  | 0 => .object "LeastPays$Guests"
  | 1 => .object "LeastPays$Hat"
  | 2 => .array .int
  | 3 => .int
  | 4 => .int
  | _ => .int
abbrev wsX60 : List Cond := u_ws RX6 TX6 6
theorem nmX6 : ∀ a, a < 6 → ∀ b, b < 6 → a ≠ b → (TX6 a).2.1 ≠ (TX6 b).2.1 := by decide +kernel
theorem tyX6_ok : ∀ k, k < 6 → parseFieldDescriptor (TX6 k).2.2.1 = some (tyX6 k) := by decide +kernel
abbrev cX6_init : ByteArray := prog_8_method_1_code
def yX6_init : MethodName := ⟨RX6, "<init>", "(LLeastPays$Guests;LLeastPays$Hat;)V"⟩
abbrev cX6_costBy : ByteArray := prog_8_method_2_code
def yX6_costBy : MethodName := ⟨RX6, "costBy", "(II)I"⟩
abbrev cX6_search : ByteArray := prog_8_method_3_code
def yX6_search : MethodName := ⟨RX6, "search", "(I)V"⟩
abbrev cX6_wouldChange : ByteArray := prog_8_method_4_code
def yX6_wouldChange : MethodName := ⟨RX6, "wouldChange", "(I)Z"⟩
abbrev cX6_firstRestless : ByteArray := prog_8_method_5_code
def yX6_firstRestless : MethodName := ⟨RX6, "firstRestless", "()I"⟩
abbrev cX6_sumsOf : ByteArray := prog_8_method_6_code
def yX6_sumsOf : MethodName := ⟨RX6, "sumsOf", "(I)I"⟩
abbrev cX6_ways : ByteArray := prog_8_method_7_code
def yX6_ways : MethodName := ⟨RX6, "ways", "()J"⟩
abbrev cX6_fewWays : ByteArray := prog_8_method_8_code
def yX6_fewWays : MethodName := ⟨RX6, "fewWays", "()Z"⟩
abbrev cX6_goThroughWays : ByteArray := prog_8_method_9_code
def yX6_goThroughWays : MethodName := ⟨RX6, "goThroughWays", "()I"⟩
abbrev cX6_layWay : ByteArray := prog_8_method_10_code
def yX6_layWay : MethodName := ⟨RX6, "layWay", "(I)V"⟩
abbrev cX6_takeTurns : ByteArray := prog_8_method_11_code
def yX6_takeTurns : MethodName := ⟨RX6, "takeTurns", "()I"⟩
abbrev cX6_settle : ByteArray := prog_8_method_12_code
def yX6_settle : MethodName := ⟨RX6, "settle", "(II)V"⟩
abbrev cX6_victimOf : ByteArray := prog_8_method_13_code
def yX6_victimOf : MethodName := ⟨RX6, "victimOf", "(II)I"⟩
abbrev cX6_allWeights : ByteArray := prog_8_method_14_code
def yX6_allWeights : MethodName := ⟨RX6, "allWeights", "()J"⟩
abbrev cX6_weighedCost : ByteArray := prog_8_method_15_code
def yX6_weighedCost : MethodName := ⟨RX6, "weighedCost", "(II)J"⟩
abbrev cX6_layByChance : ByteArray := prog_8_method_16_code
def yX6_layByChance : MethodName := ⟨RX6, "layByChance", "(II)J"⟩
abbrev cX6_sumOfLeastMean : ByteArray := prog_8_method_17_code
def yX6_sumOfLeastMean : MethodName := ⟨RX6, "sumOfLeastMean", "(I)I"⟩
def RX7 : String := "LeastPays$Nights"
def TX7 : u_T := fun k => match k with
  | 0 => ("LeastPays$Nights", "guests", "LLeastPays$Guests;", true)
  | 1 => ("LeastPays$Nights", "hat", "LLeastPays$Hat;", true)
  | 2 => ("LeastPays$Nights", "besidesOften", "I", false)
  | 3 => ("LeastPays$Nights", "costsDrawn", "I", false)
  | 4 => ("LeastPays$Nights", "fairRule", "I", false)
  | _ => ("LeastPays$Nights", "fairCost", "I", false)
def tyX7 : Nat → FieldType := fun k => match k with
  | 0 => .object "LeastPays$Guests"
  | 1 => .object "LeastPays$Hat"
  | 2 => .int
  | 3 => .int
  | 4 => .int
  | _ => .int
abbrev wsX70 : List Cond := u_ws RX7 TX7 6
theorem nmX7 : ∀ a, a < 6 → ∀ b, b < 6 → a ≠ b → (TX7 a).2.1 ≠ (TX7 b).2.1 := by decide +kernel
theorem tyX7_ok : ∀ k, k < 6 → parseFieldDescriptor (TX7 k).2.2.1 = some (tyX7 k) := by decide +kernel
abbrev cX7_init : ByteArray := prog_9_method_1_code
def yX7_init : MethodName := ⟨RX7, "<init>", "(LLeastPays$Guests;LLeastPays$Hat;)V"⟩
abbrev cX7_pass : ByteArray := prog_9_method_2_code
def yX7_pass : MethodName := ⟨RX7, "pass", "()I"⟩
abbrev cX7_draw : ByteArray := prog_9_method_3_code
def yX7_draw : MethodName := ⟨RX7, "draw", "(III)V"⟩
abbrev cX7_firstWrong : ByteArray := prog_9_method_4_code
def yX7_firstWrong : MethodName := ⟨RX7, "firstWrong", "(LLeastPays$Shelf;I)I"⟩
abbrev cX7_rulesThatFit : ByteArray := prog_9_method_5_code
def yX7_rulesThatFit : MethodName := ⟨RX7, "rulesThatFit", "(LLeastPays$Shelf;)I"⟩
abbrev cX7_weighRules : ByteArray := prog_9_method_6_code
def yX7_weighRules : MethodName := ⟨RX7, "weighRules", "()V"⟩
abbrev cX7_greatestCost : ByteArray := prog_9_method_7_code
def yX7_greatestCost : MethodName := ⟨RX7, "greatestCost", "()I"⟩
def RX8 : String := "LeastPays$Picture"
def TX8 : u_T := fun k => match k with
  | 0 => ("LeastPays$Picture", "gift", "[I", true)
  | 1 => ("LeastPays$Picture", "paid", "[I", true)
  | 2 => ("LeastPays$Picture", "size", "I", false)
  | 3 => ("LeastPays$Picture", "nights", "I", false)
  | 4 => ("LeastPays$Picture", "chest", "I", false)
  | _ => ("LeastPays$Picture", "taken", "Z", false)
def tyX8 : Nat → FieldType := fun k => match k with
  | 0 => .array .int
  | 1 => .array .int
  | 2 => .int
  | 3 => .int
  | 4 => .int
  | _ => .boolean
abbrev wsX80 : List Cond := u_ws RX8 TX8 6
theorem nmX8 : ∀ a, a < 6 → ∀ b, b < 6 → a ≠ b → (TX8 a).2.1 ≠ (TX8 b).2.1 := by decide +kernel
theorem tyX8_ok : ∀ k, k < 6 → parseFieldDescriptor (TX8 k).2.2.1 = some (tyX8 k) := by decide +kernel
abbrev cX8_init : ByteArray := prog_10_method_1_code
def yX8_init : MethodName := ⟨RX8, "<init>", "()V"⟩
abbrev cX8_take : ByteArray := prog_10_method_2_code
def yX8_take : MethodName := ⟨RX8, "take", "(LLeastPays$Guests;)V"⟩
abbrev cX8_layBack : ByteArray := prog_10_method_3_code
def yX8_layBack : MethodName := ⟨RX8, "layBack", "(LLeastPays$Guests;)V"⟩
def RX9 : String := "LeastPays$Shelf"
def TX9 : u_T := fun k => match k with
  | 0 => ("LeastPays$Shelf", "places", "[J", true)
  | 1 => ("LeastPays$Shelf", "sort", "I", false)
  | 2 => ("LeastPays$Shelf", "length", "I", false)
  | 3 => ("LeastPays$Shelf", "body", "I", false)
  | _ => ("LeastPays$Shelf", "holds", "I", false)
def tyX9 : Nat → FieldType := fun k => match k with
  | 0 => .array .long
  | 1 => .int
  | 2 => .int
  | 3 => .int
  | _ => .int
abbrev wsX90 : List Cond := u_ws RX9 TX9 5
theorem nmX9 : ∀ a, a < 5 → ∀ b, b < 5 → a ≠ b → (TX9 a).2.1 ≠ (TX9 b).2.1 := by decide +kernel
theorem tyX9_ok : ∀ k, k < 5 → parseFieldDescriptor (TX9 k).2.2.1 = some (tyX9 k) := by decide +kernel
abbrev cX9_init : ByteArray := prog_11_method_1_code
def yX9_init : MethodName := ⟨RX9, "<init>", "()V"⟩
abbrev cX9_holdsNothing : ByteArray := prog_11_method_2_code
def yX9_holdsNothing : MethodName := ⟨RX9, "holdsNothing", "()Z"⟩
abbrev cX9_isRow : ByteArray := prog_11_method_3_code
def yX9_isRow : MethodName := ⟨RX9, "isRow", "()Z"⟩
abbrev cX9_isRowOf : ByteArray := prog_11_method_4_code
def yX9_isRowOf : MethodName := ⟨RX9, "isRowOf", "(I)Z"⟩
abbrev cX9_holdHat : ByteArray := prog_11_method_5_code
def yX9_holdHat : MethodName := ⟨RX9, "holdHat", "(I)V"⟩
abbrev cX9_holdRow : ByteArray := prog_11_method_6_code
def yX9_holdRow : MethodName := ⟨RX9, "holdRow", "(II)V"⟩
abbrev cX9_hasPlaces : ByteArray := prog_11_method_7_code
def yX9_hasPlaces : MethodName := ⟨RX9, "hasPlaces", "(II)Z"⟩
abbrev cX9_refusalAt : ByteArray := prog_11_method_8_code
def yX9_refusalAt : MethodName := ⟨RX9, "refusalAt", "(I)I"⟩
abbrev cX9_get : ByteArray := prog_11_method_9_code
def yX9_get : MethodName := ⟨RX9, "get", "(I)J"⟩
abbrev cX9_set : ByteArray := prog_11_method_10_code
def yX9_set : MethodName := ⟨RX9, "set", "(IJ)V"⟩
abbrev cX9_lowestBits : ByteArray := prog_11_method_11_code
def yX9_lowestBits : MethodName := ⟨RX9, "lowestBits", "(J)J"⟩
def RX10 : String := "LeastPays"
def TX10 : u_T := fun k => match k with
  | 0 => ("LeastPays", "guests", "LLeastPays$Guests;", true)
  | 1 => ("LeastPays", "hat", "LLeastPays$Hat;", true)
  | 2 => ("LeastPays", "minds", "LLeastPays$Minds;", true)
  | 3 => ("LeastPays", "menu", "LLeastPays$Menu;", true)
  | 4 => ("LeastPays", "tapeAndLaw", "LLeastPays$Law;", true)
  | 5 => ("LeastPays", "nights", "LLeastPays$Nights;", true)
  | 6 => ("LeastPays", "changes", "LLeastPays$Changes;", true)
  | 7 => ("LeastPays", "picture", "LLeastPays$Picture;", true)
  | 8 => ("LeastPays", "bodies", "LLeastPays$Bodies;", true)
  | _ => ("LeastPays", "shelves", "[LLeastPays$Shelf;", true)
def tyX10 : Nat → FieldType := fun k => match k with
  | 0 => .object "LeastPays$Guests"
  | 1 => .object "LeastPays$Hat"
  | 2 => .object "LeastPays$Minds"
  | 3 => .object "LeastPays$Menu"
  | 4 => .object "LeastPays$Law"
  | 5 => .object "LeastPays$Nights"
  | 6 => .object "LeastPays$Changes"
  | 7 => .object "LeastPays$Picture"
  | 8 => .object "LeastPays$Bodies"
  | _ => .array (.object "LeastPays$Shelf")
abbrev wsX100 : List Cond := u_ws RX10 TX10 10
theorem nmX10 : ∀ a, a < 10 → ∀ b, b < 10 → a ≠ b → (TX10 a).2.1 ≠ (TX10 b).2.1 := by decide +kernel
theorem tyX10_ok : ∀ k, k < 10 → parseFieldDescriptor (TX10 k).2.2.1 = some (tyX10 k) := by decide +kernel
abbrev cX10_init : ByteArray := prog_1_method_1_code
def yX10_init : MethodName := ⟨RX10, "<init>", "()V"⟩
abbrev cX10_guest : ByteArray := prog_1_method_2_code
def yX10_guest : MethodName := ⟨RX10, "guest", "(I)I"⟩
abbrev cX10_guests : ByteArray := prog_1_method_3_code
def yX10_guests : MethodName := ⟨RX10, "guests", "(III)I"⟩
abbrev cX10_mend : ByteArray := prog_1_method_4_code
def yX10_mend : MethodName := ⟨RX10, "mend", "(III)I"⟩
abbrev cX10_of : ByteArray := prog_1_method_5_code
def yX10_of : MethodName := ⟨RX10, "of", "(II)I"⟩
abbrev cX10_think : ByteArray := prog_1_method_6_code
def yX10_think : MethodName := ⟨RX10, "think", "(II)I"⟩
abbrev cX10_feed : ByteArray := prog_1_method_7_code
def yX10_feed : MethodName := ⟨RX10, "feed", "(I)I"⟩
abbrev cX10_law : ByteArray := prog_1_method_8_code
def yX10_law : MethodName := ⟨RX10, "law", "()I"⟩
abbrev cX10_putIn : ByteArray := prog_1_method_9_code
def yX10_putIn : MethodName := ⟨RX10, "putIn", "(II)I"⟩
abbrev cX10_mean : ByteArray := prog_1_method_10_code
def yX10_mean : MethodName := ⟨RX10, "mean", "(III)J"⟩
abbrev cX10_bestMean : ByteArray := prog_1_method_11_code
def yX10_bestMean : MethodName := ⟨RX10, "bestMean", "(I)I"⟩
abbrev cX10_rest : ByteArray := prog_1_method_12_code
def yX10_rest : MethodName := ⟨RX10, "rest", "(I)I"⟩
abbrev cX10_rests : ByteArray := prog_1_method_13_code
def yX10_rests : MethodName := ⟨RX10, "rests", "(I)I"⟩
abbrev cX10_turns : ByteArray := prog_1_method_14_code
def yX10_turns : MethodName := ⟨RX10, "turns", "(I)I"⟩
abbrev cX10_agree : ByteArray := prog_1_method_15_code
def yX10_agree : MethodName := ⟨RX10, "agree", "(II)I"⟩
abbrev cX10_dish : ByteArray := prog_1_method_16_code
def yX10_dish : MethodName := ⟨RX10, "dish", "(I)I"⟩
abbrev cX10_joy : ByteArray := prog_1_method_17_code
def yX10_joy : MethodName := ⟨RX10, "joy", "(II)I"⟩
abbrev cX10_ordered : ByteArray := prog_1_method_18_code
def yX10_ordered : MethodName := ⟨RX10, "ordered", "(II)I"⟩
abbrev cX10_thought : ByteArray := prog_1_method_19_code
def yX10_thought : MethodName := ⟨RX10, "thought", "(III)I"⟩
abbrev cX10_given : ByteArray := prog_1_method_20_code
def yX10_given : MethodName := ⟨RX10, "given", "(I)I"⟩
abbrev cX10_stranger : ByteArray := prog_1_method_21_code
def yX10_stranger : MethodName := ⟨RX10, "stranger", "(III)J"⟩
abbrev cX10_night : ByteArray := prog_1_method_22_code
def yX10_night : MethodName := ⟨RX10, "night", "()I"⟩
abbrev cX10_drawn : ByteArray := prog_1_method_23_code
def yX10_drawn : MethodName := ⟨RX10, "drawn", "(IIII)I"⟩
abbrev cX10_judge : ByteArray := prog_1_method_24_code
def yX10_judge : MethodName := ⟨RX10, "judge", "(I)I"⟩
abbrev cX10_fits : ByteArray := prog_1_method_25_code
def yX10_fits : MethodName := ⟨RX10, "fits", "(I)I"⟩
abbrev cX10_fair : ByteArray := prog_1_method_26_code
def yX10_fair : MethodName := ⟨RX10, "fair", "(I)I"⟩
abbrev cX10_image : ByteArray := prog_1_method_27_code
def yX10_image : MethodName := ⟨RX10, "image", "()I"⟩
abbrev cX10_back : ByteArray := prog_1_method_28_code
def yX10_back : MethodName := ⟨RX10, "back", "()I"⟩
abbrev cX10_undo : ByteArray := prog_1_method_29_code
def yX10_undo : MethodName := ⟨RX10, "undo", "()I"⟩
abbrev cX10_redo : ByteArray := prog_1_method_30_code
def yX10_redo : MethodName := ⟨RX10, "redo", "()I"⟩
abbrev cX10_body : ByteArray := prog_1_method_31_code
def yX10_body : MethodName := ⟨RX10, "body", "(I)I"⟩
abbrev cX10_act : ByteArray := prog_1_method_32_code
def yX10_act : MethodName := ⟨RX10, "act", "(III)I"⟩
abbrev cX10_trace : ByteArray := prog_1_method_33_code
def yX10_trace : MethodName := ⟨RX10, "trace", "(I)I"⟩
abbrev cX10_keep : ByteArray := prog_1_method_34_code
def yX10_keep : MethodName := ⟨RX10, "keep", "(II)I"⟩
abbrev cX10_row : ByteArray := prog_1_method_35_code
def yX10_row : MethodName := ⟨RX10, "row", "(III)I"⟩
abbrev cX10_put : ByteArray := prog_1_method_36_code
def yX10_put : MethodName := ⟨RX10, "put", "(IIJ)I"⟩
abbrev cX10_element : ByteArray := prog_1_method_37_code
def yX10_element : MethodName := ⟨RX10, "element", "(II)J"⟩
abbrev cX10_shift : ByteArray := prog_1_method_38_code
def yX10_shift : MethodName := ⟨RX10, "shift", "(IIIII)I"⟩
abbrev cX10_taken : ByteArray := prog_1_method_39_code
def yX10_taken : MethodName := ⟨RX10, "taken", "(II)I"⟩
abbrev cX10_count : ByteArray := prog_1_method_40_code
def yX10_count : MethodName := ⟨RX10, "count", "(I)I"⟩
abbrev cX10_within : ByteArray := prog_1_method_41_code
def yX10_within : MethodName := ⟨RX10, "within", "(III)Z"⟩
abbrev cX10_isShelf : ByteArray := prog_1_method_42_code
def yX10_isShelf : MethodName := ⟨RX10, "isShelf", "(I)Z"⟩
abbrev cX10_comesFrom : ByteArray := prog_1_method_43_code
def yX10_comesFrom : MethodName := ⟨RX10, "comesFrom", "(LLeastPays$Shelf;J)Z"⟩
abbrev cX10_ofOne : ByteArray := prog_1_method_44_code
def yX10_ofOne : MethodName := ⟨RX10, "ofOne", "(II)I"⟩
abbrev cX10_ofTheTable : ByteArray := prog_1_method_45_code
def yX10_ofTheTable : MethodName := ⟨RX10, "ofTheTable", "(I)I"⟩
abbrev cX10_givenBy : ByteArray := prog_1_method_46_code
def yX10_givenBy : MethodName := ⟨RX10, "givenBy", "(I)I"⟩
abbrev cX10_refusalOfTold : ByteArray := prog_1_method_47_code
def yX10_refusalOfTold : MethodName := ⟨RX10, "refusalOfTold", "(I)I"⟩
abbrev cX10_fraction : ByteArray := prog_1_method_48_code
def yX10_fraction : MethodName := ⟨RX10, "fraction", "(JJI)J"⟩
def RX11 : String := "LeastPaysModel"
def TX11 : u_T := fun k => match k with
  | 0 => ("LeastPaysModel", "may", "[I", true)
  | 1 => ("LeastPaysModel", "changeAt", "[I", true)
  | 2 => ("LeastPaysModel", "changeWas", "[I", true)
  | 3 => ("LeastPaysModel", "changeIs", "[I", true)
  | 4 => ("LeastPaysModel", "keptMany", "I", false)
  | 5 => ("LeastPaysModel", "done", "I", false)
  | 6 => ("LeastPaysModel", "guests", "I", false)
  | 7 => ("LeastPaysModel", "guess", "[I", true)
  | 8 => ("LeastPaysModel", "paidBy", "[I", true)
  | 9 => ("LeastPaysModel", "nights", "I", false)
  | 10 => ("LeastPaysModel", "chest", "I", false)
  | 11 => ("LeastPaysModel", "gift", "[I", true)
  | 12 => ("LeastPaysModel", "gifts", "I", false)
  | 13 => ("LeastPaysModel", "besides", "[I", true)
  | 14 => ("LeastPaysModel", "back", "[I", true)
  | 15 => ("LeastPaysModel", "toChest", "I", false)
  | 16 => ("LeastPaysModel", "sumBest", "I", false)
  | 17 => ("LeastPaysModel", "dishes", "I", false)
  | 18 => ("LeastPaysModel", "price", "[I", true)
  | 19 => ("LeastPaysModel", "joys", "[I", true)
  | 20 => ("LeastPaysModel", "orders", "[I", true)
  | 21 => ("LeastPaysModel", "tape", "[I", true)
  | 22 => ("LeastPaysModel", "tapeMany", "I", false)
  | 23 => ("LeastPaysModel", "text", "[I", true)
  | 24 => ("LeastPaysModel", "textMany", "I", false)
  | 25 => ("LeastPaysModel", "base", "I", false)
  | 26 => ("LeastPaysModel", "at", "I", false)
  | 27 => ("LeastPaysModel", "ends", "I", false)
  | 28 => ("LeastPaysModel", "fault", "I", false)
  | 29 => ("LeastPaysModel", "opened", "I", false)
  | 30 => ("LeastPaysModel", "names", "[I", true)
  | 31 => ("LeastPaysModel", "isKept", "Z", false)
  | 32 => ("LeastPaysModel", "imageGuests", "I", false)
  | 33 => ("LeastPaysModel", "imageNights", "I", false)
  | 34 => ("LeastPaysModel", "imageChest", "I", false)
  | 35 => ("LeastPaysModel", "imageGift", "[I", true)
  | 36 => ("LeastPaysModel", "imagePaid", "[I", true)
  | 37 => ("LeastPaysModel", "bodies", "I", false)
  | 38 => ("LeastPaysModel", "bodyKind", "[I", true)
  | 39 => ("LeastPaysModel", "trace", "[I", true)
  | 40 => ("LeastPaysModel", "ran", "I", false)
  | 41 => ("LeastPaysModel", "ownKind", "I", false)
  | 42 => ("LeastPaysModel", "ownNumber", "I", false)
  | 43 => ("LeastPaysModel", "shelf", "[I", true)
  | 44 => ("LeastPaysModel", "many", "[I", true)
  | 45 => ("LeastPaysModel", "items", "[J", true)
  | _ => ("LeastPaysModel", "carried", "[J", true)
def tyX11 : Nat → FieldType := fun k => match k with
  | 0 => .array .int
  | 1 => .array .int
  | 2 => .array .int
  | 3 => .array .int
  | 4 => .int
  | 5 => .int
  | 6 => .int
  | 7 => .array .int
  | 8 => .array .int
  | 9 => .int
  | 10 => .int
  | 11 => .array .int
  | 12 => .int
  | 13 => .array .int
  | 14 => .array .int
  | 15 => .int
  | 16 => .int
  | 17 => .int
  | 18 => .array .int
  | 19 => .array .int
  | 20 => .array .int
  | 21 => .array .int
  | 22 => .int
  | 23 => .array .int
  | 24 => .int
  | 25 => .int
  | 26 => .int
  | 27 => .int
  | 28 => .int
  | 29 => .int
  | 30 => .array .int
  | 31 => .boolean
  | 32 => .int
  | 33 => .int
  | 34 => .int
  | 35 => .array .int
  | 36 => .array .int
  | 37 => .int
  | 38 => .array .int
  | 39 => .array .int
  | 40 => .int
  | 41 => .int
  | 42 => .int
  | 43 => .array .int
  | 44 => .array .int
  | 45 => .array .long
  | _ => .array .long
abbrev wsX110 : List Cond := u_ws RX11 TX11 47
theorem nmX11 : ∀ a, a < 47 → ∀ b, b < 47 → a ≠ b → (TX11 a).2.1 ≠ (TX11 b).2.1 := by decide +kernel
theorem tyX11_ok : ∀ k, k < 47 → parseFieldDescriptor (TX11 k).2.2.1 = some (tyX11 k) := by decide +kernel
abbrev cX11_within : ByteArray := prog_13_method_1_code
def yX11_within : MethodName := ⟨RX11, "within", "(JJJ)Z"⟩
abbrev cX11_init : ByteArray := prog_13_method_2_code
def yX11_init : MethodName := ⟨RX11, "<init>", "()V"⟩
abbrev cX11_becomes : ByteArray := prog_13_method_3_code
def yX11_becomes : MethodName := ⟨RX11, "becomes", "(II)I"⟩
abbrev cX11_undo : ByteArray := prog_13_method_4_code
def yX11_undo : MethodName := ⟨RX11, "undo", "()I"⟩
abbrev cX11_redo : ByteArray := prog_13_method_5_code
def yX11_redo : MethodName := ⟨RX11, "redo", "()I"⟩
abbrev cX11_isGuest : ByteArray := prog_13_method_6_code
def yX11_isGuest : MethodName := ⟨RX11, "isGuest", "(I)Z"⟩
abbrev cX11_guest : ByteArray := prog_13_method_7_code
def yX11_guest : MethodName := ⟨RX11, "guest", "(I)I"⟩
abbrev cX11_guests : ByteArray := prog_13_method_8_code
def yX11_guests : MethodName := ⟨RX11, "guests", "(III)I"⟩
abbrev cX11_mend : ByteArray := prog_13_method_9_code
def yX11_mend : MethodName := ⟨RX11, "mend", "(III)I"⟩
abbrev cX11_ofGuest : ByteArray := prog_13_method_10_code
def yX11_ofGuest : MethodName := ⟨RX11, "ofGuest", "(II)I"⟩
abbrev cX11_of : ByteArray := prog_13_method_11_code
def yX11_of : MethodName := ⟨RX11, "of", "(II)I"⟩
abbrev cX11_think : ByteArray := prog_13_method_12_code
def yX11_think : MethodName := ⟨RX11, "think", "(II)I"⟩
abbrev cX11_laysOut : ByteArray := prog_13_method_13_code
def yX11_laysOut : MethodName := ⟨RX11, "laysOut", "()V"⟩
abbrev cX11_leastBut : ByteArray := prog_13_method_14_code
def yX11_leastBut : MethodName := ⟨RX11, "leastBut", "(I)I"⟩
abbrev cX11_alikePay : ByteArray := prog_13_method_15_code
def yX11_alikePay : MethodName := ⟨RX11, "alikePay", "(I)V"⟩
abbrev cX11_twoPay : ByteArray := prog_13_method_16_code
def yX11_twoPay : MethodName := ⟨RX11, "twoPay", "(I)V"⟩
abbrev cX11_givesBack : ByteArray := prog_13_method_17_code
def yX11_givesBack : MethodName := ⟨RX11, "givesBack", "(I)V"⟩
abbrev cX11_nightBy : ByteArray := prog_13_method_18_code
def yX11_nightBy : MethodName := ⟨RX11, "nightBy", "(II)V"⟩
abbrev cX11_nightAsIs : ByteArray := prog_13_method_19_code
def yX11_nightAsIs : MethodName := ⟨RX11, "nightAsIs", "()V"⟩
abbrev cX11_costIn : ByteArray := prog_13_method_20_code
def yX11_costIn : MethodName := ⟨RX11, "costIn", "(I)I"⟩
abbrev cX11_costNow : ByteArray := prog_13_method_21_code
def yX11_costNow : MethodName := ⟨RX11, "costNow", "(I)I"⟩
abbrev cX11_costBy : ByteArray := prog_13_method_22_code
def yX11_costBy : MethodName := ⟨RX11, "costBy", "(II)I"⟩
abbrev cX11_leastCost : ByteArray := prog_13_method_23_code
def yX11_leastCost : MethodName := ⟨RX11, "leastCost", "(I)I"⟩
abbrev cX11_putIn : ByteArray := prog_13_method_24_code
def yX11_putIn : MethodName := ⟨RX11, "putIn", "(II)I"⟩
abbrev cX11_common : ByteArray := prog_13_method_25_code
def yX11_common : MethodName := ⟨RX11, "common", "(JJ)J"⟩
abbrev cX11_partOf : ByteArray := prog_13_method_26_code
def yX11_partOf : MethodName := ⟨RX11, "partOf", "(JJI)J"⟩
abbrev cX11_meanOf : ByteArray := prog_13_method_27_code
def yX11_meanOf : MethodName := ⟨RX11, "meanOf", "(II)J"⟩
abbrev cX11_wholeOf : ByteArray := prog_13_method_28_code
def yX11_wholeOf : MethodName := ⟨RX11, "wholeOf", "()J"⟩
abbrev cX11_mean : ByteArray := prog_13_method_29_code
def yX11_mean : MethodName := ⟨RX11, "mean", "(III)J"⟩
abbrev cX11_bestMean : ByteArray := prog_13_method_30_code
def yX11_bestMean : MethodName := ⟨RX11, "bestMean", "(I)I"⟩
abbrev cX11_wouldChange : ByteArray := prog_13_method_31_code
def yX11_wouldChange : MethodName := ⟨RX11, "wouldChange", "(I)Z"⟩
abbrev cX11_firstWho : ByteArray := prog_13_method_32_code
def yX11_firstWho : MethodName := ⟨RX11, "firstWho", "()I"⟩
abbrev cX11_rest : ByteArray := prog_13_method_33_code
def yX11_rest : MethodName := ⟨RX11, "rest", "(I)I"⟩
abbrev cX11_sumsOf : ByteArray := prog_13_method_34_code
def yX11_sumsOf : MethodName := ⟨RX11, "sumsOf", "(I)I"⟩
abbrev cX11_rests : ByteArray := prog_13_method_35_code
def yX11_rests : MethodName := ⟨RX11, "rests", "(I)I"⟩
abbrev cX11_turns : ByteArray := prog_13_method_36_code
def yX11_turns : MethodName := ⟨RX11, "turns", "(I)I"⟩
abbrev cX11_agree : ByteArray := prog_13_method_37_code
def yX11_agree : MethodName := ⟨RX11, "agree", "(II)I"⟩
abbrev cX11_dish : ByteArray := prog_13_method_38_code
def yX11_dish : MethodName := ⟨RX11, "dish", "(I)I"⟩
abbrev cX11_joy : ByteArray := prog_13_method_39_code
def yX11_joy : MethodName := ⟨RX11, "joy", "(II)I"⟩
abbrev cX11_joyOf : ByteArray := prog_13_method_40_code
def yX11_joyOf : MethodName := ⟨RX11, "joyOf", "(II)I"⟩
abbrev cX11_billFrom : ByteArray := prog_13_method_41_code
def yX11_billFrom : MethodName := ⟨RX11, "billFrom", "(II)I"⟩
abbrev cX11_ordered : ByteArray := prog_13_method_42_code
def yX11_ordered : MethodName := ⟨RX11, "ordered", "(II)I"⟩
abbrev cX11_feed : ByteArray := prog_13_method_43_code
def yX11_feed : MethodName := ⟨RX11, "feed", "(I)I"⟩
abbrev cX11_byteAt : ByteArray := prog_13_method_44_code
def yX11_byteAt : MethodName := ⟨RX11, "byteAt", "()I"⟩
abbrev cX11_wrong : ByteArray := prog_13_method_45_code
def yX11_wrong : MethodName := ⟨RX11, "wrong", "()I"⟩
abbrev cX11_takes : ByteArray := prog_13_method_46_code
def yX11_takes : MethodName := ⟨RX11, "takes", "(I)Z"⟩
abbrev cX11_either : ByteArray := prog_13_method_47_code
def yX11_either : MethodName := ⟨RX11, "either", "()I"⟩
abbrev cX11_both : ByteArray := prog_13_method_48_code
def yX11_both : MethodName := ⟨RX11, "both", "()I"⟩
abbrev cX11_compared : ByteArray := prog_13_method_49_code
def yX11_compared : MethodName := ⟨RX11, "compared", "()I"⟩
abbrev cX11_sums : ByteArray := prog_13_method_50_code
def yX11_sums : MethodName := ⟨RX11, "sums", "()I"⟩
abbrev cX11_product : ByteArray := prog_13_method_51_code
def yX11_product : MethodName := ⟨RX11, "product", "()I"⟩
abbrev cX11_nameOf : ByteArray := prog_13_method_52_code
def yX11_nameOf : MethodName := ⟨RX11, "nameOf", "(I)I"⟩
abbrev cX11_one : ByteArray := prog_13_method_53_code
def yX11_one : MethodName := ⟨RX11, "one", "()I"⟩
abbrev cX11_workOut : ByteArray := prog_13_method_54_code
def yX11_workOut : MethodName := ⟨RX11, "workOut", "(II)I"⟩
abbrev cX11_law : ByteArray := prog_13_method_55_code
def yX11_law : MethodName := ⟨RX11, "law", "()I"⟩
abbrev cX11_wouldGive : ByteArray := prog_13_method_56_code
def yX11_wouldGive : MethodName := ⟨RX11, "wouldGive", "(II)I"⟩
abbrev cX11_thought : ByteArray := prog_13_method_57_code
def yX11_thought : MethodName := ⟨RX11, "thought", "(III)I"⟩
abbrev cX11_givenBy : ByteArray := prog_13_method_58_code
def yX11_givenBy : MethodName := ⟨RX11, "givenBy", "(I)I"⟩
abbrev cX11_given : ByteArray := prog_13_method_59_code
def yX11_given : MethodName := ⟨RX11, "given", "(I)I"⟩
abbrev cX11_stranger : ByteArray := prog_13_method_60_code
def yX11_stranger : MethodName := ⟨RX11, "stranger", "(III)J"⟩
abbrev cX11_night : ByteArray := prog_13_method_61_code
def yX11_night : MethodName := ⟨RX11, "night", "()I"⟩
abbrev cX11_drawn : ByteArray := prog_13_method_62_code
def yX11_drawn : MethodName := ⟨RX11, "drawn", "(IIII)I"⟩
abbrev cX11_hatIs : ByteArray := prog_13_method_63_code
def yX11_hatIs : MethodName := ⟨RX11, "hatIs", "(I)I"⟩
abbrev cX11_firstFalse : ByteArray := prog_13_method_64_code
def yX11_firstFalse : MethodName := ⟨RX11, "firstFalse", "(II)I"⟩
abbrev cX11_judge : ByteArray := prog_13_method_65_code
def yX11_judge : MethodName := ⟨RX11, "judge", "(I)I"⟩
abbrev cX11_fits : ByteArray := prog_13_method_66_code
def yX11_fits : MethodName := ⟨RX11, "fits", "(I)I"⟩
abbrev cX11_fair : ByteArray := prog_13_method_67_code
def yX11_fair : MethodName := ⟨RX11, "fair", "(I)I"⟩
abbrev cX11_image : ByteArray := prog_13_method_68_code
def yX11_image : MethodName := ⟨RX11, "image", "()I"⟩
abbrev cX11_back : ByteArray := prog_13_method_69_code
def yX11_back : MethodName := ⟨RX11, "back", "()I"⟩
abbrev cX11_isBody : ByteArray := prog_13_method_70_code
def yX11_isBody : MethodName := ⟨RX11, "isBody", "(I)Z"⟩
abbrev cX11_kindOf : ByteArray := prog_13_method_71_code
def yX11_kindOf : MethodName := ⟨RX11, "kindOf", "(I)I"⟩
abbrev cX11_body : ByteArray := prog_13_method_72_code
def yX11_body : MethodName := ⟨RX11, "body", "(I)I"⟩
abbrev cX11_above : ByteArray := prog_13_method_73_code
def yX11_above : MethodName := ⟨RX11, "above", "(I)I"⟩
abbrev cX11_begins : ByteArray := prog_13_method_74_code
def yX11_begins : MethodName := ⟨RX11, "begins", "(I)V"⟩
abbrev cX11_givesAs : ByteArray := prog_13_method_75_code
def yX11_givesAs : MethodName := ⟨RX11, "givesAs", "(II)I"⟩
abbrev cX11_owesAs : ByteArray := prog_13_method_76_code
def yX11_owesAs : MethodName := ⟨RX11, "owesAs", "(II)I"⟩
abbrev cX11_lacksAs : ByteArray := prog_13_method_77_code
def yX11_lacksAs : MethodName := ⟨RX11, "lacksAs", "(II)I"⟩
abbrev cX11_tellsAs : ByteArray := prog_13_method_78_code
def yX11_tellsAs : MethodName := ⟨RX11, "tellsAs", "(II)I"⟩
abbrev cX11_act : ByteArray := prog_13_method_79_code
def yX11_act : MethodName := ⟨RX11, "act", "(III)I"⟩
abbrev cX11_trace : ByteArray := prog_13_method_80_code
def yX11_trace : MethodName := ⟨RX11, "trace", "(I)I"⟩
abbrev cX11_isShelf : ByteArray := prog_13_method_81_code
def yX11_isShelf : MethodName := ⟨RX11, "isShelf", "(I)Z"⟩
abbrev cX11_keep : ByteArray := prog_13_method_82_code
def yX11_keep : MethodName := ⟨RX11, "keep", "(II)I"⟩
abbrev cX11_row : ByteArray := prog_13_method_83_code
def yX11_row : MethodName := ⟨RX11, "row", "(III)I"⟩
abbrev cX11_refusal : ByteArray := prog_13_method_84_code
def yX11_refusal : MethodName := ⟨RX11, "refusal", "(II)I"⟩
abbrev cX11_asSort : ByteArray := prog_13_method_85_code
def yX11_asSort : MethodName := ⟨RX11, "asSort", "(IJ)J"⟩
abbrev cX11_put : ByteArray := prog_13_method_86_code
def yX11_put : MethodName := ⟨RX11, "put", "(IIJ)I"⟩
abbrev cX11_element : ByteArray := prog_13_method_87_code
def yX11_element : MethodName := ⟨RX11, "element", "(II)J"⟩
abbrev cX11_shift : ByteArray := prog_13_method_88_code
def yX11_shift : MethodName := ⟨RX11, "shift", "(IIIII)I"⟩
abbrev cX11_taken : ByteArray := prog_13_method_89_code
def yX11_taken : MethodName := ⟨RX11, "taken", "(II)I"⟩
abbrev cX11_count : ByteArray := prog_13_method_90_code
def yX11_count : MethodName := ⟨RX11, "count", "(I)I"⟩
def RJ9 : String := "java/lang/Math"
def TJ9 : u_T := fun k => match k with
  | _ => ("", "", "", false)
def tyJ9 : Nat → FieldType := fun k => match k with
  | _ => .int
abbrev wsJ90 : List Cond := u_ws RJ9 TJ9 0
theorem nmJ9 : ∀ a, a < 0 → ∀ b, b < 0 → a ≠ b → (TJ9 a).2.1 ≠ (TJ9 b).2.1 := by decide +kernel
theorem tyJ9_ok : ∀ k, k < 0 → parseFieldDescriptor (TJ9 k).2.2.1 = some (tyJ9 k) := by decide +kernel
abbrev cJ9_max_7cf53 : ByteArray := prog_14_method_65_code
def yJ9_max_7cf53 : MethodName := ⟨RJ9, "max", "(II)I"⟩
abbrev cJ9_min_7cf53 : ByteArray := prog_14_method_69_code
def yJ9_min_7cf53 : MethodName := ⟨RJ9, "min", "(II)I"⟩
abbrev cJ9_min_f86c9 : ByteArray := prog_14_method_70_code
def yJ9_min_f86c9 : MethodName := ⟨RJ9, "min", "(JJ)J"⟩
def RJ10 : String := "java/lang/System"
def TJ10 : u_T := fun k => match k with
  | _ => ("", "", "", false)
def tyJ10 : Nat → FieldType := fun k => match k with
  | _ => .int
abbrev wsJ100 : List Cond := u_ws RJ10 TJ10 0
theorem nmJ10 : ∀ a, a < 0 → ∀ b, b < 0 → a ≠ b → (TJ10 a).2.1 ≠ (TJ10 b).2.1 := by decide +kernel
theorem tyJ10_ok : ∀ k, k < 0 → parseFieldDescriptor (TJ10 k).2.2.1 = some (tyJ10 k) := by decide +kernel
def RJ7 : String := "java/util/Arrays"
def TJ7 : u_T := fun k => match k with
  | _ => ("", "", "", false)
def tyJ7 : Nat → FieldType := fun k => match k with
  | _ => .int
abbrev wsJ70 : List Cond := u_ws RJ7 TJ7 0
theorem nmJ7 : ∀ a, a < 0 → ∀ b, b < 0 → a ≠ b → (TJ7 a).2.1 ≠ (TJ7 b).2.1 := by decide +kernel
theorem tyJ7_ok : ∀ k, k < 0 → parseFieldDescriptor (TJ7 k).2.2.1 = some (tyJ7 k) := by decide +kernel
abbrev cJ7_fill_d0a16 : ByteArray := prog_16_method_101_code
def yJ7_fill_d0a16 : MethodName := ⟨RJ7, "fill", "([JJ)V"⟩
abbrev cJ7_fill_53178 : ByteArray := prog_16_method_103_code
def yJ7_fill_53178 : MethodName := ⟨RJ7, "fill", "([II)V"⟩
def RL : String := "LeastPaysLaw"
abbrev cL_law : ByteArray := code
def yL_law : MethodName := ⟨RL, "law", "([I)Z"⟩
abbrev vwCl : List vw_C := [(RX0, TX0, 5), (RX1, TX1, 6), (RX2, TX2, 12), (RX3, TX3, 11), (RX4, TX4, 11), (RX5, TX5, 6), (RX6, TX6, 6), (RX7, TX7, 6), (RX8, TX8, 6), (RX9, TX9, 5), (RX10, TX10, 10), (RX11, TX11, 47)]
end
section
/-! ===== an interpreter over shapes, ints and longs (own text) ===== -/
abbrev j_S : Type := List (Nat × Nat × List (Option Nat))
abbrev j_M : Type := Nat → Nat → Int32
abbrev j_N : Type := Nat → Nat → Int64
abbrev j_Me : Type := j_S × j_M × j_N
abbrev j_R : Type := Option Value × j_Me
/-- instruction, length (invokevirtual: the class's number and 3), a, b, v, switch targets, places of words in lw_tbl -/
abbrev j_E : Type := Instr × Nat × Nat × Nat × Value × List (Int32 × Nat) × List Nat
/-- code by pc; cut points with the locals that live there; how many locals -/
abbrev j_K : Type := List (Nat × j_E) × List (Nat × List Bool) × Nat
def j_at : j_S → Nat → Nat × Nat × List (Option Nat)
  | [], _ => (99, 0, [])
  | x :: _, 0 => x
  | _ :: r, k + 1 => j_at r k
def j_nth : List (Option Nat) → Nat → Option Nat
  | [], _ => none
  | x :: _, 0 => x
  | _ :: r, k + 1 => j_nth r k
def j_lk {β : Type} : List (Nat × β) → Nat → Option β
  | [], _ => none
  | (k, x) :: r, p => bif Nat.beq k p then some x else j_lk r p
def j_lg : List Value → Nat → Value
  | [], _ => .null
  | v :: _, 0 => v
  | _ :: r, k + 1 => j_lg r k
def j_kill (v : Value) : Value := match v with
  | .long _ => .null
  | .double _ => .null
  | w => w
def j_put : List Value → Nat → Value → List Value
  | [], _, _ => []
  | _ :: r, 0, v => v :: r
  | w :: r, 1, v => j_kill w :: j_put r 0 v
  | w :: r, k + 2, v => w :: j_put r (k + 1) v
def j_nul : List Value → Nat → List Value
  | [], _ => []
  | _ :: r, 0 => .null :: r
  | w :: r, k + 1 => w :: j_nul r k
def j_mask : List Bool → List Value → List Value
  | b :: bs, v :: vs => (bif b then v else .null) :: j_mask bs vs
  | _, vs => vs
def j_fg (cuts : List (Nat × List Bool)) (pc : Nat) (L : List Value) : List Value := match j_lk cuts pc with
  | none => L
  | some m => j_mask m L
def j_cat : List Value → Nat
  | [] => 0
  | v :: r => v.category + j_cat r
def j_ent : List Value → List Value
  | [] => []
  | .long x :: r => .long x :: .null :: j_ent r
  | .double x :: r => .double x :: .null :: j_ent r
  | v :: r => v :: j_ent r
def j_pad (n : Nat) (L : List Value) : List Value := L ++ List.replicate (n - L.length) .null
def j_w (M : j_M) (c k : Nat) (x : Int32) : j_M := fun y => if y = c then upd (M c) k x else M y
def j_wl (N : j_N) (c k : Nat) (x : Int64) : j_N := fun y => if y = c then vp_updL (N c) k x else N y
def j_row (M : j_M) (c : Nat) (f : Nat → Int32) : j_M := fun y => if y = c then f else M y
def j_rowl (N : j_N) (c : Nat) (f : Nat → Int64) : j_N := fun y => if y = c then f else N y
def j_in (i : Int32) (n : Nat) : Bool := !(decide (i < 0) || Nat.ble n i.toNatClampNeg)
def j_sr (S : j_S) (c b q : Nat) : j_S := S.set c ((j_at S c).1, (j_at S c).2.1, (j_at S c).2.2.set b (some q))
def j_T0 : List Int32 := [-1, 0, 0, 2, 1, 3, 0, 4]
def j_T1 : List Int32 := [1, 10, 11, 2, 20, 0, 0, 0, 0, 30, 0, 0, 0, 41, 40, 0, 0, 0, 50, 0, 0, 0, 0, 60, 70, 0, 0, 0, 0, 80, 0, 81]
def j_tg : List Int32 → Nat → Int32
  | [], _ => 0
  | x :: _, 0 => x
  | _ :: r, k + 1 => j_tg r k
def j_i0 {α : Type} (ks : α) (f : Int32 → α) (st : List Value) : α := match st with
  | [.int x] => f x
  | _ => ks
def j_l0 {α : Type} (ks : α) (f : Int64 → α) (st : List Value) : α := match st with
  | [.long x] => f x
  | _ => ks
def j_i1 {α : Type} (ks : α) (f : Int32 → List Value → α) (st : List Value) : α := match st with
  | .int x :: r => f x r
  | _ => ks
def j_i2 {α : Type} (ks : α) (f : Int32 → Int32 → List Value → α) (st : List Value) : α := match st with
  | .int y :: .int x :: r => f x y r
  | _ => ks
def j_l1 {α : Type} (ks : α) (f : Int64 → List Value → α) (st : List Value) : α := match st with
  | .long x :: r => f x r
  | _ => ks
def j_l2 {α : Type} (ks : α) (f : Int64 → Int64 → List Value → α) (st : List Value) : α := match st with
  | .long y :: .long x :: r => f x y r
  | _ => ks
def j_il {α : Type} (ks : α) (f : Int64 → Int32 → List Value → α) (st : List Value) : α := match st with
  | .int y :: .long x :: r => f x y r
  | _ => ks
def j_r1 {α : Type} (ks : α) (f : Nat → List Value → α) (st : List Value) : α := match st with
  | .ref a :: r => f a r
  | _ => ks
def j_ri {α : Type} (ks : α) (f : Nat → Int32 → List Value → α) (st : List Value) : α := match st with
  | .int i :: .ref a :: r => f a i r
  | _ => ks
def j_rii {α : Type} (ks : α) (f : Nat → Int32 → Int32 → List Value → α) (st : List Value) : α := match st with
  | .int x :: .int i :: .ref a :: r => f a i x r
  | _ => ks
def j_ril {α : Type} (ks : α) (f : Nat → Int32 → Int64 → List Value → α) (st : List Value) : α := match st with
  | .long x :: .int i :: .ref a :: r => f a i x r
  | _ => ks
def j_rir {α : Type} (ks : α) (f : Nat → Int32 → Nat → List Value → α) (st : List Value) : α := match st with
  | .ref x :: .int i :: .ref a :: r => f a i x r
  | _ => ks
def j_rI {α : Type} (ks : α) (f : Nat → Int32 → List Value → α) (st : List Value) : α := match st with
  | .int x :: .ref a :: r => f a x r
  | _ => ks
def j_rr {α : Type} (ks : α) (f : Nat → Nat → List Value → α) (st : List Value) : α := match st with
  | .ref x :: .ref a :: r => f a x r
  | _ => ks
def j_c5 {α : Type} (ks : α) (f : Nat → Int32 → Nat → Int32 → Int32 → List Value → α) (st : List Value) : α := match st with
  | .int n :: .int dp :: .ref a :: .int sp :: .ref a0 :: r => f a0 sp a dp n r
  | _ => ks
def j_v1 {α : Type} (ks : α) (f : Value → List Value → α) (st : List Value) : α := match st with
  | .int x :: r => f (.int x) r
  | .ref x :: r => f (.ref x) r
  | _ => ks
def j_v2 {α : Type} (ks : α) (f : Value → Value → List Value → α) (st : List Value) : α := j_v1 ks (fun v r => j_v1 ks (fun w r2 => f v w r2) r) st
def j_vi {α : Type} (ks : α) (f : Int32 → α) (v : Value) : α := match v with
  | .int x => f x
  | _ => ks
def j_vl {α : Type} (ks : α) (f : Int64 → α) (v : Value) : α := match v with
  | .long x => f x
  | _ => ks
def j_vr {α : Type} (ks : α) (f : Nat → α) (v : Value) : α := match v with
  | .ref x => f x
  | _ => ks
def j_sw {α : Type} (k : Nat → α) (d : Nat) (x : Int32) : List (Int32 × Nat) → α
  | [] => k d
  | (c, t) :: r => if x = c then k t else j_sw k d x r
def j_popk {α : Type} (ks : α) (f : List Value → List Value → α) : Nat → List Value → List Value → α
  | 0, acc, st => f acc st
  | n + 1, acc, x :: r => j_popk ks f n (x :: acc) r
  | _ + 1, _, [] => ks
/-- by the kind of a field or a result: int, long (a field: boolean), else -/
def j_by {α : Type} (v : Value) (i l r : α) : α := match v with
  | .int _ => i
  | .long _ => l
  | _ => r
def j_br {α : Type} (c : Jvm.ClassFile.Cond) (x : Int32) (t f : α) : α := match c with
  | .eq => if x = 0 then t else f
  | .ne => if x = 0 then f else t
  | .lt => if x < 0 then t else f
  | .ge => if 0 ≤ x then t else f
  | .gt => if 0 < x then t else f
  | .le => if x ≤ 0 then t else f
def j_bc {α : Type} (c : Jvm.ClassFile.Cond) (x y : Int32) (t f : α) : α := match c with
  | .eq => if x = y then t else f
  | .ne => if x = y then f else t
  | .lt => if x < y then t else f
  | .ge => if y ≤ x then t else f
  | .gt => if y < x then t else f
  | .le => if x ≤ y then t else f
/-- arraycopy, Math.max, min, min of longs -/
def j_nat {α : Type} (kn : List Value → j_Me → α) (ks : α) (a : Nat) (st : List Value) (me : j_Me) : α :=
  bif Nat.beq a 1000 then j_c5 ks (fun a0 sp a dp n r => bif (!(decide (sp < 0)) && !(decide (dp < 0)) && !(decide (n < 0)) && Nat.ble (sp.toNatClampNeg + n.toNatClampNeg) (j_at me.1 a0).2.1 && Nat.ble (dp.toNatClampNeg + n.toNatClampNeg) (j_at me.1 a).2.1) && Nat.ble (j_cat r) 8 then
      (bif Nat.beq (j_at me.1 a0).1 0 && Nat.beq (j_at me.1 a).1 0 then kn r (me.1, j_row me.2.1 a (va_cpy (me.2.1 a0) (me.2.1 a) sp.toNatClampNeg dp.toNatClampNeg n.toNatClampNeg), me.2.2)
       else bif Nat.beq (j_at me.1 a0).1 1 && Nat.beq (j_at me.1 a).1 1 then kn r (me.1, me.2.1, j_rowl me.2.2 a (va_cpy (me.2.2 a0) (me.2.2 a) sp.toNatClampNeg dp.toNatClampNeg n.toNatClampNeg)) else ks) else ks) st
  else bif Nat.beq a 1001 then j_i2 ks (fun x y r => bif Nat.ble (j_cat r) 8 then kn (.int (if x < y then y else x) :: r) me else ks) st
  else bif Nat.beq a 1002 then j_i2 ks (fun x y r => bif Nat.ble (j_cat r) 8 then kn (.int (if y < x then y else x) :: r) me else ks) st
  else bif Nat.beq a 1003 then j_l2 ks (fun x y r => bif Nat.ble (j_cat r) 8 then kn (.long (if y < x then y else x) :: r) me else ks) st
  else ks
/-- one instruction: kn goes on; kc calls (callee, result's kind, arguments); kcs makes an object; kr returns; ks: stuck -/
def j_st {α : Type} (kn : Nat → List Value → List Value → j_Me → α) (kc : Nat → Value → List Value → Nat → List Value → List Value → j_Me → α) (kcs : Nat → List Value → Nat → List Value → List Value → j_Me → α) (kr : Option Value → j_Me → α) (ks : α) (pc : Nat) (ins : Instr) (z a b : Nat) (v : Value) (ts : List (Int32 × Nat)) (L st : List Value) (me : j_Me) : α := match ins with
  | .iconst _ => kn (pc + 1) L (v :: st) me
  | .bipush _ => kn (pc + 2) L (v :: st) me
  | .sipush _ => kn (pc + 3) L (v :: st) me
  | .ldc _ => kn (pc + 2) L (v :: st) me
  | .ldc_w _ => kn (pc + 3) L (v :: st) me
  | .lconst _ => kn (pc + 1) L (v :: st) me
  | .ldc2_w _ => kn (pc + 3) L (v :: st) me
  | .iload_n _ => j_vi ks (fun x => kn (pc + 1) L (.int x :: st) me) (j_lg L a)
  | .iload _ => j_vi ks (fun x => kn (pc + 2) L (.int x :: st) me) (j_lg L a)
  | .lload_n _ => j_vl ks (fun x => kn (pc + 1) L (.long x :: st) me) (j_lg L a)
  | .lload _ => j_vl ks (fun x => kn (pc + 2) L (.long x :: st) me) (j_lg L a)
  | .aload_n _ => j_vr ks (fun x => kn (pc + 1) L (.ref x :: st) me) (j_lg L a)
  | .aload _ => j_vr ks (fun x => kn (pc + 2) L (.ref x :: st) me) (j_lg L a)
  | .istore_n _ => j_i1 ks (fun x r => kn (pc + 1) (j_put L a (.int x)) r me) st
  | .istore _ => j_i1 ks (fun x r => kn (pc + 2) (j_put L a (.int x)) r me) st
  | .lstore_n _ => j_l1 ks (fun x r => kn (pc + 1) (j_nul (j_put L a (.long x)) (a + 1)) r me) st
  | .lstore _ => j_l1 ks (fun x r => kn (pc + 2) (j_nul (j_put L a (.long x)) (a + 1)) r me) st
  | .astore_n _ => j_r1 ks (fun x r => kn (pc + 1) (j_put L a (.ref x)) r me) st
  | .astore _ => j_r1 ks (fun x r => kn (pc + 2) (j_put L a (.ref x)) r me) st
  | .iinc _ _ => j_vi ks (fun y => j_vi ks (fun x => kn (pc + 3) (j_put L a (.int (x + y))) st me) (j_lg L a)) v
  | .iadd => j_i2 ks (fun x y r => kn (pc + 1) L (.int (x + y) :: r) me) st
  | .isub => j_i2 ks (fun x y r => kn (pc + 1) L (.int (x - y) :: r) me) st
  | .imul => j_i2 ks (fun x y r => kn (pc + 1) L (.int (x * y) :: r) me) st
  | .iand => j_i2 ks (fun x y r => kn (pc + 1) L (.int (x &&& y) :: r) me) st
  | .ior => j_i2 ks (fun x y r => kn (pc + 1) L (.int (x ||| y) :: r) me) st
  | .ixor => j_i2 ks (fun x y r => kn (pc + 1) L (.int (x ^^^ y) :: r) me) st
  | .ishl => j_i2 ks (fun x y r => kn (pc + 1) L (.int (x <<< (y &&& 31)) :: r) me) st
  | .ishr => j_i2 ks (fun x y r => kn (pc + 1) L (.int (x >>> (y &&& 31)) :: r) me) st
  | .iushr => j_i2 ks (fun x y r => kn (pc + 1) L (.int (x.toUInt32 >>> (y.toUInt32 &&& Int32.toUInt32 31)).toInt32 :: r) me) st
  | .idiv => j_i2 ks (fun x y r => if y = 0 then ks else kn (pc + 1) L (.int (x / y) :: r) me) st
  | .irem => j_i2 ks (fun x y r => if y = 0 then ks else kn (pc + 1) L (.int (x - x / y * y) :: r) me) st
  | .ineg => j_i1 ks (fun x r => kn (pc + 1) L (.int (-x) :: r) me) st
  | .ladd => j_l2 ks (fun x y r => kn (pc + 1) L (.long (x + y) :: r) me) st
  | .lmul => j_l2 ks (fun x y r => kn (pc + 1) L (.long (x * y) :: r) me) st
  | .land => j_l2 ks (fun x y r => kn (pc + 1) L (.long (x &&& y) :: r) me) st
  | .lor => j_l2 ks (fun x y r => kn (pc + 1) L (.long (x ||| y) :: r) me) st
  | .ldiv => j_l2 ks (fun x y r => if y = 0 then ks else kn (pc + 1) L (.long (x / y) :: r) me) st
  | .lrem => j_l2 ks (fun x y r => if y = 0 then ks else kn (pc + 1) L (.long (x - x / y * y) :: r) me) st
  | .lshl => j_il ks (fun x y r => kn (pc + 1) L (.long (x <<< (y.toInt64 &&& 63)) :: r) me) st
  | .lcmp => j_l2 ks (fun x y r => kn (pc + 1) L (.int (lg_cmp x y) :: r) me) st
  | .i2l => j_i1 ks (fun x r => kn (pc + 1) L (.long x.toInt64 :: r) me) st
  | .l2i => j_l1 ks (fun x r => kn (pc + 1) L (.int x.toInt32 :: r) me) st
  | .i2b => j_i1 ks (fun x r => kn (pc + 1) L (.int x.toInt8.toInt32 :: r) me) st
  | .i2s => j_i1 ks (fun x r => kn (pc + 1) L (.int x.toInt16.toInt32 :: r) me) st
  | .dup => j_v1 ks (fun w r => kn (pc + 1) L (w :: w :: r) me) st
  | .pop => j_v1 ks (fun _ r => kn (pc + 1) L r me) st
  | .dup2 => j_v2 ks (fun w x r => kn (pc + 1) L (w :: x :: w :: x :: r) me) st
  | .ifCond c _ => j_i1 ks (fun x r => j_br c x (kn a L r me) (kn (pc + 3) L r me)) st
  | .if_icmp c _ => j_i2 ks (fun x y r => j_bc c x y (kn a L r me) (kn (pc + 3) L r me)) st
  | .goto _ => kn a L st me
  | .tableswitch _ _ _ _ => j_i1 ks (fun x r => j_sw (fun t => kn t L r me) a x ts) st
  | .lookupswitch _ _ => j_i1 ks (fun x r => j_sw (fun t => kn t L r me) a x ts) st
  | .getfield _ => j_r1 ks (fun c r => bif Nat.beq (j_at me.1 c).1 (a + 3) then j_by v (kn (pc + 3) L (.int (me.2.1 c b) :: r) me) (kn (pc + 3) L (.int (me.2.1 c b) :: r) me) (bif (j_nth (j_at me.1 c).2.2 b).isSome then kn (pc + 3) L (.ref ((j_nth (j_at me.1 c).2.2 b).getD 0) :: r) me else ks) else ks) st
  | .putfield _ => j_by v (j_rI ks (fun c x r => bif Nat.beq (j_at me.1 c).1 (a + 3) then kn (pc + 3) L r (me.1, j_w me.2.1 c b x, me.2.2) else ks) st)
      (j_rI ks (fun c x r => bif Nat.beq (j_at me.1 c).1 (a + 3) && (decide (x = 0) || decide (x = 1)) then kn (pc + 3) L r (me.1, j_w me.2.1 c b x, me.2.2) else ks) st)
      (j_rr ks (fun c q r => bif Nat.beq (j_at me.1 c).1 (a + 3) then kn (pc + 3) L r (j_sr me.1 c b q, me.2.1, me.2.2) else ks) st)
  | .getstatic _ => kn (pc + 3) L (.ref a :: st) me
  | .new _ => kn (pc + 3) L (.ref me.1.length :: st) (me.1 ++ [(a + 3, b, List.replicate b none)], j_row me.2.1 me.1.length (fun _ => 0), me.2.2)
  | .newarray _ => j_i1 ks (fun n r => bif !(decide (n < 0)) && Nat.ble n.toNatClampNeg 65536 then j_by v (kn (pc + 2) L (.ref me.1.length :: r) (me.1 ++ [(0, n.toNatClampNeg, [])], j_row me.2.1 me.1.length (fun _ => 0), me.2.2)) (kn (pc + 2) L (.ref me.1.length :: r) (me.1 ++ [(1, n.toNatClampNeg, [])], me.2.1, j_rowl me.2.2 me.1.length (fun _ => 0))) ks else ks) st
  | .anewarray _ => j_i1 ks (fun n r => bif !(decide (n < 0)) && Nat.ble n.toNatClampNeg 65536 then kn (pc + 3) L (.ref me.1.length :: r) (me.1 ++ [(2, n.toNatClampNeg, List.replicate n.toNatClampNeg none)], me.2.1, me.2.2) else ks) st
  | .arraylength => j_r1 ks (fun c r => bif Nat.ble (j_at me.1 c).1 2 then kn (pc + 1) L (.int (Int32.ofNat (j_at me.1 c).2.1) :: r) me else ks) st
  | .iaload => j_ri ks (fun c i r => bif Nat.beq c 1000 then (bif j_in i 8 then kn (pc + 1) L (.int (j_tg j_T0 i.toNatClampNeg) :: r) me else ks) else bif Nat.beq c 1001 then (bif j_in i 32 then kn (pc + 1) L (.int (j_tg j_T1 i.toNatClampNeg) :: r) me else ks)
      else bif Nat.beq (j_at me.1 c).1 0 && j_in i (j_at me.1 c).2.1 then kn (pc + 1) L (.int (me.2.1 c i.toNatClampNeg) :: r) me else ks) st
  | .iastore => j_rii ks (fun c i x r => bif Nat.beq (j_at me.1 c).1 0 && j_in i (j_at me.1 c).2.1 then kn (pc + 1) L r (me.1, j_w me.2.1 c i.toNatClampNeg x, me.2.2) else ks) st
  | .laload => j_ri ks (fun c i r => bif Nat.beq (j_at me.1 c).1 1 && j_in i (j_at me.1 c).2.1 then kn (pc + 1) L (.long (me.2.2 c i.toNatClampNeg) :: r) me else ks) st
  | .lastore => j_ril ks (fun c i x r => bif Nat.beq (j_at me.1 c).1 1 && j_in i (j_at me.1 c).2.1 then kn (pc + 1) L r (me.1, me.2.1, j_wl me.2.2 c i.toNatClampNeg x) else ks) st
  | .aaload => j_ri ks (fun c i r => bif Nat.beq (j_at me.1 c).1 2 && j_in i (j_at me.1 c).2.1 && (j_nth (j_at me.1 c).2.2 i.toNatClampNeg).isSome then kn (pc + 1) L (.ref ((j_nth (j_at me.1 c).2.2 i.toNatClampNeg).getD 0) :: r) me else ks) st
  | .aastore => j_rir ks (fun c i q r => bif Nat.beq (j_at me.1 c).1 2 && j_in i (j_at me.1 c).2.1 && Nat.beq (j_at me.1 q).1 12 && Nat.beq (j_at me.1 c).2.2.length (j_at me.1 c).2.1 then kn (pc + 1) L r (j_sr me.1 c i.toNatClampNeg q, me.2.1, me.2.2) else ks) st
  | .invokevirtual _ => j_popk ks (fun as r => j_r1 ks (fun c r => bif Nat.beq (j_at me.1 c).1 z && Nat.ble (j_cat r) 8 then kc a v (.ref c :: as) (pc + 3) L r me else ks) r) b [] st
  | .invokestatic _ => bif Nat.ble 1000 a then j_nat (fun r me => kn (pc + 3) L r me) ks a st me else j_popk ks (fun as r => bif Nat.ble (j_cat r) 8 then kc a v as (pc + 3) L r me else ks) b [] st
  | .invokespecial _ => bif Nat.beq a 999 then j_r1 ks (fun _ r => bif Nat.ble (j_cat r) 8 then kn (pc + 3) L r me else ks) st else j_popk ks (fun as r => j_r1 ks (fun c r => bif Nat.ble (j_cat r) 8 then kcs a (.ref c :: as) (pc + 3) L r me else ks) r) b [] st
  | .ireturn => j_i0 ks (fun x => j_by v (kr (some (.int x)) me) (bif decide (x = 0) || decide (x = 1) then kr (some (.int x)) me else ks) ks) st
  | .lreturn => j_l0 ks (fun x => kr (some (.long x)) me) st
  | .return_ => (match st with
    | [] => kr none me
    | _ => ks)
  | _ => ks
/-- the rest of a call by the kind of its result -/
def j_oi {α : Type} (ks : α) (f : Int32 → α) (o : Option Value) : α := match o with
  | some (.int x) => f x
  | _ => ks
def j_ol {α : Type} (ks : α) (f : Int64 → α) (o : Option Value) : α := match o with
  | some (.long x) => f x
  | _ => ks
def j_ov {α : Type} (ks : α) (f : α) (o : Option Value) : α := match o with
  | none => f
  | _ => ks
def j_res {α : Type} (ks : α) (v : Value) (f : List Value → α) (o : Option Value) : α := j_by v (j_oi ks (fun x => f [.int x]) o) (j_ol ks (fun x => f [.long x]) o) (j_ov ks (f []) o)
def j_go {α : Type} (kn : Nat → List Value → List Value → j_Me → α) (kc : Nat → Value → List Value → Nat → List Value → List Value → j_Me → α) (kcs : Nat → List Value → Nat → List Value → List Value → j_Me → α) (kr : Option Value → j_Me → α) (ks : α) (K : j_K) (pc : Nat) (L st : List Value) (me : j_Me) : α := match j_lk K.1 pc with
  | none => ks
  | some (ins, z, a, b, v, ts, _) => j_st kn kc kcs kr ks pc ins z a b v ts L st me
end
section
/-! ===== the code of every method, with what its instructions name (printed by wip/whole/gencode.py) ===== -/
/-- 0: LeastPays$Bodies.<init>()V -/
def kX0_init : j_K := ([
  (0, .aload_n 0, 1, 0, 0, .null, [], []),
  (1, .invokespecial 3, 3, 999, 0, .null, [], [419, 106, 107]),
  (4, .aload_n 0, 1, 0, 0, .null, [], []),
  (5, .bipush 50, 2, 0, 0, .int 50, [], []),
  (7, .newarray .int, 2, 0, 0, .int 0, [], [187]),
  (9, .putfield 11, 3, 0, 0, .null, [], [420]),
  (12, .aload_n 0, 1, 0, 0, .null, [], []),
  (13, .bipush 24, 2, 0, 0, .int 24, [], []),
  (15, .newarray .int, 2, 0, 0, .int 0, [], [187]),
  (17, .putfield 15, 3, 0, 1, .null, [], [421]),
  (20, .return_, 1, 0, 0, .null, [], [])],
  [], 1)
/-- 1: LeastPays$Bodies.has(I)Z -/
def kX0_has : j_K := ([
  (0, .iload_n 1, 1, 1, 0, .null, [], []),
  (1, .ifCond .lt 15, 3, 16, 0, .null, [], []),
  (4, .iload_n 1, 1, 1, 0, .null, [], []),
  (5, .aload_n 0, 1, 0, 0, .null, [], []),
  (6, .getfield 18, 3, 0, 2, .int 0, [], [422]),
  (9, .if_icmp .ge 7, 3, 16, 0, .null, [], []),
  (12, .iconst 1, 1, 0, 0, .int 1, [], []),
  (13, .goto 4, 3, 17, 0, .null, [], []),
  (16, .iconst 0, 1, 0, 0, .int 0, [], []),
  (17, .ireturn, 1, 0, 0, .long 0, [], [])],
  [], 2)
/-- 2: LeastPays$Bodies.kindOf(I)I -/
def kX0_kindOf : j_K := ([
  (0, .aload_n 0, 1, 0, 0, .null, [], []),
  (1, .iload_n 1, 1, 1, 0, .null, [], []),
  (2, .invokevirtual 22, 3, 1, 1, .int 0, [], [1032, 94, 1035, 1033, 1034]),
  (5, .ifCond .eq 12, 3, 17, 0, .null, [], []),
  (8, .aload_n 0, 1, 0, 0, .null, [], []),
  (9, .getfield 11, 3, 0, 0, .null, [], [420]),
  (12, .iload_n 1, 1, 1, 0, .null, [], []),
  (13, .iaload, 1, 0, 0, .null, [], []),
  (14, .goto 4, 3, 18, 0, .null, [], []),
  (17, .iconst 0, 1, 0, 0, .int 0, [], []),
  (18, .ireturn, 1, 0, 0, .int 0, [], [])],
  [], 2)
/-- 3: LeastPays$Bodies.add(I)I -/
def kX0_add : j_K := ([
  (0, .aload_n 0, 1, 0, 0, .null, [], []),
  (1, .getfield 18, 3, 0, 2, .int 0, [], [422]),
  (4, .bipush 50, 2, 0, 0, .int 50, [], []),
  (6, .if_icmp .lt 6, 3, 12, 0, .null, [], []),
  (9, .bipush (-3), 2, 0, 0, .int (-3), [], []),
  (11, .ireturn, 1, 0, 0, .int 0, [], []),
  (12, .aload_n 0, 1, 0, 0, .null, [], []),
  (13, .getfield 11, 3, 0, 0, .null, [], [420]),
  (16, .aload_n 0, 1, 0, 0, .null, [], []),
  (17, .getfield 18, 3, 0, 2, .int 0, [], [422]),
  (20, .iload_n 1, 1, 1, 0, .null, [], []),
  (21, .iastore, 1, 0, 0, .null, [], []),
  (22, .aload_n 0, 1, 0, 0, .null, [], []),
  (23, .dup, 1, 0, 0, .null, [], []),
  (24, .getfield 18, 3, 0, 2, .int 0, [], [422]),
  (27, .iconst 1, 1, 0, 0, .int 1, [], []),
  (28, .iadd, 1, 0, 0, .null, [], []),
  (29, .putfield 18, 3, 0, 2, .int 0, [], [422]),
  (32, .aload_n 0, 1, 0, 0, .null, [], []),
  (33, .getfield 18, 3, 0, 2, .int 0, [], [422]),
  (36, .iconst 1, 1, 0, 0, .int 1, [], []),
  (37, .isub, 1, 0, 0, .null, [], []),
  (38, .ireturn, 1, 0, 0, .int 0, [], [])],
  [], 2)
/-- 4: LeastPays$Bodies.isUnder(II)Z -/
def kX0_isUnder : j_K := ([
  (0, .iload_n 0, 1, 0, 0, .null, [], []),
  (1, .istore_n 2, 1, 2, 0, .null, [], []),
  (2, .iconst 0, 1, 0, 0, .int 0, [], []),
  (3, .istore_n 3, 1, 3, 0, .null, [], []),
  (4, .iload_n 3, 1, 3, 0, .null, [], []),
  (5, .bipush 8, 2, 0, 0, .int 8, [], []),
  (7, .if_icmp .ge 26, 3, 33, 0, .null, [], []),
  (10, .iload_n 2, 1, 2, 0, .null, [], []),
  (11, .ifCond .lt 22, 3, 33, 0, .null, [], []),
  (14, .iload_n 2, 1, 2, 0, .null, [], []),
  (15, .iload_n 1, 1, 1, 0, .null, [], []),
  (16, .if_icmp .ne 5, 3, 21, 0, .null, [], []),
  (19, .iconst 1, 1, 0, 0, .int 1, [], []),
  (20, .ireturn, 1, 0, 0, .long 0, [], []),
  (21, .getstatic 26, 3, 1000, 0, .null, [], [1046]),
  (24, .iload_n 2, 1, 2, 0, .null, [], []),
  (25, .iaload, 1, 0, 0, .null, [], []),
  (26, .istore_n 2, 1, 2, 0, .null, [], []),
  (27, .iinc 3 1, 3, 3, 0, .int 1, [], []),
  (30, .goto (-26), 3, 4, 0, .null, [], []),
  (33, .iconst 0, 1, 0, 0, .int 0, [], []),
  (34, .ireturn, 1, 0, 0, .long 0, [], [])],
  [(4, [false, true, true, true])], 4)
/-- 5: LeastPays$Bodies.ranAt(I)I -/
def kX0_ranAt : j_K := ([
  (0, .iload_n 1, 1, 1, 0, .null, [], []),
  (1, .ifCond .lt 26, 3, 27, 0, .null, [], []),
  (4, .iload_n 1, 1, 1, 0, .null, [], []),
  (5, .aload_n 0, 1, 0, 0, .null, [], []),
  (6, .getfield 29, 3, 0, 3, .int 0, [], [424]),
  (9, .if_icmp .ge 18, 3, 27, 0, .null, [], []),
  (12, .iload_n 1, 1, 1, 0, .null, [], []),
  (13, .bipush 24, 2, 0, 0, .int 24, [], []),
  (15, .if_icmp .ge 12, 3, 27, 0, .null, [], []),
  (18, .aload_n 0, 1, 0, 0, .null, [], []),
  (19, .getfield 15, 3, 0, 1, .null, [], [421]),
  (22, .iload_n 1, 1, 1, 0, .null, [], []),
  (23, .iaload, 1, 0, 0, .null, [], []),
  (24, .goto 4, 3, 28, 0, .null, [], []),
  (27, .iconst (-1), 1, 0, 0, .int (-1), [], []),
  (28, .ireturn, 1, 0, 0, .int 0, [], [])],
  [], 2)
/-- 6: LeastPays$Bodies.perform(III)I -/
def kX0_perform : j_K := ([
  (0, .aload_n 0, 1, 0, 0, .null, [], []),
  (1, .iconst 0, 1, 0, 0, .int 0, [], []),
  (2, .putfield 29, 3, 0, 3, .int 0, [], [424]),
  (5, .aload_n 0, 1, 0, 0, .null, [], []),
  (6, .iload_n 1, 1, 1, 0, .null, [], []),
  (7, .invokevirtual 22, 3, 1, 1, .int 0, [], [1032, 94, 1035, 1033, 1034]),
  (10, .ifCond .eq 12, 3, 22, 0, .null, [], []),
  (13, .iload_n 2, 1, 2, 0, .null, [], []),
  (14, .ifCond .lt 8, 3, 22, 0, .null, [], []),
  (17, .iload_n 2, 1, 2, 0, .null, [], []),
  (18, .iconst 4, 1, 0, 0, .int 4, [], []),
  (19, .if_icmp .lt 5, 3, 24, 0, .null, [], []),
  (22, .iconst 0, 1, 0, 0, .int 0, [], []),
  (23, .ireturn, 1, 0, 0, .int 0, [], []),
  (24, .aload_n 0, 1, 0, 0, .null, [], []),
  (25, .iload_n 1, 1, 1, 0, .null, [], []),
  (26, .putfield 32, 3, 0, 4, .int 0, [], [426]),
  (29, .aload_n 0, 1, 0, 0, .null, [], []),
  (30, .iload_n 2, 1, 2, 0, .null, [], []),
  (31, .iload_n 3, 1, 3, 0, .null, [], []),
  (32, .iconst 0, 1, 0, 0, .int 0, [], []),
  (33, .invokevirtual 35, 3, 7, 3, .int 0, [], [1036, 94, 1039, 1038, 37]),
  (36, .ireturn, 1, 0, 0, .int 0, [], [])],
  [], 4)
/-- 7: LeastPays$Bodies.call(III)I -/
def kX0_call : j_K := ([
  (0, .aload_n 0, 1, 0, 0, .null, [], []),
  (1, .aload_n 0, 1, 0, 0, .null, [], []),
  (2, .getfield 11, 3, 0, 0, .null, [], [420]),
  (5, .aload_n 0, 1, 0, 0, .null, [], []),
  (6, .getfield 32, 3, 0, 4, .int 0, [], [426]),
  (9, .iaload, 1, 0, 0, .null, [], []),
  (10, .iload_n 1, 1, 1, 0, .null, [], []),
  (11, .iload_n 2, 1, 2, 0, .null, [], []),
  (12, .iload_n 3, 1, 3, 0, .null, [], []),
  (13, .invokevirtual 39, 3, 8, 4, .int 0, [], [1040, 94, 1043, 1042, 38]),
  (16, .ireturn, 1, 0, 0, .int 0, [], [])],
  [], 4)
/-- 8: LeastPays$Bodies.from(IIII)I -/
def kX0_from : j_K := ([
  (0, .iload 4, 2, 4, 0, .null, [], []),
  (2, .bipush 40, 2, 0, 0, .int 40, [], []),
  (4, .if_icmp .le 5, 3, 9, 0, .null, [], []),
  (7, .iconst 0, 1, 0, 0, .int 0, [], []),
  (8, .ireturn, 1, 0, 0, .int 0, [], []),
  (9, .iload_n 1, 1, 1, 0, .null, [], []),
  (10, .istore 5, 2, 5, 0, .null, [], []),
  (12, .iconst 0, 1, 0, 0, .int 0, [], []),
  (13, .istore 6, 2, 6, 0, .null, [], []),
  (15, .iload 6, 2, 6, 0, .null, [], []),
  (17, .bipush 8, 2, 0, 0, .int 8, [], []),
  (19, .if_icmp .ge 35, 3, 54, 0, .null, [], []),
  (22, .iload 5, 2, 5, 0, .null, [], []),
  (24, .ifCond .le 30, 3, 54, 0, .null, [], []),
  (27, .getstatic 43, 3, 1001, 0, .null, [], [1044]),
  (30, .iload 5, 2, 5, 0, .null, [], []),
  (32, .iconst 4, 1, 0, 0, .int 4, [], []),
  (33, .imul, 1, 0, 0, .null, [], []),
  (34, .iload_n 2, 1, 2, 0, .null, [], []),
  (35, .iadd, 1, 0, 0, .null, [], []),
  (36, .iaload, 1, 0, 0, .null, [], []),
  (37, .ifCond .ne 17, 3, 54, 0, .null, [], []),
  (40, .getstatic 26, 3, 1000, 0, .null, [], [1046]),
  (43, .iload 5, 2, 5, 0, .null, [], []),
  (45, .iaload, 1, 0, 0, .null, [], []),
  (46, .istore 5, 2, 5, 0, .null, [], []),
  (48, .iinc 6 1, 3, 6, 0, .int 1, [], []),
  (51, .goto (-36), 3, 15, 0, .null, [], []),
  (54, .iload 5, 2, 5, 0, .null, [], []),
  (56, .ifCond .ge 7, 3, 63, 0, .null, [], []),
  (59, .iconst 0, 1, 0, 0, .int 0, [], []),
  (60, .goto 22, 3, 82, 0, .null, [], []),
  (63, .aload_n 0, 1, 0, 0, .null, [], []),
  (64, .getstatic 43, 3, 1001, 0, .null, [], [1044]),
  (67, .iload 5, 2, 5, 0, .null, [], []),
  (69, .iconst 4, 1, 0, 0, .int 4, [], []),
  (70, .imul, 1, 0, 0, .null, [], []),
  (71, .iload_n 2, 1, 2, 0, .null, [], []),
  (72, .iadd, 1, 0, 0, .null, [], []),
  (73, .iaload, 1, 0, 0, .null, [], []),
  (74, .iload_n 3, 1, 3, 0, .null, [], []),
  (75, .iload 4, 2, 4, 0, .null, [], []),
  (77, .iconst 1, 1, 0, 0, .int 1, [], []),
  (78, .iadd, 1, 0, 0, .null, [], []),
  (79, .invokevirtual 46, 3, 9, 3, .int 0, [], [1048, 94, 1051, 1050, 39]),
  (82, .ireturn, 1, 0, 0, .int 0, [], [])],
  [(15, [true, false, true, true, true, true, true])], 7)
/-- 9: LeastPays$Bodies.run(III)I -/
def kX0_run : j_K := ([
  (0, .aload_n 0, 1, 0, 0, .null, [], []),
  (1, .getfield 29, 3, 0, 3, .int 0, [], [424]),
  (4, .bipush 24, 2, 0, 0, .int 24, [], []),
  (6, .if_icmp .ge 13, 3, 19, 0, .null, [], []),
  (9, .aload_n 0, 1, 0, 0, .null, [], []),
  (10, .getfield 15, 3, 0, 1, .null, [], [421]),
  (13, .aload_n 0, 1, 0, 0, .null, [], []),
  (14, .getfield 29, 3, 0, 3, .int 0, [], [424]),
  (17, .iload_n 1, 1, 1, 0, .null, [], []),
  (18, .iastore, 1, 0, 0, .null, [], []),
  (19, .aload_n 0, 1, 0, 0, .null, [], []),
  (20, .dup, 1, 0, 0, .null, [], []),
  (21, .getfield 29, 3, 0, 3, .int 0, [], [424]),
  (24, .iconst 1, 1, 0, 0, .int 1, [], []),
  (25, .iadd, 1, 0, 0, .null, [], []),
  (26, .putfield 29, 3, 0, 3, .int 0, [], [424]),
  (29, .iload_n 1, 1, 1, 0, .null, [], []),
  (30, .lookupswitch 303 #[(1, 114), (2, 121), (10, 137), (11, 147), (20, 154), (30, 169), (40, 183), (41, 198), (50, 213), (60, 234), (70, 249), (80, 265), (81, 287)], 114, 333, 0, .null, [(1, 144), (2, 151), (10, 167), (11, 177), (20, 184), (30, 199), (40, 213), (41, 228), (50, 243), (60, 264), (70, 279), (80, 295), (81, 317)], []),
  (144, .iload_n 2, 1, 2, 0, .null, [], []),
  (145, .aload_n 0, 1, 0, 0, .null, [], []),
  (146, .getfield 32, 3, 0, 4, .int 0, [], [426]),
  (149, .iadd, 1, 0, 0, .null, [], []),
  (150, .ireturn, 1, 0, 0, .int 0, [], []),
  (151, .aload_n 0, 1, 0, 0, .null, [], []),
  (152, .iconst 1, 1, 0, 0, .int 1, [], []),
  (153, .iload_n 2, 1, 2, 0, .null, [], []),
  (154, .iload_n 3, 1, 3, 0, .null, [], []),
  (155, .invokevirtual 35, 3, 7, 3, .int 0, [], [1036, 94, 1039, 1038, 37]),
  (158, .aload_n 0, 1, 0, 0, .null, [], []),
  (159, .iconst 2, 1, 0, 0, .int 2, [], []),
  (160, .iconst 1, 1, 0, 0, .int 1, [], []),
  (161, .iload_n 3, 1, 3, 0, .null, [], []),
  (162, .invokevirtual 35, 3, 7, 3, .int 0, [], [1036, 94, 1039, 1038, 37]),
  (165, .isub, 1, 0, 0, .null, [], []),
  (166, .ireturn, 1, 0, 0, .int 0, [], []),
  (167, .aload_n 0, 1, 0, 0, .null, [], []),
  (168, .iconst 0, 1, 0, 0, .int 0, [], []),
  (169, .iload_n 2, 1, 2, 0, .null, [], []),
  (170, .iload_n 3, 1, 3, 0, .null, [], []),
  (171, .invokevirtual 35, 3, 7, 3, .int 0, [], [1036, 94, 1039, 1038, 37]),
  (174, .iconst 2, 1, 0, 0, .int 2, [], []),
  (175, .imul, 1, 0, 0, .null, [], []),
  (176, .ireturn, 1, 0, 0, .int 0, [], []),
  (177, .iload_n 2, 1, 2, 0, .null, [], []),
  (178, .aload_n 0, 1, 0, 0, .null, [], []),
  (179, .getfield 32, 3, 0, 4, .int 0, [], [426]),
  (182, .ixor, 1, 0, 0, .null, [], []),
  (183, .ireturn, 1, 0, 0, .int 0, [], []),
  (184, .aload_n 0, 1, 0, 0, .null, [], []),
  (185, .getstatic 26, 3, 1000, 0, .null, [], [1046]),
  (188, .iconst 1, 1, 0, 0, .int 1, [], []),
  (189, .iaload, 1, 0, 0, .null, [], []),
  (190, .iconst 0, 1, 0, 0, .int 0, [], []),
  (191, .iload_n 2, 1, 2, 0, .null, [], []),
  (192, .iload_n 3, 1, 3, 0, .null, [], []),
  (193, .invokevirtual 39, 3, 8, 4, .int 0, [], [1040, 94, 1043, 1042, 38]),
  (196, .iconst 3, 1, 0, 0, .int 3, [], []),
  (197, .iadd, 1, 0, 0, .null, [], []),
  (198, .ireturn, 1, 0, 0, .int 0, [], []),
  (199, .aload_n 0, 1, 0, 0, .null, [], []),
  (200, .getstatic 26, 3, 1000, 0, .null, [], [1046]),
  (203, .iconst 2, 1, 0, 0, .int 2, [], []),
  (204, .iaload, 1, 0, 0, .null, [], []),
  (205, .iconst 1, 1, 0, 0, .int 1, [], []),
  (206, .iload_n 2, 1, 2, 0, .null, [], []),
  (207, .iload_n 3, 1, 3, 0, .null, [], []),
  (208, .invokevirtual 39, 3, 8, 4, .int 0, [], [1040, 94, 1043, 1042, 38]),
  (211, .ineg, 1, 0, 0, .null, [], []),
  (212, .ireturn, 1, 0, 0, .int 0, [], []),
  (213, .aload_n 0, 1, 0, 0, .null, [], []),
  (214, .getstatic 26, 3, 1000, 0, .null, [], [1046]),
  (217, .iconst 3, 1, 0, 0, .int 3, [], []),
  (218, .iaload, 1, 0, 0, .null, [], []),
  (219, .iconst 2, 1, 0, 0, .int 2, [], []),
  (220, .iload_n 2, 1, 2, 0, .null, [], []),
  (221, .iload_n 3, 1, 3, 0, .null, [], []),
  (222, .invokevirtual 39, 3, 8, 4, .int 0, [], [1040, 94, 1043, 1042, 38]),
  (225, .iconst 3, 1, 0, 0, .int 3, [], []),
  (226, .imul, 1, 0, 0, .null, [], []),
  (227, .ireturn, 1, 0, 0, .int 0, [], []),
  (228, .aload_n 0, 1, 0, 0, .null, [], []),
  (229, .getstatic 26, 3, 1000, 0, .null, [], [1046]),
  (232, .iconst 3, 1, 0, 0, .int 3, [], []),
  (233, .iaload, 1, 0, 0, .null, [], []),
  (234, .iconst 1, 1, 0, 0, .int 1, [], []),
  (235, .iload_n 2, 1, 2, 0, .null, [], []),
  (236, .iconst 1, 1, 0, 0, .int 1, [], []),
  (237, .iadd, 1, 0, 0, .null, [], []),
  (238, .iload_n 3, 1, 3, 0, .null, [], []),
  (239, .invokevirtual 39, 3, 8, 4, .int 0, [], [1040, 94, 1043, 1042, 38]),
  (242, .ireturn, 1, 0, 0, .int 0, [], []),
  (243, .aload_n 0, 1, 0, 0, .null, [], []),
  (244, .getstatic 26, 3, 1000, 0, .null, [], [1046]),
  (247, .iconst 4, 1, 0, 0, .int 4, [], []),
  (248, .iaload, 1, 0, 0, .null, [], []),
  (249, .iconst 2, 1, 0, 0, .int 2, [], []),
  (250, .iload_n 2, 1, 2, 0, .null, [], []),
  (251, .iload_n 3, 1, 3, 0, .null, [], []),
  (252, .invokevirtual 39, 3, 8, 4, .int 0, [], [1040, 94, 1043, 1042, 38]),
  (255, .aload_n 0, 1, 0, 0, .null, [], []),
  (256, .iconst 0, 1, 0, 0, .int 0, [], []),
  (257, .iconst 2, 1, 0, 0, .int 2, [], []),
  (258, .iload_n 3, 1, 3, 0, .null, [], []),
  (259, .invokevirtual 35, 3, 7, 3, .int 0, [], [1036, 94, 1039, 1038, 37]),
  (262, .isub, 1, 0, 0, .null, [], []),
  (263, .ireturn, 1, 0, 0, .int 0, [], []),
  (264, .aload_n 0, 1, 0, 0, .null, [], []),
  (265, .getstatic 26, 3, 1000, 0, .null, [], [1046]),
  (268, .iconst 5, 1, 0, 0, .int 5, [], []),
  (269, .iaload, 1, 0, 0, .null, [], []),
  (270, .iconst 3, 1, 0, 0, .int 3, [], []),
  (271, .iload_n 2, 1, 2, 0, .null, [], []),
  (272, .iload_n 3, 1, 3, 0, .null, [], []),
  (273, .invokevirtual 39, 3, 8, 4, .int 0, [], [1040, 94, 1043, 1042, 38]),
  (276, .iconst 5, 1, 0, 0, .int 5, [], []),
  (277, .ixor, 1, 0, 0, .null, [], []),
  (278, .ireturn, 1, 0, 0, .int 0, [], []),
  (279, .aload_n 0, 1, 0, 0, .null, [], []),
  (280, .getstatic 26, 3, 1000, 0, .null, [], [1046]),
  (283, .bipush 6, 2, 0, 0, .int 6, [], []),
  (285, .iaload, 1, 0, 0, .null, [], []),
  (286, .iconst 0, 1, 0, 0, .int 0, [], []),
  (287, .iload_n 2, 1, 2, 0, .null, [], []),
  (288, .iload_n 3, 1, 3, 0, .null, [], []),
  (289, .invokevirtual 39, 3, 8, 4, .int 0, [], [1040, 94, 1043, 1042, 38]),
  (292, .iconst 2, 1, 0, 0, .int 2, [], []),
  (293, .imul, 1, 0, 0, .null, [], []),
  (294, .ireturn, 1, 0, 0, .int 0, [], []),
  (295, .aload_n 0, 1, 0, 0, .null, [], []),
  (296, .getstatic 26, 3, 1000, 0, .null, [], [1046]),
  (299, .bipush 7, 2, 0, 0, .int 7, [], []),
  (301, .iaload, 1, 0, 0, .null, [], []),
  (302, .iconst 1, 1, 0, 0, .int 1, [], []),
  (303, .iload_n 2, 1, 2, 0, .null, [], []),
  (304, .iload_n 3, 1, 3, 0, .null, [], []),
  (305, .invokevirtual 39, 3, 8, 4, .int 0, [], [1040, 94, 1043, 1042, 38]),
  (308, .aload_n 0, 1, 0, 0, .null, [], []),
  (309, .iconst 2, 1, 0, 0, .int 2, [], []),
  (310, .iconst 2, 1, 0, 0, .int 2, [], []),
  (311, .iload_n 3, 1, 3, 0, .null, [], []),
  (312, .invokevirtual 35, 3, 7, 3, .int 0, [], [1036, 94, 1039, 1038, 37]),
  (315, .iadd, 1, 0, 0, .null, [], []),
  (316, .ireturn, 1, 0, 0, .int 0, [], []),
  (317, .aload_n 0, 1, 0, 0, .null, [], []),
  (318, .getstatic 26, 3, 1000, 0, .null, [], [1046]),
  (321, .bipush 7, 2, 0, 0, .int 7, [], []),
  (323, .iaload, 1, 0, 0, .null, [], []),
  (324, .iconst 3, 1, 0, 0, .int 3, [], []),
  (325, .iload_n 2, 1, 2, 0, .null, [], []),
  (326, .iload_n 3, 1, 3, 0, .null, [], []),
  (327, .invokevirtual 39, 3, 8, 4, .int 0, [], [1040, 94, 1043, 1042, 38]),
  (330, .iconst 1, 1, 0, 0, .int 1, [], []),
  (331, .isub, 1, 0, 0, .null, [], []),
  (332, .ireturn, 1, 0, 0, .int 0, [], []),
  (333, .iconst 0, 1, 0, 0, .int 0, [], []),
  (334, .ireturn, 1, 0, 0, .int 0, [], [])],
  [(19, [true, true, true, true])], 4)
/-- 10: LeastPays$Changes.<init>()V -/
def kX1_init : j_K := ([
  (0, .aload_n 0, 1, 0, 0, .null, [], []),
  (1, .invokespecial 3, 3, 999, 0, .null, [], [367, 106, 107]),
  (4, .aload_n 0, 1, 0, 0, .null, [], []),
  (5, .bipush 40, 2, 0, 0, .int 40, [], []),
  (7, .newarray .int, 2, 0, 0, .int 0, [], [187]),
  (9, .putfield 11, 3, 1, 0, .null, [], [368]),
  (12, .aload_n 0, 1, 0, 0, .null, [], []),
  (13, .bipush 40, 2, 0, 0, .int 40, [], []),
  (15, .newarray .int, 2, 0, 0, .int 0, [], [187]),
  (17, .putfield 15, 3, 1, 1, .null, [], [369]),
  (20, .aload_n 0, 1, 0, 0, .null, [], []),
  (21, .bipush 40, 2, 0, 0, .int 40, [], []),
  (23, .newarray .int, 2, 0, 0, .int 0, [], [187]),
  (25, .putfield 18, 3, 1, 2, .null, [], [370]),
  (28, .aload_n 0, 1, 0, 0, .null, [], []),
  (29, .bipush 40, 2, 0, 0, .int 40, [], []),
  (31, .newarray .int, 2, 0, 0, .int 0, [], [187]),
  (33, .putfield 21, 3, 1, 3, .null, [], [371]),
  (36, .return_, 1, 0, 0, .null, [], [])],
  [], 1)
/-- 11: LeastPays$Changes.note(IIII)V -/
def kX1_note : j_K := ([
  (0, .aload_n 0, 1, 0, 0, .null, [], []),
  (1, .getfield 24, 3, 1, 4, .int 0, [], [372]),
  (4, .bipush 40, 2, 0, 0, .int 40, [], []),
  (6, .if_icmp .lt 7, 3, 13, 0, .null, [], []),
  (9, .aload_n 0, 1, 0, 0, .null, [], []),
  (10, .invokevirtual 28, 4, 12, 0, .null, [], [562, 92, 565, 564, 1]),
  (13, .aload_n 0, 1, 0, 0, .null, [], []),
  (14, .getfield 11, 3, 1, 0, .null, [], [368]),
  (17, .aload_n 0, 1, 0, 0, .null, [], []),
  (18, .getfield 24, 3, 1, 4, .int 0, [], [372]),
  (21, .iload_n 1, 1, 1, 0, .null, [], []),
  (22, .iastore, 1, 0, 0, .null, [], []),
  (23, .aload_n 0, 1, 0, 0, .null, [], []),
  (24, .getfield 15, 3, 1, 1, .null, [], [369]),
  (27, .aload_n 0, 1, 0, 0, .null, [], []),
  (28, .getfield 24, 3, 1, 4, .int 0, [], [372]),
  (31, .iload_n 2, 1, 2, 0, .null, [], []),
  (32, .iastore, 1, 0, 0, .null, [], []),
  (33, .aload_n 0, 1, 0, 0, .null, [], []),
  (34, .getfield 18, 3, 1, 2, .null, [], [370]),
  (37, .aload_n 0, 1, 0, 0, .null, [], []),
  (38, .getfield 24, 3, 1, 4, .int 0, [], [372]),
  (41, .iload_n 3, 1, 3, 0, .null, [], []),
  (42, .iastore, 1, 0, 0, .null, [], []),
  (43, .aload_n 0, 1, 0, 0, .null, [], []),
  (44, .getfield 21, 3, 1, 3, .null, [], [371]),
  (47, .aload_n 0, 1, 0, 0, .null, [], []),
  (48, .getfield 24, 3, 1, 4, .int 0, [], [372]),
  (51, .iload 4, 2, 4, 0, .null, [], []),
  (53, .iastore, 1, 0, 0, .null, [], []),
  (54, .aload_n 0, 1, 0, 0, .null, [], []),
  (55, .dup, 1, 0, 0, .null, [], []),
  (56, .getfield 24, 3, 1, 4, .int 0, [], [372]),
  (59, .iconst 1, 1, 0, 0, .int 1, [], []),
  (60, .iadd, 1, 0, 0, .null, [], []),
  (61, .putfield 24, 3, 1, 4, .int 0, [], [372]),
  (64, .aload_n 0, 1, 0, 0, .null, [], []),
  (65, .aload_n 0, 1, 0, 0, .null, [], []),
  (66, .getfield 24, 3, 1, 4, .int 0, [], [372]),
  (69, .putfield 31, 3, 1, 5, .int 0, [], [374]),
  (72, .return_, 1, 0, 0, .null, [], [])],
  [(13, [true, true, true, true, true])], 5)
/-- 12: LeastPays$Changes.dropOldest()V -/
def kX1_dropOldest : j_K := ([
  (0, .aload_n 0, 1, 0, 0, .null, [], []),
  (1, .getfield 11, 3, 1, 0, .null, [], [368]),
  (4, .iconst 1, 1, 0, 0, .int 1, [], []),
  (5, .aload_n 0, 1, 0, 0, .null, [], []),
  (6, .getfield 11, 3, 1, 0, .null, [], [368]),
  (9, .iconst 0, 1, 0, 0, .int 0, [], []),
  (10, .bipush 39, 2, 0, 0, .int 39, [], []),
  (12, .invokestatic 34, 3, 1000, 5, .null, [], [566, 568, 567, 97]),
  (15, .aload_n 0, 1, 0, 0, .null, [], []),
  (16, .getfield 15, 3, 1, 1, .null, [], [369]),
  (19, .iconst 1, 1, 0, 0, .int 1, [], []),
  (20, .aload_n 0, 1, 0, 0, .null, [], []),
  (21, .getfield 15, 3, 1, 1, .null, [], [369]),
  (24, .iconst 0, 1, 0, 0, .int 0, [], []),
  (25, .bipush 39, 2, 0, 0, .int 39, [], []),
  (27, .invokestatic 34, 3, 1000, 5, .null, [], [566, 568, 567, 97]),
  (30, .aload_n 0, 1, 0, 0, .null, [], []),
  (31, .getfield 18, 3, 1, 2, .null, [], [370]),
  (34, .iconst 1, 1, 0, 0, .int 1, [], []),
  (35, .aload_n 0, 1, 0, 0, .null, [], []),
  (36, .getfield 18, 3, 1, 2, .null, [], [370]),
  (39, .iconst 0, 1, 0, 0, .int 0, [], []),
  (40, .bipush 39, 2, 0, 0, .int 39, [], []),
  (42, .invokestatic 34, 3, 1000, 5, .null, [], [566, 568, 567, 97]),
  (45, .aload_n 0, 1, 0, 0, .null, [], []),
  (46, .getfield 21, 3, 1, 3, .null, [], [371]),
  (49, .iconst 1, 1, 0, 0, .int 1, [], []),
  (50, .aload_n 0, 1, 0, 0, .null, [], []),
  (51, .getfield 21, 3, 1, 3, .null, [], [371]),
  (54, .iconst 0, 1, 0, 0, .int 0, [], []),
  (55, .bipush 39, 2, 0, 0, .int 39, [], []),
  (57, .invokestatic 34, 3, 1000, 5, .null, [], [566, 568, 567, 97]),
  (60, .aload_n 0, 1, 0, 0, .null, [], []),
  (61, .bipush 39, 2, 0, 0, .int 39, [], []),
  (63, .putfield 24, 3, 1, 4, .int 0, [], [372]),
  (66, .return_, 1, 0, 0, .null, [], [])],
  [], 1)
/-- 13: LeastPays$Changes.takeBack(LLeastPays$Guests;)I -/
def kX1_takeBack : j_K := ([
  (0, .aload_n 0, 1, 0, 0, .null, [], []),
  (1, .getfield 24, 3, 1, 4, .int 0, [], [372]),
  (4, .ifCond .gt 6, 3, 10, 0, .null, [], []),
  (7, .bipush (-5), 2, 0, 0, .int (-5), [], []),
  (9, .ireturn, 1, 0, 0, .int 0, [], []),
  (10, .aload_n 0, 1, 0, 0, .null, [], []),
  (11, .dup, 1, 0, 0, .null, [], []),
  (12, .getfield 24, 3, 1, 4, .int 0, [], [372]),
  (15, .iconst 1, 1, 0, 0, .int 1, [], []),
  (16, .isub, 1, 0, 0, .null, [], []),
  (17, .putfield 24, 3, 1, 4, .int 0, [], [372]),
  (20, .aload_n 1, 1, 1, 0, .null, [], []),
  (21, .aload_n 0, 1, 0, 0, .null, [], []),
  (22, .getfield 11, 3, 1, 0, .null, [], [368]),
  (25, .aload_n 0, 1, 0, 0, .null, [], []),
  (26, .getfield 24, 3, 1, 4, .int 0, [], [372]),
  (29, .iaload, 1, 0, 0, .null, [], []),
  (30, .aload_n 0, 1, 0, 0, .null, [], []),
  (31, .getfield 15, 3, 1, 1, .null, [], [369]),
  (34, .aload_n 0, 1, 0, 0, .null, [], []),
  (35, .getfield 24, 3, 1, 4, .int 0, [], [372]),
  (38, .iaload, 1, 0, 0, .null, [], []),
  (39, .aload_n 0, 1, 0, 0, .null, [], []),
  (40, .getfield 18, 3, 1, 2, .null, [], [370]),
  (43, .aload_n 0, 1, 0, 0, .null, [], []),
  (44, .getfield 24, 3, 1, 4, .int 0, [], [372]),
  (47, .iaload, 1, 0, 0, .null, [], []),
  (48, .invokevirtual 40, 5, 20, 3, .null, [], [1007, 86, 557, 555, 556]),
  (51, .aload_n 0, 1, 0, 0, .null, [], []),
  (52, .getfield 24, 3, 1, 4, .int 0, [], [372]),
  (55, .ireturn, 1, 0, 0, .int 0, [], [])],
  [], 2)
/-- 14: LeastPays$Changes.doAgain(LLeastPays$Guests;)I -/
def kX1_doAgain : j_K := ([
  (0, .aload_n 0, 1, 0, 0, .null, [], []),
  (1, .getfield 24, 3, 1, 4, .int 0, [], [372]),
  (4, .aload_n 0, 1, 0, 0, .null, [], []),
  (5, .getfield 31, 3, 1, 5, .int 0, [], [374]),
  (8, .if_icmp .lt 6, 3, 14, 0, .null, [], []),
  (11, .bipush (-5), 2, 0, 0, .int (-5), [], []),
  (13, .ireturn, 1, 0, 0, .int 0, [], []),
  (14, .aload_n 1, 1, 1, 0, .null, [], []),
  (15, .aload_n 0, 1, 0, 0, .null, [], []),
  (16, .getfield 11, 3, 1, 0, .null, [], [368]),
  (19, .aload_n 0, 1, 0, 0, .null, [], []),
  (20, .getfield 24, 3, 1, 4, .int 0, [], [372]),
  (23, .iaload, 1, 0, 0, .null, [], []),
  (24, .aload_n 0, 1, 0, 0, .null, [], []),
  (25, .getfield 15, 3, 1, 1, .null, [], [369]),
  (28, .aload_n 0, 1, 0, 0, .null, [], []),
  (29, .getfield 24, 3, 1, 4, .int 0, [], [372]),
  (32, .iaload, 1, 0, 0, .null, [], []),
  (33, .aload_n 0, 1, 0, 0, .null, [], []),
  (34, .getfield 21, 3, 1, 3, .null, [], [371]),
  (37, .aload_n 0, 1, 0, 0, .null, [], []),
  (38, .getfield 24, 3, 1, 4, .int 0, [], [372]),
  (41, .iaload, 1, 0, 0, .null, [], []),
  (42, .invokevirtual 40, 5, 20, 3, .null, [], [1007, 86, 557, 555, 556]),
  (45, .aload_n 0, 1, 0, 0, .null, [], []),
  (46, .dup, 1, 0, 0, .null, [], []),
  (47, .getfield 24, 3, 1, 4, .int 0, [], [372]),
  (50, .iconst 1, 1, 0, 0, .int 1, [], []),
  (51, .iadd, 1, 0, 0, .null, [], []),
  (52, .putfield 24, 3, 1, 4, .int 0, [], [372]),
  (55, .aload_n 0, 1, 0, 0, .null, [], []),
  (56, .getfield 31, 3, 1, 5, .int 0, [], [374]),
  (59, .aload_n 0, 1, 0, 0, .null, [], []),
  (60, .getfield 24, 3, 1, 4, .int 0, [], [372]),
  (63, .isub, 1, 0, 0, .null, [], []),
  (64, .ireturn, 1, 0, 0, .int 0, [], [])],
  [], 2)
/-- 15: LeastPays$Guests.<init>()V -/
def kX2_init : j_K := ([
  (0, .aload_n 0, 1, 0, 0, .null, [], []),
  (1, .invokespecial 3, 3, 999, 0, .null, [], [113, 106, 107]),
  (4, .aload_n 0, 1, 0, 0, .null, [], []),
  (5, .bipush 6, 2, 0, 0, .int 6, [], []),
  (7, .newarray .int, 2, 0, 0, .int 0, [], [187]),
  (9, .putfield 9, 3, 2, 0, .null, [], [114]),
  (12, .aload_n 0, 1, 0, 0, .null, [], []),
  (13, .bipush 6, 2, 0, 0, .int 6, [], []),
  (15, .newarray .int, 2, 0, 0, .int 0, [], [187]),
  (17, .putfield 15, 3, 2, 1, .null, [], [118]),
  (20, .aload_n 0, 1, 0, 0, .null, [], []),
  (21, .bipush 6, 2, 0, 0, .int 6, [], []),
  (23, .newarray .int, 2, 0, 0, .int 0, [], [187]),
  (25, .putfield 18, 3, 2, 2, .null, [], [124]),
  (28, .aload_n 0, 1, 0, 0, .null, [], []),
  (29, .bipush 6, 2, 0, 0, .int 6, [], []),
  (31, .newarray .int, 2, 0, 0, .int 0, [], [187]),
  (33, .putfield 21, 3, 2, 3, .null, [], [128]),
  (36, .aload_n 0, 1, 0, 0, .null, [], []),
  (37, .bipush 6, 2, 0, 0, .int 6, [], []),
  (39, .newarray .int, 2, 0, 0, .int 0, [], [187]),
  (41, .putfield 24, 3, 2, 4, .null, [], [132]),
  (44, .aload_n 0, 1, 0, 0, .null, [], []),
  (45, .bipush 6, 2, 0, 0, .int 6, [], []),
  (47, .newarray .int, 2, 0, 0, .int 0, [], [187]),
  (49, .putfield 27, 3, 2, 5, .null, [], [134]),
  (52, .aload_n 0, 1, 0, 0, .null, [], []),
  (53, .bipush 60, 2, 0, 0, .int 60, [], []),
  (55, .putfield 30, 3, 2, 7, .int 0, [], [146]),
  (58, .aload_n 0, 1, 0, 0, .null, [], []),
  (59, .iconst 0, 1, 0, 0, .int 0, [], []),
  (60, .putfield 34, 3, 2, 8, .int 0, [], [149]),
  (63, .aload_n 0, 1, 0, 0, .null, [], []),
  (64, .bipush 10, 2, 0, 0, .int 10, [], []),
  (66, .putfield 37, 3, 2, 9, .int 0, [], [153]),
  (69, .return_, 1, 0, 0, .null, [], [])],
  [], 1)
/-- 16: LeastPays$Guests.has(I)Z -/
def kX2_has : j_K := ([
  (0, .iload_n 1, 1, 1, 0, .null, [], []),
  (1, .ifCond .lt 15, 3, 16, 0, .null, [], []),
  (4, .iload_n 1, 1, 1, 0, .null, [], []),
  (5, .aload_n 0, 1, 0, 0, .null, [], []),
  (6, .getfield 40, 3, 2, 6, .int 0, [], [139]),
  (9, .if_icmp .ge 7, 3, 16, 0, .null, [], []),
  (12, .iconst 1, 1, 0, 0, .int 1, [], []),
  (13, .goto 4, 3, 17, 0, .null, [], []),
  (16, .iconst 0, 1, 0, 0, .int 0, [], []),
  (17, .ireturn, 1, 0, 0, .long 0, [], [])],
  [], 2)
/-- 17: LeastPays$Guests.welcome(II)V -/
def kX2_welcome : j_K := ([
  (0, .aload_n 0, 1, 0, 0, .null, [], []),
  (1, .getfield 40, 3, 2, 6, .int 0, [], [139]),
  (4, .bipush 6, 2, 0, 0, .int 6, [], []),
  (6, .if_icmp .ge 43, 3, 49, 0, .null, [], []),
  (9, .aload_n 0, 1, 0, 0, .null, [], []),
  (10, .getfield 9, 3, 2, 0, .null, [], [114]),
  (13, .aload_n 0, 1, 0, 0, .null, [], []),
  (14, .getfield 40, 3, 2, 6, .int 0, [], [139]),
  (17, .iload_n 1, 1, 1, 0, .null, [], []),
  (18, .iastore, 1, 0, 0, .null, [], []),
  (19, .aload_n 0, 1, 0, 0, .null, [], []),
  (20, .getfield 15, 3, 2, 1, .null, [], [118]),
  (23, .aload_n 0, 1, 0, 0, .null, [], []),
  (24, .getfield 40, 3, 2, 6, .int 0, [], [139]),
  (27, .iload_n 2, 1, 2, 0, .null, [], []),
  (28, .iastore, 1, 0, 0, .null, [], []),
  (29, .aload_n 0, 1, 0, 0, .null, [], []),
  (30, .getfield 24, 3, 2, 4, .null, [], [132]),
  (33, .aload_n 0, 1, 0, 0, .null, [], []),
  (34, .getfield 40, 3, 2, 6, .int 0, [], [139]),
  (37, .iconst (-1), 1, 0, 0, .int (-1), [], []),
  (38, .iastore, 1, 0, 0, .null, [], []),
  (39, .aload_n 0, 1, 0, 0, .null, [], []),
  (40, .dup, 1, 0, 0, .null, [], []),
  (41, .getfield 40, 3, 2, 6, .int 0, [], [139]),
  (44, .iconst 1, 1, 0, 0, .int 1, [], []),
  (45, .iadd, 1, 0, 0, .null, [], []),
  (46, .putfield 40, 3, 2, 6, .int 0, [], [139]),
  (49, .return_, 1, 0, 0, .null, [], [])],
  [], 3)
/-- 18: LeastPays$Guests.allows(III)Z -/
def kX2_allows : j_K := ([
  (0, .iload_n 2, 1, 2, 0, .null, [], []),
  (1, .iconst 4, 1, 0, 0, .int 4, [], []),
  (2, .if_icmp .lt 10, 3, 12, 0, .null, [], []),
  (5, .iload_n 1, 1, 1, 0, .null, [], []),
  (6, .ifCond .eq 16, 3, 22, 0, .null, [], []),
  (9, .goto 11, 3, 20, 0, .null, [], []),
  (12, .aload_n 0, 1, 0, 0, .null, [], []),
  (13, .iload_n 1, 1, 1, 0, .null, [], []),
  (14, .invokevirtual 43, 5, 16, 1, .int 0, [], [545, 86, 548, 546, 547]),
  (17, .ifCond .ne 5, 3, 22, 0, .null, [], []),
  (20, .iconst 0, 1, 0, 0, .int 0, [], []),
  (21, .ireturn, 1, 0, 0, .long 0, [], []),
  (22, .iload_n 2, 1, 2, 0, .null, [], []),
  (23, .tableswitch 93 0 6 #[41, 49, 61, 49, 69, 78, 85], 41, 116, 0, .null, [(0, 64), (1, 72), (2, 84), (3, 72), (4, 92), (5, 101), (6, 108)], []),
  (64, .iload_n 3, 1, 3, 0, .null, [], []),
  (65, .iconst 0, 1, 0, 0, .int 0, [], []),
  (66, .bipush 99, 2, 0, 0, .int 99, [], []),
  (68, .invokestatic 47, 3, 147, 3, .int 0, [], [549, 85, 504, 503]),
  (71, .ireturn, 1, 0, 0, .long 0, [], []),
  (72, .iload_n 3, 1, 3, 0, .null, [], []),
  (73, .iconst 0, 1, 0, 0, .int 0, [], []),
  (74, .aload_n 0, 1, 0, 0, .null, [], []),
  (75, .getfield 9, 3, 2, 0, .null, [], [114]),
  (78, .iload_n 1, 1, 1, 0, .null, [], []),
  (79, .iaload, 1, 0, 0, .null, [], []),
  (80, .invokestatic 47, 3, 147, 3, .int 0, [], [549, 85, 504, 503]),
  (83, .ireturn, 1, 0, 0, .long 0, [], []),
  (84, .iload_n 3, 1, 3, 0, .null, [], []),
  (85, .iconst 0, 1, 0, 0, .int 0, [], []),
  (86, .bipush 12, 2, 0, 0, .int 12, [], []),
  (88, .invokestatic 47, 3, 147, 3, .int 0, [], [549, 85, 504, 503]),
  (91, .ireturn, 1, 0, 0, .long 0, [], []),
  (92, .iload_n 3, 1, 3, 0, .null, [], []),
  (93, .iconst 0, 1, 0, 0, .int 0, [], []),
  (94, .sipush 599, 3, 0, 0, .int 599, [], []),
  (97, .invokestatic 47, 3, 147, 3, .int 0, [], [549, 85, 504, 503]),
  (100, .ireturn, 1, 0, 0, .long 0, [], []),
  (101, .iload_n 3, 1, 3, 0, .null, [], []),
  (102, .iconst 0, 1, 0, 0, .int 0, [], []),
  (103, .iconst 4, 1, 0, 0, .int 4, [], []),
  (104, .invokestatic 47, 3, 147, 3, .int 0, [], [549, 85, 504, 503]),
  (107, .ireturn, 1, 0, 0, .long 0, [], []),
  (108, .iload_n 3, 1, 3, 0, .null, [], []),
  (109, .iconst 1, 1, 0, 0, .int 1, [], []),
  (110, .bipush 99, 2, 0, 0, .int 99, [], []),
  (112, .invokestatic 47, 3, 147, 3, .int 0, [], [549, 85, 504, 503]),
  (115, .ireturn, 1, 0, 0, .long 0, [], []),
  (116, .iconst 0, 1, 0, 0, .int 0, [], []),
  (117, .ireturn, 1, 0, 0, .long 0, [], [])],
  [(22, [true, true, true, true])], 4)
/-- 19: LeastPays$Guests.told(II)I -/
def kX2_told : j_K := ([
  (0, .iload_n 2, 1, 2, 0, .null, [], []),
  (1, .tableswitch 77 0 5 #[39, 46, 53, 60, 67, 72], 39, 78, 0, .null, [(0, 40), (1, 47), (2, 54), (3, 61), (4, 68), (5, 73)], []),
  (40, .aload_n 0, 1, 0, 0, .null, [], []),
  (41, .getfield 9, 3, 2, 0, .null, [], [114]),
  (44, .iload_n 1, 1, 1, 0, .null, [], []),
  (45, .iaload, 1, 0, 0, .null, [], []),
  (46, .ireturn, 1, 0, 0, .int 0, [], []),
  (47, .aload_n 0, 1, 0, 0, .null, [], []),
  (48, .getfield 15, 3, 2, 1, .null, [], [118]),
  (51, .iload_n 1, 1, 1, 0, .null, [], []),
  (52, .iaload, 1, 0, 0, .null, [], []),
  (53, .ireturn, 1, 0, 0, .int 0, [], []),
  (54, .aload_n 0, 1, 0, 0, .null, [], []),
  (55, .getfield 18, 3, 2, 2, .null, [], [124]),
  (58, .iload_n 1, 1, 1, 0, .null, [], []),
  (59, .iaload, 1, 0, 0, .null, [], []),
  (60, .ireturn, 1, 0, 0, .int 0, [], []),
  (61, .aload_n 0, 1, 0, 0, .null, [], []),
  (62, .getfield 21, 3, 2, 3, .null, [], [128]),
  (65, .iload_n 1, 1, 1, 0, .null, [], []),
  (66, .iaload, 1, 0, 0, .null, [], []),
  (67, .ireturn, 1, 0, 0, .int 0, [], []),
  (68, .aload_n 0, 1, 0, 0, .null, [], []),
  (69, .getfield 30, 3, 2, 7, .int 0, [], [146]),
  (72, .ireturn, 1, 0, 0, .int 0, [], []),
  (73, .aload_n 0, 1, 0, 0, .null, [], []),
  (74, .getfield 34, 3, 2, 8, .int 0, [], [149]),
  (77, .ireturn, 1, 0, 0, .int 0, [], []),
  (78, .aload_n 0, 1, 0, 0, .null, [], []),
  (79, .getfield 37, 3, 2, 9, .int 0, [], [153]),
  (82, .ireturn, 1, 0, 0, .int 0, [], [])],
  [], 3)
/-- 20: LeastPays$Guests.tell(III)V -/
def kX2_tell : j_K := ([
  (0, .iload_n 2, 1, 2, 0, .null, [], []),
  (1, .tableswitch 95 0 5 #[39, 49, 59, 69, 79, 87], 39, 96, 0, .null, [(0, 40), (1, 50), (2, 60), (3, 70), (4, 80), (5, 88)], []),
  (40, .aload_n 0, 1, 0, 0, .null, [], []),
  (41, .getfield 9, 3, 2, 0, .null, [], [114]),
  (44, .iload_n 1, 1, 1, 0, .null, [], []),
  (45, .iload_n 3, 1, 3, 0, .null, [], []),
  (46, .iastore, 1, 0, 0, .null, [], []),
  (47, .goto 54, 3, 101, 0, .null, [], []),
  (50, .aload_n 0, 1, 0, 0, .null, [], []),
  (51, .getfield 15, 3, 2, 1, .null, [], [118]),
  (54, .iload_n 1, 1, 1, 0, .null, [], []),
  (55, .iload_n 3, 1, 3, 0, .null, [], []),
  (56, .iastore, 1, 0, 0, .null, [], []),
  (57, .goto 44, 3, 101, 0, .null, [], []),
  (60, .aload_n 0, 1, 0, 0, .null, [], []),
  (61, .getfield 18, 3, 2, 2, .null, [], [124]),
  (64, .iload_n 1, 1, 1, 0, .null, [], []),
  (65, .iload_n 3, 1, 3, 0, .null, [], []),
  (66, .iastore, 1, 0, 0, .null, [], []),
  (67, .goto 34, 3, 101, 0, .null, [], []),
  (70, .aload_n 0, 1, 0, 0, .null, [], []),
  (71, .getfield 21, 3, 2, 3, .null, [], [128]),
  (74, .iload_n 1, 1, 1, 0, .null, [], []),
  (75, .iload_n 3, 1, 3, 0, .null, [], []),
  (76, .iastore, 1, 0, 0, .null, [], []),
  (77, .goto 24, 3, 101, 0, .null, [], []),
  (80, .aload_n 0, 1, 0, 0, .null, [], []),
  (81, .iload_n 3, 1, 3, 0, .null, [], []),
  (82, .putfield 30, 3, 2, 7, .int 0, [], [146]),
  (85, .goto 16, 3, 101, 0, .null, [], []),
  (88, .aload_n 0, 1, 0, 0, .null, [], []),
  (89, .iload_n 3, 1, 3, 0, .null, [], []),
  (90, .putfield 34, 3, 2, 8, .int 0, [], [149]),
  (93, .goto 8, 3, 101, 0, .null, [], []),
  (96, .aload_n 0, 1, 0, 0, .null, [], []),
  (97, .iload_n 3, 1, 3, 0, .null, [], []),
  (98, .putfield 37, 3, 2, 9, .int 0, [], [153]),
  (101, .return_, 1, 0, 0, .null, [], [])],
  [], 4)
/-- 21: LeastPays$Hat.<init>()V -/
def kX3_init : j_K := ([
  (0, .aload_n 0, 1, 0, 0, .null, [], []),
  (1, .invokespecial 3, 3, 999, 0, .null, [], [193, 106, 107]),
  (4, .aload_n 0, 1, 0, 0, .null, [], []),
  (5, .bipush 7, 2, 0, 0, .int 7, [], []),
  (7, .newarray .int, 2, 0, 0, .int 0, [], [187]),
  (9, .putfield 9, 3, 3, 0, .null, [], [194]),
  (12, .return_, 1, 0, 0, .null, [], [])],
  [], 1)
/-- 22: LeastPays$Hat.lay(LLeastPays$Guests;)V -/
def kX3_lay : j_K := ([
  (0, .aload_n 0, 1, 0, 0, .null, [], []),
  (1, .aload_n 1, 1, 1, 0, .null, [], []),
  (2, .getfield 15, 3, 2, 6, .int 0, [], [138]),
  (5, .putfield 21, 3, 3, 1, .int 0, [], [198]),
  (8, .aload_n 0, 1, 0, 0, .null, [], []),
  (9, .aload_n 1, 1, 1, 0, .null, [], []),
  (10, .getfield 22, 3, 2, 8, .int 0, [], [150]),
  (13, .putfield 25, 3, 3, 2, .int 0, [], [200]),
  (16, .aload_n 0, 1, 0, 0, .null, [], []),
  (17, .aload_n 1, 1, 1, 0, .null, [], []),
  (18, .getfield 26, 3, 2, 7, .int 0, [], [147]),
  (21, .putfield 29, 3, 3, 3, .int 0, [], [202]),
  (24, .aload_n 1, 1, 1, 0, .null, [], []),
  (25, .getfield 30, 3, 2, 1, .null, [], [119]),
  (28, .iconst 0, 1, 0, 0, .int 0, [], []),
  (29, .aload_n 0, 1, 0, 0, .null, [], []),
  (30, .getfield 9, 3, 3, 0, .null, [], [194]),
  (33, .iconst 0, 1, 0, 0, .int 0, [], []),
  (34, .aload_n 0, 1, 0, 0, .null, [], []),
  (35, .getfield 21, 3, 3, 1, .int 0, [], [198]),
  (38, .invokestatic 33, 3, 1000, 5, .null, [], [581, 568, 567, 97]),
  (41, .aload_n 0, 1, 0, 0, .null, [], []),
  (42, .invokevirtual 39, 6, 24, 0, .null, [], [582, 87, 585, 583, 584]),
  (45, .return_, 1, 0, 0, .null, [], [])],
  [], 2)
/-- 23: LeastPays$Hat.join(I)V -/
def kX3_join : j_K := ([
  (0, .aload_n 0, 1, 0, 0, .null, [], []),
  (1, .getfield 21, 3, 3, 1, .int 0, [], [198]),
  (4, .aload_n 0, 1, 0, 0, .null, [], []),
  (5, .getfield 9, 3, 3, 0, .null, [], [194]),
  (8, .arraylength, 1, 0, 0, .null, [], []),
  (9, .if_icmp .ge 27, 3, 36, 0, .null, [], []),
  (12, .aload_n 0, 1, 0, 0, .null, [], []),
  (13, .getfield 9, 3, 3, 0, .null, [], [194]),
  (16, .aload_n 0, 1, 0, 0, .null, [], []),
  (17, .getfield 21, 3, 3, 1, .int 0, [], [198]),
  (20, .iload_n 1, 1, 1, 0, .null, [], []),
  (21, .iastore, 1, 0, 0, .null, [], []),
  (22, .aload_n 0, 1, 0, 0, .null, [], []),
  (23, .dup, 1, 0, 0, .null, [], []),
  (24, .getfield 21, 3, 3, 1, .int 0, [], [198]),
  (27, .iconst 1, 1, 0, 0, .int 1, [], []),
  (28, .iadd, 1, 0, 0, .null, [], []),
  (29, .putfield 21, 3, 3, 1, .int 0, [], [198]),
  (32, .aload_n 0, 1, 0, 0, .null, [], []),
  (33, .invokevirtual 39, 6, 24, 0, .null, [], [582, 87, 585, 583, 584]),
  (36, .return_, 1, 0, 0, .null, [], [])],
  [], 2)
/-- 24: LeastPays$Hat.weigh()V -/
def kX3_weigh : j_K := ([
  (0, .aload_n 0, 1, 0, 0, .null, [], []),
  (1, .iconst 0, 1, 0, 0, .int 0, [], []),
  (2, .putfield 42, 3, 3, 4, .int 0, [], [203]),
  (5, .aload_n 0, 1, 0, 0, .null, [], []),
  (6, .iconst (-1), 1, 0, 0, .int (-1), [], []),
  (7, .putfield 45, 3, 3, 7, .int 0, [], [209]),
  (10, .aload_n 0, 1, 0, 0, .null, [], []),
  (11, .iconst (-1), 1, 0, 0, .int (-1), [], []),
  (12, .putfield 48, 3, 3, 8, .int 0, [], [210]),
  (15, .aload_n 0, 1, 0, 0, .null, [], []),
  (16, .iconst (-1), 1, 0, 0, .int (-1), [], []),
  (17, .putfield 51, 3, 3, 9, .int 0, [], [211]),
  (20, .aload_n 0, 1, 0, 0, .null, [], []),
  (21, .iconst 0, 1, 0, 0, .int 0, [], []),
  (22, .putfield 54, 3, 3, 10, .int 0, [], [212]),
  (25, .iconst 0, 1, 0, 0, .int 0, [], []),
  (26, .istore_n 1, 1, 1, 0, .null, [], []),
  (27, .iload_n 1, 1, 1, 0, .null, [], []),
  (28, .aload_n 0, 1, 0, 0, .null, [], []),
  (29, .getfield 21, 3, 3, 1, .int 0, [], [198]),
  (32, .if_icmp .ge 151, 3, 183, 0, .null, [], []),
  (35, .aload_n 0, 1, 0, 0, .null, [], []),
  (36, .getfield 9, 3, 3, 0, .null, [], [194]),
  (39, .iload_n 1, 1, 1, 0, .null, [], []),
  (40, .iaload, 1, 0, 0, .null, [], []),
  (41, .istore_n 2, 1, 2, 0, .null, [], []),
  (42, .aload_n 0, 1, 0, 0, .null, [], []),
  (43, .dup, 1, 0, 0, .null, [], []),
  (44, .getfield 42, 3, 3, 4, .int 0, [], [203]),
  (47, .iload_n 2, 1, 2, 0, .null, [], []),
  (48, .iadd, 1, 0, 0, .null, [], []),
  (49, .putfield 42, 3, 3, 4, .int 0, [], [203]),
  (52, .aload_n 0, 1, 0, 0, .null, [], []),
  (53, .getfield 51, 3, 3, 9, .int 0, [], [211]),
  (56, .ifCond .lt 16, 3, 72, 0, .null, [], []),
  (59, .iload_n 2, 1, 2, 0, .null, [], []),
  (60, .aload_n 0, 1, 0, 0, .null, [], []),
  (61, .getfield 9, 3, 3, 0, .null, [], [194]),
  (64, .aload_n 0, 1, 0, 0, .null, [], []),
  (65, .getfield 51, 3, 3, 9, .int 0, [], [211]),
  (68, .iaload, 1, 0, 0, .null, [], []),
  (69, .if_icmp .le 8, 3, 77, 0, .null, [], []),
  (72, .aload_n 0, 1, 0, 0, .null, [], []),
  (73, .iload_n 1, 1, 1, 0, .null, [], []),
  (74, .putfield 51, 3, 3, 9, .int 0, [], [211]),
  (77, .aload_n 0, 1, 0, 0, .null, [], []),
  (78, .getfield 45, 3, 3, 7, .int 0, [], [209]),
  (81, .ifCond .lt 16, 3, 97, 0, .null, [], []),
  (84, .iload_n 2, 1, 2, 0, .null, [], []),
  (85, .aload_n 0, 1, 0, 0, .null, [], []),
  (86, .getfield 9, 3, 3, 0, .null, [], [194]),
  (89, .aload_n 0, 1, 0, 0, .null, [], []),
  (90, .getfield 45, 3, 3, 7, .int 0, [], [209]),
  (93, .iaload, 1, 0, 0, .null, [], []),
  (94, .if_icmp .ge 24, 3, 118, 0, .null, [], []),
  (97, .aload_n 0, 1, 0, 0, .null, [], []),
  (98, .aload_n 0, 1, 0, 0, .null, [], []),
  (99, .getfield 45, 3, 3, 7, .int 0, [], [209]),
  (102, .putfield 48, 3, 3, 8, .int 0, [], [210]),
  (105, .aload_n 0, 1, 0, 0, .null, [], []),
  (106, .iload_n 1, 1, 1, 0, .null, [], []),
  (107, .putfield 45, 3, 3, 7, .int 0, [], [209]),
  (110, .aload_n 0, 1, 0, 0, .null, [], []),
  (111, .iconst 1, 1, 0, 0, .int 1, [], []),
  (112, .putfield 54, 3, 3, 10, .int 0, [], [212]),
  (115, .goto 62, 3, 177, 0, .null, [], []),
  (118, .aload_n 0, 1, 0, 0, .null, [], []),
  (119, .dup, 1, 0, 0, .null, [], []),
  (120, .getfield 54, 3, 3, 10, .int 0, [], [212]),
  (123, .iload_n 2, 1, 2, 0, .null, [], []),
  (124, .aload_n 0, 1, 0, 0, .null, [], []),
  (125, .getfield 9, 3, 3, 0, .null, [], [194]),
  (128, .aload_n 0, 1, 0, 0, .null, [], []),
  (129, .getfield 45, 3, 3, 7, .int 0, [], [209]),
  (132, .iaload, 1, 0, 0, .null, [], []),
  (133, .if_icmp .ne 7, 3, 140, 0, .null, [], []),
  (136, .iconst 1, 1, 0, 0, .int 1, [], []),
  (137, .goto 4, 3, 141, 0, .null, [], []),
  (140, .iconst 0, 1, 0, 0, .int 0, [], []),
  (141, .iadd, 1, 0, 0, .null, [], []),
  (142, .putfield 54, 3, 3, 10, .int 0, [], [212]),
  (145, .aload_n 0, 1, 0, 0, .null, [], []),
  (146, .aload_n 0, 1, 0, 0, .null, [], []),
  (147, .getfield 48, 3, 3, 8, .int 0, [], [210]),
  (150, .ifCond .lt 16, 3, 166, 0, .null, [], []),
  (153, .iload_n 2, 1, 2, 0, .null, [], []),
  (154, .aload_n 0, 1, 0, 0, .null, [], []),
  (155, .getfield 9, 3, 3, 0, .null, [], [194]),
  (158, .aload_n 0, 1, 0, 0, .null, [], []),
  (159, .getfield 48, 3, 3, 8, .int 0, [], [210]),
  (162, .iaload, 1, 0, 0, .null, [], []),
  (163, .if_icmp .ge 7, 3, 170, 0, .null, [], []),
  (166, .iload_n 1, 1, 1, 0, .null, [], []),
  (167, .goto 7, 3, 174, 0, .null, [], []),
  (170, .aload_n 0, 1, 0, 0, .null, [], []),
  (171, .getfield 48, 3, 3, 8, .int 0, [], [210]),
  (174, .putfield 48, 3, 3, 8, .int 0, [], [210]),
  (177, .iinc 1 1, 3, 1, 0, .int 1, [], []),
  (180, .goto (-153), 3, 27, 0, .null, [], []),
  (183, .aload_n 0, 1, 0, 0, .null, [], []),
  (184, .aload_n 0, 1, 0, 0, .null, [], []),
  (185, .getfield 29, 3, 3, 3, .int 0, [], [202]),
  (188, .invokevirtual 57, 6, 25, 1, .null, [], [586, 87, 589, 587, 588]),
  (191, .return_, 1, 0, 0, .null, [], [])],
  [(27, [true, true, false]), (77, [true, true, true]), (141, [true, true, true])], 3)
/-- 25: LeastPays$Hat.charge(I)V -/
def kX3_charge : j_K := ([
  (0, .aload_n 0, 1, 0, 0, .null, [], []),
  (1, .iload_n 1, 1, 1, 0, .null, [], []),
  (2, .putfield 29, 3, 3, 3, .int 0, [], [202]),
  (5, .aload_n 0, 1, 0, 0, .null, [], []),
  (6, .aload_n 0, 1, 0, 0, .null, [], []),
  (7, .getfield 29, 3, 3, 3, .int 0, [], [202]),
  (10, .aload_n 0, 1, 0, 0, .null, [], []),
  (11, .getfield 42, 3, 3, 4, .int 0, [], [203]),
  (14, .isub, 1, 0, 0, .null, [], []),
  (15, .iconst 0, 1, 0, 0, .int 0, [], []),
  (16, .invokestatic 61, 3, 1001, 2, .null, [], [590, 591, 98, 592]),
  (19, .putfield 67, 3, 3, 5, .int 0, [], [205]),
  (22, .aload_n 0, 1, 0, 0, .null, [], []),
  (23, .aload_n 0, 1, 0, 0, .null, [], []),
  (24, .getfield 42, 3, 3, 4, .int 0, [], [203]),
  (27, .aload_n 0, 1, 0, 0, .null, [], []),
  (28, .getfield 29, 3, 3, 3, .int 0, [], [202]),
  (31, .isub, 1, 0, 0, .null, [], []),
  (32, .iconst 0, 1, 0, 0, .int 0, [], []),
  (33, .invokestatic 61, 3, 1001, 2, .null, [], [590, 591, 98, 592]),
  (36, .putfield 70, 3, 3, 6, .int 0, [], [207]),
  (39, .return_, 1, 0, 0, .null, [], [])],
  [], 2)
/-- 26: LeastPays$Hat.cost(I)I -/
def kX3_cost : j_K := ([
  (0, .aload_n 0, 1, 0, 0, .null, [], []),
  (1, .getfield 9, 3, 3, 0, .null, [], [194]),
  (4, .iload_n 1, 1, 1, 0, .null, [], []),
  (5, .iaload, 1, 0, 0, .null, [], []),
  (6, .aload_n 0, 1, 0, 0, .null, [], []),
  (7, .iload_n 1, 1, 1, 0, .null, [], []),
  (8, .invokevirtual 73, 6, 27, 1, .int 0, [], [603, 87, 606, 604, 605]),
  (11, .iadd, 1, 0, 0, .null, [], []),
  (12, .aload_n 0, 1, 0, 0, .null, [], []),
  (13, .iload_n 1, 1, 1, 0, .null, [], []),
  (14, .invokevirtual 77, 6, 30, 1, .int 0, [], [615, 87, 618, 617, 6]),
  (17, .isub, 1, 0, 0, .null, [], []),
  (18, .ireturn, 1, 0, 0, .int 0, [], [])],
  [], 2)
/-- 27: LeastPays$Hat.besides(I)I -/
def kX3_besides : j_K := ([
  (0, .aload_n 0, 1, 0, 0, .null, [], []),
  (1, .getfield 25, 3, 3, 2, .int 0, [], [200]),
  (4, .tableswitch 68 0 3 #[32, 68, 38, 44], 32, 72, 0, .null, [(0, 36), (1, 72), (2, 42), (3, 48)], []),
  (36, .aload_n 0, 1, 0, 0, .null, [], []),
  (37, .iload_n 1, 1, 1, 0, .null, [], []),
  (38, .invokevirtual 80, 6, 28, 1, .int 0, [], [607, 87, 610, 609, 4]),
  (41, .ireturn, 1, 0, 0, .int 0, [], []),
  (42, .aload_n 0, 1, 0, 0, .null, [], []),
  (43, .iload_n 1, 1, 1, 0, .null, [], []),
  (44, .invokevirtual 83, 6, 29, 1, .int 0, [], [611, 87, 614, 613, 5]),
  (47, .ireturn, 1, 0, 0, .int 0, [], []),
  (48, .iload_n 1, 1, 1, 0, .null, [], []),
  (49, .aload_n 0, 1, 0, 0, .null, [], []),
  (50, .getfield 45, 3, 3, 7, .int 0, [], [209]),
  (53, .if_icmp .ne 17, 3, 70, 0, .null, [], []),
  (56, .aload_n 0, 1, 0, 0, .null, [], []),
  (57, .getfield 67, 3, 3, 5, .int 0, [], [205]),
  (60, .aload_n 0, 1, 0, 0, .null, [], []),
  (61, .getfield 9, 3, 3, 0, .null, [], [194]),
  (64, .iload_n 1, 1, 1, 0, .null, [], []),
  (65, .iaload, 1, 0, 0, .null, [], []),
  (66, .iadd, 1, 0, 0, .null, [], []),
  (67, .goto 4, 3, 71, 0, .null, [], []),
  (70, .iconst 0, 1, 0, 0, .int 0, [], []),
  (71, .ireturn, 1, 0, 0, .int 0, [], []),
  (72, .iload_n 1, 1, 1, 0, .null, [], []),
  (73, .aload_n 0, 1, 0, 0, .null, [], []),
  (74, .getfield 45, 3, 3, 7, .int 0, [], [209]),
  (77, .if_icmp .ne 10, 3, 87, 0, .null, [], []),
  (80, .aload_n 0, 1, 0, 0, .null, [], []),
  (81, .getfield 67, 3, 3, 5, .int 0, [], [205]),
  (84, .goto 4, 3, 88, 0, .null, [], []),
  (87, .iconst 0, 1, 0, 0, .int 0, [], []),
  (88, .ireturn, 1, 0, 0, .int 0, [], [])],
  [], 2)
/-- 28: LeastPays$Hat.partAmongAlike(I)I -/
def kX3_partAmongAlike : j_K := ([
  (0, .aload_n 0, 1, 0, 0, .null, [], []),
  (1, .getfield 54, 3, 3, 10, .int 0, [], [212]),
  (4, .ifCond .eq 21, 3, 25, 0, .null, [], []),
  (7, .aload_n 0, 1, 0, 0, .null, [], []),
  (8, .getfield 9, 3, 3, 0, .null, [], [194]),
  (11, .iload_n 1, 1, 1, 0, .null, [], []),
  (12, .iaload, 1, 0, 0, .null, [], []),
  (13, .aload_n 0, 1, 0, 0, .null, [], []),
  (14, .getfield 9, 3, 3, 0, .null, [], [194]),
  (17, .aload_n 0, 1, 0, 0, .null, [], []),
  (18, .getfield 45, 3, 3, 7, .int 0, [], [209]),
  (21, .iaload, 1, 0, 0, .null, [], []),
  (22, .if_icmp .eq 5, 3, 27, 0, .null, [], []),
  (25, .iconst 0, 1, 0, 0, .int 0, [], []),
  (26, .ireturn, 1, 0, 0, .int 0, [], []),
  (27, .iconst 0, 1, 0, 0, .int 0, [], []),
  (28, .istore_n 2, 1, 2, 0, .null, [], []),
  (29, .aload_n 0, 1, 0, 0, .null, [], []),
  (30, .getfield 45, 3, 3, 7, .int 0, [], [209]),
  (33, .istore_n 3, 1, 3, 0, .null, [], []),
  (34, .iload_n 3, 1, 3, 0, .null, [], []),
  (35, .iload_n 1, 1, 1, 0, .null, [], []),
  (36, .if_icmp .ge 35, 3, 71, 0, .null, [], []),
  (39, .iload_n 2, 1, 2, 0, .null, [], []),
  (40, .aload_n 0, 1, 0, 0, .null, [], []),
  (41, .getfield 9, 3, 3, 0, .null, [], [194]),
  (44, .iload_n 3, 1, 3, 0, .null, [], []),
  (45, .iaload, 1, 0, 0, .null, [], []),
  (46, .aload_n 0, 1, 0, 0, .null, [], []),
  (47, .getfield 9, 3, 3, 0, .null, [], [194]),
  (50, .aload_n 0, 1, 0, 0, .null, [], []),
  (51, .getfield 45, 3, 3, 7, .int 0, [], [209]),
  (54, .iaload, 1, 0, 0, .null, [], []),
  (55, .if_icmp .ne 7, 3, 62, 0, .null, [], []),
  (58, .iconst 1, 1, 0, 0, .int 1, [], []),
  (59, .goto 4, 3, 63, 0, .null, [], []),
  (62, .iconst 0, 1, 0, 0, .int 0, [], []),
  (63, .iadd, 1, 0, 0, .null, [], []),
  (64, .istore_n 2, 1, 2, 0, .null, [], []),
  (65, .iinc 3 1, 3, 3, 0, .int 1, [], []),
  (68, .goto (-34), 3, 34, 0, .null, [], []),
  (71, .aload_n 0, 1, 0, 0, .null, [], []),
  (72, .getfield 67, 3, 3, 5, .int 0, [], [205]),
  (75, .aload_n 0, 1, 0, 0, .null, [], []),
  (76, .getfield 54, 3, 3, 10, .int 0, [], [212]),
  (79, .idiv, 1, 0, 0, .null, [], []),
  (80, .iload_n 2, 1, 2, 0, .null, [], []),
  (81, .aload_n 0, 1, 0, 0, .null, [], []),
  (82, .getfield 67, 3, 3, 5, .int 0, [], [205]),
  (85, .aload_n 0, 1, 0, 0, .null, [], []),
  (86, .getfield 54, 3, 3, 10, .int 0, [], [212]),
  (89, .irem, 1, 0, 0, .null, [], []),
  (90, .if_icmp .ge 7, 3, 97, 0, .null, [], []),
  (93, .iconst 1, 1, 0, 0, .int 1, [], []),
  (94, .goto 4, 3, 98, 0, .null, [], []),
  (97, .iconst 0, 1, 0, 0, .int 0, [], []),
  (98, .iadd, 1, 0, 0, .null, [], []),
  (99, .ireturn, 1, 0, 0, .int 0, [], [])],
  [(34, [true, true, true, true])], 4)
/-- 29: LeastPays$Hat.partOfTwo(I)I -/
def kX3_partOfTwo : j_K := ([
  (0, .aload_n 0, 1, 0, 0, .null, [], []),
  (1, .getfield 48, 3, 3, 8, .int 0, [], [210]),
  (4, .ifCond .ge 7, 3, 11, 0, .null, [], []),
  (7, .iconst 0, 1, 0, 0, .int 0, [], []),
  (8, .goto 9, 3, 17, 0, .null, [], []),
  (11, .aload_n 0, 1, 0, 0, .null, [], []),
  (12, .getfield 67, 3, 3, 5, .int 0, [], [205]),
  (15, .iconst 2, 1, 0, 0, .int 2, [], []),
  (16, .idiv, 1, 0, 0, .null, [], []),
  (17, .istore_n 2, 1, 2, 0, .null, [], []),
  (18, .iload_n 1, 1, 1, 0, .null, [], []),
  (19, .aload_n 0, 1, 0, 0, .null, [], []),
  (20, .getfield 45, 3, 3, 7, .int 0, [], [209]),
  (23, .if_icmp .ne 10, 3, 33, 0, .null, [], []),
  (26, .aload_n 0, 1, 0, 0, .null, [], []),
  (27, .getfield 67, 3, 3, 5, .int 0, [], [205]),
  (30, .iload_n 2, 1, 2, 0, .null, [], []),
  (31, .isub, 1, 0, 0, .null, [], []),
  (32, .ireturn, 1, 0, 0, .int 0, [], []),
  (33, .iload_n 1, 1, 1, 0, .null, [], []),
  (34, .aload_n 0, 1, 0, 0, .null, [], []),
  (35, .getfield 48, 3, 3, 8, .int 0, [], [210]),
  (38, .if_icmp .ne 7, 3, 45, 0, .null, [], []),
  (41, .iload_n 2, 1, 2, 0, .null, [], []),
  (42, .goto 4, 3, 46, 0, .null, [], []),
  (45, .iconst 0, 1, 0, 0, .int 0, [], []),
  (46, .ireturn, 1, 0, 0, .int 0, [], [])],
  [], 3)
/-- 30: LeastPays$Hat.givenBack(I)I -/
def kX3_givenBack : j_K := ([
  (0, .aload_n 0, 1, 0, 0, .null, [], []),
  (1, .getfield 25, 3, 3, 2, .int 0, [], [200]),
  (4, .iconst 4, 1, 0, 0, .int 4, [], []),
  (5, .if_icmp .ne 27, 3, 32, 0, .null, [], []),
  (8, .iload_n 1, 1, 1, 0, .null, [], []),
  (9, .aload_n 0, 1, 0, 0, .null, [], []),
  (10, .getfield 51, 3, 3, 9, .int 0, [], [211]),
  (13, .if_icmp .ne 19, 3, 32, 0, .null, [], []),
  (16, .aload_n 0, 1, 0, 0, .null, [], []),
  (17, .getfield 70, 3, 3, 6, .int 0, [], [207]),
  (20, .aload_n 0, 1, 0, 0, .null, [], []),
  (21, .getfield 9, 3, 3, 0, .null, [], [194]),
  (24, .iload_n 1, 1, 1, 0, .null, [], []),
  (25, .iaload, 1, 0, 0, .null, [], []),
  (26, .invokestatic 86, 3, 1002, 2, .null, [], [619, 620, 98, 621]),
  (29, .goto 4, 3, 33, 0, .null, [], []),
  (32, .iconst 0, 1, 0, 0, .int 0, [], []),
  (33, .ireturn, 1, 0, 0, .int 0, [], [])],
  [], 2)
/-- 31: LeastPays$Hat.intoChest()I -/
def kX3_intoChest : j_K := ([
  (0, .aload_n 0, 1, 0, 0, .null, [], []),
  (1, .getfield 25, 3, 3, 2, .int 0, [], [200]),
  (4, .iconst 4, 1, 0, 0, .int 4, [], []),
  (5, .if_icmp .ne 31, 3, 36, 0, .null, [], []),
  (8, .aload_n 0, 1, 0, 0, .null, [], []),
  (9, .getfield 51, 3, 3, 9, .int 0, [], [211]),
  (12, .ifCond .ge 10, 3, 22, 0, .null, [], []),
  (15, .aload_n 0, 1, 0, 0, .null, [], []),
  (16, .getfield 70, 3, 3, 6, .int 0, [], [207]),
  (19, .goto 16, 3, 35, 0, .null, [], []),
  (22, .aload_n 0, 1, 0, 0, .null, [], []),
  (23, .getfield 70, 3, 3, 6, .int 0, [], [207]),
  (26, .aload_n 0, 1, 0, 0, .null, [], []),
  (27, .aload_n 0, 1, 0, 0, .null, [], []),
  (28, .getfield 51, 3, 3, 9, .int 0, [], [211]),
  (31, .invokevirtual 77, 6, 30, 1, .int 0, [], [615, 87, 618, 617, 6]),
  (34, .isub, 1, 0, 0, .null, [], []),
  (35, .ireturn, 1, 0, 0, .int 0, [], []),
  (36, .aload_n 0, 1, 0, 0, .null, [], []),
  (37, .getfield 25, 3, 3, 2, .int 0, [], [200]),
  (40, .iconst 3, 1, 0, 0, .int 3, [], []),
  (41, .if_icmp .ne 27, 3, 68, 0, .null, [], []),
  (44, .aload_n 0, 1, 0, 0, .null, [], []),
  (45, .getfield 45, 3, 3, 7, .int 0, [], [209]),
  (48, .ifCond .lt 20, 3, 68, 0, .null, [], []),
  (51, .aload_n 0, 1, 0, 0, .null, [], []),
  (52, .getfield 70, 3, 3, 6, .int 0, [], [207]),
  (55, .aload_n 0, 1, 0, 0, .null, [], []),
  (56, .getfield 9, 3, 3, 0, .null, [], [194]),
  (59, .aload_n 0, 1, 0, 0, .null, [], []),
  (60, .getfield 45, 3, 3, 7, .int 0, [], [209]),
  (63, .iaload, 1, 0, 0, .null, [], []),
  (64, .iadd, 1, 0, 0, .null, [], []),
  (65, .goto 7, 3, 72, 0, .null, [], []),
  (68, .aload_n 0, 1, 0, 0, .null, [], []),
  (69, .getfield 70, 3, 3, 6, .int 0, [], [207]),
  (72, .ireturn, 1, 0, 0, .int 0, [], [])],
  [], 1)
/-- 32: LeastPays$Law.<init>()V -/
def kX4_init : j_K := ([
  (0, .aload_n 0, 1, 0, 0, .null, [], []),
  (1, .invokespecial 3, 3, 999, 0, .null, [], [297, 106, 107]),
  (4, .aload_n 0, 1, 0, 0, .null, [], []),
  (5, .bipush 120, 2, 0, 0, .int 120, [], []),
  (7, .newarray .int, 2, 0, 0, .int 0, [], [187]),
  (9, .putfield 11, 3, 4, 0, .null, [], [298]),
  (12, .aload_n 0, 1, 0, 0, .null, [], []),
  (13, .bipush 122, 2, 0, 0, .int 122, [], []),
  (15, .newarray .int, 2, 0, 0, .int 0, [], [187]),
  (17, .putfield 15, 3, 4, 1, .null, [], [299]),
  (20, .aload_n 0, 1, 0, 0, .null, [], []),
  (21, .bipush 122, 2, 0, 0, .int 122, [], []),
  (23, .newarray .int, 2, 0, 0, .int 0, [], [187]),
  (25, .putfield 18, 3, 4, 2, .null, [], [300]),
  (28, .aload_n 0, 1, 0, 0, .null, [], []),
  (29, .bipush 122, 2, 0, 0, .int 122, [], []),
  (31, .newarray .int, 2, 0, 0, .int 0, [], [187]),
  (33, .putfield 21, 3, 4, 3, .null, [], [301]),
  (36, .return_, 1, 0, 0, .null, [], [])],
  [], 1)
/-- 33: LeastPays$Law.add(I)I -/
def kX4_add : j_K := ([
  (0, .aload_n 0, 1, 0, 0, .null, [], []),
  (1, .getfield 24, 3, 4, 4, .int 0, [], [302]),
  (4, .bipush 120, 2, 0, 0, .int 120, [], []),
  (6, .if_icmp .lt 6, 3, 12, 0, .null, [], []),
  (9, .bipush (-3), 2, 0, 0, .int (-3), [], []),
  (11, .ireturn, 1, 0, 0, .int 0, [], []),
  (12, .aload_n 0, 1, 0, 0, .null, [], []),
  (13, .getfield 11, 3, 4, 0, .null, [], [298]),
  (16, .aload_n 0, 1, 0, 0, .null, [], []),
  (17, .getfield 24, 3, 4, 4, .int 0, [], [302]),
  (20, .iload_n 1, 1, 1, 0, .null, [], []),
  (21, .iastore, 1, 0, 0, .null, [], []),
  (22, .aload_n 0, 1, 0, 0, .null, [], []),
  (23, .dup, 1, 0, 0, .null, [], []),
  (24, .getfield 24, 3, 4, 4, .int 0, [], [302]),
  (27, .iconst 1, 1, 0, 0, .int 1, [], []),
  (28, .iadd, 1, 0, 0, .null, [], []),
  (29, .putfield 24, 3, 4, 4, .int 0, [], [302]),
  (32, .aload_n 0, 1, 0, 0, .null, [], []),
  (33, .getfield 24, 3, 4, 4, .int 0, [], [302]),
  (36, .ireturn, 1, 0, 0, .int 0, [], [])],
  [], 2)
/-- 34: LeastPays$Law.enact()I -/
def kX4_enact : j_K := ([
  (0, .aload_n 0, 1, 0, 0, .null, [], []),
  (1, .invokevirtual 28, 7, 35, 0, .null, [], [642, 90, 645, 644, 7]),
  (4, .aload_n 0, 1, 0, 0, .null, [], []),
  (5, .iconst 0, 1, 0, 0, .int 0, [], []),
  (6, .putfield 24, 3, 4, 4, .int 0, [], [302]),
  (9, .aload_n 0, 1, 0, 0, .null, [], []),
  (10, .getfield 31, 3, 4, 6, .int 0, [], [305]),
  (13, .iconst (-1), 1, 0, 0, .int (-1), [], []),
  (14, .if_icmp .eq 11, 3, 25, 0, .null, [], []),
  (17, .bipush (-100), 2, 0, 0, .int (-100), [], []),
  (19, .aload_n 0, 1, 0, 0, .null, [], []),
  (20, .getfield 31, 3, 4, 6, .int 0, [], [305]),
  (23, .isub, 1, 0, 0, .null, [], []),
  (24, .ireturn, 1, 0, 0, .int 0, [], []),
  (25, .aload_n 0, 1, 0, 0, .null, [], []),
  (26, .getfield 15, 3, 4, 1, .null, [], [299]),
  (29, .iconst 0, 1, 0, 0, .int 0, [], []),
  (30, .aload_n 0, 1, 0, 0, .null, [], []),
  (31, .getfield 18, 3, 4, 2, .null, [], [300]),
  (34, .iconst 0, 1, 0, 0, .int 0, [], []),
  (35, .aload_n 0, 1, 0, 0, .null, [], []),
  (36, .getfield 34, 3, 4, 7, .int 0, [], [306]),
  (39, .invokestatic 37, 3, 1000, 5, .null, [], [708, 568, 567, 97]),
  (42, .aload_n 0, 1, 0, 0, .null, [], []),
  (43, .aload_n 0, 1, 0, 0, .null, [], []),
  (44, .getfield 34, 3, 4, 7, .int 0, [], [306]),
  (47, .putfield 43, 3, 4, 8, .int 0, [], [307]),
  (50, .aload_n 0, 1, 0, 0, .null, [], []),
  (51, .iconst 1, 1, 0, 0, .int 1, [], []),
  (52, .putfield 46, 3, 4, 9, .long 0, [], [308]),
  (55, .iconst 1, 1, 0, 0, .int 1, [], []),
  (56, .ireturn, 1, 0, 0, .int 0, [], [])],
  [], 1)
/-- 35: LeastPays$Law.readLines()V -/
def kX4_readLines : j_K := ([
  (0, .aload_n 0, 1, 0, 0, .null, [], []),
  (1, .iconst 0, 1, 0, 0, .int 0, [], []),
  (2, .putfield 50, 3, 4, 5, .int 0, [], [304]),
  (5, .aload_n 0, 1, 0, 0, .null, [], []),
  (6, .iconst (-1), 1, 0, 0, .int (-1), [], []),
  (7, .putfield 31, 3, 4, 6, .int 0, [], [305]),
  (10, .aload_n 0, 1, 0, 0, .null, [], []),
  (11, .iconst 0, 1, 0, 0, .int 0, [], []),
  (12, .putfield 34, 3, 4, 7, .int 0, [], [306]),
  (15, .aload_n 0, 1, 0, 0, .null, [], []),
  (16, .invokevirtual 53, 7, 36, 0, .null, [], [646, 90, 649, 648, 8]),
  (19, .iconst 0, 1, 0, 0, .int 0, [], []),
  (20, .istore_n 1, 1, 1, 0, .null, [], []),
  (21, .iload_n 1, 1, 1, 0, .null, [], []),
  (22, .bipush 120, 2, 0, 0, .int 120, [], []),
  (24, .if_icmp .ge 22, 3, 46, 0, .null, [], []),
  (27, .aload_n 0, 1, 0, 0, .null, [], []),
  (28, .bipush 59, 2, 0, 0, .int 59, [], []),
  (30, .invokevirtual 56, 7, 49, 1, .int 0, [], [696, 90, 699, 698, 19]),
  (33, .ifCond .eq 13, 3, 46, 0, .null, [], []),
  (36, .aload_n 0, 1, 0, 0, .null, [], []),
  (37, .invokevirtual 53, 7, 36, 0, .null, [], [646, 90, 649, 648, 8]),
  (40, .iinc 1 1, 3, 1, 0, .int 1, [], []),
  (43, .goto (-22), 3, 21, 0, .null, [], []),
  (46, .aload_n 0, 1, 0, 0, .null, [], []),
  (47, .getfield 50, 3, 4, 5, .int 0, [], [304]),
  (50, .aload_n 0, 1, 0, 0, .null, [], []),
  (51, .getfield 24, 3, 4, 4, .int 0, [], [302]),
  (54, .if_icmp .ge 7, 3, 61, 0, .null, [], []),
  (57, .aload_n 0, 1, 0, 0, .null, [], []),
  (58, .invokevirtual 60, 7, 50, 0, .null, [], [692, 90, 695, 694, 18]),
  (61, .return_, 1, 0, 0, .null, [], [])],
  [(21, [true, true])], 2)
/-- 36: LeastPays$Law.readLine()V -/
def kX4_readLine : j_K := ([
  (0, .aload_n 0, 1, 0, 0, .null, [], []),
  (1, .iconst 0, 1, 0, 0, .int 0, [], []),
  (2, .invokevirtual 63, 7, 37, 1, .null, [], [650, 90, 653, 652, 9]),
  (5, .aload_n 0, 1, 0, 0, .null, [], []),
  (6, .bipush 63, 2, 0, 0, .int 63, [], []),
  (8, .invokevirtual 56, 7, 49, 1, .int 0, [], [696, 90, 699, 698, 19]),
  (11, .ifCond .eq 14, 3, 25, 0, .null, [], []),
  (14, .aload_n 0, 1, 0, 0, .null, [], []),
  (15, .bipush (-18), 2, 0, 0, .int (-18), [], []),
  (17, .invokevirtual 67, 7, 51, 1, .null, [], [688, 90, 691, 690, 17]),
  (20, .aload_n 0, 1, 0, 0, .null, [], []),
  (21, .iconst 0, 1, 0, 0, .int 0, [], []),
  (22, .invokevirtual 63, 7, 37, 1, .null, [], [650, 90, 653, 652, 9]),
  (25, .aload_n 0, 1, 0, 0, .null, [], []),
  (26, .bipush (-19), 2, 0, 0, .int (-19), [], []),
  (28, .invokevirtual 67, 7, 51, 1, .null, [], [688, 90, 691, 690, 17]),
  (31, .return_, 1, 0, 0, .null, [], [])],
  [], 1)
/-- 37: LeastPays$Law.readEither(I)V -/
def kX4_readEither : j_K := ([
  (0, .aload_n 0, 1, 0, 0, .null, [], []),
  (1, .iload_n 1, 1, 1, 0, .null, [], []),
  (2, .invokevirtual 70, 7, 38, 1, .null, [], [654, 90, 657, 656, 10]),
  (5, .iconst 0, 1, 0, 0, .int 0, [], []),
  (6, .istore_n 2, 1, 2, 0, .null, [], []),
  (7, .iload_n 2, 1, 2, 0, .null, [], []),
  (8, .bipush 120, 2, 0, 0, .int 120, [], []),
  (10, .if_icmp .ge 29, 3, 39, 0, .null, [], []),
  (13, .aload_n 0, 1, 0, 0, .null, [], []),
  (14, .bipush 124, 2, 0, 0, .int 124, [], []),
  (16, .invokevirtual 56, 7, 49, 1, .int 0, [], [696, 90, 699, 698, 19]),
  (19, .ifCond .eq 20, 3, 39, 0, .null, [], []),
  (22, .aload_n 0, 1, 0, 0, .null, [], []),
  (23, .iload_n 1, 1, 1, 0, .null, [], []),
  (24, .invokevirtual 70, 7, 38, 1, .null, [], [654, 90, 657, 656, 10]),
  (27, .aload_n 0, 1, 0, 0, .null, [], []),
  (28, .bipush (-6), 2, 0, 0, .int (-6), [], []),
  (30, .invokevirtual 67, 7, 51, 1, .null, [], [688, 90, 691, 690, 17]),
  (33, .iinc 2 1, 3, 2, 0, .int 1, [], []),
  (36, .goto (-29), 3, 7, 0, .null, [], []),
  (39, .return_, 1, 0, 0, .null, [], [])],
  [(7, [true, true, true])], 3)
/-- 38: LeastPays$Law.readBoth(I)V -/
def kX4_readBoth : j_K := ([
  (0, .aload_n 0, 1, 0, 0, .null, [], []),
  (1, .iload_n 1, 1, 1, 0, .null, [], []),
  (2, .invokevirtual 73, 7, 39, 1, .null, [], [658, 90, 661, 660, 11]),
  (5, .iconst 0, 1, 0, 0, .int 0, [], []),
  (6, .istore_n 2, 1, 2, 0, .null, [], []),
  (7, .iload_n 2, 1, 2, 0, .null, [], []),
  (8, .bipush 120, 2, 0, 0, .int 120, [], []),
  (10, .if_icmp .ge 29, 3, 39, 0, .null, [], []),
  (13, .aload_n 0, 1, 0, 0, .null, [], []),
  (14, .bipush 38, 2, 0, 0, .int 38, [], []),
  (16, .invokevirtual 56, 7, 49, 1, .int 0, [], [696, 90, 699, 698, 19]),
  (19, .ifCond .eq 20, 3, 39, 0, .null, [], []),
  (22, .aload_n 0, 1, 0, 0, .null, [], []),
  (23, .iload_n 1, 1, 1, 0, .null, [], []),
  (24, .invokevirtual 73, 7, 39, 1, .null, [], [658, 90, 661, 660, 11]),
  (27, .aload_n 0, 1, 0, 0, .null, [], []),
  (28, .bipush (-7), 2, 0, 0, .int (-7), [], []),
  (30, .invokevirtual 67, 7, 51, 1, .null, [], [688, 90, 691, 690, 17]),
  (33, .iinc 2 1, 3, 2, 0, .int 1, [], []),
  (36, .goto (-29), 3, 7, 0, .null, [], []),
  (39, .return_, 1, 0, 0, .null, [], [])],
  [(7, [true, true, true])], 3)
/-- 39: LeastPays$Law.readCompared(I)V -/
def kX4_readCompared : j_K := ([
  (0, .aload_n 0, 1, 0, 0, .null, [], []),
  (1, .iload_n 1, 1, 1, 0, .null, [], []),
  (2, .invokevirtual 76, 7, 40, 1, .null, [], [662, 90, 665, 664, 12]),
  (5, .aload_n 0, 1, 0, 0, .null, [], []),
  (6, .bipush 60, 2, 0, 0, .int 60, [], []),
  (8, .invokevirtual 56, 7, 49, 1, .int 0, [], [696, 90, 699, 698, 19]),
  (11, .ifCond .eq 8, 3, 19, 0, .null, [], []),
  (14, .bipush (-8), 2, 0, 0, .int (-8), [], []),
  (16, .goto 32, 3, 48, 0, .null, [], []),
  (19, .aload_n 0, 1, 0, 0, .null, [], []),
  (20, .bipush 61, 2, 0, 0, .int 61, [], []),
  (22, .invokevirtual 56, 7, 49, 1, .int 0, [], [696, 90, 699, 698, 19]),
  (25, .ifCond .eq 8, 3, 33, 0, .null, [], []),
  (28, .bipush (-9), 2, 0, 0, .int (-9), [], []),
  (30, .goto 18, 3, 48, 0, .null, [], []),
  (33, .aload_n 0, 1, 0, 0, .null, [], []),
  (34, .bipush 62, 2, 0, 0, .int 62, [], []),
  (36, .invokevirtual 56, 7, 49, 1, .int 0, [], [696, 90, 699, 698, 19]),
  (39, .ifCond .eq 8, 3, 47, 0, .null, [], []),
  (42, .bipush (-10), 2, 0, 0, .int (-10), [], []),
  (44, .goto 4, 3, 48, 0, .null, [], []),
  (47, .iconst 0, 1, 0, 0, .int 0, [], []),
  (48, .istore_n 2, 1, 2, 0, .null, [], []),
  (49, .iload_n 2, 1, 2, 0, .null, [], []),
  (50, .ifCond .eq 13, 3, 63, 0, .null, [], []),
  (53, .aload_n 0, 1, 0, 0, .null, [], []),
  (54, .iload_n 1, 1, 1, 0, .null, [], []),
  (55, .invokevirtual 76, 7, 40, 1, .null, [], [662, 90, 665, 664, 12]),
  (58, .aload_n 0, 1, 0, 0, .null, [], []),
  (59, .iload_n 2, 1, 2, 0, .null, [], []),
  (60, .invokevirtual 67, 7, 51, 1, .null, [], [688, 90, 691, 690, 17]),
  (63, .return_, 1, 0, 0, .null, [], [])],
  [], 3)
/-- 40: LeastPays$Law.readSum(I)V -/
def kX4_readSum : j_K := ([
  (0, .aload_n 0, 1, 0, 0, .null, [], []),
  (1, .iload_n 1, 1, 1, 0, .null, [], []),
  (2, .invokevirtual 79, 7, 42, 1, .null, [], [666, 90, 669, 668, 13]),
  (5, .aload_n 0, 1, 0, 0, .null, [], []),
  (6, .invokevirtual 82, 7, 41, 0, .int 0, [], [704, 90, 707, 706, 21]),
  (9, .istore_n 2, 1, 2, 0, .null, [], []),
  (10, .iconst 0, 1, 0, 0, .int 0, [], []),
  (11, .istore_n 3, 1, 3, 0, .null, [], []),
  (12, .iload_n 3, 1, 3, 0, .null, [], []),
  (13, .bipush 120, 2, 0, 0, .int 120, [], []),
  (15, .if_icmp .ge 28, 3, 43, 0, .null, [], []),
  (18, .iload_n 2, 1, 2, 0, .null, [], []),
  (19, .ifCond .eq 24, 3, 43, 0, .null, [], []),
  (22, .aload_n 0, 1, 0, 0, .null, [], []),
  (23, .iload_n 1, 1, 1, 0, .null, [], []),
  (24, .invokevirtual 79, 7, 42, 1, .null, [], [666, 90, 669, 668, 13]),
  (27, .aload_n 0, 1, 0, 0, .null, [], []),
  (28, .iload_n 2, 1, 2, 0, .null, [], []),
  (29, .invokevirtual 67, 7, 51, 1, .null, [], [688, 90, 691, 690, 17]),
  (32, .aload_n 0, 1, 0, 0, .null, [], []),
  (33, .invokevirtual 82, 7, 41, 0, .int 0, [], [704, 90, 707, 706, 21]),
  (36, .istore_n 2, 1, 2, 0, .null, [], []),
  (37, .iinc 3 1, 3, 3, 0, .int 1, [], []),
  (40, .goto (-28), 3, 12, 0, .null, [], []),
  (43, .return_, 1, 0, 0, .null, [], [])],
  [(12, [true, true, true, true])], 4)
/-- 41: LeastPays$Law.takesSumSign()I -/
def kX4_takesSumSign : j_K := ([
  (0, .aload_n 0, 1, 0, 0, .null, [], []),
  (1, .bipush 43, 2, 0, 0, .int 43, [], []),
  (3, .invokevirtual 56, 7, 49, 1, .int 0, [], [696, 90, 699, 698, 19]),
  (6, .ifCond .eq 8, 3, 14, 0, .null, [], []),
  (9, .bipush (-11), 2, 0, 0, .int (-11), [], []),
  (11, .goto 18, 3, 29, 0, .null, [], []),
  (14, .aload_n 0, 1, 0, 0, .null, [], []),
  (15, .bipush 45, 2, 0, 0, .int 45, [], []),
  (17, .invokevirtual 56, 7, 49, 1, .int 0, [], [696, 90, 699, 698, 19]),
  (20, .ifCond .eq 8, 3, 28, 0, .null, [], []),
  (23, .bipush (-12), 2, 0, 0, .int (-12), [], []),
  (25, .goto 4, 3, 29, 0, .null, [], []),
  (28, .iconst 0, 1, 0, 0, .int 0, [], []),
  (29, .ireturn, 1, 0, 0, .int 0, [], [])],
  [], 1)
/-- 42: LeastPays$Law.readProduct(I)V -/
def kX4_readProduct : j_K := ([
  (0, .aload_n 0, 1, 0, 0, .null, [], []),
  (1, .iload_n 1, 1, 1, 0, .null, [], []),
  (2, .invokevirtual 86, 7, 44, 1, .null, [], [670, 90, 673, 672, 14]),
  (5, .aload_n 0, 1, 0, 0, .null, [], []),
  (6, .invokevirtual 89, 7, 43, 0, .int 0, [], [700, 90, 703, 702, 20]),
  (9, .istore_n 2, 1, 2, 0, .null, [], []),
  (10, .iconst 0, 1, 0, 0, .int 0, [], []),
  (11, .istore_n 3, 1, 3, 0, .null, [], []),
  (12, .iload_n 3, 1, 3, 0, .null, [], []),
  (13, .bipush 120, 2, 0, 0, .int 120, [], []),
  (15, .if_icmp .ge 28, 3, 43, 0, .null, [], []),
  (18, .iload_n 2, 1, 2, 0, .null, [], []),
  (19, .ifCond .eq 24, 3, 43, 0, .null, [], []),
  (22, .aload_n 0, 1, 0, 0, .null, [], []),
  (23, .iload_n 1, 1, 1, 0, .null, [], []),
  (24, .invokevirtual 86, 7, 44, 1, .null, [], [670, 90, 673, 672, 14]),
  (27, .aload_n 0, 1, 0, 0, .null, [], []),
  (28, .iload_n 2, 1, 2, 0, .null, [], []),
  (29, .invokevirtual 67, 7, 51, 1, .null, [], [688, 90, 691, 690, 17]),
  (32, .aload_n 0, 1, 0, 0, .null, [], []),
  (33, .invokevirtual 89, 7, 43, 0, .int 0, [], [700, 90, 703, 702, 20]),
  (36, .istore_n 2, 1, 2, 0, .null, [], []),
  (37, .iinc 3 1, 3, 3, 0, .int 1, [], []),
  (40, .goto (-28), 3, 12, 0, .null, [], []),
  (43, .return_, 1, 0, 0, .null, [], [])],
  [(12, [true, true, true, true])], 4)
/-- 43: LeastPays$Law.takesProductSign()I -/
def kX4_takesProductSign : j_K := ([
  (0, .aload_n 0, 1, 0, 0, .null, [], []),
  (1, .bipush 42, 2, 0, 0, .int 42, [], []),
  (3, .invokevirtual 56, 7, 49, 1, .int 0, [], [696, 90, 699, 698, 19]),
  (6, .ifCond .eq 8, 3, 14, 0, .null, [], []),
  (9, .bipush (-13), 2, 0, 0, .int (-13), [], []),
  (11, .goto 32, 3, 43, 0, .null, [], []),
  (14, .aload_n 0, 1, 0, 0, .null, [], []),
  (15, .bipush 47, 2, 0, 0, .int 47, [], []),
  (17, .invokevirtual 56, 7, 49, 1, .int 0, [], [696, 90, 699, 698, 19]),
  (20, .ifCond .eq 8, 3, 28, 0, .null, [], []),
  (23, .bipush (-14), 2, 0, 0, .int (-14), [], []),
  (25, .goto 18, 3, 43, 0, .null, [], []),
  (28, .aload_n 0, 1, 0, 0, .null, [], []),
  (29, .bipush 37, 2, 0, 0, .int 37, [], []),
  (31, .invokevirtual 56, 7, 49, 1, .int 0, [], [696, 90, 699, 698, 19]),
  (34, .ifCond .eq 8, 3, 42, 0, .null, [], []),
  (37, .bipush (-15), 2, 0, 0, .int (-15), [], []),
  (39, .goto 4, 3, 43, 0, .null, [], []),
  (42, .iconst 0, 1, 0, 0, .int 0, [], []),
  (43, .ireturn, 1, 0, 0, .int 0, [], [])],
  [], 1)
/-- 44: LeastPays$Law.readOperand(I)V -/
def kX4_readOperand : j_K := ([
  (0, .aload_n 0, 1, 0, 0, .null, [], []),
  (1, .invokevirtual 92, 7, 46, 0, .int 0, [], [674, 90, 677, 676, 15]),
  (4, .istore_n 2, 1, 2, 0, .null, [], []),
  (5, .iload_n 2, 1, 2, 0, .null, [], []),
  (6, .invokestatic 95, 3, 48, 1, .int 0, [], [678, 90, 680, 679]),
  (9, .istore_n 3, 1, 3, 0, .null, [], []),
  (10, .iload_n 2, 1, 2, 0, .null, [], []),
  (11, .invokestatic 99, 3, 47, 1, .int 0, [], [681, 90, 683, 682]),
  (14, .ifCond .eq 10, 3, 24, 0, .null, [], []),
  (17, .aload_n 0, 1, 0, 0, .null, [], []),
  (18, .invokevirtual 103, 7, 45, 0, .null, [], [684, 90, 687, 686, 16]),
  (21, .goto 124, 3, 145, 0, .null, [], []),
  (24, .iload_n 3, 1, 3, 0, .null, [], []),
  (25, .ifCond .eq 21, 3, 46, 0, .null, [], []),
  (28, .aload_n 0, 1, 0, 0, .null, [], []),
  (29, .dup, 1, 0, 0, .null, [], []),
  (30, .getfield 50, 3, 4, 5, .int 0, [], [304]),
  (33, .iconst 1, 1, 0, 0, .int 1, [], []),
  (34, .iadd, 1, 0, 0, .null, [], []),
  (35, .putfield 50, 3, 4, 5, .int 0, [], [304]),
  (38, .aload_n 0, 1, 0, 0, .null, [], []),
  (39, .iload_n 3, 1, 3, 0, .null, [], []),
  (40, .invokevirtual 67, 7, 51, 1, .null, [], [688, 90, 691, 690, 17]),
  (43, .goto 102, 3, 145, 0, .null, [], []),
  (46, .iload_n 1, 1, 1, 0, .null, [], []),
  (47, .bipush 6, 2, 0, 0, .int 6, [], []),
  (49, .if_icmp .lt 10, 3, 59, 0, .null, [], []),
  (52, .aload_n 0, 1, 0, 0, .null, [], []),
  (53, .invokevirtual 60, 7, 50, 0, .null, [], [692, 90, 695, 694, 18]),
  (56, .goto 89, 3, 145, 0, .null, [], []),
  (59, .aload_n 0, 1, 0, 0, .null, [], []),
  (60, .bipush 40, 2, 0, 0, .int 40, [], []),
  (62, .invokevirtual 56, 7, 49, 1, .int 0, [], [696, 90, 699, 698, 19]),
  (65, .ifCond .eq 26, 3, 91, 0, .null, [], []),
  (68, .aload_n 0, 1, 0, 0, .null, [], []),
  (69, .iload_n 1, 1, 1, 0, .null, [], []),
  (70, .iconst 1, 1, 0, 0, .int 1, [], []),
  (71, .iadd, 1, 0, 0, .null, [], []),
  (72, .invokevirtual 63, 7, 37, 1, .null, [], [650, 90, 653, 652, 9]),
  (75, .aload_n 0, 1, 0, 0, .null, [], []),
  (76, .bipush 41, 2, 0, 0, .int 41, [], []),
  (78, .invokevirtual 56, 7, 49, 1, .int 0, [], [696, 90, 699, 698, 19]),
  (81, .ifCond .ne 64, 3, 145, 0, .null, [], []),
  (84, .aload_n 0, 1, 0, 0, .null, [], []),
  (85, .invokevirtual 60, 7, 50, 0, .null, [], [692, 90, 695, 694, 18]),
  (88, .goto 57, 3, 145, 0, .null, [], []),
  (91, .aload_n 0, 1, 0, 0, .null, [], []),
  (92, .bipush 33, 2, 0, 0, .int 33, [], []),
  (94, .invokevirtual 56, 7, 49, 1, .int 0, [], [696, 90, 699, 698, 19]),
  (97, .ifCond .eq 19, 3, 116, 0, .null, [], []),
  (100, .aload_n 0, 1, 0, 0, .null, [], []),
  (101, .iload_n 1, 1, 1, 0, .null, [], []),
  (102, .iconst 1, 1, 0, 0, .int 1, [], []),
  (103, .iadd, 1, 0, 0, .null, [], []),
  (104, .invokevirtual 86, 7, 44, 1, .null, [], [670, 90, 673, 672, 14]),
  (107, .aload_n 0, 1, 0, 0, .null, [], []),
  (108, .bipush (-16), 2, 0, 0, .int (-16), [], []),
  (110, .invokevirtual 67, 7, 51, 1, .null, [], [688, 90, 691, 690, 17]),
  (113, .goto 32, 3, 145, 0, .null, [], []),
  (116, .aload_n 0, 1, 0, 0, .null, [], []),
  (117, .bipush 45, 2, 0, 0, .int 45, [], []),
  (119, .invokevirtual 56, 7, 49, 1, .int 0, [], [696, 90, 699, 698, 19]),
  (122, .ifCond .eq 19, 3, 141, 0, .null, [], []),
  (125, .aload_n 0, 1, 0, 0, .null, [], []),
  (126, .iload_n 1, 1, 1, 0, .null, [], []),
  (127, .iconst 1, 1, 0, 0, .int 1, [], []),
  (128, .iadd, 1, 0, 0, .null, [], []),
  (129, .invokevirtual 86, 7, 44, 1, .null, [], [670, 90, 673, 672, 14]),
  (132, .aload_n 0, 1, 0, 0, .null, [], []),
  (133, .bipush (-17), 2, 0, 0, .int (-17), [], []),
  (135, .invokevirtual 67, 7, 51, 1, .null, [], [688, 90, 691, 690, 17]),
  (138, .goto 7, 3, 145, 0, .null, [], []),
  (141, .aload_n 0, 1, 0, 0, .null, [], []),
  (142, .invokevirtual 60, 7, 50, 0, .null, [], [692, 90, 695, 694, 18]),
  (145, .return_, 1, 0, 0, .null, [], [])],
  [], 4)
/-- 45: LeastPays$Law.readNumber()V -/
def kX4_readNumber : j_K := ([
  (0, .iconst 0, 1, 0, 0, .int 0, [], []),
  (1, .istore_n 1, 1, 1, 0, .null, [], []),
  (2, .iconst 0, 1, 0, 0, .int 0, [], []),
  (3, .istore_n 2, 1, 2, 0, .null, [], []),
  (4, .iload_n 2, 1, 2, 0, .null, [], []),
  (5, .iconst 4, 1, 0, 0, .int 4, [], []),
  (6, .if_icmp .ge 42, 3, 48, 0, .null, [], []),
  (9, .aload_n 0, 1, 0, 0, .null, [], []),
  (10, .invokevirtual 92, 7, 46, 0, .int 0, [], [674, 90, 677, 676, 15]),
  (13, .invokestatic 99, 3, 47, 1, .int 0, [], [681, 90, 683, 682]),
  (16, .ifCond .eq 32, 3, 48, 0, .null, [], []),
  (19, .iload_n 1, 1, 1, 0, .null, [], []),
  (20, .bipush 10, 2, 0, 0, .int 10, [], []),
  (22, .imul, 1, 0, 0, .null, [], []),
  (23, .aload_n 0, 1, 0, 0, .null, [], []),
  (24, .invokevirtual 92, 7, 46, 0, .int 0, [], [674, 90, 677, 676, 15]),
  (27, .iadd, 1, 0, 0, .null, [], []),
  (28, .bipush 48, 2, 0, 0, .int 48, [], []),
  (30, .isub, 1, 0, 0, .null, [], []),
  (31, .istore_n 1, 1, 1, 0, .null, [], []),
  (32, .aload_n 0, 1, 0, 0, .null, [], []),
  (33, .dup, 1, 0, 0, .null, [], []),
  (34, .getfield 50, 3, 4, 5, .int 0, [], [304]),
  (37, .iconst 1, 1, 0, 0, .int 1, [], []),
  (38, .iadd, 1, 0, 0, .null, [], []),
  (39, .putfield 50, 3, 4, 5, .int 0, [], [304]),
  (42, .iinc 2 1, 3, 2, 0, .int 1, [], []),
  (45, .goto (-41), 3, 4, 0, .null, [], []),
  (48, .aload_n 0, 1, 0, 0, .null, [], []),
  (49, .iload_n 1, 1, 1, 0, .null, [], []),
  (50, .invokevirtual 67, 7, 51, 1, .null, [], [688, 90, 691, 690, 17]),
  (53, .return_, 1, 0, 0, .null, [], [])],
  [(4, [true, true, true])], 3)
/-- 46: LeastPays$Law.letterHere()I -/
def kX4_letterHere : j_K := ([
  (0, .aload_n 0, 1, 0, 0, .null, [], []),
  (1, .getfield 31, 3, 4, 6, .int 0, [], [305]),
  (4, .iconst (-1), 1, 0, 0, .int (-1), [], []),
  (5, .if_icmp .ne 33, 3, 38, 0, .null, [], []),
  (8, .aload_n 0, 1, 0, 0, .null, [], []),
  (9, .getfield 50, 3, 4, 5, .int 0, [], [304]),
  (12, .ifCond .lt 26, 3, 38, 0, .null, [], []),
  (15, .aload_n 0, 1, 0, 0, .null, [], []),
  (16, .getfield 50, 3, 4, 5, .int 0, [], [304]),
  (19, .aload_n 0, 1, 0, 0, .null, [], []),
  (20, .getfield 24, 3, 4, 4, .int 0, [], [302]),
  (23, .if_icmp .ge 15, 3, 38, 0, .null, [], []),
  (26, .aload_n 0, 1, 0, 0, .null, [], []),
  (27, .getfield 11, 3, 4, 0, .null, [], [298]),
  (30, .aload_n 0, 1, 0, 0, .null, [], []),
  (31, .getfield 50, 3, 4, 5, .int 0, [], [304]),
  (34, .iaload, 1, 0, 0, .null, [], []),
  (35, .goto 4, 3, 39, 0, .null, [], []),
  (38, .iconst (-1), 1, 0, 0, .int (-1), [], []),
  (39, .ireturn, 1, 0, 0, .int 0, [], [])],
  [], 1)
/-- 47: LeastPays$Law.isDigit(I)Z -/
def kX4_isDigit : j_K := ([
  (0, .iload_n 0, 1, 0, 0, .null, [], []),
  (1, .bipush 48, 2, 0, 0, .int 48, [], []),
  (3, .if_icmp .lt 13, 3, 16, 0, .null, [], []),
  (6, .iload_n 0, 1, 0, 0, .null, [], []),
  (7, .bipush 57, 2, 0, 0, .int 57, [], []),
  (9, .if_icmp .gt 7, 3, 16, 0, .null, [], []),
  (12, .iconst 1, 1, 0, 0, .int 1, [], []),
  (13, .goto 4, 3, 17, 0, .null, [], []),
  (16, .iconst 0, 1, 0, 0, .int 0, [], []),
  (17, .ireturn, 1, 0, 0, .long 0, [], [])],
  [], 1)
/-- 48: LeastPays$Law.nameOf(I)I -/
def kX4_nameOf : j_K := ([
  (0, .iload_n 0, 1, 0, 0, .null, [], []),
  (1, .lookupswitch 65 #[(98, 51), (107, 59), (110, 56), (112, 53), (114, 62)], 51, 66, 0, .null, [(98, 52), (107, 60), (110, 57), (112, 54), (114, 63)], []),
  (52, .iconst (-1), 1, 0, 0, .int (-1), [], []),
  (53, .ireturn, 1, 0, 0, .int 0, [], []),
  (54, .bipush (-2), 2, 0, 0, .int (-2), [], []),
  (56, .ireturn, 1, 0, 0, .int 0, [], []),
  (57, .bipush (-3), 2, 0, 0, .int (-3), [], []),
  (59, .ireturn, 1, 0, 0, .int 0, [], []),
  (60, .bipush (-4), 2, 0, 0, .int (-4), [], []),
  (62, .ireturn, 1, 0, 0, .int 0, [], []),
  (63, .bipush (-5), 2, 0, 0, .int (-5), [], []),
  (65, .ireturn, 1, 0, 0, .int 0, [], []),
  (66, .iconst 0, 1, 0, 0, .int 0, [], []),
  (67, .ireturn, 1, 0, 0, .int 0, [], [])],
  [], 1)
/-- 49: LeastPays$Law.takes(C)Z -/
def kX4_takes : j_K := ([
  (0, .aload_n 0, 1, 0, 0, .null, [], []),
  (1, .invokevirtual 92, 7, 46, 0, .int 0, [], [674, 90, 677, 676, 15]),
  (4, .iload_n 1, 1, 1, 0, .null, [], []),
  (5, .if_icmp .eq 5, 3, 10, 0, .null, [], []),
  (8, .iconst 0, 1, 0, 0, .int 0, [], []),
  (9, .ireturn, 1, 0, 0, .long 0, [], []),
  (10, .aload_n 0, 1, 0, 0, .null, [], []),
  (11, .dup, 1, 0, 0, .null, [], []),
  (12, .getfield 50, 3, 4, 5, .int 0, [], [304]),
  (15, .iconst 1, 1, 0, 0, .int 1, [], []),
  (16, .iadd, 1, 0, 0, .null, [], []),
  (17, .putfield 50, 3, 4, 5, .int 0, [], [304]),
  (20, .iconst 1, 1, 0, 0, .int 1, [], []),
  (21, .ireturn, 1, 0, 0, .long 0, [], [])],
  [], 2)
/-- 50: LeastPays$Law.fail()V -/
def kX4_fail : j_K := ([
  (0, .aload_n 0, 1, 0, 0, .null, [], []),
  (1, .getfield 31, 3, 4, 6, .int 0, [], [305]),
  (4, .iconst (-1), 1, 0, 0, .int (-1), [], []),
  (5, .if_icmp .ne 11, 3, 16, 0, .null, [], []),
  (8, .aload_n 0, 1, 0, 0, .null, [], []),
  (9, .aload_n 0, 1, 0, 0, .null, [], []),
  (10, .getfield 50, 3, 4, 5, .int 0, [], [304]),
  (13, .putfield 31, 3, 4, 6, .int 0, [], [305]),
  (16, .return_, 1, 0, 0, .null, [], [])],
  [], 1)
/-- 51: LeastPays$Law.write(I)V -/
def kX4_write : j_K := ([
  (0, .aload_n 0, 1, 0, 0, .null, [], []),
  (1, .getfield 34, 3, 4, 7, .int 0, [], [306]),
  (4, .aload_n 0, 1, 0, 0, .null, [], []),
  (5, .getfield 15, 3, 4, 1, .null, [], [299]),
  (8, .arraylength, 1, 0, 0, .null, [], []),
  (9, .if_icmp .ge 23, 3, 32, 0, .null, [], []),
  (12, .aload_n 0, 1, 0, 0, .null, [], []),
  (13, .getfield 15, 3, 4, 1, .null, [], [299]),
  (16, .aload_n 0, 1, 0, 0, .null, [], []),
  (17, .getfield 34, 3, 4, 7, .int 0, [], [306]),
  (20, .iload_n 1, 1, 1, 0, .null, [], []),
  (21, .iastore, 1, 0, 0, .null, [], []),
  (22, .aload_n 0, 1, 0, 0, .null, [], []),
  (23, .dup, 1, 0, 0, .null, [], []),
  (24, .getfield 34, 3, 4, 7, .int 0, [], [306]),
  (27, .iconst 1, 1, 0, 0, .int 1, [], []),
  (28, .iadd, 1, 0, 0, .null, [], []),
  (29, .putfield 34, 3, 4, 7, .int 0, [], [306]),
  (32, .return_, 1, 0, 0, .null, [], [])],
  [], 2)
/-- 52: LeastPays$Law.gift(LLeastPays$Guests;II)I -/
def kX4_gift : j_K := ([
  (0, .aload_n 0, 1, 0, 0, .null, [], []),
  (1, .getfield 46, 3, 4, 9, .long 0, [], [308]),
  (4, .ifCond .eq 13, 3, 17, 0, .null, [], []),
  (7, .aload_n 0, 1, 0, 0, .null, [], []),
  (8, .aload_n 1, 1, 1, 0, .null, [], []),
  (9, .iload_n 2, 1, 2, 0, .null, [], []),
  (10, .iload_n 3, 1, 3, 0, .null, [], []),
  (11, .invokevirtual 106, 7, 54, 3, .int 0, [], [872, 90, 875, 874, 30]),
  (14, .goto 11, 3, 25, 0, .null, [], []),
  (17, .iload_n 3, 1, 3, 0, .null, [], []),
  (18, .aload_n 1, 1, 1, 0, .null, [], []),
  (19, .getfield 110, 3, 2, 6, .int 0, [], [145]),
  (22, .invokestatic 115, 3, 53, 2, .int 0, [], [897, 90, 899, 898]),
  (25, .istore 4, 2, 4, 0, .null, [], []),
  (27, .iconst 0, 1, 0, 0, .int 0, [], []),
  (28, .iload 4, 2, 4, 0, .null, [], []),
  (30, .aload_n 1, 1, 1, 0, .null, [], []),
  (31, .getfield 119, 3, 2, 0, .null, [], [117]),
  (34, .iload_n 2, 1, 2, 0, .null, [], []),
  (35, .iaload, 1, 0, 0, .null, [], []),
  (36, .invokestatic 122, 3, 1002, 2, .null, [], [900, 620, 98, 621]),
  (39, .invokestatic 127, 3, 1001, 2, .null, [], [901, 591, 98, 592]),
  (42, .ireturn, 1, 0, 0, .int 0, [], [])],
  [], 5)
/-- 53: LeastPays$Law.shareOf(II)I -/
def kX4_shareOf : j_K := ([
  (0, .iload_n 1, 1, 1, 0, .null, [], []),
  (1, .ifCond .ne 7, 3, 8, 0, .null, [], []),
  (4, .iconst 0, 1, 0, 0, .int 0, [], []),
  (5, .goto 6, 3, 11, 0, .null, [], []),
  (8, .iload_n 0, 1, 0, 0, .null, [], []),
  (9, .iload_n 1, 1, 1, 0, .null, [], []),
  (10, .idiv, 1, 0, 0, .null, [], []),
  (11, .ireturn, 1, 0, 0, .int 0, [], [])],
  [], 2)
/-- 54: LeastPays$Law.workOut(LLeastPays$Guests;II)I -/
def kX4_workOut : j_K := ([
  (0, .aload_n 0, 1, 0, 0, .null, [], []),
  (1, .iconst 0, 1, 0, 0, .int 0, [], []),
  (2, .putfield 130, 3, 4, 10, .int 0, [], [309]),
  (5, .iconst 1, 1, 0, 0, .int 1, [], []),
  (6, .istore 4, 2, 4, 0, .null, [], []),
  (8, .iconst 0, 1, 0, 0, .int 0, [], []),
  (9, .istore 5, 2, 5, 0, .null, [], []),
  (11, .iload 5, 2, 5, 0, .null, [], []),
  (13, .aload_n 0, 1, 0, 0, .null, [], []),
  (14, .getfield 43, 3, 4, 8, .int 0, [], [307]),
  (17, .if_icmp .ge 125, 3, 142, 0, .null, [], []),
  (20, .aload_n 0, 1, 0, 0, .null, [], []),
  (21, .getfield 18, 3, 4, 2, .null, [], [300]),
  (24, .iload 5, 2, 5, 0, .null, [], []),
  (26, .iaload, 1, 0, 0, .null, [], []),
  (27, .istore 6, 2, 6, 0, .null, [], []),
  (29, .iload 6, 2, 6, 0, .null, [], []),
  (31, .bipush (-19), 2, 0, 0, .int (-19), [], []),
  (33, .if_icmp .ne 13, 3, 46, 0, .null, [], []),
  (36, .iload 4, 2, 4, 0, .null, [], []),
  (38, .ifCond .eq 8, 3, 46, 0, .null, [], []),
  (41, .aload_n 0, 1, 0, 0, .null, [], []),
  (42, .invokevirtual 133, 7, 57, 0, .int 0, [], [876, 90, 879, 878, 31]),
  (45, .ireturn, 1, 0, 0, .int 0, [], []),
  (46, .iload 6, 2, 6, 0, .null, [], []),
  (48, .bipush (-19), 2, 0, 0, .int (-19), [], []),
  (50, .if_icmp .ne 9, 3, 59, 0, .null, [], []),
  (53, .iconst 1, 1, 0, 0, .int 1, [], []),
  (54, .istore 4, 2, 4, 0, .null, [], []),
  (56, .goto 80, 3, 136, 0, .null, [], []),
  (59, .iload 4, 2, 4, 0, .null, [], []),
  (61, .ifCond .eq 27, 3, 88, 0, .null, [], []),
  (64, .iload 6, 2, 6, 0, .null, [], []),
  (66, .bipush (-18), 2, 0, 0, .int (-18), [], []),
  (68, .if_icmp .ne 20, 3, 88, 0, .null, [], []),
  (71, .aload_n 0, 1, 0, 0, .null, [], []),
  (72, .invokevirtual 133, 7, 57, 0, .int 0, [], [876, 90, 879, 878, 31]),
  (75, .ifCond .eq 7, 3, 82, 0, .null, [], []),
  (78, .iconst 1, 1, 0, 0, .int 1, [], []),
  (79, .goto 4, 3, 83, 0, .null, [], []),
  (82, .iconst 0, 1, 0, 0, .int 0, [], []),
  (83, .istore 4, 2, 4, 0, .null, [], []),
  (85, .goto 51, 3, 136, 0, .null, [], []),
  (88, .iload 4, 2, 4, 0, .null, [], []),
  (90, .ifCond .eq 35, 3, 125, 0, .null, [], []),
  (93, .iload 6, 2, 6, 0, .null, [], []),
  (95, .bipush (-5), 2, 0, 0, .int (-5), [], []),
  (97, .if_icmp .lt 28, 3, 125, 0, .null, [], []),
  (100, .aload_n 0, 1, 0, 0, .null, [], []),
  (101, .iload 6, 2, 6, 0, .null, [], []),
  (103, .ifCond .lt 8, 3, 111, 0, .null, [], []),
  (106, .iload 6, 2, 6, 0, .null, [], []),
  (108, .goto 11, 3, 119, 0, .null, [], []),
  (111, .iload 6, 2, 6, 0, .null, [], []),
  (113, .aload_n 1, 1, 1, 0, .null, [], []),
  (114, .iload_n 2, 1, 2, 0, .null, [], []),
  (115, .iload_n 3, 1, 3, 0, .null, [], []),
  (116, .invokestatic 136, 3, 58, 4, .int 0, [], [880, 90, 882, 881]),
  (119, .invokevirtual 140, 7, 56, 1, .null, [], [883, 90, 886, 885, 32]),
  (122, .goto 14, 3, 136, 0, .null, [], []),
  (125, .iload 4, 2, 4, 0, .null, [], []),
  (127, .ifCond .eq 9, 3, 136, 0, .null, [], []),
  (130, .aload_n 0, 1, 0, 0, .null, [], []),
  (131, .iload 6, 2, 6, 0, .null, [], []),
  (133, .invokevirtual 143, 7, 55, 1, .null, [], [887, 90, 890, 889, 33]),
  (136, .iinc 5 1, 3, 5, 0, .int 1, [], []),
  (139, .goto (-128), 3, 11, 0, .null, [], []),
  (142, .iconst 0, 1, 0, 0, .int 0, [], []),
  (143, .ireturn, 1, 0, 0, .int 0, [], [])],
  [(11, [true, true, true, true, true, true, false]), (46, [true, true, true, true, true, true, true]), (88, [true, true, true, true, true, true, true])], 7)
/-- 55: LeastPays$Law.apply(I)V -/
def kX4_apply : j_K := ([
  (0, .aload_n 0, 1, 0, 0, .null, [], []),
  (1, .invokevirtual 133, 7, 57, 0, .int 0, [], [876, 90, 879, 878, 31]),
  (4, .istore_n 2, 1, 2, 0, .null, [], []),
  (5, .iload_n 1, 1, 1, 0, .null, [], []),
  (6, .bipush (-17), 2, 0, 0, .int (-17), [], []),
  (8, .if_icmp .ne 12, 3, 20, 0, .null, [], []),
  (11, .aload_n 0, 1, 0, 0, .null, [], []),
  (12, .iload_n 2, 1, 2, 0, .null, [], []),
  (13, .ineg, 1, 0, 0, .null, [], []),
  (14, .invokevirtual 140, 7, 56, 1, .null, [], [883, 90, 886, 885, 32]),
  (17, .goto 43, 3, 60, 0, .null, [], []),
  (20, .iload_n 1, 1, 1, 0, .null, [], []),
  (21, .bipush (-16), 2, 0, 0, .int (-16), [], []),
  (23, .if_icmp .ne 22, 3, 45, 0, .null, [], []),
  (26, .aload_n 0, 1, 0, 0, .null, [], []),
  (27, .iload_n 2, 1, 2, 0, .null, [], []),
  (28, .ifCond .ne 7, 3, 35, 0, .null, [], []),
  (31, .iconst 1, 1, 0, 0, .int 1, [], []),
  (32, .goto 4, 3, 36, 0, .null, [], []),
  (35, .iconst 0, 1, 0, 0, .int 0, [], []),
  (36, .invokestatic 146, 3, 60, 1, .int 0, [], [891, 90, 893, 892]),
  (39, .invokevirtual 140, 7, 56, 1, .null, [], [883, 90, 886, 885, 32]),
  (42, .goto 18, 3, 60, 0, .null, [], []),
  (45, .aload_n 0, 1, 0, 0, .null, [], []),
  (46, .invokevirtual 133, 7, 57, 0, .int 0, [], [876, 90, 879, 878, 31]),
  (49, .istore_n 3, 1, 3, 0, .null, [], []),
  (50, .aload_n 0, 1, 0, 0, .null, [], []),
  (51, .iload_n 1, 1, 1, 0, .null, [], []),
  (52, .iload_n 3, 1, 3, 0, .null, [], []),
  (53, .iload_n 2, 1, 2, 0, .null, [], []),
  (54, .invokestatic 150, 3, 59, 3, .int 0, [], [894, 90, 896, 895]),
  (57, .invokevirtual 140, 7, 56, 1, .null, [], [883, 90, 886, 885, 32]),
  (60, .return_, 1, 0, 0, .null, [], [])],
  [], 4)
/-- 56: LeastPays$Law.push(I)V -/
def kX4_push : j_K := ([
  (0, .aload_n 0, 1, 0, 0, .null, [], []),
  (1, .getfield 130, 3, 4, 10, .int 0, [], [309]),
  (4, .aload_n 0, 1, 0, 0, .null, [], []),
  (5, .getfield 21, 3, 4, 3, .null, [], [301]),
  (8, .arraylength, 1, 0, 0, .null, [], []),
  (9, .if_icmp .ge 23, 3, 32, 0, .null, [], []),
  (12, .aload_n 0, 1, 0, 0, .null, [], []),
  (13, .getfield 21, 3, 4, 3, .null, [], [301]),
  (16, .aload_n 0, 1, 0, 0, .null, [], []),
  (17, .getfield 130, 3, 4, 10, .int 0, [], [309]),
  (20, .iload_n 1, 1, 1, 0, .null, [], []),
  (21, .iastore, 1, 0, 0, .null, [], []),
  (22, .aload_n 0, 1, 0, 0, .null, [], []),
  (23, .dup, 1, 0, 0, .null, [], []),
  (24, .getfield 130, 3, 4, 10, .int 0, [], [309]),
  (27, .iconst 1, 1, 0, 0, .int 1, [], []),
  (28, .iadd, 1, 0, 0, .null, [], []),
  (29, .putfield 130, 3, 4, 10, .int 0, [], [309]),
  (32, .return_, 1, 0, 0, .null, [], [])],
  [], 2)
/-- 57: LeastPays$Law.pop()I -/
def kX4_pop : j_K := ([
  (0, .aload_n 0, 1, 0, 0, .null, [], []),
  (1, .getfield 130, 3, 4, 10, .int 0, [], [309]),
  (4, .ifCond .gt 5, 3, 9, 0, .null, [], []),
  (7, .iconst 0, 1, 0, 0, .int 0, [], []),
  (8, .ireturn, 1, 0, 0, .int 0, [], []),
  (9, .aload_n 0, 1, 0, 0, .null, [], []),
  (10, .dup, 1, 0, 0, .null, [], []),
  (11, .getfield 130, 3, 4, 10, .int 0, [], [309]),
  (14, .iconst 1, 1, 0, 0, .int 1, [], []),
  (15, .isub, 1, 0, 0, .null, [], []),
  (16, .putfield 130, 3, 4, 10, .int 0, [], [309]),
  (19, .aload_n 0, 1, 0, 0, .null, [], []),
  (20, .getfield 21, 3, 4, 3, .null, [], [301]),
  (23, .aload_n 0, 1, 0, 0, .null, [], []),
  (24, .getfield 130, 3, 4, 10, .int 0, [], [309]),
  (27, .iaload, 1, 0, 0, .null, [], []),
  (28, .ireturn, 1, 0, 0, .int 0, [], [])],
  [], 1)
/-- 58: LeastPays$Law.valueOf(ILLeastPays$Guests;II)I -/
def kX4_valueOf : j_K := ([
  (0, .iload_n 0, 1, 0, 0, .null, [], []),
  (1, .tableswitch 47 (-4) (-1) #[42, 40, 33, 31], 31, 48, 0, .null, [((-4), 43), ((-3), 41), ((-2), 34), ((-1), 32)], []),
  (32, .iload_n 3, 1, 3, 0, .null, [], []),
  (33, .ireturn, 1, 0, 0, .int 0, [], []),
  (34, .aload_n 1, 1, 1, 0, .null, [], []),
  (35, .getfield 119, 3, 2, 0, .null, [], [117]),
  (38, .iload_n 2, 1, 2, 0, .null, [], []),
  (39, .iaload, 1, 0, 0, .null, [], []),
  (40, .ireturn, 1, 0, 0, .int 0, [], []),
  (41, .iload_n 2, 1, 2, 0, .null, [], []),
  (42, .ireturn, 1, 0, 0, .int 0, [], []),
  (43, .aload_n 1, 1, 1, 0, .null, [], []),
  (44, .getfield 110, 3, 2, 6, .int 0, [], [145]),
  (47, .ireturn, 1, 0, 0, .int 0, [], []),
  (48, .aload_n 1, 1, 1, 0, .null, [], []),
  (49, .getfield 154, 3, 2, 8, .int 0, [], [152]),
  (52, .ireturn, 1, 0, 0, .int 0, [], [])],
  [], 4)
/-- 59: LeastPays$Law.joined(III)I -/
def kX4_joined : j_K := ([
  (0, .iload_n 0, 1, 0, 0, .null, [], []),
  (1, .tableswitch 151 (-14) (-6) #[139, 135, 131, 127, 113, 99, 85, 68, 51], 51, 152, 0, .null, [((-14), 140), ((-13), 136), ((-12), 132), ((-11), 128), ((-10), 114), ((-9), 100), ((-8), 86), ((-7), 69), ((-6), 52)], []),
  (52, .iload_n 1, 1, 1, 0, .null, [], []),
  (53, .ifCond .ne 7, 3, 60, 0, .null, [], []),
  (56, .iload_n 2, 1, 2, 0, .null, [], []),
  (57, .ifCond .eq 7, 3, 64, 0, .null, [], []),
  (60, .iconst 1, 1, 0, 0, .int 1, [], []),
  (61, .goto 4, 3, 65, 0, .null, [], []),
  (64, .iconst 0, 1, 0, 0, .int 0, [], []),
  (65, .invokestatic 146, 3, 60, 1, .int 0, [], [891, 90, 893, 892]),
  (68, .ireturn, 1, 0, 0, .int 0, [], []),
  (69, .iload_n 1, 1, 1, 0, .null, [], []),
  (70, .ifCond .eq 11, 3, 81, 0, .null, [], []),
  (73, .iload_n 2, 1, 2, 0, .null, [], []),
  (74, .ifCond .eq 7, 3, 81, 0, .null, [], []),
  (77, .iconst 1, 1, 0, 0, .int 1, [], []),
  (78, .goto 4, 3, 82, 0, .null, [], []),
  (81, .iconst 0, 1, 0, 0, .int 0, [], []),
  (82, .invokestatic 146, 3, 60, 1, .int 0, [], [891, 90, 893, 892]),
  (85, .ireturn, 1, 0, 0, .int 0, [], []),
  (86, .iload_n 1, 1, 1, 0, .null, [], []),
  (87, .iload_n 2, 1, 2, 0, .null, [], []),
  (88, .if_icmp .ge 7, 3, 95, 0, .null, [], []),
  (91, .iconst 1, 1, 0, 0, .int 1, [], []),
  (92, .goto 4, 3, 96, 0, .null, [], []),
  (95, .iconst 0, 1, 0, 0, .int 0, [], []),
  (96, .invokestatic 146, 3, 60, 1, .int 0, [], [891, 90, 893, 892]),
  (99, .ireturn, 1, 0, 0, .int 0, [], []),
  (100, .iload_n 1, 1, 1, 0, .null, [], []),
  (101, .iload_n 2, 1, 2, 0, .null, [], []),
  (102, .if_icmp .ne 7, 3, 109, 0, .null, [], []),
  (105, .iconst 1, 1, 0, 0, .int 1, [], []),
  (106, .goto 4, 3, 110, 0, .null, [], []),
  (109, .iconst 0, 1, 0, 0, .int 0, [], []),
  (110, .invokestatic 146, 3, 60, 1, .int 0, [], [891, 90, 893, 892]),
  (113, .ireturn, 1, 0, 0, .int 0, [], []),
  (114, .iload_n 1, 1, 1, 0, .null, [], []),
  (115, .iload_n 2, 1, 2, 0, .null, [], []),
  (116, .if_icmp .le 7, 3, 123, 0, .null, [], []),
  (119, .iconst 1, 1, 0, 0, .int 1, [], []),
  (120, .goto 4, 3, 124, 0, .null, [], []),
  (123, .iconst 0, 1, 0, 0, .int 0, [], []),
  (124, .invokestatic 146, 3, 60, 1, .int 0, [], [891, 90, 893, 892]),
  (127, .ireturn, 1, 0, 0, .int 0, [], []),
  (128, .iload_n 1, 1, 1, 0, .null, [], []),
  (129, .iload_n 2, 1, 2, 0, .null, [], []),
  (130, .iadd, 1, 0, 0, .null, [], []),
  (131, .ireturn, 1, 0, 0, .int 0, [], []),
  (132, .iload_n 1, 1, 1, 0, .null, [], []),
  (133, .iload_n 2, 1, 2, 0, .null, [], []),
  (134, .isub, 1, 0, 0, .null, [], []),
  (135, .ireturn, 1, 0, 0, .int 0, [], []),
  (136, .iload_n 1, 1, 1, 0, .null, [], []),
  (137, .iload_n 2, 1, 2, 0, .null, [], []),
  (138, .imul, 1, 0, 0, .null, [], []),
  (139, .ireturn, 1, 0, 0, .int 0, [], []),
  (140, .iload_n 2, 1, 2, 0, .null, [], []),
  (141, .ifCond .ne 7, 3, 148, 0, .null, [], []),
  (144, .iconst 0, 1, 0, 0, .int 0, [], []),
  (145, .goto 6, 3, 151, 0, .null, [], []),
  (148, .iload_n 1, 1, 1, 0, .null, [], []),
  (149, .iload_n 2, 1, 2, 0, .null, [], []),
  (150, .idiv, 1, 0, 0, .null, [], []),
  (151, .ireturn, 1, 0, 0, .int 0, [], []),
  (152, .iload_n 2, 1, 2, 0, .null, [], []),
  (153, .ifCond .ne 7, 3, 160, 0, .null, [], []),
  (156, .iconst 0, 1, 0, 0, .int 0, [], []),
  (157, .goto 6, 3, 163, 0, .null, [], []),
  (160, .iload_n 1, 1, 1, 0, .null, [], []),
  (161, .iload_n 2, 1, 2, 0, .null, [], []),
  (162, .irem, 1, 0, 0, .null, [], []),
  (163, .ireturn, 1, 0, 0, .int 0, [], [])],
  [], 3)
/-- 60: LeastPays$Law.truth(Z)I -/
def kX4_truth : j_K := ([
  (0, .iload_n 0, 1, 0, 0, .null, [], []),
  (1, .ifCond .eq 7, 3, 8, 0, .null, [], []),
  (4, .iconst 1, 1, 0, 0, .int 1, [], []),
  (5, .goto 4, 3, 9, 0, .null, [], []),
  (8, .iconst 0, 1, 0, 0, .int 0, [], []),
  (9, .ireturn, 1, 0, 0, .int 0, [], [])],
  [], 1)
/-- 61: LeastPays$Menu.<init>(LLeastPays$Guests;LLeastPays$Hat;)V -/
def kX5_init : j_K := ([
  (0, .aload_n 0, 1, 0, 0, .null, [], []),
  (1, .invokespecial 3, 3, 999, 0, .null, [], [270, 106, 107]),
  (4, .aload_n 0, 1, 0, 0, .null, [], []),
  (5, .iconst 3, 1, 0, 0, .int 3, [], []),
  (6, .newarray .int, 2, 0, 0, .int 0, [], [187]),
  (8, .putfield 11, 3, 5, 2, .null, [], [273]),
  (11, .aload_n 0, 1, 0, 0, .null, [], []),
  (12, .bipush 18, 2, 0, 0, .int 18, [], []),
  (14, .newarray .int, 2, 0, 0, .int 0, [], [187]),
  (16, .putfield 15, 3, 5, 3, .null, [], [274]),
  (19, .aload_n 0, 1, 0, 0, .null, [], []),
  (20, .bipush 6, 2, 0, 0, .int 6, [], []),
  (22, .newarray .int, 2, 0, 0, .int 0, [], [187]),
  (24, .putfield 18, 3, 5, 4, .null, [], [275]),
  (27, .aload_n 0, 1, 0, 0, .null, [], []),
  (28, .aload_n 1, 1, 1, 0, .null, [], []),
  (29, .putfield 21, 3, 5, 0, .null, [], [271]),
  (32, .aload_n 0, 1, 0, 0, .null, [], []),
  (33, .aload_n 2, 1, 2, 0, .null, [], []),
  (34, .putfield 25, 3, 5, 1, .null, [], [272]),
  (37, .return_, 1, 0, 0, .null, [], [])],
  [], 3)
/-- 62: LeastPays$Menu.has(I)Z -/
def kX5_has : j_K := ([
  (0, .iload_n 1, 1, 1, 0, .null, [], []),
  (1, .ifCond .lt 15, 3, 16, 0, .null, [], []),
  (4, .iload_n 1, 1, 1, 0, .null, [], []),
  (5, .aload_n 0, 1, 0, 0, .null, [], []),
  (6, .getfield 29, 3, 5, 5, .int 0, [], [277]),
  (9, .if_icmp .ge 7, 3, 16, 0, .null, [], []),
  (12, .iconst 1, 1, 0, 0, .int 1, [], []),
  (13, .goto 4, 3, 17, 0, .null, [], []),
  (16, .iconst 0, 1, 0, 0, .int 0, [], []),
  (17, .ireturn, 1, 0, 0, .long 0, [], [])],
  [], 2)
/-- 63: LeastPays$Menu.add(I)I -/
def kX5_add : j_K := ([
  (0, .aload_n 0, 1, 0, 0, .null, [], []),
  (1, .getfield 29, 3, 5, 5, .int 0, [], [277]),
  (4, .iconst 3, 1, 0, 0, .int 3, [], []),
  (5, .if_icmp .lt 6, 3, 11, 0, .null, [], []),
  (8, .bipush (-3), 2, 0, 0, .int (-3), [], []),
  (10, .ireturn, 1, 0, 0, .int 0, [], []),
  (11, .aload_n 0, 1, 0, 0, .null, [], []),
  (12, .getfield 11, 3, 5, 2, .null, [], [273]),
  (15, .aload_n 0, 1, 0, 0, .null, [], []),
  (16, .getfield 29, 3, 5, 5, .int 0, [], [277]),
  (19, .iload_n 1, 1, 1, 0, .null, [], []),
  (20, .iastore, 1, 0, 0, .null, [], []),
  (21, .aload_n 0, 1, 0, 0, .null, [], []),
  (22, .dup, 1, 0, 0, .null, [], []),
  (23, .getfield 29, 3, 5, 5, .int 0, [], [277]),
  (26, .iconst 1, 1, 0, 0, .int 1, [], []),
  (27, .iadd, 1, 0, 0, .null, [], []),
  (28, .putfield 29, 3, 5, 5, .int 0, [], [277]),
  (31, .aload_n 0, 1, 0, 0, .null, [], []),
  (32, .getfield 29, 3, 5, 5, .int 0, [], [277]),
  (35, .iconst 1, 1, 0, 0, .int 1, [], []),
  (36, .isub, 1, 0, 0, .null, [], []),
  (37, .ireturn, 1, 0, 0, .int 0, [], [])],
  [], 2)
/-- 64: LeastPays$Menu.enjoy(III)I -/
def kX5_enjoy : j_K := ([
  (0, .iload_n 1, 1, 1, 0, .null, [], []),
  (1, .iconst 3, 1, 0, 0, .int 3, [], []),
  (2, .imul, 1, 0, 0, .null, [], []),
  (3, .iload_n 2, 1, 2, 0, .null, [], []),
  (4, .iadd, 1, 0, 0, .null, [], []),
  (5, .istore 4, 2, 4, 0, .null, [], []),
  (7, .aload_n 0, 1, 0, 0, .null, [], []),
  (8, .getfield 15, 3, 5, 3, .null, [], [274]),
  (11, .iload 4, 2, 4, 0, .null, [], []),
  (13, .iaload, 1, 0, 0, .null, [], []),
  (14, .istore 5, 2, 5, 0, .null, [], []),
  (16, .aload_n 0, 1, 0, 0, .null, [], []),
  (17, .getfield 15, 3, 5, 3, .null, [], [274]),
  (20, .iload 4, 2, 4, 0, .null, [], []),
  (22, .iload_n 3, 1, 3, 0, .null, [], []),
  (23, .iastore, 1, 0, 0, .null, [], []),
  (24, .iload 5, 2, 5, 0, .null, [], []),
  (26, .ireturn, 1, 0, 0, .int 0, [], [])],
  [], 6)
/-- 65: LeastPays$Menu.orderAll()I -/
def kX5_orderAll : j_K := ([
  (0, .aload_n 0, 1, 0, 0, .null, [], []),
  (1, .getfield 25, 3, 5, 1, .null, [], [272]),
  (4, .aload_n 0, 1, 0, 0, .null, [], []),
  (5, .getfield 21, 3, 5, 0, .null, [], [271]),
  (8, .invokevirtual 33, 6, 22, 1, .null, [], [847, 87, 580, 578, 579]),
  (11, .iconst 0, 1, 0, 0, .int 0, [], []),
  (12, .istore_n 1, 1, 1, 0, .null, [], []),
  (13, .iconst 0, 1, 0, 0, .int 0, [], []),
  (14, .istore_n 2, 1, 2, 0, .null, [], []),
  (15, .iload_n 2, 1, 2, 0, .null, [], []),
  (16, .aload_n 0, 1, 0, 0, .null, [], []),
  (17, .getfield 21, 3, 5, 0, .null, [], [271]),
  (20, .getfield 39, 3, 2, 6, .int 0, [], [143]),
  (23, .if_icmp .ge 29, 3, 52, 0, .null, [], []),
  (26, .aload_n 0, 1, 0, 0, .null, [], []),
  (27, .iload_n 2, 1, 2, 0, .null, [], []),
  (28, .iload_n 1, 1, 1, 0, .null, [], []),
  (29, .invokevirtual 42, 8, 66, 2, .int 0, [], [848, 89, 851, 850, 28]),
  (32, .pop, 1, 0, 0, .null, [], []),
  (33, .iload_n 1, 1, 1, 0, .null, [], []),
  (34, .aload_n 0, 1, 0, 0, .null, [], []),
  (35, .aload_n 0, 1, 0, 0, .null, [], []),
  (36, .getfield 18, 3, 5, 4, .null, [], [275]),
  (39, .iload_n 2, 1, 2, 0, .null, [], []),
  (40, .iaload, 1, 0, 0, .null, [], []),
  (41, .invokevirtual 46, 8, 67, 1, .int 0, [], [859, 89, 862, 861, 29]),
  (44, .iadd, 1, 0, 0, .null, [], []),
  (45, .istore_n 1, 1, 1, 0, .null, [], []),
  (46, .iinc 2 1, 3, 2, 0, .int 1, [], []),
  (49, .goto (-34), 3, 15, 0, .null, [], []),
  (52, .iload_n 1, 1, 1, 0, .null, [], []),
  (53, .ireturn, 1, 0, 0, .int 0, [], [])],
  [(15, [true, true, true])], 3)
/-- 66: LeastPays$Menu.playOut(II)I -/
def kX5_playOut : j_K := ([
  (0, .iload_n 1, 1, 1, 0, .null, [], []),
  (1, .aload_n 0, 1, 0, 0, .null, [], []),
  (2, .getfield 21, 3, 5, 0, .null, [], [271]),
  (5, .getfield 39, 3, 2, 6, .int 0, [], [143]),
  (8, .if_icmp .ge 9, 3, 17, 0, .null, [], []),
  (11, .iload_n 1, 1, 1, 0, .null, [], []),
  (12, .bipush 6, 2, 0, 0, .int 6, [], []),
  (14, .if_icmp .lt 5, 3, 19, 0, .null, [], []),
  (17, .iload_n 2, 1, 2, 0, .null, [], []),
  (18, .ireturn, 1, 0, 0, .int 0, [], []),
  (19, .iconst (-1), 1, 0, 0, .int (-1), [], []),
  (20, .istore_n 3, 1, 3, 0, .null, [], []),
  (21, .aload_n 0, 1, 0, 0, .null, [], []),
  (22, .iload_n 1, 1, 1, 0, .null, [], []),
  (23, .iconst 1, 1, 0, 0, .int 1, [], []),
  (24, .iadd, 1, 0, 0, .null, [], []),
  (25, .iload_n 2, 1, 2, 0, .null, [], []),
  (26, .invokevirtual 42, 8, 66, 2, .int 0, [], [848, 89, 851, 850, 28]),
  (29, .istore 4, 2, 4, 0, .null, [], []),
  (31, .aload_n 0, 1, 0, 0, .null, [], []),
  (32, .iload_n 1, 1, 1, 0, .null, [], []),
  (33, .iconst (-1), 1, 0, 0, .int (-1), [], []),
  (34, .iload 4, 2, 4, 0, .null, [], []),
  (36, .invokevirtual 50, 8, 68, 3, .int 0, [], [852, 89, 855, 853, 854]),
  (39, .istore 5, 2, 5, 0, .null, [], []),
  (41, .iconst 0, 1, 0, 0, .int 0, [], []),
  (42, .istore 6, 2, 6, 0, .null, [], []),
  (44, .iload 6, 2, 6, 0, .null, [], []),
  (46, .aload_n 0, 1, 0, 0, .null, [], []),
  (47, .getfield 29, 3, 5, 5, .int 0, [], [277]),
  (50, .if_icmp .ge 56, 3, 106, 0, .null, [], []),
  (53, .aload_n 0, 1, 0, 0, .null, [], []),
  (54, .iload_n 1, 1, 1, 0, .null, [], []),
  (55, .iconst 1, 1, 0, 0, .int 1, [], []),
  (56, .iadd, 1, 0, 0, .null, [], []),
  (57, .iload_n 2, 1, 2, 0, .null, [], []),
  (58, .aload_n 0, 1, 0, 0, .null, [], []),
  (59, .getfield 11, 3, 5, 2, .null, [], [273]),
  (62, .iload 6, 2, 6, 0, .null, [], []),
  (64, .iaload, 1, 0, 0, .null, [], []),
  (65, .iadd, 1, 0, 0, .null, [], []),
  (66, .invokevirtual 42, 8, 66, 2, .int 0, [], [848, 89, 851, 850, 28]),
  (69, .istore 7, 2, 7, 0, .null, [], []),
  (71, .aload_n 0, 1, 0, 0, .null, [], []),
  (72, .iload_n 1, 1, 1, 0, .null, [], []),
  (73, .iload 6, 2, 6, 0, .null, [], []),
  (75, .iload 7, 2, 7, 0, .null, [], []),
  (77, .invokevirtual 50, 8, 68, 3, .int 0, [], [852, 89, 855, 853, 854]),
  (80, .istore 8, 2, 8, 0, .null, [], []),
  (82, .iload 8, 2, 8, 0, .null, [], []),
  (84, .iload 5, 2, 5, 0, .null, [], []),
  (86, .if_icmp .le 14, 3, 100, 0, .null, [], []),
  (89, .iload 6, 2, 6, 0, .null, [], []),
  (91, .istore_n 3, 1, 3, 0, .null, [], []),
  (92, .iload 7, 2, 7, 0, .null, [], []),
  (94, .istore 4, 2, 4, 0, .null, [], []),
  (96, .iload 8, 2, 8, 0, .null, [], []),
  (98, .istore 5, 2, 5, 0, .null, [], []),
  (100, .iinc 6 1, 3, 6, 0, .int 1, [], []),
  (103, .goto (-59), 3, 44, 0, .null, [], []),
  (106, .aload_n 0, 1, 0, 0, .null, [], []),
  (107, .getfield 18, 3, 5, 4, .null, [], [275]),
  (110, .iload_n 1, 1, 1, 0, .null, [], []),
  (111, .iload_n 3, 1, 3, 0, .null, [], []),
  (112, .iastore, 1, 0, 0, .null, [], []),
  (113, .iload 4, 2, 4, 0, .null, [], []),
  (115, .ireturn, 1, 0, 0, .int 0, [], [])],
  [(44, [true, true, true, true, true, true, true, false, false])], 9)
/-- 67: LeastPays$Menu.priceOf(I)I -/
def kX5_priceOf : j_K := ([
  (0, .aload_n 0, 1, 0, 0, .null, [], []),
  (1, .iload_n 1, 1, 1, 0, .null, [], []),
  (2, .invokevirtual 54, 8, 62, 1, .int 0, [], [857, 89, 834, 832, 833]),
  (5, .ifCond .eq 12, 3, 17, 0, .null, [], []),
  (8, .aload_n 0, 1, 0, 0, .null, [], []),
  (9, .getfield 11, 3, 5, 2, .null, [], [273]),
  (12, .iload_n 1, 1, 1, 0, .null, [], []),
  (13, .iaload, 1, 0, 0, .null, [], []),
  (14, .goto 4, 3, 18, 0, .null, [], []),
  (17, .iconst 0, 1, 0, 0, .int 0, [], []),
  (18, .ireturn, 1, 0, 0, .int 0, [], [])],
  [], 2)
/-- 68: LeastPays$Menu.worth(III)I -/
def kX5_worth : j_K := ([
  (0, .aload_n 0, 1, 0, 0, .null, [], []),
  (1, .getfield 25, 3, 5, 1, .null, [], [272]),
  (4, .iload_n 3, 1, 3, 0, .null, [], []),
  (5, .invokevirtual 58, 6, 25, 1, .null, [], [856, 87, 589, 587, 588]),
  (8, .aload_n 0, 1, 0, 0, .null, [], []),
  (9, .iload_n 2, 1, 2, 0, .null, [], []),
  (10, .invokevirtual 54, 8, 62, 1, .int 0, [], [857, 89, 834, 832, 833]),
  (13, .ifCond .eq 16, 3, 29, 0, .null, [], []),
  (16, .aload_n 0, 1, 0, 0, .null, [], []),
  (17, .getfield 15, 3, 5, 3, .null, [], [274]),
  (20, .iload_n 1, 1, 1, 0, .null, [], []),
  (21, .iconst 3, 1, 0, 0, .int 3, [], []),
  (22, .imul, 1, 0, 0, .null, [], []),
  (23, .iload_n 2, 1, 2, 0, .null, [], []),
  (24, .iadd, 1, 0, 0, .null, [], []),
  (25, .iaload, 1, 0, 0, .null, [], []),
  (26, .goto 4, 3, 30, 0, .null, [], []),
  (29, .iconst 0, 1, 0, 0, .int 0, [], []),
  (30, .istore 4, 2, 4, 0, .null, [], []),
  (32, .iload 4, 2, 4, 0, .null, [], []),
  (34, .aload_n 0, 1, 0, 0, .null, [], []),
  (35, .getfield 25, 3, 5, 1, .null, [], [272]),
  (38, .iload_n 1, 1, 1, 0, .null, [], []),
  (39, .invokevirtual 62, 6, 26, 1, .int 0, [], [858, 87, 602, 600, 601]),
  (42, .isub, 1, 0, 0, .null, [], []),
  (43, .ireturn, 1, 0, 0, .int 0, [], [])],
  [], 5)
/-- 69: LeastPays$Minds.<init>(LLeastPays$Guests;LLeastPays$Hat;)V -/
def kX6_init : j_K := ([
  (0, .aload_n 0, 1, 0, 0, .null, [], []),
  (1, .invokespecial 3, 3, 999, 0, .null, [], [241, 106, 107]),
  (4, .aload_n 0, 1, 0, 0, .null, [], []),
  (5, .bipush 6, 2, 0, 0, .int 6, [], []),
  (7, .newarray .int, 2, 0, 0, .int 0, [], [187]),
  (9, .putfield 9, 3, 6, 2, .null, [], [244]),
  (12, .aload_n 0, 1, 0, 0, .null, [], []),
  (13, .aload_n 1, 1, 1, 0, .null, [], []),
  (14, .putfield 15, 3, 6, 0, .null, [], [242]),
  (17, .aload_n 0, 1, 0, 0, .null, [], []),
  (18, .aload_n 2, 1, 2, 0, .null, [], []),
  (19, .putfield 19, 3, 6, 1, .null, [], [243]),
  (22, .return_, 1, 0, 0, .null, [], [])],
  [], 3)
/-- 70: LeastPays$Minds.costBy(II)I -/
def kX6_costBy : j_K := ([
  (0, .aload_n 0, 1, 0, 0, .null, [], []),
  (1, .getfield 19, 3, 6, 1, .null, [], [243]),
  (4, .getfield 23, 3, 3, 0, .null, [], [195]),
  (7, .iload_n 1, 1, 1, 0, .null, [], []),
  (8, .iload_n 2, 1, 2, 0, .null, [], []),
  (9, .iastore, 1, 0, 0, .null, [], []),
  (10, .aload_n 0, 1, 0, 0, .null, [], []),
  (11, .getfield 19, 3, 6, 1, .null, [], [243]),
  (14, .invokevirtual 28, 6, 24, 0, .null, [], [726, 87, 585, 583, 584]),
  (17, .aload_n 0, 1, 0, 0, .null, [], []),
  (18, .getfield 19, 3, 6, 1, .null, [], [243]),
  (21, .iload_n 1, 1, 1, 0, .null, [], []),
  (22, .invokevirtual 31, 6, 26, 1, .int 0, [], [727, 87, 602, 600, 601]),
  (25, .ireturn, 1, 0, 0, .int 0, [], [])],
  [], 3)
/-- 71: LeastPays$Minds.search(I)V -/
def kX6_search : j_K := ([
  (0, .aload_n 0, 1, 0, 0, .null, [], []),
  (1, .getfield 19, 3, 6, 1, .null, [], [243]),
  (4, .getfield 23, 3, 3, 0, .null, [], [195]),
  (7, .iload_n 1, 1, 1, 0, .null, [], []),
  (8, .iaload, 1, 0, 0, .null, [], []),
  (9, .istore_n 2, 1, 2, 0, .null, [], []),
  (10, .aload_n 0, 1, 0, 0, .null, [], []),
  (11, .iconst 0, 1, 0, 0, .int 0, [], []),
  (12, .putfield 35, 3, 6, 3, .int 0, [], [246]),
  (15, .aload_n 0, 1, 0, 0, .null, [], []),
  (16, .ldc 39, 2, 0, 0, .int 1000000, [], [717]),
  (18, .putfield 40, 3, 6, 4, .int 0, [], [248]),
  (21, .aload_n 0, 1, 0, 0, .null, [], []),
  (22, .iload_n 1, 1, 1, 0, .null, [], []),
  (23, .invokevirtual 43, 9, 74, 1, .int 0, [], [718, 88, 721, 720, 22]),
  (26, .istore_n 3, 1, 3, 0, .null, [], []),
  (27, .iconst 0, 1, 0, 0, .int 0, [], []),
  (28, .istore 4, 2, 4, 0, .null, [], []),
  (30, .iload 4, 2, 4, 0, .null, [], []),
  (32, .iload_n 3, 1, 3, 0, .null, [], []),
  (33, .if_icmp .ge 51, 3, 84, 0, .null, [], []),
  (36, .iload 4, 2, 4, 0, .null, [], []),
  (38, .aload_n 0, 1, 0, 0, .null, [], []),
  (39, .getfield 15, 3, 6, 0, .null, [], [242]),
  (42, .getfield 46, 3, 2, 9, .int 0, [], [154]),
  (45, .imul, 1, 0, 0, .null, [], []),
  (46, .istore 5, 2, 5, 0, .null, [], []),
  (48, .aload_n 0, 1, 0, 0, .null, [], []),
  (49, .iload_n 1, 1, 1, 0, .null, [], []),
  (50, .iload 5, 2, 5, 0, .null, [], []),
  (52, .invokevirtual 51, 9, 70, 2, .int 0, [], [722, 88, 725, 724, 23]),
  (55, .istore 6, 2, 6, 0, .null, [], []),
  (57, .iload 6, 2, 6, 0, .null, [], []),
  (59, .aload_n 0, 1, 0, 0, .null, [], []),
  (60, .getfield 40, 3, 6, 4, .int 0, [], [248]),
  (63, .if_icmp .ge 15, 3, 78, 0, .null, [], []),
  (66, .aload_n 0, 1, 0, 0, .null, [], []),
  (67, .iload 5, 2, 5, 0, .null, [], []),
  (69, .putfield 35, 3, 6, 3, .int 0, [], [246]),
  (72, .aload_n 0, 1, 0, 0, .null, [], []),
  (73, .iload 6, 2, 6, 0, .null, [], []),
  (75, .putfield 40, 3, 6, 4, .int 0, [], [248]),
  (78, .iinc 4 1, 3, 4, 0, .int 1, [], []),
  (81, .goto (-51), 3, 30, 0, .null, [], []),
  (84, .aload_n 0, 1, 0, 0, .null, [], []),
  (85, .getfield 19, 3, 6, 1, .null, [], [243]),
  (88, .getfield 23, 3, 3, 0, .null, [], [195]),
  (91, .iload_n 1, 1, 1, 0, .null, [], []),
  (92, .iload_n 2, 1, 2, 0, .null, [], []),
  (93, .iastore, 1, 0, 0, .null, [], []),
  (94, .return_, 1, 0, 0, .null, [], [])],
  [(30, [true, true, true, true, true, false, false])], 7)
/-- 72: LeastPays$Minds.wouldChange(I)Z -/
def kX6_wouldChange : j_K := ([
  (0, .aload_n 0, 1, 0, 0, .null, [], []),
  (1, .getfield 19, 3, 6, 1, .null, [], [243]),
  (4, .getfield 23, 3, 3, 0, .null, [], [195]),
  (7, .iload_n 1, 1, 1, 0, .null, [], []),
  (8, .iaload, 1, 0, 0, .null, [], []),
  (9, .istore_n 2, 1, 2, 0, .null, [], []),
  (10, .aload_n 0, 1, 0, 0, .null, [], []),
  (11, .iload_n 1, 1, 1, 0, .null, [], []),
  (12, .iload_n 2, 1, 2, 0, .null, [], []),
  (13, .invokevirtual 51, 9, 70, 2, .int 0, [], [722, 88, 725, 724, 23]),
  (16, .istore_n 3, 1, 3, 0, .null, [], []),
  (17, .iconst 0, 1, 0, 0, .int 0, [], []),
  (18, .istore 4, 2, 4, 0, .null, [], []),
  (20, .aload_n 0, 1, 0, 0, .null, [], []),
  (21, .iload_n 1, 1, 1, 0, .null, [], []),
  (22, .invokevirtual 43, 9, 74, 1, .int 0, [], [718, 88, 721, 720, 22]),
  (25, .istore 5, 2, 5, 0, .null, [], []),
  (27, .iconst 0, 1, 0, 0, .int 0, [], []),
  (28, .istore 6, 2, 6, 0, .null, [], []),
  (30, .iload 6, 2, 6, 0, .null, [], []),
  (32, .iload 5, 2, 5, 0, .null, [], []),
  (34, .if_icmp .ge 40, 3, 74, 0, .null, [], []),
  (37, .iload 4, 2, 4, 0, .null, [], []),
  (39, .ifCond .ne 35, 3, 74, 0, .null, [], []),
  (42, .aload_n 0, 1, 0, 0, .null, [], []),
  (43, .iload_n 1, 1, 1, 0, .null, [], []),
  (44, .iload 6, 2, 6, 0, .null, [], []),
  (46, .aload_n 0, 1, 0, 0, .null, [], []),
  (47, .getfield 15, 3, 6, 0, .null, [], [242]),
  (50, .getfield 46, 3, 2, 9, .int 0, [], [154]),
  (53, .imul, 1, 0, 0, .null, [], []),
  (54, .invokevirtual 51, 9, 70, 2, .int 0, [], [722, 88, 725, 724, 23]),
  (57, .iload_n 3, 1, 3, 0, .null, [], []),
  (58, .if_icmp .ge 7, 3, 65, 0, .null, [], []),
  (61, .iconst 1, 1, 0, 0, .int 1, [], []),
  (62, .goto 4, 3, 66, 0, .null, [], []),
  (65, .iconst 0, 1, 0, 0, .int 0, [], []),
  (66, .istore 4, 2, 4, 0, .null, [], []),
  (68, .iinc 6 1, 3, 6, 0, .int 1, [], []),
  (71, .goto (-41), 3, 30, 0, .null, [], []),
  (74, .aload_n 0, 1, 0, 0, .null, [], []),
  (75, .getfield 19, 3, 6, 1, .null, [], [243]),
  (78, .getfield 23, 3, 3, 0, .null, [], [195]),
  (81, .iload_n 1, 1, 1, 0, .null, [], []),
  (82, .iload_n 2, 1, 2, 0, .null, [], []),
  (83, .iastore, 1, 0, 0, .null, [], []),
  (84, .iload 4, 2, 4, 0, .null, [], []),
  (86, .ireturn, 1, 0, 0, .long 0, [], [])],
  [(30, [true, true, true, true, true, true, true])], 7)
/-- 73: LeastPays$Minds.firstRestless()I -/
def kX6_firstRestless : j_K := ([
  (0, .iconst 0, 1, 0, 0, .int 0, [], []),
  (1, .istore_n 1, 1, 1, 0, .null, [], []),
  (2, .iload_n 1, 1, 1, 0, .null, [], []),
  (3, .aload_n 0, 1, 0, 0, .null, [], []),
  (4, .getfield 19, 3, 6, 1, .null, [], [243]),
  (7, .getfield 55, 3, 3, 1, .int 0, [], [199]),
  (10, .if_icmp .ge 19, 3, 29, 0, .null, [], []),
  (13, .aload_n 0, 1, 0, 0, .null, [], []),
  (14, .iload_n 1, 1, 1, 0, .null, [], []),
  (15, .invokevirtual 58, 9, 72, 1, .int 0, [], [767, 88, 770, 769, 25]),
  (18, .ifCond .eq 5, 3, 23, 0, .null, [], []),
  (21, .iload_n 1, 1, 1, 0, .null, [], []),
  (22, .ireturn, 1, 0, 0, .int 0, [], []),
  (23, .iinc 1 1, 3, 1, 0, .int 1, [], []),
  (26, .goto (-24), 3, 2, 0, .null, [], []),
  (29, .bipush (-2), 2, 0, 0, .int (-2), [], []),
  (31, .ireturn, 1, 0, 0, .int 0, [], [])],
  [(2, [true, true])], 2)
/-- 74: LeastPays$Minds.sumsOf(I)I -/
def kX6_sumsOf : j_K := ([
  (0, .aload_n 0, 1, 0, 0, .null, [], []),
  (1, .getfield 15, 3, 6, 0, .null, [], [242]),
  (4, .getfield 46, 3, 2, 9, .int 0, [], [154]),
  (7, .ifCond .le 25, 3, 32, 0, .null, [], []),
  (10, .aload_n 0, 1, 0, 0, .null, [], []),
  (11, .getfield 15, 3, 6, 0, .null, [], [242]),
  (14, .getfield 62, 3, 2, 0, .null, [], [115]),
  (17, .iload_n 1, 1, 1, 0, .null, [], []),
  (18, .iaload, 1, 0, 0, .null, [], []),
  (19, .aload_n 0, 1, 0, 0, .null, [], []),
  (20, .getfield 15, 3, 6, 0, .null, [], [242]),
  (23, .getfield 46, 3, 2, 9, .int 0, [], [154]),
  (26, .idiv, 1, 0, 0, .null, [], []),
  (27, .iconst 1, 1, 0, 0, .int 1, [], []),
  (28, .iadd, 1, 0, 0, .null, [], []),
  (29, .goto 4, 3, 33, 0, .null, [], []),
  (32, .iconst 1, 1, 0, 0, .int 1, [], []),
  (33, .ireturn, 1, 0, 0, .int 0, [], [])],
  [], 2)
/-- 75: LeastPays$Minds.ways()J -/
def kX6_ways : j_K := ([
  (0, .lconst 1, 1, 0, 0, .long 1, [], []),
  (1, .lstore_n 1, 1, 1, 0, .null, [], []),
  (2, .iconst 0, 1, 0, 0, .int 0, [], []),
  (3, .istore_n 3, 1, 3, 0, .null, [], []),
  (4, .iload_n 3, 1, 3, 0, .null, [], []),
  (5, .aload_n 0, 1, 0, 0, .null, [], []),
  (6, .getfield 15, 3, 6, 0, .null, [], [242]),
  (9, .getfield 65, 3, 2, 6, .int 0, [], [144]),
  (12, .if_icmp .ge 18, 3, 30, 0, .null, [], []),
  (15, .lload_n 1, 1, 1, 0, .null, [], []),
  (16, .aload_n 0, 1, 0, 0, .null, [], []),
  (17, .iload_n 3, 1, 3, 0, .null, [], []),
  (18, .invokevirtual 43, 9, 74, 1, .int 0, [], [718, 88, 721, 720, 22]),
  (21, .i2l, 1, 0, 0, .null, [], []),
  (22, .lmul, 1, 0, 0, .null, [], []),
  (23, .lstore_n 1, 1, 1, 0, .null, [], []),
  (24, .iinc 3 1, 3, 3, 0, .int 1, [], []),
  (27, .goto (-23), 3, 4, 0, .null, [], []),
  (30, .lload_n 1, 1, 1, 0, .null, [], []),
  (31, .lreturn, 1, 0, 0, .null, [], [])],
  [(4, [true, true, false, true])], 4)
/-- 76: LeastPays$Minds.fewWays()Z -/
def kX6_fewWays : j_K := ([
  (0, .aload_n 0, 1, 0, 0, .null, [], []),
  (1, .invokevirtual 66, 9, 75, 0, .long 0, [], [779, 88, 782, 781, 26]),
  (4, .ldc2_w 70, 3, 0, 0, .long 4096, [], [783]),
  (7, .lcmp, 1, 0, 0, .null, [], []),
  (8, .ifCond .gt 7, 3, 15, 0, .null, [], []),
  (11, .iconst 1, 1, 0, 0, .int 1, [], []),
  (12, .goto 4, 3, 16, 0, .null, [], []),
  (15, .iconst 0, 1, 0, 0, .int 0, [], []),
  (16, .ireturn, 1, 0, 0, .long 0, [], [])],
  [], 1)
/-- 77: LeastPays$Minds.goThroughWays()I -/
def kX6_goThroughWays : j_K := ([
  (0, .aload_n 0, 1, 0, 0, .null, [], []),
  (1, .getfield 19, 3, 6, 1, .null, [], [243]),
  (4, .aload_n 0, 1, 0, 0, .null, [], []),
  (5, .getfield 15, 3, 6, 0, .null, [], [242]),
  (8, .invokevirtual 72, 6, 22, 1, .null, [], [737, 87, 580, 578, 579]),
  (11, .iconst 0, 1, 0, 0, .int 0, [], []),
  (12, .istore_n 1, 1, 1, 0, .null, [], []),
  (13, .aload_n 0, 1, 0, 0, .null, [], []),
  (14, .invokevirtual 66, 9, 75, 0, .long 0, [], [779, 88, 782, 781, 26]),
  (17, .ldc2_w 70, 3, 0, 0, .long 4096, [], [783]),
  (20, .invokestatic 76, 3, 1003, 2, .null, [], [788, 789, 98, 790]),
  (23, .l2i, 1, 0, 0, .null, [], []),
  (24, .istore_n 2, 1, 2, 0, .null, [], []),
  (25, .iconst 0, 1, 0, 0, .int 0, [], []),
  (26, .istore_n 3, 1, 3, 0, .null, [], []),
  (27, .iload_n 3, 1, 3, 0, .null, [], []),
  (28, .iload_n 2, 1, 2, 0, .null, [], []),
  (29, .if_icmp .ge 53, 3, 82, 0, .null, [], []),
  (32, .aload_n 0, 1, 0, 0, .null, [], []),
  (33, .iload_n 3, 1, 3, 0, .null, [], []),
  (34, .invokevirtual 82, 9, 78, 1, .null, [], [791, 88, 794, 793, 27]),
  (37, .aload_n 0, 1, 0, 0, .null, [], []),
  (38, .invokevirtual 86, 9, 73, 0, .int 0, [], [795, 88, 766, 764, 765]),
  (41, .bipush (-2), 2, 0, 0, .int (-2), [], []),
  (43, .if_icmp .ne 33, 3, 76, 0, .null, [], []),
  (46, .iload_n 1, 1, 1, 0, .null, [], []),
  (47, .ifCond .ne 26, 3, 73, 0, .null, [], []),
  (50, .aload_n 0, 1, 0, 0, .null, [], []),
  (51, .getfield 19, 3, 6, 1, .null, [], [243]),
  (54, .getfield 23, 3, 3, 0, .null, [], [195]),
  (57, .iconst 0, 1, 0, 0, .int 0, [], []),
  (58, .aload_n 0, 1, 0, 0, .null, [], []),
  (59, .getfield 9, 3, 6, 2, .null, [], [244]),
  (62, .iconst 0, 1, 0, 0, .int 0, [], []),
  (63, .aload_n 0, 1, 0, 0, .null, [], []),
  (64, .getfield 15, 3, 6, 0, .null, [], [242]),
  (67, .getfield 65, 3, 2, 6, .int 0, [], [144]),
  (70, .invokestatic 90, 3, 1000, 5, .null, [], [796, 568, 567, 97]),
  (73, .iinc 1 1, 3, 1, 0, .int 1, [], []),
  (76, .iinc 3 1, 3, 3, 0, .int 1, [], []),
  (79, .goto (-52), 3, 27, 0, .null, [], []),
  (82, .iload_n 1, 1, 1, 0, .null, [], []),
  (83, .ireturn, 1, 0, 0, .int 0, [], [])],
  [(27, [true, true, true, true])], 4)
/-- 78: LeastPays$Minds.layWay(I)V -/
def kX6_layWay : j_K := ([
  (0, .iload_n 1, 1, 1, 0, .null, [], []),
  (1, .istore_n 2, 1, 2, 0, .null, [], []),
  (2, .aload_n 0, 1, 0, 0, .null, [], []),
  (3, .getfield 15, 3, 6, 0, .null, [], [242]),
  (6, .getfield 65, 3, 2, 6, .int 0, [], [144]),
  (9, .iconst 1, 1, 0, 0, .int 1, [], []),
  (10, .isub, 1, 0, 0, .null, [], []),
  (11, .istore_n 3, 1, 3, 0, .null, [], []),
  (12, .iload_n 3, 1, 3, 0, .null, [], []),
  (13, .ifCond .lt 47, 3, 60, 0, .null, [], []),
  (16, .aload_n 0, 1, 0, 0, .null, [], []),
  (17, .iload_n 3, 1, 3, 0, .null, [], []),
  (18, .invokevirtual 43, 9, 74, 1, .int 0, [], [718, 88, 721, 720, 22]),
  (21, .istore 4, 2, 4, 0, .null, [], []),
  (23, .iload 4, 2, 4, 0, .null, [], []),
  (25, .ifCond .le 29, 3, 54, 0, .null, [], []),
  (28, .aload_n 0, 1, 0, 0, .null, [], []),
  (29, .getfield 19, 3, 6, 1, .null, [], [243]),
  (32, .getfield 23, 3, 3, 0, .null, [], [195]),
  (35, .iload_n 3, 1, 3, 0, .null, [], []),
  (36, .iload_n 2, 1, 2, 0, .null, [], []),
  (37, .iload 4, 2, 4, 0, .null, [], []),
  (39, .irem, 1, 0, 0, .null, [], []),
  (40, .aload_n 0, 1, 0, 0, .null, [], []),
  (41, .getfield 15, 3, 6, 0, .null, [], [242]),
  (44, .getfield 46, 3, 2, 9, .int 0, [], [154]),
  (47, .imul, 1, 0, 0, .null, [], []),
  (48, .iastore, 1, 0, 0, .null, [], []),
  (49, .iload_n 2, 1, 2, 0, .null, [], []),
  (50, .iload 4, 2, 4, 0, .null, [], []),
  (52, .idiv, 1, 0, 0, .null, [], []),
  (53, .istore_n 2, 1, 2, 0, .null, [], []),
  (54, .iinc 3 (-1), 3, 3, 0, .int (-1), [], []),
  (57, .goto (-45), 3, 12, 0, .null, [], []),
  (60, .return_, 1, 0, 0, .null, [], [])],
  [(12, [true, false, true, true, false])], 5)
/-- 79: LeastPays$Minds.takeTurns()I -/
def kX6_takeTurns : j_K := ([
  (0, .aload_n 0, 1, 0, 0, .null, [], []),
  (1, .getfield 19, 3, 6, 1, .null, [], [243]),
  (4, .aload_n 0, 1, 0, 0, .null, [], []),
  (5, .getfield 15, 3, 6, 0, .null, [], [242]),
  (8, .invokevirtual 72, 6, 22, 1, .null, [], [737, 87, 580, 578, 579]),
  (11, .iconst 0, 1, 0, 0, .int 0, [], []),
  (12, .istore_n 1, 1, 1, 0, .null, [], []),
  (13, .iconst 0, 1, 0, 0, .int 0, [], []),
  (14, .istore_n 2, 1, 2, 0, .null, [], []),
  (15, .iconst 0, 1, 0, 0, .int 0, [], []),
  (16, .istore_n 3, 1, 3, 0, .null, [], []),
  (17, .iconst 0, 1, 0, 0, .int 0, [], []),
  (18, .istore 4, 2, 4, 0, .null, [], []),
  (20, .iload 4, 2, 4, 0, .null, [], []),
  (22, .sipush 1000, 3, 0, 0, .int 1000, [], []),
  (25, .if_icmp .ge 104, 3, 129, 0, .null, [], []),
  (28, .iload_n 2, 1, 2, 0, .null, [], []),
  (29, .aload_n 0, 1, 0, 0, .null, [], []),
  (30, .getfield 15, 3, 6, 0, .null, [], [242]),
  (33, .getfield 65, 3, 2, 6, .int 0, [], [144]),
  (36, .if_icmp .ge 93, 3, 129, 0, .null, [], []),
  (39, .aload_n 0, 1, 0, 0, .null, [], []),
  (40, .iload_n 3, 1, 3, 0, .null, [], []),
  (41, .aload_n 0, 1, 0, 0, .null, [], []),
  (42, .getfield 19, 3, 6, 1, .null, [], [243]),
  (45, .getfield 23, 3, 3, 0, .null, [], [195]),
  (48, .iload_n 3, 1, 3, 0, .null, [], []),
  (49, .iaload, 1, 0, 0, .null, [], []),
  (50, .invokevirtual 51, 9, 70, 2, .int 0, [], [722, 88, 725, 724, 23]),
  (53, .istore 5, 2, 5, 0, .null, [], []),
  (55, .aload_n 0, 1, 0, 0, .null, [], []),
  (56, .iload_n 3, 1, 3, 0, .null, [], []),
  (57, .invokevirtual 96, 9, 71, 1, .null, [], [805, 88, 716, 714, 715]),
  (60, .aload_n 0, 1, 0, 0, .null, [], []),
  (61, .getfield 40, 3, 6, 4, .int 0, [], [248]),
  (64, .iload 5, 2, 5, 0, .null, [], []),
  (66, .if_icmp .lt 9, 3, 75, 0, .null, [], []),
  (69, .iinc 2 1, 3, 2, 0, .int 1, [], []),
  (72, .goto 30, 3, 102, 0, .null, [], []),
  (75, .iload_n 1, 1, 1, 0, .null, [], []),
  (76, .bipush 60, 2, 0, 0, .int 60, [], []),
  (78, .if_icmp .ne 6, 3, 84, 0, .null, [], []),
  (81, .bipush (-2), 2, 0, 0, .int (-2), [], []),
  (83, .ireturn, 1, 0, 0, .int 0, [], []),
  (84, .aload_n 0, 1, 0, 0, .null, [], []),
  (85, .getfield 19, 3, 6, 1, .null, [], [243]),
  (88, .getfield 23, 3, 3, 0, .null, [], [195]),
  (91, .iload_n 3, 1, 3, 0, .null, [], []),
  (92, .aload_n 0, 1, 0, 0, .null, [], []),
  (93, .getfield 35, 3, 6, 3, .int 0, [], [246]),
  (96, .iastore, 1, 0, 0, .null, [], []),
  (97, .iinc 1 1, 3, 1, 0, .int 1, [], []),
  (100, .iconst 0, 1, 0, 0, .int 0, [], []),
  (101, .istore_n 2, 1, 2, 0, .null, [], []),
  (102, .iload_n 3, 1, 3, 0, .null, [], []),
  (103, .iconst 1, 1, 0, 0, .int 1, [], []),
  (104, .iadd, 1, 0, 0, .null, [], []),
  (105, .aload_n 0, 1, 0, 0, .null, [], []),
  (106, .getfield 15, 3, 6, 0, .null, [], [242]),
  (109, .getfield 65, 3, 2, 6, .int 0, [], [144]),
  (112, .if_icmp .ge 9, 3, 121, 0, .null, [], []),
  (115, .iload_n 3, 1, 3, 0, .null, [], []),
  (116, .iconst 1, 1, 0, 0, .int 1, [], []),
  (117, .iadd, 1, 0, 0, .null, [], []),
  (118, .goto 4, 3, 122, 0, .null, [], []),
  (121, .iconst 0, 1, 0, 0, .int 0, [], []),
  (122, .istore_n 3, 1, 3, 0, .null, [], []),
  (123, .iinc 4 1, 3, 4, 0, .int 1, [], []),
  (126, .goto (-106), 3, 20, 0, .null, [], []),
  (129, .iload_n 1, 1, 1, 0, .null, [], []),
  (130, .ireturn, 1, 0, 0, .int 0, [], [])],
  [(20, [true, true, true, true, true, false])], 6)
/-- 80: LeastPays$Minds.settle(II)V -/
def kX6_settle : j_K := ([
  (0, .aload_n 0, 1, 0, 0, .null, [], []),
  (1, .getfield 19, 3, 6, 1, .null, [], [243]),
  (4, .aload_n 0, 1, 0, 0, .null, [], []),
  (5, .getfield 15, 3, 6, 0, .null, [], [242]),
  (8, .invokevirtual 72, 6, 22, 1, .null, [], [737, 87, 580, 578, 579]),
  (11, .aload_n 0, 1, 0, 0, .null, [], []),
  (12, .ldc 39, 2, 0, 0, .int 1000000, [], [717]),
  (14, .putfield 40, 3, 6, 4, .int 0, [], [248]),
  (17, .aload_n 0, 1, 0, 0, .null, [], []),
  (18, .iload_n 1, 1, 1, 0, .null, [], []),
  (19, .invokevirtual 43, 9, 74, 1, .int 0, [], [718, 88, 721, 720, 22]),
  (22, .istore_n 3, 1, 3, 0, .null, [], []),
  (23, .aload_n 0, 1, 0, 0, .null, [], []),
  (24, .iload_n 2, 1, 2, 0, .null, [], []),
  (25, .invokevirtual 43, 9, 74, 1, .int 0, [], [718, 88, 721, 720, 22]),
  (28, .istore 4, 2, 4, 0, .null, [], []),
  (30, .iconst 0, 1, 0, 0, .int 0, [], []),
  (31, .istore 5, 2, 5, 0, .null, [], []),
  (33, .iload 5, 2, 5, 0, .null, [], []),
  (35, .iload_n 3, 1, 3, 0, .null, [], []),
  (36, .if_icmp .ge 113, 3, 149, 0, .null, [], []),
  (39, .aload_n 0, 1, 0, 0, .null, [], []),
  (40, .getfield 19, 3, 6, 1, .null, [], [243]),
  (43, .getfield 23, 3, 3, 0, .null, [], [195]),
  (46, .iload_n 1, 1, 1, 0, .null, [], []),
  (47, .iload 5, 2, 5, 0, .null, [], []),
  (49, .aload_n 0, 1, 0, 0, .null, [], []),
  (50, .getfield 15, 3, 6, 0, .null, [], [242]),
  (53, .getfield 46, 3, 2, 9, .int 0, [], [154]),
  (56, .imul, 1, 0, 0, .null, [], []),
  (57, .iastore, 1, 0, 0, .null, [], []),
  (58, .iconst 0, 1, 0, 0, .int 0, [], []),
  (59, .istore 6, 2, 6, 0, .null, [], []),
  (61, .iload 6, 2, 6, 0, .null, [], []),
  (63, .iload 4, 2, 4, 0, .null, [], []),
  (65, .if_icmp .ge 78, 3, 143, 0, .null, [], []),
  (68, .aload_n 0, 1, 0, 0, .null, [], []),
  (69, .iload_n 2, 1, 2, 0, .null, [], []),
  (70, .iload 6, 2, 6, 0, .null, [], []),
  (72, .aload_n 0, 1, 0, 0, .null, [], []),
  (73, .getfield 15, 3, 6, 0, .null, [], [242]),
  (76, .getfield 46, 3, 2, 9, .int 0, [], [154]),
  (79, .imul, 1, 0, 0, .null, [], []),
  (80, .invokevirtual 51, 9, 70, 2, .int 0, [], [722, 88, 725, 724, 23]),
  (83, .aload_n 0, 1, 0, 0, .null, [], []),
  (84, .getfield 19, 3, 6, 1, .null, [], [243]),
  (87, .iload_n 1, 1, 1, 0, .null, [], []),
  (88, .invokevirtual 31, 6, 26, 1, .int 0, [], [727, 87, 602, 600, 601]),
  (91, .iadd, 1, 0, 0, .null, [], []),
  (92, .istore 7, 2, 7, 0, .null, [], []),
  (94, .iload 7, 2, 7, 0, .null, [], []),
  (96, .aload_n 0, 1, 0, 0, .null, [], []),
  (97, .getfield 40, 3, 6, 4, .int 0, [], [248]),
  (100, .if_icmp .ge 37, 3, 137, 0, .null, [], []),
  (103, .aload_n 0, 1, 0, 0, .null, [], []),
  (104, .iload 7, 2, 7, 0, .null, [], []),
  (106, .putfield 40, 3, 6, 4, .int 0, [], [248]),
  (109, .aload_n 0, 1, 0, 0, .null, [], []),
  (110, .iload 5, 2, 5, 0, .null, [], []),
  (112, .aload_n 0, 1, 0, 0, .null, [], []),
  (113, .getfield 15, 3, 6, 0, .null, [], [242]),
  (116, .getfield 46, 3, 2, 9, .int 0, [], [154]),
  (119, .imul, 1, 0, 0, .null, [], []),
  (120, .putfield 35, 3, 6, 3, .int 0, [], [246]),
  (123, .aload_n 0, 1, 0, 0, .null, [], []),
  (124, .iload 6, 2, 6, 0, .null, [], []),
  (126, .aload_n 0, 1, 0, 0, .null, [], []),
  (127, .getfield 15, 3, 6, 0, .null, [], [242]),
  (130, .getfield 46, 3, 2, 9, .int 0, [], [154]),
  (133, .imul, 1, 0, 0, .null, [], []),
  (134, .putfield 99, 3, 6, 5, .int 0, [], [250]),
  (137, .iinc 6 1, 3, 6, 0, .int 1, [], []),
  (140, .goto (-79), 3, 61, 0, .null, [], []),
  (143, .iinc 5 1, 3, 5, 0, .int 1, [], []),
  (146, .goto (-113), 3, 33, 0, .null, [], []),
  (149, .aload_n 0, 1, 0, 0, .null, [], []),
  (150, .getfield 19, 3, 6, 1, .null, [], [243]),
  (153, .getfield 23, 3, 3, 0, .null, [], [195]),
  (156, .iload_n 1, 1, 1, 0, .null, [], []),
  (157, .aload_n 0, 1, 0, 0, .null, [], []),
  (158, .getfield 35, 3, 6, 3, .int 0, [], [246]),
  (161, .iastore, 1, 0, 0, .null, [], []),
  (162, .aload_n 0, 1, 0, 0, .null, [], []),
  (163, .getfield 19, 3, 6, 1, .null, [], [243]),
  (166, .getfield 23, 3, 3, 0, .null, [], [195]),
  (169, .iload_n 2, 1, 2, 0, .null, [], []),
  (170, .aload_n 0, 1, 0, 0, .null, [], []),
  (171, .getfield 99, 3, 6, 5, .int 0, [], [250]),
  (174, .iastore, 1, 0, 0, .null, [], []),
  (175, .aload_n 0, 1, 0, 0, .null, [], []),
  (176, .getfield 19, 3, 6, 1, .null, [], [243]),
  (179, .invokevirtual 28, 6, 24, 0, .null, [], [726, 87, 585, 583, 584]),
  (182, .return_, 1, 0, 0, .null, [], [])],
  [(33, [true, true, true, true, true, true, false, false]), (61, [true, true, true, true, true, true, true, false])], 8)
/-- 81: LeastPays$Minds.victimOf(II)I -/
def kX6_victimOf : j_K := ([
  (0, .iconst 0, 1, 0, 0, .int 0, [], []),
  (1, .istore_n 3, 1, 3, 0, .null, [], []),
  (2, .iload_n 3, 1, 3, 0, .null, [], []),
  (3, .aload_n 0, 1, 0, 0, .null, [], []),
  (4, .getfield 19, 3, 6, 1, .null, [], [243]),
  (7, .getfield 55, 3, 3, 1, .int 0, [], [199]),
  (10, .if_icmp .ge 32, 3, 42, 0, .null, [], []),
  (13, .iload_n 3, 1, 3, 0, .null, [], []),
  (14, .iload_n 1, 1, 1, 0, .null, [], []),
  (15, .if_icmp .eq 21, 3, 36, 0, .null, [], []),
  (18, .iload_n 3, 1, 3, 0, .null, [], []),
  (19, .iload_n 2, 1, 2, 0, .null, [], []),
  (20, .if_icmp .eq 16, 3, 36, 0, .null, [], []),
  (23, .aload_n 0, 1, 0, 0, .null, [], []),
  (24, .getfield 19, 3, 6, 1, .null, [], [243]),
  (27, .iload_n 3, 1, 3, 0, .null, [], []),
  (28, .invokevirtual 102, 6, 27, 1, .int 0, [], [818, 87, 606, 604, 605]),
  (31, .ifCond .le 5, 3, 36, 0, .null, [], []),
  (34, .iload_n 3, 1, 3, 0, .null, [], []),
  (35, .ireturn, 1, 0, 0, .int 0, [], []),
  (36, .iinc 3 1, 3, 3, 0, .int 1, [], []),
  (39, .goto (-37), 3, 2, 0, .null, [], []),
  (42, .bipush (-2), 2, 0, 0, .int (-2), [], []),
  (44, .ireturn, 1, 0, 0, .int 0, [], [])],
  [(2, [true, true, true, true])], 4)
/-- 82: LeastPays$Minds.allWeights()J -/
def kX6_allWeights : j_K := ([
  (0, .lconst 1, 1, 0, 0, .long 1, [], []),
  (1, .lstore_n 1, 1, 1, 0, .null, [], []),
  (2, .iconst 1, 1, 0, 0, .int 1, [], []),
  (3, .istore_n 3, 1, 3, 0, .null, [], []),
  (4, .iload_n 3, 1, 3, 0, .null, [], []),
  (5, .aload_n 0, 1, 0, 0, .null, [], []),
  (6, .getfield 15, 3, 6, 0, .null, [], [242]),
  (9, .getfield 65, 3, 2, 6, .int 0, [], [144]),
  (12, .if_icmp .ge 15, 3, 27, 0, .null, [], []),
  (15, .lload_n 1, 1, 1, 0, .null, [], []),
  (16, .ldc2_w 105, 3, 0, 0, .long 12, [], [746]),
  (19, .lmul, 1, 0, 0, .null, [], []),
  (20, .lstore_n 1, 1, 1, 0, .null, [], []),
  (21, .iinc 3 1, 3, 3, 0, .int 1, [], []),
  (24, .goto (-20), 3, 4, 0, .null, [], []),
  (27, .lload_n 1, 1, 1, 0, .null, [], []),
  (28, .lreturn, 1, 0, 0, .null, [], [])],
  [(4, [true, true, false, true])], 4)
/-- 83: LeastPays$Minds.weighedCost(II)J -/
def kX6_weighedCost : j_K := ([
  (0, .aload_n 0, 1, 0, 0, .null, [], []),
  (1, .getfield 19, 3, 6, 1, .null, [], [243]),
  (4, .aload_n 0, 1, 0, 0, .null, [], []),
  (5, .getfield 15, 3, 6, 0, .null, [], [242]),
  (8, .invokevirtual 72, 6, 22, 1, .null, [], [737, 87, 580, 578, 579]),
  (11, .lconst 0, 1, 0, 0, .long 0, [], []),
  (12, .lstore_n 3, 1, 3, 0, .null, [], []),
  (13, .iconst 0, 1, 0, 0, .int 0, [], []),
  (14, .istore 5, 2, 5, 0, .null, [], []),
  (16, .iload 5, 2, 5, 0, .null, [], []),
  (18, .iconst 1, 1, 0, 0, .int 1, [], []),
  (19, .aload_n 0, 1, 0, 0, .null, [], []),
  (20, .getfield 15, 3, 6, 0, .null, [], [242]),
  (23, .getfield 65, 3, 2, 6, .int 0, [], [144]),
  (26, .ishl, 1, 0, 0, .null, [], []),
  (27, .if_icmp .ge 51, 3, 78, 0, .null, [], []),
  (30, .iload 5, 2, 5, 0, .null, [], []),
  (32, .iload_n 1, 1, 1, 0, .null, [], []),
  (33, .ishr, 1, 0, 0, .null, [], []),
  (34, .iconst 1, 1, 0, 0, .int 1, [], []),
  (35, .iand, 1, 0, 0, .null, [], []),
  (36, .ifCond .ne 36, 3, 72, 0, .null, [], []),
  (39, .aload_n 0, 1, 0, 0, .null, [], []),
  (40, .iload 5, 2, 5, 0, .null, [], []),
  (42, .iload_n 1, 1, 1, 0, .null, [], []),
  (43, .invokevirtual 107, 9, 84, 2, .long 0, [], [738, 88, 741, 740, 24]),
  (46, .lstore 6, 2, 6, 0, .null, [], []),
  (48, .lload_n 3, 1, 3, 0, .null, [], []),
  (49, .lload 6, 2, 6, 0, .null, [], []),
  (51, .lconst 0, 1, 0, 0, .long 0, [], []),
  (52, .lcmp, 1, 0, 0, .null, [], []),
  (53, .ifCond .ne 7, 3, 60, 0, .null, [], []),
  (56, .lconst 0, 1, 0, 0, .long 0, [], []),
  (57, .goto 13, 3, 70, 0, .null, [], []),
  (60, .lload 6, 2, 6, 0, .null, [], []),
  (62, .aload_n 0, 1, 0, 0, .null, [], []),
  (63, .iload_n 1, 1, 1, 0, .null, [], []),
  (64, .iload_n 2, 1, 2, 0, .null, [], []),
  (65, .invokevirtual 51, 9, 70, 2, .int 0, [], [722, 88, 725, 724, 23]),
  (68, .i2l, 1, 0, 0, .null, [], []),
  (69, .lmul, 1, 0, 0, .null, [], []),
  (70, .ladd, 1, 0, 0, .null, [], []),
  (71, .lstore_n 3, 1, 3, 0, .null, [], []),
  (72, .iinc 5 1, 3, 5, 0, .int 1, [], []),
  (75, .goto (-59), 3, 16, 0, .null, [], []),
  (78, .lload_n 3, 1, 3, 0, .null, [], []),
  (79, .lreturn, 1, 0, 0, .null, [], [])],
  [(16, [true, true, true, true, false, true, false, false])], 8)
/-- 84: LeastPays$Minds.layByChance(II)J -/
def kX6_layByChance : j_K := ([
  (0, .lconst 1, 1, 0, 0, .long 1, [], []),
  (1, .lstore_n 3, 1, 3, 0, .null, [], []),
  (2, .iconst 0, 1, 0, 0, .int 0, [], []),
  (3, .istore 5, 2, 5, 0, .null, [], []),
  (5, .iload 5, 2, 5, 0, .null, [], []),
  (7, .aload_n 0, 1, 0, 0, .null, [], []),
  (8, .getfield 15, 3, 6, 0, .null, [], [242]),
  (11, .getfield 65, 3, 2, 6, .int 0, [], [144]),
  (14, .if_icmp .ge 112, 3, 126, 0, .null, [], []),
  (17, .lload_n 3, 1, 3, 0, .null, [], []),
  (18, .lconst 0, 1, 0, 0, .long 0, [], []),
  (19, .lcmp, 1, 0, 0, .null, [], []),
  (20, .ifCond .eq 106, 3, 126, 0, .null, [], []),
  (23, .iload 5, 2, 5, 0, .null, [], []),
  (25, .iload_n 2, 1, 2, 0, .null, [], []),
  (26, .if_icmp .eq 94, 3, 120, 0, .null, [], []),
  (29, .iload_n 1, 1, 1, 0, .null, [], []),
  (30, .iload 5, 2, 5, 0, .null, [], []),
  (32, .ishr, 1, 0, 0, .null, [], []),
  (33, .iconst 1, 1, 0, 0, .int 1, [], []),
  (34, .iand, 1, 0, 0, .null, [], []),
  (35, .iconst 1, 1, 0, 0, .int 1, [], []),
  (36, .if_icmp .ne 7, 3, 43, 0, .null, [], []),
  (39, .iconst 1, 1, 0, 0, .int 1, [], []),
  (40, .goto 4, 3, 44, 0, .null, [], []),
  (43, .iconst 0, 1, 0, 0, .int 0, [], []),
  (44, .istore 6, 2, 6, 0, .null, [], []),
  (46, .aload_n 0, 1, 0, 0, .null, [], []),
  (47, .getfield 19, 3, 6, 1, .null, [], [243]),
  (50, .getfield 23, 3, 3, 0, .null, [], [195]),
  (53, .iload 5, 2, 5, 0, .null, [], []),
  (55, .iload 6, 2, 6, 0, .null, [], []),
  (57, .ifCond .eq 16, 3, 73, 0, .null, [], []),
  (60, .aload_n 0, 1, 0, 0, .null, [], []),
  (61, .getfield 15, 3, 6, 0, .null, [], [242]),
  (64, .getfield 111, 3, 2, 3, .null, [], [130]),
  (67, .iload 5, 2, 5, 0, .null, [], []),
  (69, .iaload, 1, 0, 0, .null, [], []),
  (70, .goto 13, 3, 83, 0, .null, [], []),
  (73, .aload_n 0, 1, 0, 0, .null, [], []),
  (74, .getfield 15, 3, 6, 0, .null, [], [242]),
  (77, .getfield 114, 3, 2, 1, .null, [], [122]),
  (80, .iload 5, 2, 5, 0, .null, [], []),
  (82, .iaload, 1, 0, 0, .null, [], []),
  (83, .iastore, 1, 0, 0, .null, [], []),
  (84, .lload_n 3, 1, 3, 0, .null, [], []),
  (85, .iload 6, 2, 6, 0, .null, [], []),
  (87, .ifCond .eq 17, 3, 104, 0, .null, [], []),
  (90, .aload_n 0, 1, 0, 0, .null, [], []),
  (91, .getfield 15, 3, 6, 0, .null, [], [242]),
  (94, .getfield 117, 3, 2, 2, .null, [], [126]),
  (97, .iload 5, 2, 5, 0, .null, [], []),
  (99, .iaload, 1, 0, 0, .null, [], []),
  (100, .i2l, 1, 0, 0, .null, [], []),
  (101, .goto 17, 3, 118, 0, .null, [], []),
  (104, .bipush 12, 2, 0, 0, .int 12, [], []),
  (106, .aload_n 0, 1, 0, 0, .null, [], []),
  (107, .getfield 15, 3, 6, 0, .null, [], [242]),
  (110, .getfield 117, 3, 2, 2, .null, [], [126]),
  (113, .iload 5, 2, 5, 0, .null, [], []),
  (115, .iaload, 1, 0, 0, .null, [], []),
  (116, .isub, 1, 0, 0, .null, [], []),
  (117, .i2l, 1, 0, 0, .null, [], []),
  (118, .lmul, 1, 0, 0, .null, [], []),
  (119, .lstore_n 3, 1, 3, 0, .null, [], []),
  (120, .iinc 5 1, 3, 5, 0, .int 1, [], []),
  (123, .goto (-118), 3, 5, 0, .null, [], []),
  (126, .lload_n 3, 1, 3, 0, .null, [], []),
  (127, .lreturn, 1, 0, 0, .null, [], [])],
  [(5, [true, true, true, true, false, true, false]), (83, [true, true, true, true, false, true, true])], 7)
/-- 85: LeastPays$Minds.sumOfLeastMean(I)I -/
def kX6_sumOfLeastMean : j_K := ([
  (0, .iconst 0, 1, 0, 0, .int 0, [], []),
  (1, .istore_n 2, 1, 2, 0, .null, [], []),
  (2, .aload_n 0, 1, 0, 0, .null, [], []),
  (3, .iload_n 1, 1, 1, 0, .null, [], []),
  (4, .iconst 0, 1, 0, 0, .int 0, [], []),
  (5, .invokevirtual 120, 9, 83, 2, .long 0, [], [758, 88, 736, 734, 735]),
  (8, .lstore_n 3, 1, 3, 0, .null, [], []),
  (9, .aload_n 0, 1, 0, 0, .null, [], []),
  (10, .iload_n 1, 1, 1, 0, .null, [], []),
  (11, .invokevirtual 43, 9, 74, 1, .int 0, [], [718, 88, 721, 720, 22]),
  (14, .istore 5, 2, 5, 0, .null, [], []),
  (16, .iconst 1, 1, 0, 0, .int 1, [], []),
  (17, .istore 6, 2, 6, 0, .null, [], []),
  (19, .iload 6, 2, 6, 0, .null, [], []),
  (21, .iload 5, 2, 5, 0, .null, [], []),
  (23, .if_icmp .ge 47, 3, 70, 0, .null, [], []),
  (26, .aload_n 0, 1, 0, 0, .null, [], []),
  (27, .iload_n 1, 1, 1, 0, .null, [], []),
  (28, .iload 6, 2, 6, 0, .null, [], []),
  (30, .aload_n 0, 1, 0, 0, .null, [], []),
  (31, .getfield 15, 3, 6, 0, .null, [], [242]),
  (34, .getfield 46, 3, 2, 9, .int 0, [], [154]),
  (37, .imul, 1, 0, 0, .null, [], []),
  (38, .invokevirtual 120, 9, 83, 2, .long 0, [], [758, 88, 736, 734, 735]),
  (41, .lstore 7, 2, 7, 0, .null, [], []),
  (43, .lload 7, 2, 7, 0, .null, [], []),
  (45, .lload_n 3, 1, 3, 0, .null, [], []),
  (46, .lcmp, 1, 0, 0, .null, [], []),
  (47, .ifCond .ge 17, 3, 64, 0, .null, [], []),
  (50, .iload 6, 2, 6, 0, .null, [], []),
  (52, .aload_n 0, 1, 0, 0, .null, [], []),
  (53, .getfield 15, 3, 6, 0, .null, [], [242]),
  (56, .getfield 46, 3, 2, 9, .int 0, [], [154]),
  (59, .imul, 1, 0, 0, .null, [], []),
  (60, .istore_n 2, 1, 2, 0, .null, [], []),
  (61, .lload 7, 2, 7, 0, .null, [], []),
  (63, .lstore_n 3, 1, 3, 0, .null, [], []),
  (64, .iinc 6 1, 3, 6, 0, .int 1, [], []),
  (67, .goto (-48), 3, 19, 0, .null, [], []),
  (70, .iload_n 2, 1, 2, 0, .null, [], []),
  (71, .ireturn, 1, 0, 0, .int 0, [], [])],
  [(19, [true, true, true, true, false, true, true, false, false])], 9)
/-- 86: LeastPays$Nights.<init>(LLeastPays$Guests;LLeastPays$Hat;)V -/
def kX7_init : j_K := ([
  (0, .aload_n 0, 1, 0, 0, .null, [], []),
  (1, .invokespecial 3, 3, 999, 0, .null, [], [338, 106, 107]),
  (4, .aload_n 0, 1, 0, 0, .null, [], []),
  (5, .aload_n 1, 1, 1, 0, .null, [], []),
  (6, .putfield 9, 3, 7, 0, .null, [], [339]),
  (9, .aload_n 0, 1, 0, 0, .null, [], []),
  (10, .aload_n 2, 1, 2, 0, .null, [], []),
  (11, .putfield 15, 3, 7, 1, .null, [], [340]),
  (14, .return_, 1, 0, 0, .null, [], [])],
  [], 3)
/-- 87: LeastPays$Nights.pass()I -/
def kX7_pass : j_K := ([
  (0, .aload_n 0, 1, 0, 0, .null, [], []),
  (1, .getfield 15, 3, 7, 1, .null, [], [340]),
  (4, .aload_n 0, 1, 0, 0, .null, [], []),
  (5, .getfield 9, 3, 7, 0, .null, [], [339]),
  (8, .invokevirtual 19, 6, 22, 1, .null, [], [927, 87, 580, 578, 579]),
  (11, .iconst 0, 1, 0, 0, .int 0, [], []),
  (12, .istore_n 1, 1, 1, 0, .null, [], []),
  (13, .iconst 0, 1, 0, 0, .int 0, [], []),
  (14, .istore_n 2, 1, 2, 0, .null, [], []),
  (15, .iload_n 2, 1, 2, 0, .null, [], []),
  (16, .aload_n 0, 1, 0, 0, .null, [], []),
  (17, .getfield 9, 3, 7, 0, .null, [], [339]),
  (20, .getfield 25, 3, 2, 6, .int 0, [], [142]),
  (23, .if_icmp .ge 35, 3, 58, 0, .null, [], []),
  (26, .aload_n 0, 1, 0, 0, .null, [], []),
  (27, .getfield 15, 3, 7, 1, .null, [], [340]),
  (30, .iload_n 2, 1, 2, 0, .null, [], []),
  (31, .invokevirtual 31, 6, 26, 1, .int 0, [], [928, 87, 602, 600, 601]),
  (34, .istore_n 3, 1, 3, 0, .null, [], []),
  (35, .aload_n 0, 1, 0, 0, .null, [], []),
  (36, .getfield 9, 3, 7, 0, .null, [], [339]),
  (39, .getfield 35, 3, 2, 5, .null, [], [135]),
  (42, .iload_n 2, 1, 2, 0, .null, [], []),
  (43, .dup2, 1, 0, 0, .null, [], []),
  (44, .iaload, 1, 0, 0, .null, [], []),
  (45, .iload_n 3, 1, 3, 0, .null, [], []),
  (46, .iadd, 1, 0, 0, .null, [], []),
  (47, .iastore, 1, 0, 0, .null, [], []),
  (48, .iload_n 1, 1, 1, 0, .null, [], []),
  (49, .iload_n 3, 1, 3, 0, .null, [], []),
  (50, .iadd, 1, 0, 0, .null, [], []),
  (51, .istore_n 1, 1, 1, 0, .null, [], []),
  (52, .iinc 2 1, 3, 2, 0, .int 1, [], []),
  (55, .goto (-40), 3, 15, 0, .null, [], []),
  (58, .aload_n 0, 1, 0, 0, .null, [], []),
  (59, .getfield 9, 3, 7, 0, .null, [], [339]),
  (62, .dup, 1, 0, 0, .null, [], []),
  (63, .getfield 39, 3, 2, 10, .int 0, [], [157]),
  (66, .aload_n 0, 1, 0, 0, .null, [], []),
  (67, .getfield 15, 3, 7, 1, .null, [], [340]),
  (70, .invokevirtual 42, 6, 31, 0, .int 0, [], [929, 87, 932, 930, 931]),
  (73, .iadd, 1, 0, 0, .null, [], []),
  (74, .putfield 39, 3, 2, 10, .int 0, [], [157]),
  (77, .aload_n 0, 1, 0, 0, .null, [], []),
  (78, .getfield 9, 3, 7, 0, .null, [], [339]),
  (81, .dup, 1, 0, 0, .null, [], []),
  (82, .getfield 46, 3, 2, 11, .int 0, [], [160]),
  (85, .iconst 1, 1, 0, 0, .int 1, [], []),
  (86, .iadd, 1, 0, 0, .null, [], []),
  (87, .putfield 46, 3, 2, 11, .int 0, [], [160]),
  (90, .iload_n 1, 1, 1, 0, .null, [], []),
  (91, .ireturn, 1, 0, 0, .int 0, [], [])],
  [(15, [true, true, true, false])], 4)
/-- 88: LeastPays$Nights.draw(III)V -/
def kX7_draw : j_K := ([
  (0, .aload_n 0, 1, 0, 0, .null, [], []),
  (1, .getfield 15, 3, 7, 1, .null, [], [340]),
  (4, .aload_n 0, 1, 0, 0, .null, [], []),
  (5, .getfield 9, 3, 7, 0, .null, [], [339]),
  (8, .invokevirtual 19, 6, 22, 1, .null, [], [927, 87, 580, 578, 579]),
  (11, .aload_n 0, 1, 0, 0, .null, [], []),
  (12, .iconst 0, 1, 0, 0, .int 0, [], []),
  (13, .putfield 49, 3, 7, 2, .int 0, [], [341]),
  (16, .aload_n 0, 1, 0, 0, .null, [], []),
  (17, .iconst 0, 1, 0, 0, .int 0, [], []),
  (18, .putfield 52, 3, 7, 3, .int 0, [], [343]),
  (21, .iload_n 1, 1, 1, 0, .null, [], []),
  (22, .istore 4, 2, 4, 0, .null, [], []),
  (24, .iconst 0, 1, 0, 0, .int 0, [], []),
  (25, .istore 5, 2, 5, 0, .null, [], []),
  (27, .iload 5, 2, 5, 0, .null, [], []),
  (29, .iload_n 2, 1, 2, 0, .null, [], []),
  (30, .if_icmp .ge 156, 3, 186, 0, .null, [], []),
  (33, .iconst 0, 1, 0, 0, .int 0, [], []),
  (34, .istore 6, 2, 6, 0, .null, [], []),
  (36, .iload 6, 2, 6, 0, .null, [], []),
  (38, .aload_n 0, 1, 0, 0, .null, [], []),
  (39, .getfield 9, 3, 7, 0, .null, [], [339]),
  (42, .getfield 25, 3, 2, 6, .int 0, [], [142]),
  (45, .if_icmp .ge 86, 3, 131, 0, .null, [], []),
  (48, .iload 4, 2, 4, 0, .null, [], []),
  (50, .ldc 55, 2, 0, 0, .int 1103515245, [], [941]),
  (52, .imul, 1, 0, 0, .null, [], []),
  (53, .sipush 12345, 3, 0, 0, .int 12345, [], []),
  (56, .iadd, 1, 0, 0, .null, [], []),
  (57, .istore 4, 2, 4, 0, .null, [], []),
  (59, .iload 4, 2, 4, 0, .null, [], []),
  (61, .bipush 8, 2, 0, 0, .int 8, [], []),
  (63, .iushr, 1, 0, 0, .null, [], []),
  (64, .bipush 12, 2, 0, 0, .int 12, [], []),
  (66, .irem, 1, 0, 0, .null, [], []),
  (67, .aload_n 0, 1, 0, 0, .null, [], []),
  (68, .getfield 9, 3, 7, 0, .null, [], [339]),
  (71, .getfield 56, 3, 2, 2, .null, [], [125]),
  (74, .iload 6, 2, 6, 0, .null, [], []),
  (76, .iaload, 1, 0, 0, .null, [], []),
  (77, .if_icmp .ge 7, 3, 84, 0, .null, [], []),
  (80, .iconst 1, 1, 0, 0, .int 1, [], []),
  (81, .goto 4, 3, 85, 0, .null, [], []),
  (84, .iconst 0, 1, 0, 0, .int 0, [], []),
  (85, .istore 7, 2, 7, 0, .null, [], []),
  (87, .aload_n 0, 1, 0, 0, .null, [], []),
  (88, .getfield 15, 3, 7, 1, .null, [], [340]),
  (91, .getfield 59, 3, 3, 0, .null, [], [196]),
  (94, .iload 6, 2, 6, 0, .null, [], []),
  (96, .iload 7, 2, 7, 0, .null, [], []),
  (98, .ifCond .eq 16, 3, 114, 0, .null, [], []),
  (101, .aload_n 0, 1, 0, 0, .null, [], []),
  (102, .getfield 9, 3, 7, 0, .null, [], [339]),
  (105, .getfield 62, 3, 2, 3, .null, [], [129]),
  (108, .iload 6, 2, 6, 0, .null, [], []),
  (110, .iaload, 1, 0, 0, .null, [], []),
  (111, .goto 13, 3, 124, 0, .null, [], []),
  (114, .aload_n 0, 1, 0, 0, .null, [], []),
  (115, .getfield 9, 3, 7, 0, .null, [], [339]),
  (118, .getfield 65, 3, 2, 1, .null, [], [121]),
  (121, .iload 6, 2, 6, 0, .null, [], []),
  (123, .iaload, 1, 0, 0, .null, [], []),
  (124, .iastore, 1, 0, 0, .null, [], []),
  (125, .iinc 6 1, 3, 6, 0, .int 1, [], []),
  (128, .goto (-92), 3, 36, 0, .null, [], []),
  (131, .aload_n 0, 1, 0, 0, .null, [], []),
  (132, .getfield 15, 3, 7, 1, .null, [], [340]),
  (135, .invokevirtual 68, 6, 24, 0, .null, [], [942, 87, 585, 583, 584]),
  (138, .aload_n 0, 1, 0, 0, .null, [], []),
  (139, .dup, 1, 0, 0, .null, [], []),
  (140, .getfield 49, 3, 7, 2, .int 0, [], [341]),
  (143, .aload_n 0, 1, 0, 0, .null, [], []),
  (144, .getfield 15, 3, 7, 1, .null, [], [340]),
  (147, .iload_n 3, 1, 3, 0, .null, [], []),
  (148, .invokevirtual 71, 6, 27, 1, .int 0, [], [943, 87, 606, 604, 605]),
  (151, .ifCond .le 7, 3, 158, 0, .null, [], []),
  (154, .iconst 1, 1, 0, 0, .int 1, [], []),
  (155, .goto 4, 3, 159, 0, .null, [], []),
  (158, .iconst 0, 1, 0, 0, .int 0, [], []),
  (159, .iadd, 1, 0, 0, .null, [], []),
  (160, .putfield 49, 3, 7, 2, .int 0, [], [341]),
  (163, .aload_n 0, 1, 0, 0, .null, [], []),
  (164, .dup, 1, 0, 0, .null, [], []),
  (165, .getfield 52, 3, 7, 3, .int 0, [], [343]),
  (168, .aload_n 0, 1, 0, 0, .null, [], []),
  (169, .getfield 15, 3, 7, 1, .null, [], [340]),
  (172, .iload_n 3, 1, 3, 0, .null, [], []),
  (173, .invokevirtual 31, 6, 26, 1, .int 0, [], [928, 87, 602, 600, 601]),
  (176, .iadd, 1, 0, 0, .null, [], []),
  (177, .putfield 52, 3, 7, 3, .int 0, [], [343]),
  (180, .iinc 5 1, 3, 5, 0, .int 1, [], []),
  (183, .goto (-156), 3, 27, 0, .null, [], []),
  (186, .return_, 1, 0, 0, .null, [], [])],
  [(27, [true, false, true, true, true, true, false, false]), (36, [true, false, true, true, true, true, true, false]), (52, [true, false, true, true, false, true, true, false]), (57, [true, false, true, true, false, true, true, false])], 8)
/-- 89: LeastPays$Nights.firstWrong(LLeastPays$Shelf;I)I -/
def kX7_firstWrong : j_K := ([
  (0, .aload_n 0, 1, 0, 0, .null, [], []),
  (1, .getfield 15, 3, 7, 1, .null, [], [340]),
  (4, .aload_n 0, 1, 0, 0, .null, [], []),
  (5, .getfield 9, 3, 7, 0, .null, [], [339]),
  (8, .invokevirtual 19, 6, 22, 1, .null, [], [927, 87, 580, 578, 579]),
  (11, .aload_n 0, 1, 0, 0, .null, [], []),
  (12, .getfield 15, 3, 7, 1, .null, [], [340]),
  (15, .iload_n 2, 1, 2, 0, .null, [], []),
  (16, .putfield 74, 3, 3, 2, .int 0, [], [201]),
  (19, .iconst 0, 1, 0, 0, .int 0, [], []),
  (20, .istore_n 3, 1, 3, 0, .null, [], []),
  (21, .iload_n 3, 1, 3, 0, .null, [], []),
  (22, .aload_n 0, 1, 0, 0, .null, [], []),
  (23, .getfield 9, 3, 7, 0, .null, [], [339]),
  (26, .getfield 25, 3, 2, 6, .int 0, [], [142]),
  (29, .if_icmp .ge 37, 3, 66, 0, .null, [], []),
  (32, .iload_n 3, 1, 3, 0, .null, [], []),
  (33, .aload_n 1, 1, 1, 0, .null, [], []),
  (34, .getfield 77, 3, 9, 2, .int 0, [], [449]),
  (37, .if_icmp .ge 29, 3, 66, 0, .null, [], []),
  (40, .aload_n 1, 1, 1, 0, .null, [], []),
  (41, .iload_n 3, 1, 3, 0, .null, [], []),
  (42, .invokevirtual 82, 12, 104, 1, .long 0, [], [956, 95, 532, 530, 531]),
  (45, .aload_n 0, 1, 0, 0, .null, [], []),
  (46, .getfield 15, 3, 7, 1, .null, [], [340]),
  (49, .iload_n 3, 1, 3, 0, .null, [], []),
  (50, .invokevirtual 31, 6, 26, 1, .int 0, [], [928, 87, 602, 600, 601]),
  (53, .i2l, 1, 0, 0, .null, [], []),
  (54, .lcmp, 1, 0, 0, .null, [], []),
  (55, .ifCond .eq 5, 3, 60, 0, .null, [], []),
  (58, .iload_n 3, 1, 3, 0, .null, [], []),
  (59, .ireturn, 1, 0, 0, .int 0, [], []),
  (60, .iinc 3 1, 3, 3, 0, .int 1, [], []),
  (63, .goto (-42), 3, 21, 0, .null, [], []),
  (66, .bipush (-2), 2, 0, 0, .int (-2), [], []),
  (68, .ireturn, 1, 0, 0, .int 0, [], [])],
  [(21, [true, true, false, true])], 4)
/-- 90: LeastPays$Nights.rulesThatFit(LLeastPays$Shelf;)I -/
def kX7_rulesThatFit : j_K := ([
  (0, .iconst 0, 1, 0, 0, .int 0, [], []),
  (1, .istore_n 2, 1, 2, 0, .null, [], []),
  (2, .iconst 0, 1, 0, 0, .int 0, [], []),
  (3, .istore_n 3, 1, 3, 0, .null, [], []),
  (4, .iload_n 3, 1, 3, 0, .null, [], []),
  (5, .iconst 5, 1, 0, 0, .int 5, [], []),
  (6, .if_icmp .ge 30, 3, 36, 0, .null, [], []),
  (9, .iload_n 2, 1, 2, 0, .null, [], []),
  (10, .aload_n 0, 1, 0, 0, .null, [], []),
  (11, .aload_n 1, 1, 1, 0, .null, [], []),
  (12, .iload_n 3, 1, 3, 0, .null, [], []),
  (13, .invokevirtual 86, 10, 89, 2, .int 0, [], [965, 91, 955, 953, 954]),
  (16, .bipush (-2), 2, 0, 0, .int (-2), [], []),
  (18, .if_icmp .ne 9, 3, 27, 0, .null, [], []),
  (21, .iconst 1, 1, 0, 0, .int 1, [], []),
  (22, .iload_n 3, 1, 3, 0, .null, [], []),
  (23, .ishl, 1, 0, 0, .null, [], []),
  (24, .goto 4, 3, 28, 0, .null, [], []),
  (27, .iconst 0, 1, 0, 0, .int 0, [], []),
  (28, .ior, 1, 0, 0, .null, [], []),
  (29, .istore_n 2, 1, 2, 0, .null, [], []),
  (30, .iinc 3 1, 3, 3, 0, .int 1, [], []),
  (33, .goto (-29), 3, 4, 0, .null, [], []),
  (36, .iload_n 2, 1, 2, 0, .null, [], []),
  (37, .ireturn, 1, 0, 0, .int 0, [], [])],
  [(4, [true, true, true, true])], 4)
/-- 91: LeastPays$Nights.weighRules()V -/
def kX7_weighRules : j_K := ([
  (0, .aload_n 0, 1, 0, 0, .null, [], []),
  (1, .getfield 15, 3, 7, 1, .null, [], [340]),
  (4, .aload_n 0, 1, 0, 0, .null, [], []),
  (5, .getfield 9, 3, 7, 0, .null, [], [339]),
  (8, .invokevirtual 19, 6, 22, 1, .null, [], [927, 87, 580, 578, 579]),
  (11, .iconst 0, 1, 0, 0, .int 0, [], []),
  (12, .istore_n 1, 1, 1, 0, .null, [], []),
  (13, .iload_n 1, 1, 1, 0, .null, [], []),
  (14, .iconst 5, 1, 0, 0, .int 5, [], []),
  (15, .if_icmp .ge 44, 3, 59, 0, .null, [], []),
  (18, .aload_n 0, 1, 0, 0, .null, [], []),
  (19, .getfield 15, 3, 7, 1, .null, [], [340]),
  (22, .iload_n 1, 1, 1, 0, .null, [], []),
  (23, .putfield 74, 3, 3, 2, .int 0, [], [201]),
  (26, .aload_n 0, 1, 0, 0, .null, [], []),
  (27, .invokevirtual 90, 10, 92, 0, .int 0, [], [974, 91, 977, 976, 36]),
  (30, .istore_n 2, 1, 2, 0, .null, [], []),
  (31, .iload_n 1, 1, 1, 0, .null, [], []),
  (32, .ifCond .eq 11, 3, 43, 0, .null, [], []),
  (35, .iload_n 2, 1, 2, 0, .null, [], []),
  (36, .aload_n 0, 1, 0, 0, .null, [], []),
  (37, .getfield 93, 3, 7, 5, .int 0, [], [347]),
  (40, .if_icmp .ge 13, 3, 53, 0, .null, [], []),
  (43, .aload_n 0, 1, 0, 0, .null, [], []),
  (44, .iload_n 1, 1, 1, 0, .null, [], []),
  (45, .putfield 96, 3, 7, 4, .int 0, [], [345]),
  (48, .aload_n 0, 1, 0, 0, .null, [], []),
  (49, .iload_n 2, 1, 2, 0, .null, [], []),
  (50, .putfield 93, 3, 7, 5, .int 0, [], [347]),
  (53, .iinc 1 1, 3, 1, 0, .int 1, [], []),
  (56, .goto (-43), 3, 13, 0, .null, [], []),
  (59, .return_, 1, 0, 0, .null, [], [])],
  [(13, [true, true, false])], 3)
/-- 92: LeastPays$Nights.greatestCost()I -/
def kX7_greatestCost : j_K := ([
  (0, .iconst 0, 1, 0, 0, .int 0, [], []),
  (1, .istore_n 1, 1, 1, 0, .null, [], []),
  (2, .iconst 0, 1, 0, 0, .int 0, [], []),
  (3, .istore_n 2, 1, 2, 0, .null, [], []),
  (4, .iload_n 2, 1, 2, 0, .null, [], []),
  (5, .aload_n 0, 1, 0, 0, .null, [], []),
  (6, .getfield 9, 3, 7, 0, .null, [], [339]),
  (9, .getfield 25, 3, 2, 6, .int 0, [], [142]),
  (12, .if_icmp .ge 22, 3, 34, 0, .null, [], []),
  (15, .iload_n 1, 1, 1, 0, .null, [], []),
  (16, .aload_n 0, 1, 0, 0, .null, [], []),
  (17, .getfield 15, 3, 7, 1, .null, [], [340]),
  (20, .iload_n 2, 1, 2, 0, .null, [], []),
  (21, .invokevirtual 31, 6, 26, 1, .int 0, [], [928, 87, 602, 600, 601]),
  (24, .invokestatic 99, 3, 1001, 2, .null, [], [978, 591, 98, 592]),
  (27, .istore_n 1, 1, 1, 0, .null, [], []),
  (28, .iinc 2 1, 3, 2, 0, .int 1, [], []),
  (31, .goto (-27), 3, 4, 0, .null, [], []),
  (34, .iload_n 1, 1, 1, 0, .null, [], []),
  (35, .ireturn, 1, 0, 0, .int 0, [], [])],
  [(4, [true, true, true])], 3)
/-- 93: LeastPays$Picture.<init>()V -/
def kX8_init : j_K := ([
  (0, .aload_n 0, 1, 0, 0, .null, [], []),
  (1, .invokespecial 3, 3, 999, 0, .null, [], [393, 106, 107]),
  (4, .aload_n 0, 1, 0, 0, .null, [], []),
  (5, .bipush 6, 2, 0, 0, .int 6, [], []),
  (7, .newarray .int, 2, 0, 0, .int 0, [], [187]),
  (9, .putfield 9, 3, 8, 0, .null, [], [394]),
  (12, .aload_n 0, 1, 0, 0, .null, [], []),
  (13, .bipush 6, 2, 0, 0, .int 6, [], []),
  (15, .newarray .int, 2, 0, 0, .int 0, [], [187]),
  (17, .putfield 15, 3, 8, 1, .null, [], [395]),
  (20, .return_, 1, 0, 0, .null, [], [])],
  [], 1)
/-- 94: LeastPays$Picture.take(LLeastPays$Guests;)V -/
def kX8_take : j_K := ([
  (0, .aload_n 0, 1, 0, 0, .null, [], []),
  (1, .iconst 1, 1, 0, 0, .int 1, [], []),
  (2, .putfield 18, 3, 8, 5, .long 0, [], [399]),
  (5, .aload_n 0, 1, 0, 0, .null, [], []),
  (6, .aload_n 1, 1, 1, 0, .null, [], []),
  (7, .getfield 22, 3, 2, 6, .int 0, [], [140]),
  (10, .putfield 28, 3, 8, 2, .int 0, [], [396]),
  (13, .aload_n 0, 1, 0, 0, .null, [], []),
  (14, .aload_n 1, 1, 1, 0, .null, [], []),
  (15, .getfield 29, 3, 2, 11, .int 0, [], [159]),
  (18, .putfield 32, 3, 8, 3, .int 0, [], [397]),
  (21, .aload_n 0, 1, 0, 0, .null, [], []),
  (22, .aload_n 1, 1, 1, 0, .null, [], []),
  (23, .getfield 33, 3, 2, 10, .int 0, [], [156]),
  (26, .putfield 36, 3, 8, 4, .int 0, [], [398]),
  (29, .aload_n 1, 1, 1, 0, .null, [], []),
  (30, .getfield 37, 3, 2, 1, .null, [], [120]),
  (33, .iconst 0, 1, 0, 0, .int 0, [], []),
  (34, .aload_n 0, 1, 0, 0, .null, [], []),
  (35, .getfield 9, 3, 8, 0, .null, [], [394]),
  (38, .iconst 0, 1, 0, 0, .int 0, [], []),
  (39, .aload_n 0, 1, 0, 0, .null, [], []),
  (40, .getfield 28, 3, 8, 2, .int 0, [], [396]),
  (43, .invokestatic 38, 3, 1000, 5, .null, [], [987, 568, 567, 97]),
  (46, .aload_n 1, 1, 1, 0, .null, [], []),
  (47, .getfield 44, 3, 2, 5, .null, [], [136]),
  (50, .iconst 0, 1, 0, 0, .int 0, [], []),
  (51, .aload_n 0, 1, 0, 0, .null, [], []),
  (52, .getfield 15, 3, 8, 1, .null, [], [395]),
  (55, .iconst 0, 1, 0, 0, .int 0, [], []),
  (56, .aload_n 0, 1, 0, 0, .null, [], []),
  (57, .getfield 28, 3, 8, 2, .int 0, [], [396]),
  (60, .invokestatic 38, 3, 1000, 5, .null, [], [987, 568, 567, 97]),
  (63, .return_, 1, 0, 0, .null, [], [])],
  [], 2)
/-- 95: LeastPays$Picture.layBack(LLeastPays$Guests;)V -/
def kX8_layBack : j_K := ([
  (0, .aload_n 1, 1, 1, 0, .null, [], []),
  (1, .aload_n 0, 1, 0, 0, .null, [], []),
  (2, .getfield 32, 3, 8, 3, .int 0, [], [397]),
  (5, .putfield 29, 3, 2, 11, .int 0, [], [159]),
  (8, .aload_n 1, 1, 1, 0, .null, [], []),
  (9, .aload_n 0, 1, 0, 0, .null, [], []),
  (10, .getfield 36, 3, 8, 4, .int 0, [], [398]),
  (13, .putfield 33, 3, 2, 10, .int 0, [], [156]),
  (16, .aload_n 1, 1, 1, 0, .null, [], []),
  (17, .getfield 44, 3, 2, 5, .null, [], [136]),
  (20, .iconst 0, 1, 0, 0, .int 0, [], []),
  (21, .invokestatic 45, 3, 246, 2, .null, [], [996, 99, 998, 997]),
  (24, .aload_n 0, 1, 0, 0, .null, [], []),
  (25, .getfield 9, 3, 8, 0, .null, [], [394]),
  (28, .iconst 0, 1, 0, 0, .int 0, [], []),
  (29, .aload_n 1, 1, 1, 0, .null, [], []),
  (30, .getfield 37, 3, 2, 1, .null, [], [120]),
  (33, .iconst 0, 1, 0, 0, .int 0, [], []),
  (34, .aload_n 0, 1, 0, 0, .null, [], []),
  (35, .getfield 28, 3, 8, 2, .int 0, [], [396]),
  (38, .invokestatic 38, 3, 1000, 5, .null, [], [987, 568, 567, 97]),
  (41, .aload_n 0, 1, 0, 0, .null, [], []),
  (42, .getfield 15, 3, 8, 1, .null, [], [395]),
  (45, .iconst 0, 1, 0, 0, .int 0, [], []),
  (46, .aload_n 1, 1, 1, 0, .null, [], []),
  (47, .getfield 44, 3, 2, 5, .null, [], [136]),
  (50, .iconst 0, 1, 0, 0, .int 0, [], []),
  (51, .aload_n 0, 1, 0, 0, .null, [], []),
  (52, .getfield 28, 3, 8, 2, .int 0, [], [396]),
  (55, .invokestatic 38, 3, 1000, 5, .null, [], [987, 568, 567, 97]),
  (58, .return_, 1, 0, 0, .null, [], [])],
  [], 2)
/-- 96: LeastPays$Shelf.<init>()V -/
def kX9_init : j_K := ([
  (0, .aload_n 0, 1, 0, 0, .null, [], []),
  (1, .invokespecial 3, 3, 999, 0, .null, [], [444, 106, 107]),
  (4, .aload_n 0, 1, 0, 0, .null, [], []),
  (5, .bipush 60, 2, 0, 0, .int 60, [], []),
  (7, .newarray .long, 2, 0, 0, .long 0, [], [466]),
  (9, .putfield 9, 3, 9, 0, .null, [], [445]),
  (12, .aload_n 0, 1, 0, 0, .null, [], []),
  (13, .iconst 0, 1, 0, 0, .int 0, [], []),
  (14, .putfield 15, 3, 9, 4, .int 0, [], [454]),
  (17, .return_, 1, 0, 0, .null, [], [])],
  [], 1)
/-- 97: LeastPays$Shelf.holdsNothing()Z -/
def kX9_holdsNothing : j_K := ([
  (0, .aload_n 0, 1, 0, 0, .null, [], []),
  (1, .getfield 15, 3, 9, 4, .int 0, [], [454]),
  (4, .ifCond .ne 7, 3, 11, 0, .null, [], []),
  (7, .iconst 1, 1, 0, 0, .int 1, [], []),
  (8, .goto 4, 3, 12, 0, .null, [], []),
  (11, .iconst 0, 1, 0, 0, .int 0, [], []),
  (12, .ireturn, 1, 0, 0, .long 0, [], [])],
  [], 1)
/-- 98: LeastPays$Shelf.isRow()Z -/
def kX9_isRow : j_K := ([
  (0, .aload_n 0, 1, 0, 0, .null, [], []),
  (1, .getfield 15, 3, 9, 4, .int 0, [], [454]),
  (4, .iconst 2, 1, 0, 0, .int 2, [], []),
  (5, .if_icmp .ne 7, 3, 12, 0, .null, [], []),
  (8, .iconst 1, 1, 0, 0, .int 1, [], []),
  (9, .goto 4, 3, 13, 0, .null, [], []),
  (12, .iconst 0, 1, 0, 0, .int 0, [], []),
  (13, .ireturn, 1, 0, 0, .long 0, [], [])],
  [], 1)
/-- 99: LeastPays$Shelf.isRowOf(I)Z -/
def kX9_isRowOf : j_K := ([
  (0, .aload_n 0, 1, 0, 0, .null, [], []),
  (1, .getfield 15, 3, 9, 4, .int 0, [], [454]),
  (4, .iconst 2, 1, 0, 0, .int 2, [], []),
  (5, .if_icmp .ne 15, 3, 20, 0, .null, [], []),
  (8, .aload_n 0, 1, 0, 0, .null, [], []),
  (9, .getfield 19, 3, 9, 1, .int 0, [], [447]),
  (12, .iload_n 1, 1, 1, 0, .null, [], []),
  (13, .if_icmp .ne 7, 3, 20, 0, .null, [], []),
  (16, .iconst 1, 1, 0, 0, .int 1, [], []),
  (17, .goto 4, 3, 21, 0, .null, [], []),
  (20, .iconst 0, 1, 0, 0, .int 0, [], []),
  (21, .ireturn, 1, 0, 0, .long 0, [], [])],
  [], 2)
/-- 100: LeastPays$Shelf.holdHat(I)V -/
def kX9_holdHat : j_K := ([
  (0, .aload_n 0, 1, 0, 0, .null, [], []),
  (1, .iload_n 1, 1, 1, 0, .null, [], []),
  (2, .ifCond .ge 7, 3, 9, 0, .null, [], []),
  (5, .iconst 0, 1, 0, 0, .int 0, [], []),
  (6, .goto 4, 3, 10, 0, .null, [], []),
  (9, .iconst 1, 1, 0, 0, .int 1, [], []),
  (10, .putfield 15, 3, 9, 4, .int 0, [], [454]),
  (13, .aload_n 0, 1, 0, 0, .null, [], []),
  (14, .iload_n 1, 1, 1, 0, .null, [], []),
  (15, .putfield 22, 3, 9, 3, .int 0, [], [452]),
  (18, .aload_n 0, 1, 0, 0, .null, [], []),
  (19, .iconst 0, 1, 0, 0, .int 0, [], []),
  (20, .putfield 25, 3, 9, 2, .int 0, [], [450]),
  (23, .return_, 1, 0, 0, .null, [], [])],
  [], 2)
/-- 101: LeastPays$Shelf.holdRow(II)V -/
def kX9_holdRow : j_K := ([
  (0, .aload_n 0, 1, 0, 0, .null, [], []),
  (1, .iconst 2, 1, 0, 0, .int 2, [], []),
  (2, .putfield 15, 3, 9, 4, .int 0, [], [454]),
  (5, .aload_n 0, 1, 0, 0, .null, [], []),
  (6, .iload_n 1, 1, 1, 0, .null, [], []),
  (7, .putfield 19, 3, 9, 1, .int 0, [], [447]),
  (10, .aload_n 0, 1, 0, 0, .null, [], []),
  (11, .iload_n 2, 1, 2, 0, .null, [], []),
  (12, .putfield 25, 3, 9, 2, .int 0, [], [450]),
  (15, .aload_n 0, 1, 0, 0, .null, [], []),
  (16, .getfield 9, 3, 9, 0, .null, [], [445]),
  (19, .lconst 0, 1, 0, 0, .long 0, [], []),
  (20, .invokestatic 28, 3, 245, 2, .null, [], [1077, 99, 1079, 1078]),
  (23, .return_, 1, 0, 0, .null, [], [])],
  [], 3)
/-- 102: LeastPays$Shelf.hasPlaces(II)Z -/
def kX9_hasPlaces : j_K := ([
  (0, .iload_n 1, 1, 1, 0, .null, [], []),
  (1, .ifCond .lt 25, 3, 26, 0, .null, [], []),
  (4, .iload_n 2, 1, 2, 0, .null, [], []),
  (5, .ifCond .lt 21, 3, 26, 0, .null, [], []),
  (8, .iload_n 1, 1, 1, 0, .null, [], []),
  (9, .i2l, 1, 0, 0, .null, [], []),
  (10, .iload_n 2, 1, 2, 0, .null, [], []),
  (11, .i2l, 1, 0, 0, .null, [], []),
  (12, .ladd, 1, 0, 0, .null, [], []),
  (13, .aload_n 0, 1, 0, 0, .null, [], []),
  (14, .getfield 25, 3, 9, 2, .int 0, [], [450]),
  (17, .i2l, 1, 0, 0, .null, [], []),
  (18, .lcmp, 1, 0, 0, .null, [], []),
  (19, .ifCond .gt 7, 3, 26, 0, .null, [], []),
  (22, .iconst 1, 1, 0, 0, .int 1, [], []),
  (23, .goto 4, 3, 27, 0, .null, [], []),
  (26, .iconst 0, 1, 0, 0, .int 0, [], []),
  (27, .ireturn, 1, 0, 0, .long 0, [], [])],
  [], 3)
/-- 103: LeastPays$Shelf.refusalAt(I)I -/
def kX9_refusalAt : j_K := ([
  (0, .aload_n 0, 1, 0, 0, .null, [], []),
  (1, .getfield 15, 3, 9, 4, .int 0, [], [454]),
  (4, .ifCond .ne 6, 3, 10, 0, .null, [], []),
  (7, .bipush (-11), 2, 0, 0, .int (-11), [], []),
  (9, .ireturn, 1, 0, 0, .int 0, [], []),
  (10, .aload_n 0, 1, 0, 0, .null, [], []),
  (11, .getfield 15, 3, 9, 4, .int 0, [], [454]),
  (14, .iconst 2, 1, 0, 0, .int 2, [], []),
  (15, .if_icmp .eq 6, 3, 21, 0, .null, [], []),
  (18, .bipush (-12), 2, 0, 0, .int (-12), [], []),
  (20, .ireturn, 1, 0, 0, .int 0, [], []),
  (21, .aload_n 0, 1, 0, 0, .null, [], []),
  (22, .iload_n 1, 1, 1, 0, .null, [], []),
  (23, .iconst 1, 1, 0, 0, .int 1, [], []),
  (24, .invokevirtual 34, 12, 102, 2, .int 0, [], [533, 95, 536, 534, 535]),
  (27, .ifCond .eq 7, 3, 34, 0, .null, [], []),
  (30, .iconst 0, 1, 0, 0, .int 0, [], []),
  (31, .goto 5, 3, 36, 0, .null, [], []),
  (34, .bipush (-13), 2, 0, 0, .int (-13), [], []),
  (36, .ireturn, 1, 0, 0, .int 0, [], [])],
  [], 2)
/-- 104: LeastPays$Shelf.get(I)J -/
def kX9_get : j_K := ([
  (0, .aload_n 0, 1, 0, 0, .null, [], []),
  (1, .iload_n 1, 1, 1, 0, .null, [], []),
  (2, .iconst 1, 1, 0, 0, .int 1, [], []),
  (3, .invokevirtual 34, 12, 102, 2, .int 0, [], [533, 95, 536, 534, 535]),
  (6, .ifCond .eq 12, 3, 18, 0, .null, [], []),
  (9, .aload_n 0, 1, 0, 0, .null, [], []),
  (10, .getfield 9, 3, 9, 0, .null, [], [445]),
  (13, .iload_n 1, 1, 1, 0, .null, [], []),
  (14, .laload, 1, 0, 0, .null, [], []),
  (15, .goto 4, 3, 19, 0, .null, [], []),
  (18, .lconst 0, 1, 0, 0, .long 0, [], []),
  (19, .lreturn, 1, 0, 0, .null, [], [])],
  [], 2)
/-- 105: LeastPays$Shelf.set(IJ)V -/
def kX9_set : j_K := ([
  (0, .aload_n 0, 1, 0, 0, .null, [], []),
  (1, .iload_n 1, 1, 1, 0, .null, [], []),
  (2, .iconst 1, 1, 0, 0, .int 1, [], []),
  (3, .invokevirtual 34, 12, 102, 2, .int 0, [], [533, 95, 536, 534, 535]),
  (6, .ifCond .eq 14, 3, 20, 0, .null, [], []),
  (9, .aload_n 0, 1, 0, 0, .null, [], []),
  (10, .getfield 9, 3, 9, 0, .null, [], [445]),
  (13, .iload_n 1, 1, 1, 0, .null, [], []),
  (14, .aload_n 0, 1, 0, 0, .null, [], []),
  (15, .lload_n 2, 1, 2, 0, .null, [], []),
  (16, .invokevirtual 38, 12, 106, 1, .long 0, [], [1092, 95, 1095, 1094, 40]),
  (19, .lastore, 1, 0, 0, .null, [], []),
  (20, .return_, 1, 0, 0, .null, [], [])],
  [], 4)
/-- 106: LeastPays$Shelf.lowestBits(J)J -/
def kX9_lowestBits : j_K := ([
  (0, .aload_n 0, 1, 0, 0, .null, [], []),
  (1, .getfield 19, 3, 9, 1, .int 0, [], [447]),
  (4, .tableswitch 48 0 3 #[32, 37, 42, 46], 32, 52, 0, .null, [(0, 36), (1, 41), (2, 46), (3, 50)], []),
  (36, .lload_n 1, 1, 1, 0, .null, [], []),
  (37, .l2i, 1, 0, 0, .null, [], []),
  (38, .i2b, 1, 0, 0, .null, [], []),
  (39, .i2l, 1, 0, 0, .null, [], []),
  (40, .lreturn, 1, 0, 0, .null, [], []),
  (41, .lload_n 1, 1, 1, 0, .null, [], []),
  (42, .l2i, 1, 0, 0, .null, [], []),
  (43, .i2s, 1, 0, 0, .null, [], []),
  (44, .i2l, 1, 0, 0, .null, [], []),
  (45, .lreturn, 1, 0, 0, .null, [], []),
  (46, .lload_n 1, 1, 1, 0, .null, [], []),
  (47, .l2i, 1, 0, 0, .null, [], []),
  (48, .i2l, 1, 0, 0, .null, [], []),
  (49, .lreturn, 1, 0, 0, .null, [], []),
  (50, .lload_n 1, 1, 1, 0, .null, [], []),
  (51, .lreturn, 1, 0, 0, .null, [], []),
  (52, .lload_n 1, 1, 1, 0, .null, [], []),
  (53, .lconst 0, 1, 0, 0, .long 0, [], []),
  (54, .lcmp, 1, 0, 0, .null, [], []),
  (55, .ifCond .eq 7, 3, 62, 0, .null, [], []),
  (58, .lconst 1, 1, 0, 0, .long 1, [], []),
  (59, .goto 4, 3, 63, 0, .null, [], []),
  (62, .lconst 0, 1, 0, 0, .long 0, [], []),
  (63, .lreturn, 1, 0, 0, .null, [], [])],
  [], 3)
/-- 107: LeastPays.<init>()V -/
def kX10_init : j_K := ([
  (0, .aload_n 0, 1, 0, 0, .null, [], []),
  (1, .invokespecial 1, 3, 999, 0, .null, [], [105, 106, 107]),
  (4, .aload_n 0, 1, 0, 0, .null, [], []),
  (5, .new 7, 3, 2, 12, .null, [], [108, 109, 86]),
  (8, .dup, 1, 0, 0, .null, [], []),
  (9, .invokespecial 9, 3, 15, 0, .null, [], [110, 86, 112, 111]),
  (12, .putfield 10, 3, 10, 0, .null, [], [467]),
  (15, .aload_n 0, 1, 0, 0, .null, [], []),
  (16, .new 16, 3, 3, 11, .null, [], [188, 189, 87]),
  (19, .dup, 1, 0, 0, .null, [], []),
  (20, .invokespecial 18, 3, 21, 0, .null, [], [190, 87, 192, 191]),
  (23, .putfield 19, 3, 10, 1, .null, [], [468]),
  (26, .aload_n 0, 1, 0, 0, .null, [], []),
  (27, .new 23, 3, 6, 6, .null, [], [236, 237, 88]),
  (30, .dup, 1, 0, 0, .null, [], []),
  (31, .aload_n 0, 1, 0, 0, .null, [], []),
  (32, .getfield 10, 3, 10, 0, .null, [], [467]),
  (35, .aload_n 0, 1, 0, 0, .null, [], []),
  (36, .getfield 19, 3, 10, 1, .null, [], [468]),
  (39, .invokespecial 25, 3, 69, 2, .null, [], [238, 88, 240, 239]),
  (42, .putfield 28, 3, 10, 2, .null, [], [469]),
  (45, .aload_n 0, 1, 0, 0, .null, [], []),
  (46, .new 32, 3, 5, 6, .null, [], [265, 266, 89]),
  (49, .dup, 1, 0, 0, .null, [], []),
  (50, .aload_n 0, 1, 0, 0, .null, [], []),
  (51, .getfield 10, 3, 10, 0, .null, [], [467]),
  (54, .aload_n 0, 1, 0, 0, .null, [], []),
  (55, .getfield 19, 3, 10, 1, .null, [], [468]),
  (58, .invokespecial 34, 3, 61, 2, .null, [], [267, 89, 269, 268]),
  (61, .putfield 35, 3, 10, 3, .null, [], [470]),
  (64, .aload_n 0, 1, 0, 0, .null, [], []),
  (65, .new 39, 3, 4, 11, .null, [], [292, 293, 90]),
  (68, .dup, 1, 0, 0, .null, [], []),
  (69, .invokespecial 41, 3, 32, 0, .null, [], [294, 90, 296, 295]),
  (72, .putfield 42, 3, 10, 4, .null, [], [471]),
  (75, .aload_n 0, 1, 0, 0, .null, [], []),
  (76, .new 46, 3, 7, 6, .null, [], [333, 334, 91]),
  (79, .dup, 1, 0, 0, .null, [], []),
  (80, .aload_n 0, 1, 0, 0, .null, [], []),
  (81, .getfield 10, 3, 10, 0, .null, [], [467]),
  (84, .aload_n 0, 1, 0, 0, .null, [], []),
  (85, .getfield 19, 3, 10, 1, .null, [], [468]),
  (88, .invokespecial 48, 3, 86, 2, .null, [], [335, 91, 337, 336]),
  (91, .putfield 49, 3, 10, 5, .null, [], [472]),
  (94, .aload_n 0, 1, 0, 0, .null, [], []),
  (95, .new 53, 3, 1, 6, .null, [], [362, 363, 92]),
  (98, .dup, 1, 0, 0, .null, [], []),
  (99, .invokespecial 55, 3, 10, 0, .null, [], [364, 92, 366, 365]),
  (102, .putfield 56, 3, 10, 6, .null, [], [473]),
  (105, .aload_n 0, 1, 0, 0, .null, [], []),
  (106, .new 60, 3, 8, 6, .null, [], [388, 389, 93]),
  (109, .dup, 1, 0, 0, .null, [], []),
  (110, .invokespecial 62, 3, 93, 0, .null, [], [390, 93, 392, 391]),
  (113, .putfield 63, 3, 10, 7, .null, [], [474]),
  (116, .aload_n 0, 1, 0, 0, .null, [], []),
  (117, .new 67, 3, 0, 5, .null, [], [414, 415, 94]),
  (120, .dup, 1, 0, 0, .null, [], []),
  (121, .invokespecial 69, 3, 0, 0, .null, [], [416, 94, 418, 417]),
  (124, .putfield 70, 3, 10, 8, .null, [], [475]),
  (127, .aload_n 0, 1, 0, 0, .null, [], []),
  (128, .bipush 6, 2, 0, 0, .int 6, [], []),
  (130, .anewarray 74, 3, 0, 0, .null, [], [438]),
  (133, .putfield 76, 3, 10, 9, .null, [], [476]),
  (136, .iconst 0, 1, 0, 0, .int 0, [], []),
  (137, .istore_n 1, 1, 1, 0, .null, [], []),
  (138, .iload_n 1, 1, 1, 0, .null, [], []),
  (139, .bipush 6, 2, 0, 0, .int 6, [], []),
  (141, .if_icmp .ge 22, 3, 163, 0, .null, [], []),
  (144, .aload_n 0, 1, 0, 0, .null, [], []),
  (145, .getfield 76, 3, 10, 9, .null, [], [476]),
  (148, .iload_n 1, 1, 1, 0, .null, [], []),
  (149, .new 74, 3, 9, 5, .null, [], [438, 440, 95]),
  (152, .dup, 1, 0, 0, .null, [], []),
  (153, .invokespecial 80, 3, 96, 0, .null, [], [441, 95, 443, 442]),
  (156, .aastore, 1, 0, 0, .null, [], []),
  (157, .iinc 1 1, 3, 1, 0, .int 1, [], []),
  (160, .goto (-22), 3, 138, 0, .null, [], []),
  (163, .return_, 1, 0, 0, .null, [], [])],
  [(138, [true, true])], 2)
/-- 108: LeastPays.guest(I)I -/
def kX10_guest : j_K := ([
  (0, .iload_n 1, 1, 1, 0, .null, [], []),
  (1, .iconst 0, 1, 0, 0, .int 0, [], []),
  (2, .bipush 99, 2, 0, 0, .int 99, [], []),
  (4, .invokestatic 81, 3, 147, 3, .int 0, [], [502, 85, 504, 503]),
  (7, .ifCond .ne 5, 3, 12, 0, .null, [], []),
  (10, .iconst (-1), 1, 0, 0, .int (-1), [], []),
  (11, .ireturn, 1, 0, 0, .int 0, [], []),
  (12, .aload_n 0, 1, 0, 0, .null, [], []),
  (13, .getfield 10, 3, 10, 0, .null, [], [467]),
  (16, .getfield 85, 3, 2, 6, .int 0, [], [141]),
  (19, .bipush 6, 2, 0, 0, .int 6, [], []),
  (21, .if_icmp .lt 6, 3, 27, 0, .null, [], []),
  (24, .bipush (-3), 2, 0, 0, .int (-3), [], []),
  (26, .ireturn, 1, 0, 0, .int 0, [], []),
  (27, .aload_n 0, 1, 0, 0, .null, [], []),
  (28, .getfield 10, 3, 10, 0, .null, [], [467]),
  (31, .iload_n 1, 1, 1, 0, .null, [], []),
  (32, .iconst 0, 1, 0, 0, .int 0, [], []),
  (33, .invokevirtual 89, 5, 17, 2, .null, [], [505, 86, 508, 506, 507]),
  (36, .aload_n 0, 1, 0, 0, .null, [], []),
  (37, .getfield 10, 3, 10, 0, .null, [], [467]),
  (40, .getfield 85, 3, 2, 6, .int 0, [], [141]),
  (43, .iconst 1, 1, 0, 0, .int 1, [], []),
  (44, .isub, 1, 0, 0, .null, [], []),
  (45, .ireturn, 1, 0, 0, .int 0, [], [])],
  [], 2)
/-- 109: LeastPays.guests(III)I -/
def kX10_guests : j_K := ([
  (0, .iload_n 1, 1, 1, 0, .null, [], []),
  (1, .invokestatic 93, 3, 148, 1, .int 0, [], [513, 85, 515, 514]),
  (4, .ifCond .eq 13, 3, 17, 0, .null, [], []),
  (7, .iload_n 3, 1, 3, 0, .null, [], []),
  (8, .iconst 1, 1, 0, 0, .int 1, [], []),
  (9, .bipush 6, 2, 0, 0, .int 6, [], []),
  (11, .invokestatic 81, 3, 147, 3, .int 0, [], [502, 85, 504, 503]),
  (14, .ifCond .ne 5, 3, 19, 0, .null, [], []),
  (17, .iconst (-1), 1, 0, 0, .int (-1), [], []),
  (18, .ireturn, 1, 0, 0, .int 0, [], []),
  (19, .aload_n 0, 1, 0, 0, .null, [], []),
  (20, .getfield 76, 3, 10, 9, .null, [], [476]),
  (23, .iload_n 1, 1, 1, 0, .null, [], []),
  (24, .aaload, 1, 0, 0, .null, [], []),
  (25, .astore 4, 2, 4, 0, .null, [], []),
  (27, .aload 4, 2, 4, 0, .null, [], []),
  (29, .invokevirtual 97, 12, 97, 0, .int 0, [], [516, 95, 519, 517, 518]),
  (32, .ifCond .eq 5, 3, 37, 0, .null, [], []),
  (35, .iconst 0, 1, 0, 0, .int 0, [], []),
  (36, .ireturn, 1, 0, 0, .int 0, [], []),
  (37, .aload 4, 2, 4, 0, .null, [], []),
  (39, .iconst 0, 1, 0, 0, .int 0, [], []),
  (40, .invokevirtual 101, 12, 99, 1, .int 0, [], [520, 95, 523, 521, 522]),
  (43, .ifCond .ne 6, 3, 49, 0, .null, [], []),
  (46, .bipush (-12), 2, 0, 0, .int (-12), [], []),
  (48, .ireturn, 1, 0, 0, .int 0, [], []),
  (49, .iconst 0, 1, 0, 0, .int 0, [], []),
  (50, .istore 5, 2, 5, 0, .null, [], []),
  (52, .iload 5, 2, 5, 0, .null, [], []),
  (54, .iload_n 3, 1, 3, 0, .null, [], []),
  (55, .if_icmp .ge 28, 3, 83, 0, .null, [], []),
  (58, .aload_n 0, 1, 0, 0, .null, [], []),
  (59, .aload 4, 2, 4, 0, .null, [], []),
  (61, .iload_n 2, 1, 2, 0, .null, [], []),
  (62, .i2l, 1, 0, 0, .null, [], []),
  (63, .ldc2_w 104, 3, 0, 0, .long 2, [], [524]),
  (66, .iload 5, 2, 5, 0, .null, [], []),
  (68, .i2l, 1, 0, 0, .null, [], []),
  (69, .lmul, 1, 0, 0, .null, [], []),
  (70, .ladd, 1, 0, 0, .null, [], []),
  (71, .invokevirtual 106, 13, 149, 2, .int 0, [], [525, 85, 528, 527, 0]),
  (74, .ifCond .eq 9, 3, 83, 0, .null, [], []),
  (77, .iinc 5 1, 3, 5, 0, .int 1, [], []),
  (80, .goto (-28), 3, 52, 0, .null, [], []),
  (83, .iload 5, 2, 5, 0, .null, [], []),
  (85, .ireturn, 1, 0, 0, .int 0, [], [])],
  [(52, [true, false, true, true, true, true])], 6)
/-- 110: LeastPays.mend(III)I -/
def kX10_mend : j_K := ([
  (0, .aload_n 0, 1, 0, 0, .null, [], []),
  (1, .getfield 10, 3, 10, 0, .null, [], [467]),
  (4, .iload_n 1, 1, 1, 0, .null, [], []),
  (5, .iload_n 2, 1, 2, 0, .null, [], []),
  (6, .iload_n 3, 1, 3, 0, .null, [], []),
  (7, .invokevirtual 110, 5, 18, 3, .int 0, [], [541, 86, 544, 542, 543]),
  (10, .ifCond .ne 5, 3, 15, 0, .null, [], []),
  (13, .iconst (-1), 1, 0, 0, .int (-1), [], []),
  (14, .ireturn, 1, 0, 0, .int 0, [], []),
  (15, .aload_n 0, 1, 0, 0, .null, [], []),
  (16, .getfield 10, 3, 10, 0, .null, [], [467]),
  (19, .iload_n 1, 1, 1, 0, .null, [], []),
  (20, .iload_n 2, 1, 2, 0, .null, [], []),
  (21, .invokevirtual 113, 5, 19, 2, .int 0, [], [550, 86, 553, 551, 552]),
  (24, .istore 4, 2, 4, 0, .null, [], []),
  (26, .iload 4, 2, 4, 0, .null, [], []),
  (28, .iload_n 3, 1, 3, 0, .null, [], []),
  (29, .if_icmp .eq 25, 3, 54, 0, .null, [], []),
  (32, .aload_n 0, 1, 0, 0, .null, [], []),
  (33, .getfield 10, 3, 10, 0, .null, [], [467]),
  (36, .iload_n 1, 1, 1, 0, .null, [], []),
  (37, .iload_n 2, 1, 2, 0, .null, [], []),
  (38, .iload_n 3, 1, 3, 0, .null, [], []),
  (39, .invokevirtual 117, 5, 20, 3, .null, [], [554, 86, 557, 555, 556]),
  (42, .aload_n 0, 1, 0, 0, .null, [], []),
  (43, .getfield 56, 3, 10, 6, .null, [], [473]),
  (46, .iload_n 1, 1, 1, 0, .null, [], []),
  (47, .iload_n 2, 1, 2, 0, .null, [], []),
  (48, .iload 4, 2, 4, 0, .null, [], []),
  (50, .iload_n 3, 1, 3, 0, .null, [], []),
  (51, .invokevirtual 121, 4, 11, 4, .null, [], [558, 92, 561, 559, 560]),
  (54, .iload 4, 2, 4, 0, .null, [], []),
  (56, .ireturn, 1, 0, 0, .int 0, [], [])],
  [], 5)
/-- 111: LeastPays.of(II)I -/
def kX10_of : j_K := ([
  (0, .iload_n 2, 1, 2, 0, .null, [], []),
  (1, .bipush 10, 2, 0, 0, .int 10, [], []),
  (3, .if_icmp .lt 18, 3, 21, 0, .null, [], []),
  (6, .iload_n 1, 1, 1, 0, .null, [], []),
  (7, .ifCond .ne 11, 3, 18, 0, .null, [], []),
  (10, .aload_n 0, 1, 0, 0, .null, [], []),
  (11, .iload_n 2, 1, 2, 0, .null, [], []),
  (12, .invokevirtual 125, 13, 151, 1, .int 0, [], [573, 85, 576, 575, 2]),
  (15, .goto 5, 3, 20, 0, .null, [], []),
  (18, .ldc 129, 2, 0, 0, .int (-2000000000), [], [593]),
  (20, .ireturn, 1, 0, 0, .int 0, [], []),
  (21, .aload_n 0, 1, 0, 0, .null, [], []),
  (22, .getfield 10, 3, 10, 0, .null, [], [467]),
  (25, .iload_n 1, 1, 1, 0, .null, [], []),
  (26, .invokevirtual 130, 5, 16, 1, .int 0, [], [594, 86, 548, 546, 547]),
  (29, .ifCond .eq 12, 3, 41, 0, .null, [], []),
  (32, .aload_n 0, 1, 0, 0, .null, [], []),
  (33, .iload_n 1, 1, 1, 0, .null, [], []),
  (34, .iload_n 2, 1, 2, 0, .null, [], []),
  (35, .invokevirtual 133, 13, 150, 2, .int 0, [], [595, 85, 598, 597, 3]),
  (38, .goto 5, 3, 43, 0, .null, [], []),
  (41, .ldc 129, 2, 0, 0, .int (-2000000000), [], [593]),
  (43, .ireturn, 1, 0, 0, .int 0, [], [])],
  [], 3)
/-- 112: LeastPays.think(II)I -/
def kX10_think : j_K := ([
  (0, .aload_n 0, 1, 0, 0, .null, [], []),
  (1, .getfield 10, 3, 10, 0, .null, [], [467]),
  (4, .iload_n 1, 1, 1, 0, .null, [], []),
  (5, .invokevirtual 130, 5, 16, 1, .int 0, [], [594, 86, 548, 546, 547]),
  (8, .ifCond .eq 14, 3, 22, 0, .null, [], []),
  (11, .iload_n 2, 1, 2, 0, .null, [], []),
  (12, .iconst (-1), 1, 0, 0, .int (-1), [], []),
  (13, .sipush 599, 3, 0, 0, .int 599, [], []),
  (16, .invokestatic 81, 3, 147, 3, .int 0, [], [502, 85, 504, 503]),
  (19, .ifCond .ne 6, 3, 25, 0, .null, [], []),
  (22, .ldc 129, 2, 0, 0, .int (-2000000000), [], [593]),
  (24, .ireturn, 1, 0, 0, .int 0, [], []),
  (25, .aload_n 0, 1, 0, 0, .null, [], []),
  (26, .getfield 10, 3, 10, 0, .null, [], [467]),
  (29, .getfield 136, 3, 2, 4, .null, [], [133]),
  (32, .iload_n 1, 1, 1, 0, .null, [], []),
  (33, .iaload, 1, 0, 0, .null, [], []),
  (34, .istore_n 3, 1, 3, 0, .null, [], []),
  (35, .aload_n 0, 1, 0, 0, .null, [], []),
  (36, .getfield 10, 3, 10, 0, .null, [], [467]),
  (39, .getfield 136, 3, 2, 4, .null, [], [133]),
  (42, .iload_n 1, 1, 1, 0, .null, [], []),
  (43, .iload_n 2, 1, 2, 0, .null, [], []),
  (44, .iastore, 1, 0, 0, .null, [], []),
  (45, .iload_n 3, 1, 3, 0, .null, [], []),
  (46, .ireturn, 1, 0, 0, .int 0, [], [])],
  [], 4)
/-- 113: LeastPays.feed(I)I -/
def kX10_feed : j_K := ([
  (0, .iload_n 1, 1, 1, 0, .null, [], []),
  (1, .iconst 0, 1, 0, 0, .int 0, [], []),
  (2, .sipush 255, 3, 0, 0, .int 255, [], []),
  (5, .invokestatic 81, 3, 147, 3, .int 0, [], [502, 85, 504, 503]),
  (8, .ifCond .eq 14, 3, 22, 0, .null, [], []),
  (11, .aload_n 0, 1, 0, 0, .null, [], []),
  (12, .getfield 42, 3, 10, 4, .null, [], [471]),
  (15, .iload_n 1, 1, 1, 0, .null, [], []),
  (16, .invokevirtual 140, 7, 33, 1, .int 0, [], [630, 90, 633, 631, 632]),
  (19, .goto 4, 3, 23, 0, .null, [], []),
  (22, .iconst (-1), 1, 0, 0, .int (-1), [], []),
  (23, .ireturn, 1, 0, 0, .int 0, [], [])],
  [], 2)
/-- 114: LeastPays.law()I -/
def kX10_law : j_K := ([
  (0, .aload_n 0, 1, 0, 0, .null, [], []),
  (1, .getfield 42, 3, 10, 4, .null, [], [471]),
  (4, .invokevirtual 143, 7, 34, 0, .int 0, [], [638, 90, 641, 639, 640]),
  (7, .ireturn, 1, 0, 0, .int 0, [], [])],
  [], 1)
/-- 115: LeastPays.putIn(II)I -/
def kX10_putIn : j_K := ([
  (0, .aload_n 0, 1, 0, 0, .null, [], []),
  (1, .getfield 10, 3, 10, 0, .null, [], [467]),
  (4, .iload_n 1, 1, 1, 0, .null, [], []),
  (5, .invokevirtual 130, 5, 16, 1, .int 0, [], [594, 86, 548, 546, 547]),
  (8, .ifCond .eq 12, 3, 20, 0, .null, [], []),
  (11, .iload_n 2, 1, 2, 0, .null, [], []),
  (12, .iconst 0, 1, 0, 0, .int 0, [], []),
  (13, .iconst 1, 1, 0, 0, .int 1, [], []),
  (14, .invokestatic 81, 3, 147, 3, .int 0, [], [502, 85, 504, 503]),
  (17, .ifCond .ne 6, 3, 23, 0, .null, [], []),
  (20, .ldc 129, 2, 0, 0, .int (-2000000000), [], [593]),
  (22, .ireturn, 1, 0, 0, .int 0, [], []),
  (23, .aload_n 0, 1, 0, 0, .null, [], []),
  (24, .getfield 19, 3, 10, 1, .null, [], [468]),
  (27, .aload_n 0, 1, 0, 0, .null, [], []),
  (28, .getfield 10, 3, 10, 0, .null, [], [467]),
  (31, .invokevirtual 147, 6, 22, 1, .null, [], [577, 87, 580, 578, 579]),
  (34, .aload_n 0, 1, 0, 0, .null, [], []),
  (35, .getfield 28, 3, 10, 2, .null, [], [469]),
  (38, .iload_n 1, 1, 1, 0, .null, [], []),
  (39, .invokevirtual 151, 9, 71, 1, .null, [], [713, 88, 716, 714, 715]),
  (42, .iload_n 2, 1, 2, 0, .null, [], []),
  (43, .ifCond .ne 13, 3, 56, 0, .null, [], []),
  (46, .aload_n 0, 1, 0, 0, .null, [], []),
  (47, .getfield 28, 3, 10, 2, .null, [], [469]),
  (50, .getfield 155, 3, 6, 3, .int 0, [], [247]),
  (53, .goto 10, 3, 63, 0, .null, [], []),
  (56, .aload_n 0, 1, 0, 0, .null, [], []),
  (57, .getfield 28, 3, 10, 2, .null, [], [469]),
  (60, .getfield 158, 3, 6, 4, .int 0, [], [249]),
  (63, .ireturn, 1, 0, 0, .int 0, [], [])],
  [], 3)
/-- 116: LeastPays.mean(III)J -/
def kX10_mean : j_K := ([
  (0, .aload_n 0, 1, 0, 0, .null, [], []),
  (1, .getfield 10, 3, 10, 0, .null, [], [467]),
  (4, .iload_n 1, 1, 1, 0, .null, [], []),
  (5, .invokevirtual 130, 5, 16, 1, .int 0, [], [594, 86, 548, 546, 547]),
  (8, .ifCond .eq 29, 3, 37, 0, .null, [], []),
  (11, .iload_n 2, 1, 2, 0, .null, [], []),
  (12, .iconst 0, 1, 0, 0, .int 0, [], []),
  (13, .aload_n 0, 1, 0, 0, .null, [], []),
  (14, .getfield 10, 3, 10, 0, .null, [], [467]),
  (17, .getfield 161, 3, 2, 0, .null, [], [116]),
  (20, .iload_n 1, 1, 1, 0, .null, [], []),
  (21, .iaload, 1, 0, 0, .null, [], []),
  (22, .invokestatic 81, 3, 147, 3, .int 0, [], [502, 85, 504, 503]),
  (25, .ifCond .eq 12, 3, 37, 0, .null, [], []),
  (28, .iload_n 3, 1, 3, 0, .null, [], []),
  (29, .iconst 0, 1, 0, 0, .int 0, [], []),
  (30, .iconst 1, 1, 0, 0, .int 1, [], []),
  (31, .invokestatic 81, 3, 147, 3, .int 0, [], [502, 85, 504, 503]),
  (34, .ifCond .ne 7, 3, 41, 0, .null, [], []),
  (37, .ldc2_w 164, 3, 0, 0, .long (-9223372036854775808), [], [732]),
  (40, .lreturn, 1, 0, 0, .null, [], []),
  (41, .aload_n 0, 1, 0, 0, .null, [], []),
  (42, .getfield 28, 3, 10, 2, .null, [], [469]),
  (45, .iload_n 1, 1, 1, 0, .null, [], []),
  (46, .iload_n 2, 1, 2, 0, .null, [], []),
  (47, .invokevirtual 166, 9, 83, 2, .long 0, [], [733, 88, 736, 734, 735]),
  (50, .aload_n 0, 1, 0, 0, .null, [], []),
  (51, .getfield 28, 3, 10, 2, .null, [], [469]),
  (54, .invokevirtual 170, 9, 82, 0, .long 0, [], [742, 88, 745, 743, 744]),
  (57, .iload_n 3, 1, 3, 0, .null, [], []),
  (58, .invokestatic 174, 3, 154, 3, .long 0, [], [747, 85, 749, 748]),
  (61, .lreturn, 1, 0, 0, .null, [], [])],
  [], 4)
/-- 117: LeastPays.bestMean(I)I -/
def kX10_bestMean : j_K := ([
  (0, .aload_n 0, 1, 0, 0, .null, [], []),
  (1, .getfield 10, 3, 10, 0, .null, [], [467]),
  (4, .iload_n 1, 1, 1, 0, .null, [], []),
  (5, .invokevirtual 130, 5, 16, 1, .int 0, [], [594, 86, 548, 546, 547]),
  (8, .ifCond .eq 14, 3, 22, 0, .null, [], []),
  (11, .aload_n 0, 1, 0, 0, .null, [], []),
  (12, .getfield 28, 3, 10, 2, .null, [], [469]),
  (15, .iload_n 1, 1, 1, 0, .null, [], []),
  (16, .invokevirtual 178, 9, 85, 1, .int 0, [], [754, 88, 757, 755, 756]),
  (19, .goto 4, 3, 23, 0, .null, [], []),
  (22, .iconst (-1), 1, 0, 0, .int (-1), [], []),
  (23, .ireturn, 1, 0, 0, .int 0, [], [])],
  [], 2)
/-- 118: LeastPays.rest(I)I -/
def kX10_rest : j_K := ([
  (0, .iload_n 1, 1, 1, 0, .null, [], []),
  (1, .iconst 0, 1, 0, 0, .int 0, [], []),
  (2, .iconst 1, 1, 0, 0, .int 1, [], []),
  (3, .invokestatic 81, 3, 147, 3, .int 0, [], [502, 85, 504, 503]),
  (6, .ifCond .ne 5, 3, 11, 0, .null, [], []),
  (9, .iconst (-1), 1, 0, 0, .int (-1), [], []),
  (10, .ireturn, 1, 0, 0, .int 0, [], []),
  (11, .aload_n 0, 1, 0, 0, .null, [], []),
  (12, .getfield 19, 3, 10, 1, .null, [], [468]),
  (15, .aload_n 0, 1, 0, 0, .null, [], []),
  (16, .getfield 10, 3, 10, 0, .null, [], [467]),
  (19, .invokevirtual 147, 6, 22, 1, .null, [], [577, 87, 580, 578, 579]),
  (22, .aload_n 0, 1, 0, 0, .null, [], []),
  (23, .getfield 28, 3, 10, 2, .null, [], [469]),
  (26, .invokevirtual 181, 9, 73, 0, .int 0, [], [763, 88, 766, 764, 765]),
  (29, .istore_n 2, 1, 2, 0, .null, [], []),
  (30, .iload_n 1, 1, 1, 0, .null, [], []),
  (31, .iconst 1, 1, 0, 0, .int 1, [], []),
  (32, .if_icmp .ne 5, 3, 37, 0, .null, [], []),
  (35, .iload_n 2, 1, 2, 0, .null, [], []),
  (36, .ireturn, 1, 0, 0, .int 0, [], []),
  (37, .iload_n 2, 1, 2, 0, .null, [], []),
  (38, .bipush (-2), 2, 0, 0, .int (-2), [], []),
  (40, .if_icmp .ne 7, 3, 47, 0, .null, [], []),
  (43, .iconst 1, 1, 0, 0, .int 1, [], []),
  (44, .goto 4, 3, 48, 0, .null, [], []),
  (47, .iconst 0, 1, 0, 0, .int 0, [], []),
  (48, .ireturn, 1, 0, 0, .int 0, [], [])],
  [], 3)
/-- 119: LeastPays.rests(I)I -/
def kX10_rests : j_K := ([
  (0, .iload_n 1, 1, 1, 0, .null, [], []),
  (1, .iconst (-1), 1, 0, 0, .int (-1), [], []),
  (2, .if_icmp .eq 16, 3, 18, 0, .null, [], []),
  (5, .aload_n 0, 1, 0, 0, .null, [], []),
  (6, .getfield 10, 3, 10, 0, .null, [], [467]),
  (9, .iload_n 1, 1, 1, 0, .null, [], []),
  (10, .invokevirtual 130, 5, 16, 1, .int 0, [], [594, 86, 548, 546, 547]),
  (13, .ifCond .ne 5, 3, 18, 0, .null, [], []),
  (16, .iconst (-1), 1, 0, 0, .int (-1), [], []),
  (17, .ireturn, 1, 0, 0, .int 0, [], []),
  (18, .aload_n 0, 1, 0, 0, .null, [], []),
  (19, .getfield 28, 3, 10, 2, .null, [], [469]),
  (22, .invokevirtual 184, 9, 76, 0, .int 0, [], [775, 88, 778, 776, 777]),
  (25, .ifCond .ne 6, 3, 31, 0, .null, [], []),
  (28, .bipush (-5), 2, 0, 0, .int (-5), [], []),
  (30, .ireturn, 1, 0, 0, .int 0, [], []),
  (31, .aload_n 0, 1, 0, 0, .null, [], []),
  (32, .getfield 28, 3, 10, 2, .null, [], [469]),
  (35, .invokevirtual 187, 9, 77, 0, .int 0, [], [784, 88, 787, 785, 786]),
  (38, .istore_n 2, 1, 2, 0, .null, [], []),
  (39, .iload_n 1, 1, 1, 0, .null, [], []),
  (40, .iconst (-1), 1, 0, 0, .int (-1), [], []),
  (41, .if_icmp .ne 5, 3, 46, 0, .null, [], []),
  (44, .iload_n 2, 1, 2, 0, .null, [], []),
  (45, .ireturn, 1, 0, 0, .int 0, [], []),
  (46, .iload_n 2, 1, 2, 0, .null, [], []),
  (47, .ifCond .ne 8, 3, 55, 0, .null, [], []),
  (50, .bipush (-2), 2, 0, 0, .int (-2), [], []),
  (52, .goto 12, 3, 64, 0, .null, [], []),
  (55, .aload_n 0, 1, 0, 0, .null, [], []),
  (56, .getfield 28, 3, 10, 2, .null, [], [469]),
  (59, .getfield 190, 3, 6, 2, .null, [], [245]),
  (62, .iload_n 1, 1, 1, 0, .null, [], []),
  (63, .iaload, 1, 0, 0, .null, [], []),
  (64, .ireturn, 1, 0, 0, .int 0, [], [])],
  [], 3)
/-- 120: LeastPays.turns(I)I -/
def kX10_turns : j_K := ([
  (0, .iload_n 1, 1, 1, 0, .null, [], []),
  (1, .iconst (-1), 1, 0, 0, .int (-1), [], []),
  (2, .if_icmp .eq 16, 3, 18, 0, .null, [], []),
  (5, .aload_n 0, 1, 0, 0, .null, [], []),
  (6, .getfield 10, 3, 10, 0, .null, [], [467]),
  (9, .iload_n 1, 1, 1, 0, .null, [], []),
  (10, .invokevirtual 130, 5, 16, 1, .int 0, [], [594, 86, 548, 546, 547]),
  (13, .ifCond .ne 5, 3, 18, 0, .null, [], []),
  (16, .iconst (-1), 1, 0, 0, .int (-1), [], []),
  (17, .ireturn, 1, 0, 0, .int 0, [], []),
  (18, .aload_n 0, 1, 0, 0, .null, [], []),
  (19, .getfield 28, 3, 10, 2, .null, [], [469]),
  (22, .invokevirtual 193, 9, 79, 0, .int 0, [], [801, 88, 804, 802, 803]),
  (25, .istore_n 2, 1, 2, 0, .null, [], []),
  (26, .iload_n 1, 1, 1, 0, .null, [], []),
  (27, .iconst (-1), 1, 0, 0, .int (-1), [], []),
  (28, .if_icmp .ne 7, 3, 35, 0, .null, [], []),
  (31, .iload_n 2, 1, 2, 0, .null, [], []),
  (32, .goto 12, 3, 44, 0, .null, [], []),
  (35, .aload_n 0, 1, 0, 0, .null, [], []),
  (36, .getfield 19, 3, 10, 1, .null, [], [468]),
  (39, .getfield 196, 3, 3, 0, .null, [], [197]),
  (42, .iload_n 1, 1, 1, 0, .null, [], []),
  (43, .iaload, 1, 0, 0, .null, [], []),
  (44, .ireturn, 1, 0, 0, .int 0, [], [])],
  [], 3)
/-- 121: LeastPays.agree(II)I -/
def kX10_agree : j_K := ([
  (0, .iload_n 1, 1, 1, 0, .null, [], []),
  (1, .bipush 10, 2, 0, 0, .int 10, [], []),
  (3, .idiv, 1, 0, 0, .null, [], []),
  (4, .istore_n 3, 1, 3, 0, .null, [], []),
  (5, .iload_n 1, 1, 1, 0, .null, [], []),
  (6, .bipush 10, 2, 0, 0, .int 10, [], []),
  (8, .irem, 1, 0, 0, .null, [], []),
  (9, .istore 4, 2, 4, 0, .null, [], []),
  (11, .aload_n 0, 1, 0, 0, .null, [], []),
  (12, .getfield 10, 3, 10, 0, .null, [], [467]),
  (15, .iload_n 3, 1, 3, 0, .null, [], []),
  (16, .invokevirtual 130, 5, 16, 1, .int 0, [], [594, 86, 548, 546, 547]),
  (19, .ifCond .eq 21, 3, 40, 0, .null, [], []),
  (22, .aload_n 0, 1, 0, 0, .null, [], []),
  (23, .getfield 10, 3, 10, 0, .null, [], [467]),
  (26, .iload 4, 2, 4, 0, .null, [], []),
  (28, .invokevirtual 130, 5, 16, 1, .int 0, [], [594, 86, 548, 546, 547]),
  (31, .ifCond .eq 9, 3, 40, 0, .null, [], []),
  (34, .iload_n 3, 1, 3, 0, .null, [], []),
  (35, .iload 4, 2, 4, 0, .null, [], []),
  (37, .if_icmp .lt 6, 3, 43, 0, .null, [], []),
  (40, .ldc 129, 2, 0, 0, .int (-2000000000), [], [593]),
  (42, .ireturn, 1, 0, 0, .int 0, [], []),
  (43, .iload_n 2, 1, 2, 0, .null, [], []),
  (44, .iconst 0, 1, 0, 0, .int 0, [], []),
  (45, .iconst 3, 1, 0, 0, .int 3, [], []),
  (46, .invokestatic 81, 3, 147, 3, .int 0, [], [502, 85, 504, 503]),
  (49, .ifCond .ne 6, 3, 55, 0, .null, [], []),
  (52, .ldc 129, 2, 0, 0, .int (-2000000000), [], [593]),
  (54, .ireturn, 1, 0, 0, .int 0, [], []),
  (55, .aload_n 0, 1, 0, 0, .null, [], []),
  (56, .getfield 28, 3, 10, 2, .null, [], [469]),
  (59, .iload_n 3, 1, 3, 0, .null, [], []),
  (60, .iload 4, 2, 4, 0, .null, [], []),
  (62, .invokevirtual 199, 9, 80, 2, .null, [], [810, 88, 813, 811, 812]),
  (65, .iload_n 2, 1, 2, 0, .null, [], []),
  (66, .tableswitch 50 0 2 #[26, 34, 42], 26, 116, 0, .null, [(0, 92), (1, 100), (2, 108)], []),
  (92, .aload_n 0, 1, 0, 0, .null, [], []),
  (93, .getfield 28, 3, 10, 2, .null, [], [469]),
  (96, .getfield 158, 3, 6, 4, .int 0, [], [249]),
  (99, .ireturn, 1, 0, 0, .int 0, [], []),
  (100, .aload_n 0, 1, 0, 0, .null, [], []),
  (101, .getfield 28, 3, 10, 2, .null, [], [469]),
  (104, .getfield 155, 3, 6, 3, .int 0, [], [247]),
  (107, .ireturn, 1, 0, 0, .int 0, [], []),
  (108, .aload_n 0, 1, 0, 0, .null, [], []),
  (109, .getfield 28, 3, 10, 2, .null, [], [469]),
  (112, .getfield 202, 3, 6, 5, .int 0, [], [251]),
  (115, .ireturn, 1, 0, 0, .int 0, [], []),
  (116, .aload_n 0, 1, 0, 0, .null, [], []),
  (117, .getfield 28, 3, 10, 2, .null, [], [469]),
  (120, .iload_n 3, 1, 3, 0, .null, [], []),
  (121, .iload 4, 2, 4, 0, .null, [], []),
  (123, .invokevirtual 205, 9, 81, 2, .int 0, [], [814, 88, 817, 815, 816]),
  (126, .ireturn, 1, 0, 0, .int 0, [], [])],
  [], 5)
/-- 122: LeastPays.dish(I)I -/
def kX10_dish : j_K := ([
  (0, .iload_n 1, 1, 1, 0, .null, [], []),
  (1, .iconst 0, 1, 0, 0, .int 0, [], []),
  (2, .bipush 99, 2, 0, 0, .int 99, [], []),
  (4, .invokestatic 81, 3, 147, 3, .int 0, [], [502, 85, 504, 503]),
  (7, .ifCond .eq 14, 3, 21, 0, .null, [], []),
  (10, .aload_n 0, 1, 0, 0, .null, [], []),
  (11, .getfield 35, 3, 10, 3, .null, [], [470]),
  (14, .iload_n 1, 1, 1, 0, .null, [], []),
  (15, .invokevirtual 208, 8, 63, 1, .int 0, [], [823, 89, 826, 824, 825]),
  (18, .goto 4, 3, 22, 0, .null, [], []),
  (21, .iconst (-1), 1, 0, 0, .int (-1), [], []),
  (22, .ireturn, 1, 0, 0, .int 0, [], [])],
  [], 2)
/-- 123: LeastPays.joy(II)I -/
def kX10_joy : j_K := ([
  (0, .iload_n 1, 1, 1, 0, .null, [], []),
  (1, .bipush 10, 2, 0, 0, .int 10, [], []),
  (3, .idiv, 1, 0, 0, .null, [], []),
  (4, .istore_n 3, 1, 3, 0, .null, [], []),
  (5, .iload_n 1, 1, 1, 0, .null, [], []),
  (6, .bipush 10, 2, 0, 0, .int 10, [], []),
  (8, .irem, 1, 0, 0, .null, [], []),
  (9, .istore 4, 2, 4, 0, .null, [], []),
  (11, .aload_n 0, 1, 0, 0, .null, [], []),
  (12, .getfield 10, 3, 10, 0, .null, [], [467]),
  (15, .iload_n 3, 1, 3, 0, .null, [], []),
  (16, .invokevirtual 130, 5, 16, 1, .int 0, [], [594, 86, 548, 546, 547]),
  (19, .ifCond .eq 25, 3, 44, 0, .null, [], []),
  (22, .aload_n 0, 1, 0, 0, .null, [], []),
  (23, .getfield 35, 3, 10, 3, .null, [], [470]),
  (26, .iload 4, 2, 4, 0, .null, [], []),
  (28, .invokevirtual 209, 8, 62, 1, .int 0, [], [831, 89, 834, 832, 833]),
  (31, .ifCond .eq 13, 3, 44, 0, .null, [], []),
  (34, .iload_n 2, 1, 2, 0, .null, [], []),
  (35, .iconst 0, 1, 0, 0, .int 0, [], []),
  (36, .bipush 99, 2, 0, 0, .int 99, [], []),
  (38, .invokestatic 81, 3, 147, 3, .int 0, [], [502, 85, 504, 503]),
  (41, .ifCond .ne 5, 3, 46, 0, .null, [], []),
  (44, .iconst (-1), 1, 0, 0, .int (-1), [], []),
  (45, .ireturn, 1, 0, 0, .int 0, [], []),
  (46, .aload_n 0, 1, 0, 0, .null, [], []),
  (47, .getfield 35, 3, 10, 3, .null, [], [470]),
  (50, .iload_n 3, 1, 3, 0, .null, [], []),
  (51, .iload 4, 2, 4, 0, .null, [], []),
  (53, .iload_n 2, 1, 2, 0, .null, [], []),
  (54, .invokevirtual 210, 8, 64, 3, .int 0, [], [835, 89, 838, 836, 837]),
  (57, .ireturn, 1, 0, 0, .int 0, [], [])],
  [], 5)
/-- 124: LeastPays.ordered(II)I -/
def kX10_ordered : j_K := ([
  (0, .aload_n 0, 1, 0, 0, .null, [], []),
  (1, .getfield 10, 3, 10, 0, .null, [], [467]),
  (4, .iload_n 1, 1, 1, 0, .null, [], []),
  (5, .invokevirtual 130, 5, 16, 1, .int 0, [], [594, 86, 548, 546, 547]),
  (8, .ifCond .eq 21, 3, 29, 0, .null, [], []),
  (11, .iload_n 2, 1, 2, 0, .null, [], []),
  (12, .iconst 0, 1, 0, 0, .int 0, [], []),
  (13, .iconst 2, 1, 0, 0, .int 2, [], []),
  (14, .invokestatic 81, 3, 147, 3, .int 0, [], [502, 85, 504, 503]),
  (17, .ifCond .eq 12, 3, 29, 0, .null, [], []),
  (20, .iload_n 2, 1, 2, 0, .null, [], []),
  (21, .iconst 2, 1, 0, 0, .int 2, [], []),
  (22, .if_icmp .ne 10, 3, 32, 0, .null, [], []),
  (25, .iload_n 1, 1, 1, 0, .null, [], []),
  (26, .ifCond .eq 6, 3, 32, 0, .null, [], []),
  (29, .ldc 129, 2, 0, 0, .int (-2000000000), [], [593]),
  (31, .ireturn, 1, 0, 0, .int 0, [], []),
  (32, .aload_n 0, 1, 0, 0, .null, [], []),
  (33, .getfield 35, 3, 10, 3, .null, [], [470]),
  (36, .invokevirtual 214, 8, 65, 0, .int 0, [], [843, 89, 846, 844, 845]),
  (39, .istore_n 3, 1, 3, 0, .null, [], []),
  (40, .iload_n 2, 1, 2, 0, .null, [], []),
  (41, .lookupswitch 73 #[(0, 27), (1, 54)], 27, 114, 0, .null, [(0, 68), (1, 95)], []),
  (68, .aload_n 0, 1, 0, 0, .null, [], []),
  (69, .getfield 35, 3, 10, 3, .null, [], [470]),
  (72, .getfield 217, 3, 5, 4, .null, [], [276]),
  (75, .iload_n 1, 1, 1, 0, .null, [], []),
  (76, .iaload, 1, 0, 0, .null, [], []),
  (77, .ifCond .ge 8, 3, 85, 0, .null, [], []),
  (80, .bipush (-2), 2, 0, 0, .int (-2), [], []),
  (82, .goto 12, 3, 94, 0, .null, [], []),
  (85, .aload_n 0, 1, 0, 0, .null, [], []),
  (86, .getfield 35, 3, 10, 3, .null, [], [470]),
  (89, .getfield 217, 3, 5, 4, .null, [], [276]),
  (92, .iload_n 1, 1, 1, 0, .null, [], []),
  (93, .iaload, 1, 0, 0, .null, [], []),
  (94, .ireturn, 1, 0, 0, .int 0, [], []),
  (95, .aload_n 0, 1, 0, 0, .null, [], []),
  (96, .getfield 35, 3, 10, 3, .null, [], [470]),
  (99, .iload_n 1, 1, 1, 0, .null, [], []),
  (100, .aload_n 0, 1, 0, 0, .null, [], []),
  (101, .getfield 35, 3, 10, 3, .null, [], [470]),
  (104, .getfield 217, 3, 5, 4, .null, [], [276]),
  (107, .iload_n 1, 1, 1, 0, .null, [], []),
  (108, .iaload, 1, 0, 0, .null, [], []),
  (109, .iload_n 3, 1, 3, 0, .null, [], []),
  (110, .invokevirtual 220, 8, 68, 3, .int 0, [], [863, 89, 855, 853, 854]),
  (113, .ireturn, 1, 0, 0, .int 0, [], []),
  (114, .iload_n 3, 1, 3, 0, .null, [], []),
  (115, .ireturn, 1, 0, 0, .int 0, [], [])],
  [(32, [true, true, true, false])], 4)
/-- 125: LeastPays.thought(III)I -/
def kX10_thought : j_K := ([
  (0, .aload_n 0, 1, 0, 0, .null, [], []),
  (1, .getfield 10, 3, 10, 0, .null, [], [467]),
  (4, .iload_n 1, 1, 1, 0, .null, [], []),
  (5, .invokevirtual 130, 5, 16, 1, .int 0, [], [594, 86, 548, 546, 547]),
  (8, .ifCond .eq 22, 3, 30, 0, .null, [], []),
  (11, .iload_n 2, 1, 2, 0, .null, [], []),
  (12, .iconst 0, 1, 0, 0, .int 0, [], []),
  (13, .bipush 99, 2, 0, 0, .int 99, [], []),
  (15, .invokestatic 81, 3, 147, 3, .int 0, [], [502, 85, 504, 503]),
  (18, .ifCond .eq 12, 3, 30, 0, .null, [], []),
  (21, .iload_n 3, 1, 3, 0, .null, [], []),
  (22, .iconst 0, 1, 0, 0, .int 0, [], []),
  (23, .iconst 1, 1, 0, 0, .int 1, [], []),
  (24, .invokestatic 81, 3, 147, 3, .int 0, [], [502, 85, 504, 503]),
  (27, .ifCond .ne 5, 3, 32, 0, .null, [], []),
  (30, .iconst (-1), 1, 0, 0, .int (-1), [], []),
  (31, .ireturn, 1, 0, 0, .int 0, [], []),
  (32, .iconst 0, 1, 0, 0, .int 0, [], []),
  (33, .istore 4, 2, 4, 0, .null, [], []),
  (35, .iload 4, 2, 4, 0, .null, [], []),
  (37, .sipush 599, 3, 0, 0, .int 599, [], []),
  (40, .if_icmp .gt 47, 3, 87, 0, .null, [], []),
  (43, .iload_n 3, 1, 3, 0, .null, [], []),
  (44, .ifCond .ne 8, 3, 52, 0, .null, [], []),
  (47, .iload 4, 2, 4, 0, .null, [], []),
  (49, .goto 9, 3, 58, 0, .null, [], []),
  (52, .sipush 599, 3, 0, 0, .int 599, [], []),
  (55, .iload 4, 2, 4, 0, .null, [], []),
  (57, .isub, 1, 0, 0, .null, [], []),
  (58, .istore 5, 2, 5, 0, .null, [], []),
  (60, .aload_n 0, 1, 0, 0, .null, [], []),
  (61, .getfield 42, 3, 10, 4, .null, [], [471]),
  (64, .aload_n 0, 1, 0, 0, .null, [], []),
  (65, .getfield 10, 3, 10, 0, .null, [], [467]),
  (68, .iload_n 1, 1, 1, 0, .null, [], []),
  (69, .iload 5, 2, 5, 0, .null, [], []),
  (71, .invokevirtual 223, 7, 52, 3, .int 0, [], [868, 90, 871, 869, 870]),
  (74, .iload_n 2, 1, 2, 0, .null, [], []),
  (75, .if_icmp .ne 6, 3, 81, 0, .null, [], []),
  (78, .iload 5, 2, 5, 0, .null, [], []),
  (80, .ireturn, 1, 0, 0, .int 0, [], []),
  (81, .iinc 4 1, 3, 4, 0, .int 1, [], []),
  (84, .goto (-49), 3, 35, 0, .null, [], []),
  (87, .bipush (-2), 2, 0, 0, .int (-2), [], []),
  (89, .ireturn, 1, 0, 0, .int 0, [], [])],
  [(35, [true, true, true, true, true, false])], 6)
/-- 126: LeastPays.given(I)I -/
def kX10_given : j_K := ([
  (0, .iload_n 1, 1, 1, 0, .null, [], []),
  (1, .iconst (-1), 1, 0, 0, .int (-1), [], []),
  (2, .if_icmp .eq 24, 3, 26, 0, .null, [], []),
  (5, .aload_n 0, 1, 0, 0, .null, [], []),
  (6, .getfield 10, 3, 10, 0, .null, [], [467]),
  (9, .iload_n 1, 1, 1, 0, .null, [], []),
  (10, .invokevirtual 130, 5, 16, 1, .int 0, [], [594, 86, 548, 546, 547]),
  (13, .ifCond .eq 11, 3, 24, 0, .null, [], []),
  (16, .aload_n 0, 1, 0, 0, .null, [], []),
  (17, .iload_n 1, 1, 1, 0, .null, [], []),
  (18, .invokevirtual 227, 13, 152, 1, .int 0, [], [906, 85, 909, 908, 34]),
  (21, .goto 4, 3, 25, 0, .null, [], []),
  (24, .iconst (-1), 1, 0, 0, .int (-1), [], []),
  (25, .ireturn, 1, 0, 0, .int 0, [], []),
  (26, .iconst 0, 1, 0, 0, .int 0, [], []),
  (27, .istore_n 2, 1, 2, 0, .null, [], []),
  (28, .iconst 0, 1, 0, 0, .int 0, [], []),
  (29, .istore_n 3, 1, 3, 0, .null, [], []),
  (30, .iload_n 3, 1, 3, 0, .null, [], []),
  (31, .aload_n 0, 1, 0, 0, .null, [], []),
  (32, .getfield 10, 3, 10, 0, .null, [], [467]),
  (35, .getfield 85, 3, 2, 6, .int 0, [], [141]),
  (38, .if_icmp .ge 17, 3, 55, 0, .null, [], []),
  (41, .iload_n 2, 1, 2, 0, .null, [], []),
  (42, .aload_n 0, 1, 0, 0, .null, [], []),
  (43, .iload_n 3, 1, 3, 0, .null, [], []),
  (44, .invokevirtual 227, 13, 152, 1, .int 0, [], [906, 85, 909, 908, 34]),
  (47, .iadd, 1, 0, 0, .null, [], []),
  (48, .istore_n 2, 1, 2, 0, .null, [], []),
  (49, .iinc 3 1, 3, 3, 0, .int 1, [], []),
  (52, .goto (-22), 3, 30, 0, .null, [], []),
  (55, .iload_n 2, 1, 2, 0, .null, [], []),
  (56, .ireturn, 1, 0, 0, .int 0, [], [])],
  [(30, [true, false, true, true])], 4)
/-- 127: LeastPays.stranger(III)J -/
def kX10_stranger : j_K := ([
  (0, .aload_n 0, 1, 0, 0, .null, [], []),
  (1, .getfield 10, 3, 10, 0, .null, [], [467]),
  (4, .iload_n 1, 1, 1, 0, .null, [], []),
  (5, .invokevirtual 130, 5, 16, 1, .int 0, [], [594, 86, 548, 546, 547]),
  (8, .ifCond .eq 23, 3, 31, 0, .null, [], []),
  (11, .iload_n 2, 1, 2, 0, .null, [], []),
  (12, .iconst 0, 1, 0, 0, .int 0, [], []),
  (13, .sipush 1299, 3, 0, 0, .int 1299, [], []),
  (16, .invokestatic 81, 3, 147, 3, .int 0, [], [502, 85, 504, 503]),
  (19, .ifCond .eq 12, 3, 31, 0, .null, [], []),
  (22, .iload_n 3, 1, 3, 0, .null, [], []),
  (23, .iconst 0, 1, 0, 0, .int 0, [], []),
  (24, .iconst 1, 1, 0, 0, .int 1, [], []),
  (25, .invokestatic 81, 3, 147, 3, .int 0, [], [502, 85, 504, 503]),
  (28, .ifCond .ne 7, 3, 35, 0, .null, [], []),
  (31, .ldc2_w 164, 3, 0, 0, .long (-9223372036854775808), [], [732]),
  (34, .lreturn, 1, 0, 0, .null, [], []),
  (35, .iload_n 2, 1, 2, 0, .null, [], []),
  (36, .bipush 100, 2, 0, 0, .int 100, [], []),
  (38, .idiv, 1, 0, 0, .null, [], []),
  (39, .istore 4, 2, 4, 0, .null, [], []),
  (41, .aload_n 0, 1, 0, 0, .null, [], []),
  (42, .getfield 19, 3, 10, 1, .null, [], [468]),
  (45, .aload_n 0, 1, 0, 0, .null, [], []),
  (46, .getfield 10, 3, 10, 0, .null, [], [467]),
  (49, .invokevirtual 147, 6, 22, 1, .null, [], [577, 87, 580, 578, 579]),
  (52, .aload_n 0, 1, 0, 0, .null, [], []),
  (53, .getfield 19, 3, 10, 1, .null, [], [468]),
  (56, .iload_n 1, 1, 1, 0, .null, [], []),
  (57, .invokevirtual 230, 6, 26, 1, .int 0, [], [599, 87, 602, 600, 601]),
  (60, .i2l, 1, 0, 0, .null, [], []),
  (61, .lstore 5, 2, 5, 0, .null, [], []),
  (63, .aload_n 0, 1, 0, 0, .null, [], []),
  (64, .getfield 19, 3, 10, 1, .null, [], [468]),
  (67, .iload_n 2, 1, 2, 0, .null, [], []),
  (68, .bipush 100, 2, 0, 0, .int 100, [], []),
  (70, .irem, 1, 0, 0, .null, [], []),
  (71, .invokevirtual 233, 6, 23, 1, .null, [], [914, 87, 917, 915, 916]),
  (74, .aload_n 0, 1, 0, 0, .null, [], []),
  (75, .getfield 19, 3, 10, 1, .null, [], [468]),
  (78, .iload_n 1, 1, 1, 0, .null, [], []),
  (79, .invokevirtual 230, 6, 26, 1, .int 0, [], [599, 87, 602, 600, 601]),
  (82, .i2l, 1, 0, 0, .null, [], []),
  (83, .lstore 7, 2, 7, 0, .null, [], []),
  (85, .iload 4, 2, 4, 0, .null, [], []),
  (87, .i2l, 1, 0, 0, .null, [], []),
  (88, .lload 7, 2, 7, 0, .null, [], []),
  (90, .lmul, 1, 0, 0, .null, [], []),
  (91, .bipush 12, 2, 0, 0, .int 12, [], []),
  (93, .iload 4, 2, 4, 0, .null, [], []),
  (95, .isub, 1, 0, 0, .null, [], []),
  (96, .i2l, 1, 0, 0, .null, [], []),
  (97, .lload 5, 2, 5, 0, .null, [], []),
  (99, .lmul, 1, 0, 0, .null, [], []),
  (100, .ladd, 1, 0, 0, .null, [], []),
  (101, .ldc2_w 236, 3, 0, 0, .long 12, [], [918]),
  (104, .iload_n 3, 1, 3, 0, .null, [], []),
  (105, .invokestatic 174, 3, 154, 3, .long 0, [], [747, 85, 749, 748]),
  (108, .lreturn, 1, 0, 0, .null, [], [])],
  [], 9)
/-- 128: LeastPays.night()I -/
def kX10_night : j_K := ([
  (0, .aload_n 0, 1, 0, 0, .null, [], []),
  (1, .getfield 10, 3, 10, 0, .null, [], [467]),
  (4, .getfield 85, 3, 2, 6, .int 0, [], [141]),
  (7, .ifCond .ne 8, 3, 15, 0, .null, [], []),
  (10, .bipush (-5), 2, 0, 0, .int (-5), [], []),
  (12, .goto 10, 3, 22, 0, .null, [], []),
  (15, .aload_n 0, 1, 0, 0, .null, [], []),
  (16, .getfield 49, 3, 10, 5, .null, [], [472]),
  (19, .invokevirtual 238, 10, 87, 0, .int 0, [], [923, 91, 926, 924, 925]),
  (22, .ireturn, 1, 0, 0, .int 0, [], [])],
  [], 1)
/-- 129: LeastPays.drawn(IIII)I -/
def kX10_drawn : j_K := ([
  (0, .iload_n 2, 1, 2, 0, .null, [], []),
  (1, .iconst 1, 1, 0, 0, .int 1, [], []),
  (2, .bipush 50, 2, 0, 0, .int 50, [], []),
  (4, .invokestatic 81, 3, 147, 3, .int 0, [], [502, 85, 504, 503]),
  (7, .ifCond .eq 24, 3, 31, 0, .null, [], []),
  (10, .aload_n 0, 1, 0, 0, .null, [], []),
  (11, .getfield 10, 3, 10, 0, .null, [], [467]),
  (14, .iload_n 3, 1, 3, 0, .null, [], []),
  (15, .invokevirtual 130, 5, 16, 1, .int 0, [], [594, 86, 548, 546, 547]),
  (18, .ifCond .eq 13, 3, 31, 0, .null, [], []),
  (21, .iload 4, 2, 4, 0, .null, [], []),
  (23, .iconst 0, 1, 0, 0, .int 0, [], []),
  (24, .iconst 1, 1, 0, 0, .int 1, [], []),
  (25, .invokestatic 81, 3, 147, 3, .int 0, [], [502, 85, 504, 503]),
  (28, .ifCond .ne 6, 3, 34, 0, .null, [], []),
  (31, .ldc 129, 2, 0, 0, .int (-2000000000), [], [593]),
  (33, .ireturn, 1, 0, 0, .int 0, [], []),
  (34, .aload_n 0, 1, 0, 0, .null, [], []),
  (35, .getfield 49, 3, 10, 5, .null, [], [472]),
  (38, .iload_n 1, 1, 1, 0, .null, [], []),
  (39, .iload_n 2, 1, 2, 0, .null, [], []),
  (40, .iload_n 3, 1, 3, 0, .null, [], []),
  (41, .invokevirtual 241, 10, 88, 3, .null, [], [937, 91, 940, 938, 939]),
  (44, .iload 4, 2, 4, 0, .null, [], []),
  (46, .ifCond .ne 13, 3, 59, 0, .null, [], []),
  (49, .aload_n 0, 1, 0, 0, .null, [], []),
  (50, .getfield 49, 3, 10, 5, .null, [], [472]),
  (53, .getfield 244, 3, 7, 2, .int 0, [], [342]),
  (56, .goto 10, 3, 66, 0, .null, [], []),
  (59, .aload_n 0, 1, 0, 0, .null, [], []),
  (60, .getfield 49, 3, 10, 5, .null, [], [472]),
  (63, .getfield 247, 3, 7, 3, .int 0, [], [344]),
  (66, .ireturn, 1, 0, 0, .int 0, [], [])],
  [], 5)
/-- 130: LeastPays.judge(I)I -/
def kX10_judge : j_K := ([
  (0, .aload_n 0, 1, 0, 0, .null, [], []),
  (1, .iload_n 1, 1, 1, 0, .null, [], []),
  (2, .invokevirtual 250, 13, 153, 1, .int 0, [], [948, 85, 951, 950, 35]),
  (5, .istore_n 2, 1, 2, 0, .null, [], []),
  (6, .iload_n 2, 1, 2, 0, .null, [], []),
  (7, .ifCond .eq 7, 3, 14, 0, .null, [], []),
  (10, .iload_n 2, 1, 2, 0, .null, [], []),
  (11, .goto 23, 3, 34, 0, .null, [], []),
  (14, .aload_n 0, 1, 0, 0, .null, [], []),
  (15, .getfield 49, 3, 10, 5, .null, [], [472]),
  (18, .aload_n 0, 1, 0, 0, .null, [], []),
  (19, .getfield 76, 3, 10, 9, .null, [], [476]),
  (22, .iload_n 1, 1, 1, 0, .null, [], []),
  (23, .aaload, 1, 0, 0, .null, [], []),
  (24, .aload_n 0, 1, 0, 0, .null, [], []),
  (25, .getfield 10, 3, 10, 0, .null, [], [467]),
  (28, .getfield 253, 3, 2, 8, .int 0, [], [151]),
  (31, .invokevirtual 256, 10, 89, 2, .int 0, [], [952, 91, 955, 953, 954]),
  (34, .ireturn, 1, 0, 0, .int 0, [], [])],
  [], 3)
/-- 131: LeastPays.fits(I)I -/
def kX10_fits : j_K := ([
  (0, .aload_n 0, 1, 0, 0, .null, [], []),
  (1, .iload_n 1, 1, 1, 0, .null, [], []),
  (2, .invokevirtual 250, 13, 153, 1, .int 0, [], [948, 85, 951, 950, 35]),
  (5, .istore_n 2, 1, 2, 0, .null, [], []),
  (6, .iload_n 2, 1, 2, 0, .null, [], []),
  (7, .ifCond .eq 7, 3, 14, 0, .null, [], []),
  (10, .iload_n 2, 1, 2, 0, .null, [], []),
  (11, .goto 16, 3, 27, 0, .null, [], []),
  (14, .aload_n 0, 1, 0, 0, .null, [], []),
  (15, .getfield 49, 3, 10, 5, .null, [], [472]),
  (18, .aload_n 0, 1, 0, 0, .null, [], []),
  (19, .getfield 76, 3, 10, 9, .null, [], [476]),
  (22, .iload_n 1, 1, 1, 0, .null, [], []),
  (23, .aaload, 1, 0, 0, .null, [], []),
  (24, .invokevirtual 260, 10, 90, 1, .int 0, [], [961, 91, 964, 962, 963]),
  (27, .ireturn, 1, 0, 0, .int 0, [], [])],
  [], 3)
/-- 132: LeastPays.fair(I)I -/
def kX10_fair : j_K := ([
  (0, .iload_n 1, 1, 1, 0, .null, [], []),
  (1, .iconst 0, 1, 0, 0, .int 0, [], []),
  (2, .iconst 1, 1, 0, 0, .int 1, [], []),
  (3, .invokestatic 81, 3, 147, 3, .int 0, [], [502, 85, 504, 503]),
  (6, .ifCond .ne 6, 3, 12, 0, .null, [], []),
  (9, .ldc 129, 2, 0, 0, .int (-2000000000), [], [593]),
  (11, .ireturn, 1, 0, 0, .int 0, [], []),
  (12, .aload_n 0, 1, 0, 0, .null, [], []),
  (13, .getfield 10, 3, 10, 0, .null, [], [467]),
  (16, .getfield 85, 3, 2, 6, .int 0, [], [141]),
  (19, .ifCond .ne 6, 3, 25, 0, .null, [], []),
  (22, .bipush (-5), 2, 0, 0, .int (-5), [], []),
  (24, .ireturn, 1, 0, 0, .int 0, [], []),
  (25, .aload_n 0, 1, 0, 0, .null, [], []),
  (26, .getfield 49, 3, 10, 5, .null, [], [472]),
  (29, .invokevirtual 264, 10, 91, 0, .null, [], [970, 91, 973, 971, 972]),
  (32, .iload_n 1, 1, 1, 0, .null, [], []),
  (33, .ifCond .ne 13, 3, 46, 0, .null, [], []),
  (36, .aload_n 0, 1, 0, 0, .null, [], []),
  (37, .getfield 49, 3, 10, 5, .null, [], [472]),
  (40, .getfield 267, 3, 7, 4, .int 0, [], [346]),
  (43, .goto 10, 3, 53, 0, .null, [], []),
  (46, .aload_n 0, 1, 0, 0, .null, [], []),
  (47, .getfield 49, 3, 10, 5, .null, [], [472]),
  (50, .getfield 270, 3, 7, 5, .int 0, [], [348]),
  (53, .ireturn, 1, 0, 0, .int 0, [], [])],
  [], 2)
/-- 133: LeastPays.image()I -/
def kX10_image : j_K := ([
  (0, .aload_n 0, 1, 0, 0, .null, [], []),
  (1, .getfield 63, 3, 10, 7, .null, [], [474]),
  (4, .aload_n 0, 1, 0, 0, .null, [], []),
  (5, .getfield 10, 3, 10, 0, .null, [], [467]),
  (8, .invokevirtual 273, 11, 94, 1, .null, [], [983, 93, 986, 984, 985]),
  (11, .aload_n 0, 1, 0, 0, .null, [], []),
  (12, .getfield 10, 3, 10, 0, .null, [], [467]),
  (15, .getfield 276, 3, 2, 11, .int 0, [], [161]),
  (18, .ireturn, 1, 0, 0, .int 0, [], [])],
  [], 1)
/-- 134: LeastPays.back()I -/
def kX10_back : j_K := ([
  (0, .aload_n 0, 1, 0, 0, .null, [], []),
  (1, .getfield 63, 3, 10, 7, .null, [], [474]),
  (4, .getfield 278, 3, 8, 5, .long 0, [], [400]),
  (7, .ifCond .ne 6, 3, 13, 0, .null, [], []),
  (10, .bipush (-5), 2, 0, 0, .int (-5), [], []),
  (12, .ireturn, 1, 0, 0, .int 0, [], []),
  (13, .aload_n 0, 1, 0, 0, .null, [], []),
  (14, .getfield 63, 3, 10, 7, .null, [], [474]),
  (17, .aload_n 0, 1, 0, 0, .null, [], []),
  (18, .getfield 10, 3, 10, 0, .null, [], [467]),
  (21, .invokevirtual 282, 11, 95, 1, .null, [], [992, 93, 995, 993, 994]),
  (24, .aload_n 0, 1, 0, 0, .null, [], []),
  (25, .getfield 10, 3, 10, 0, .null, [], [467]),
  (28, .getfield 276, 3, 2, 11, .int 0, [], [161]),
  (31, .ireturn, 1, 0, 0, .int 0, [], [])],
  [], 1)
/-- 135: LeastPays.undo()I -/
def kX10_undo : j_K := ([
  (0, .aload_n 0, 1, 0, 0, .null, [], []),
  (1, .getfield 56, 3, 10, 6, .null, [], [473]),
  (4, .aload_n 0, 1, 0, 0, .null, [], []),
  (5, .getfield 10, 3, 10, 0, .null, [], [467]),
  (8, .invokevirtual 285, 4, 13, 1, .int 0, [], [1003, 92, 1006, 1004, 1005]),
  (11, .ireturn, 1, 0, 0, .int 0, [], [])],
  [], 1)
/-- 136: LeastPays.redo()I -/
def kX10_redo : j_K := ([
  (0, .aload_n 0, 1, 0, 0, .null, [], []),
  (1, .getfield 56, 3, 10, 6, .null, [], [473]),
  (4, .aload_n 0, 1, 0, 0, .null, [], []),
  (5, .getfield 10, 3, 10, 0, .null, [], [467]),
  (8, .invokevirtual 289, 4, 14, 1, .int 0, [], [1012, 92, 1015, 1013, 1014]),
  (11, .ireturn, 1, 0, 0, .int 0, [], [])],
  [], 1)
/-- 137: LeastPays.body(I)I -/
def kX10_body : j_K := ([
  (0, .iload_n 1, 1, 1, 0, .null, [], []),
  (1, .iconst 0, 1, 0, 0, .int 0, [], []),
  (2, .bipush 7, 2, 0, 0, .int 7, [], []),
  (4, .invokestatic 81, 3, 147, 3, .int 0, [], [502, 85, 504, 503]),
  (7, .ifCond .eq 14, 3, 21, 0, .null, [], []),
  (10, .aload_n 0, 1, 0, 0, .null, [], []),
  (11, .getfield 70, 3, 10, 8, .null, [], [475]),
  (14, .iload_n 1, 1, 1, 0, .null, [], []),
  (15, .invokevirtual 292, 3, 3, 1, .int 0, [], [1020, 94, 1023, 1021, 1022]),
  (18, .goto 4, 3, 22, 0, .null, [], []),
  (21, .iconst (-1), 1, 0, 0, .int (-1), [], []),
  (22, .ireturn, 1, 0, 0, .int 0, [], [])],
  [], 2)
/-- 138: LeastPays.act(III)I -/
def kX10_act : j_K := ([
  (0, .aload_n 0, 1, 0, 0, .null, [], []),
  (1, .getfield 70, 3, 10, 8, .null, [], [475]),
  (4, .iload_n 1, 1, 1, 0, .null, [], []),
  (5, .iload_n 2, 1, 2, 0, .null, [], []),
  (6, .iload_n 3, 1, 3, 0, .null, [], []),
  (7, .invokevirtual 293, 3, 6, 3, .int 0, [], [1028, 94, 1031, 1029, 1030]),
  (10, .ireturn, 1, 0, 0, .int 0, [], [])],
  [], 4)
/-- 139: LeastPays.trace(I)I -/
def kX10_trace : j_K := ([
  (0, .aload_n 0, 1, 0, 0, .null, [], []),
  (1, .getfield 70, 3, 10, 8, .null, [], [475]),
  (4, .iload_n 1, 1, 1, 0, .null, [], []),
  (5, .invokevirtual 296, 3, 5, 1, .int 0, [], [1056, 94, 1059, 1057, 1058]),
  (8, .ireturn, 1, 0, 0, .int 0, [], [])],
  [], 2)
/-- 140: LeastPays.keep(II)I -/
def kX10_keep : j_K := ([
  (0, .iload_n 1, 1, 1, 0, .null, [], []),
  (1, .invokestatic 93, 3, 148, 1, .int 0, [], [513, 85, 515, 514]),
  (4, .ifCond .eq 19, 3, 23, 0, .null, [], []),
  (7, .iload_n 2, 1, 2, 0, .null, [], []),
  (8, .iconst (-1), 1, 0, 0, .int (-1), [], []),
  (9, .if_icmp .eq 16, 3, 25, 0, .null, [], []),
  (12, .aload_n 0, 1, 0, 0, .null, [], []),
  (13, .getfield 70, 3, 10, 8, .null, [], [475]),
  (16, .iload_n 2, 1, 2, 0, .null, [], []),
  (17, .invokevirtual 299, 3, 1, 1, .int 0, [], [1064, 94, 1035, 1033, 1034]),
  (20, .ifCond .ne 5, 3, 25, 0, .null, [], []),
  (23, .iconst (-1), 1, 0, 0, .int (-1), [], []),
  (24, .ireturn, 1, 0, 0, .int 0, [], []),
  (25, .aload_n 0, 1, 0, 0, .null, [], []),
  (26, .getfield 76, 3, 10, 9, .null, [], [476]),
  (29, .iload_n 1, 1, 1, 0, .null, [], []),
  (30, .aaload, 1, 0, 0, .null, [], []),
  (31, .iload_n 2, 1, 2, 0, .null, [], []),
  (32, .invokevirtual 300, 12, 100, 1, .null, [], [1065, 95, 1068, 1066, 1067]),
  (35, .iconst 1, 1, 0, 0, .int 1, [], []),
  (36, .ireturn, 1, 0, 0, .int 0, [], [])],
  [], 3)
/-- 141: LeastPays.row(III)I -/
def kX10_row : j_K := ([
  (0, .iload_n 1, 1, 1, 0, .null, [], []),
  (1, .invokestatic 93, 3, 148, 1, .int 0, [], [513, 85, 515, 514]),
  (4, .ifCond .eq 18, 3, 22, 0, .null, [], []),
  (7, .iload_n 2, 1, 2, 0, .null, [], []),
  (8, .iconst 0, 1, 0, 0, .int 0, [], []),
  (9, .iconst 4, 1, 0, 0, .int 4, [], []),
  (10, .invokestatic 81, 3, 147, 3, .int 0, [], [502, 85, 504, 503]),
  (13, .ifCond .eq 9, 3, 22, 0, .null, [], []),
  (16, .iload_n 3, 1, 3, 0, .null, [], []),
  (17, .bipush 60, 2, 0, 0, .int 60, [], []),
  (19, .if_icmp .le 5, 3, 24, 0, .null, [], []),
  (22, .iconst (-1), 1, 0, 0, .int (-1), [], []),
  (23, .ireturn, 1, 0, 0, .int 0, [], []),
  (24, .iload_n 3, 1, 3, 0, .null, [], []),
  (25, .ifCond .ge 6, 3, 31, 0, .null, [], []),
  (28, .bipush (-14), 2, 0, 0, .int (-14), [], []),
  (30, .ireturn, 1, 0, 0, .int 0, [], []),
  (31, .aload_n 0, 1, 0, 0, .null, [], []),
  (32, .getfield 76, 3, 10, 9, .null, [], [476]),
  (35, .iload_n 1, 1, 1, 0, .null, [], []),
  (36, .aaload, 1, 0, 0, .null, [], []),
  (37, .iload_n 2, 1, 2, 0, .null, [], []),
  (38, .iload_n 3, 1, 3, 0, .null, [], []),
  (39, .invokevirtual 303, 12, 101, 2, .null, [], [1073, 95, 1076, 1074, 1075]),
  (42, .iconst 1, 1, 0, 0, .int 1, [], []),
  (43, .ireturn, 1, 0, 0, .int 0, [], [])],
  [], 4)
/-- 142: LeastPays.put(IIJ)I -/
def kX10_put : j_K := ([
  (0, .iload_n 1, 1, 1, 0, .null, [], []),
  (1, .invokestatic 93, 3, 148, 1, .int 0, [], [513, 85, 515, 514]),
  (4, .ifCond .ne 5, 3, 9, 0, .null, [], []),
  (7, .iconst (-1), 1, 0, 0, .int (-1), [], []),
  (8, .ireturn, 1, 0, 0, .int 0, [], []),
  (9, .aload_n 0, 1, 0, 0, .null, [], []),
  (10, .getfield 76, 3, 10, 9, .null, [], [476]),
  (13, .iload_n 1, 1, 1, 0, .null, [], []),
  (14, .aaload, 1, 0, 0, .null, [], []),
  (15, .iload_n 2, 1, 2, 0, .null, [], []),
  (16, .invokevirtual 306, 12, 103, 1, .int 0, [], [1084, 95, 1087, 1085, 1086]),
  (19, .istore 5, 2, 5, 0, .null, [], []),
  (21, .iload 5, 2, 5, 0, .null, [], []),
  (23, .ifCond .eq 6, 3, 29, 0, .null, [], []),
  (26, .iload 5, 2, 5, 0, .null, [], []),
  (28, .ireturn, 1, 0, 0, .int 0, [], []),
  (29, .aload_n 0, 1, 0, 0, .null, [], []),
  (30, .getfield 76, 3, 10, 9, .null, [], [476]),
  (33, .iload_n 1, 1, 1, 0, .null, [], []),
  (34, .aaload, 1, 0, 0, .null, [], []),
  (35, .iload_n 2, 1, 2, 0, .null, [], []),
  (36, .lload_n 3, 1, 3, 0, .null, [], []),
  (37, .invokevirtual 309, 12, 105, 2, .null, [], [1088, 95, 1091, 1089, 1090]),
  (40, .iconst 1, 1, 0, 0, .int 1, [], []),
  (41, .ireturn, 1, 0, 0, .int 0, [], [])],
  [], 6)
/-- 143: LeastPays.element(II)J -/
def kX10_element : j_K := ([
  (0, .iload_n 1, 1, 1, 0, .null, [], []),
  (1, .invokestatic 93, 3, 148, 1, .int 0, [], [513, 85, 515, 514]),
  (4, .ifCond .eq 16, 3, 20, 0, .null, [], []),
  (7, .aload_n 0, 1, 0, 0, .null, [], []),
  (8, .getfield 76, 3, 10, 9, .null, [], [476]),
  (11, .iload_n 1, 1, 1, 0, .null, [], []),
  (12, .aaload, 1, 0, 0, .null, [], []),
  (13, .iload_n 2, 1, 2, 0, .null, [], []),
  (14, .invokevirtual 306, 12, 103, 1, .int 0, [], [1084, 95, 1087, 1085, 1086]),
  (17, .ifCond .eq 7, 3, 24, 0, .null, [], []),
  (20, .ldc2_w 164, 3, 0, 0, .long (-9223372036854775808), [], [732]),
  (23, .lreturn, 1, 0, 0, .null, [], []),
  (24, .aload_n 0, 1, 0, 0, .null, [], []),
  (25, .getfield 76, 3, 10, 9, .null, [], [476]),
  (28, .iload_n 1, 1, 1, 0, .null, [], []),
  (29, .aaload, 1, 0, 0, .null, [], []),
  (30, .iload_n 2, 1, 2, 0, .null, [], []),
  (31, .invokevirtual 313, 12, 104, 1, .long 0, [], [529, 95, 532, 530, 531]),
  (34, .lreturn, 1, 0, 0, .null, [], [])],
  [], 3)
/-- 144: LeastPays.shift(IIIII)I -/
def kX10_shift : j_K := ([
  (0, .iload_n 1, 1, 1, 0, .null, [], []),
  (1, .invokestatic 93, 3, 148, 1, .int 0, [], [513, 85, 515, 514]),
  (4, .ifCond .eq 10, 3, 14, 0, .null, [], []),
  (7, .iload_n 3, 1, 3, 0, .null, [], []),
  (8, .invokestatic 93, 3, 148, 1, .int 0, [], [513, 85, 515, 514]),
  (11, .ifCond .ne 5, 3, 16, 0, .null, [], []),
  (14, .iconst (-1), 1, 0, 0, .int (-1), [], []),
  (15, .ireturn, 1, 0, 0, .int 0, [], []),
  (16, .aload_n 0, 1, 0, 0, .null, [], []),
  (17, .getfield 76, 3, 10, 9, .null, [], [476]),
  (20, .iload_n 1, 1, 1, 0, .null, [], []),
  (21, .aaload, 1, 0, 0, .null, [], []),
  (22, .astore 6, 2, 6, 0, .null, [], []),
  (24, .aload_n 0, 1, 0, 0, .null, [], []),
  (25, .getfield 76, 3, 10, 9, .null, [], [476]),
  (28, .iload_n 3, 1, 3, 0, .null, [], []),
  (29, .aaload, 1, 0, 0, .null, [], []),
  (30, .astore 7, 2, 7, 0, .null, [], []),
  (32, .aload 6, 2, 6, 0, .null, [], []),
  (34, .invokevirtual 97, 12, 97, 0, .int 0, [], [516, 95, 519, 517, 518]),
  (37, .ifCond .ne 11, 3, 48, 0, .null, [], []),
  (40, .aload 7, 2, 7, 0, .null, [], []),
  (42, .invokevirtual 97, 12, 97, 0, .int 0, [], [516, 95, 519, 517, 518]),
  (45, .ifCond .eq 6, 3, 51, 0, .null, [], []),
  (48, .bipush (-11), 2, 0, 0, .int (-11), [], []),
  (50, .ireturn, 1, 0, 0, .int 0, [], []),
  (51, .aload 6, 2, 6, 0, .null, [], []),
  (53, .invokevirtual 317, 12, 98, 0, .int 0, [], [1104, 95, 1107, 1105, 1106]),
  (56, .ifCond .eq 16, 3, 72, 0, .null, [], []),
  (59, .aload 7, 2, 7, 0, .null, [], []),
  (61, .aload 6, 2, 6, 0, .null, [], []),
  (63, .getfield 320, 3, 9, 1, .int 0, [], [448]),
  (66, .invokevirtual 101, 12, 99, 1, .int 0, [], [520, 95, 523, 521, 522]),
  (69, .ifCond .ne 6, 3, 75, 0, .null, [], []),
  (72, .bipush (-12), 2, 0, 0, .int (-12), [], []),
  (74, .ireturn, 1, 0, 0, .int 0, [], []),
  (75, .aload 6, 2, 6, 0, .null, [], []),
  (77, .iload_n 2, 1, 2, 0, .null, [], []),
  (78, .iload 5, 2, 5, 0, .null, [], []),
  (80, .invokevirtual 323, 12, 102, 2, .int 0, [], [1108, 95, 536, 534, 535]),
  (83, .ifCond .eq 15, 3, 98, 0, .null, [], []),
  (86, .aload 7, 2, 7, 0, .null, [], []),
  (88, .iload 4, 2, 4, 0, .null, [], []),
  (90, .iload 5, 2, 5, 0, .null, [], []),
  (92, .invokevirtual 323, 12, 102, 2, .int 0, [], [1108, 95, 536, 534, 535]),
  (95, .ifCond .ne 6, 3, 101, 0, .null, [], []),
  (98, .bipush (-13), 2, 0, 0, .int (-13), [], []),
  (100, .ireturn, 1, 0, 0, .int 0, [], []),
  (101, .aload 6, 2, 6, 0, .null, [], []),
  (103, .getfield 327, 3, 9, 0, .null, [], [446]),
  (106, .iload_n 2, 1, 2, 0, .null, [], []),
  (107, .aload 7, 2, 7, 0, .null, [], []),
  (109, .getfield 327, 3, 9, 0, .null, [], [446]),
  (112, .iload 4, 2, 4, 0, .null, [], []),
  (114, .iload 5, 2, 5, 0, .null, [], []),
  (116, .invokestatic 331, 3, 1000, 5, .null, [], [1109, 568, 567, 97]),
  (119, .iload 5, 2, 5, 0, .null, [], []),
  (121, .ireturn, 1, 0, 0, .int 0, [], [])],
  [], 8)
/-- 145: LeastPays.taken(II)I -/
def kX10_taken : j_K := ([
  (0, .iload_n 1, 1, 1, 0, .null, [], []),
  (1, .invokestatic 93, 3, 148, 1, .int 0, [], [513, 85, 515, 514]),
  (4, .ifCond .eq 13, 3, 17, 0, .null, [], []),
  (7, .iload_n 2, 1, 2, 0, .null, [], []),
  (8, .iconst 0, 1, 0, 0, .int 0, [], []),
  (9, .bipush 7, 2, 0, 0, .int 7, [], []),
  (11, .invokestatic 81, 3, 147, 3, .int 0, [], [502, 85, 504, 503]),
  (14, .ifCond .ne 5, 3, 19, 0, .null, [], []),
  (17, .iconst (-1), 1, 0, 0, .int (-1), [], []),
  (18, .ireturn, 1, 0, 0, .int 0, [], []),
  (19, .aload_n 0, 1, 0, 0, .null, [], []),
  (20, .getfield 76, 3, 10, 9, .null, [], [476]),
  (23, .iload_n 1, 1, 1, 0, .null, [], []),
  (24, .aaload, 1, 0, 0, .null, [], []),
  (25, .astore_n 3, 1, 3, 0, .null, [], []),
  (26, .aload_n 3, 1, 3, 0, .null, [], []),
  (27, .invokevirtual 97, 12, 97, 0, .int 0, [], [516, 95, 519, 517, 518]),
  (30, .ifCond .eq 6, 3, 36, 0, .null, [], []),
  (33, .bipush (-11), 2, 0, 0, .int (-11), [], []),
  (35, .ireturn, 1, 0, 0, .int 0, [], []),
  (36, .aload_n 3, 1, 3, 0, .null, [], []),
  (37, .invokevirtual 317, 12, 98, 0, .int 0, [], [1104, 95, 1107, 1105, 1106]),
  (40, .ifCond .eq 6, 3, 46, 0, .null, [], []),
  (43, .bipush (-12), 2, 0, 0, .int (-12), [], []),
  (45, .ireturn, 1, 0, 0, .int 0, [], []),
  (46, .aload_n 0, 1, 0, 0, .null, [], []),
  (47, .getfield 70, 3, 10, 8, .null, [], [475]),
  (50, .aload_n 3, 1, 3, 0, .null, [], []),
  (51, .getfield 337, 3, 9, 3, .int 0, [], [453]),
  (54, .invokevirtual 340, 3, 2, 1, .int 0, [], [1114, 94, 1117, 1115, 1116]),
  (57, .istore 4, 2, 4, 0, .null, [], []),
  (59, .iload 4, 2, 4, 0, .null, [], []),
  (61, .iload_n 2, 1, 2, 0, .null, [], []),
  (62, .invokestatic 343, 3, 4, 2, .int 0, [], [1118, 94, 1120, 1119]),
  (65, .ifCond .eq 8, 3, 73, 0, .null, [], []),
  (68, .iload 4, 2, 4, 0, .null, [], []),
  (70, .goto 5, 3, 75, 0, .null, [], []),
  (73, .bipush (-12), 2, 0, 0, .int (-12), [], []),
  (75, .ireturn, 1, 0, 0, .int 0, [], [])],
  [], 5)
/-- 146: LeastPays.count(I)I -/
def kX10_count : j_K := ([
  (0, .iload_n 1, 1, 1, 0, .null, [], []),
  (1, .tableswitch 87 0 5 #[39, 47, 55, 63, 71, 79], 39, 88, 0, .null, [(0, 40), (1, 48), (2, 56), (3, 64), (4, 72), (5, 80)], []),
  (40, .aload_n 0, 1, 0, 0, .null, [], []),
  (41, .getfield 10, 3, 10, 0, .null, [], [467]),
  (44, .getfield 85, 3, 2, 6, .int 0, [], [141]),
  (47, .ireturn, 1, 0, 0, .int 0, [], []),
  (48, .aload_n 0, 1, 0, 0, .null, [], []),
  (49, .getfield 35, 3, 10, 3, .null, [], [470]),
  (52, .getfield 346, 3, 5, 5, .int 0, [], [278]),
  (55, .ireturn, 1, 0, 0, .int 0, [], []),
  (56, .aload_n 0, 1, 0, 0, .null, [], []),
  (57, .getfield 42, 3, 10, 4, .null, [], [471]),
  (60, .getfield 347, 3, 4, 4, .int 0, [], [303]),
  (63, .ireturn, 1, 0, 0, .int 0, [], []),
  (64, .aload_n 0, 1, 0, 0, .null, [], []),
  (65, .getfield 56, 3, 10, 6, .null, [], [473]),
  (68, .getfield 350, 3, 1, 4, .int 0, [], [373]),
  (71, .ireturn, 1, 0, 0, .int 0, [], []),
  (72, .aload_n 0, 1, 0, 0, .null, [], []),
  (73, .getfield 70, 3, 10, 8, .null, [], [475]),
  (76, .getfield 353, 3, 0, 2, .int 0, [], [423]),
  (79, .ireturn, 1, 0, 0, .int 0, [], []),
  (80, .aload_n 0, 1, 0, 0, .null, [], []),
  (81, .getfield 70, 3, 10, 8, .null, [], [475]),
  (84, .getfield 354, 3, 0, 3, .int 0, [], [425]),
  (87, .ireturn, 1, 0, 0, .int 0, [], []),
  (88, .iconst (-1), 1, 0, 0, .int (-1), [], []),
  (89, .ireturn, 1, 0, 0, .int 0, [], [])],
  [], 2)
/-- 147: LeastPays.within(III)Z -/
def kX10_within : j_K := ([
  (0, .iload_n 0, 1, 0, 0, .null, [], []),
  (1, .iload_n 1, 1, 1, 0, .null, [], []),
  (2, .if_icmp .lt 12, 3, 14, 0, .null, [], []),
  (5, .iload_n 0, 1, 0, 0, .null, [], []),
  (6, .iload_n 2, 1, 2, 0, .null, [], []),
  (7, .if_icmp .gt 7, 3, 14, 0, .null, [], []),
  (10, .iconst 1, 1, 0, 0, .int 1, [], []),
  (11, .goto 4, 3, 15, 0, .null, [], []),
  (14, .iconst 0, 1, 0, 0, .int 0, [], []),
  (15, .ireturn, 1, 0, 0, .long 0, [], [])],
  [], 3)
/-- 148: LeastPays.isShelf(I)Z -/
def kX10_isShelf : j_K := ([
  (0, .iload_n 0, 1, 0, 0, .null, [], []),
  (1, .iconst 0, 1, 0, 0, .int 0, [], []),
  (2, .iconst 5, 1, 0, 0, .int 5, [], []),
  (3, .invokestatic 81, 3, 147, 3, .int 0, [], [502, 85, 504, 503]),
  (6, .ireturn, 1, 0, 0, .long 0, [], [])],
  [], 1)
/-- 149: LeastPays.comesFrom(LLeastPays$Shelf;J)Z -/
def kX10_comesFrom : j_K := ([
  (0, .aload_n 0, 1, 0, 0, .null, [], []),
  (1, .getfield 10, 3, 10, 0, .null, [], [467]),
  (4, .getfield 85, 3, 2, 6, .int 0, [], [141]),
  (7, .bipush 6, 2, 0, 0, .int 6, [], []),
  (9, .if_icmp .ge 21, 3, 30, 0, .null, [], []),
  (12, .lload_n 2, 1, 2, 0, .null, [], []),
  (13, .lconst 0, 1, 0, 0, .long 0, [], []),
  (14, .lcmp, 1, 0, 0, .null, [], []),
  (15, .ifCond .lt 15, 3, 30, 0, .null, [], []),
  (18, .lload_n 2, 1, 2, 0, .null, [], []),
  (19, .lconst 1, 1, 0, 0, .long 1, [], []),
  (20, .ladd, 1, 0, 0, .null, [], []),
  (21, .aload_n 1, 1, 1, 0, .null, [], []),
  (22, .getfield 357, 3, 9, 2, .int 0, [], [451]),
  (25, .i2l, 1, 0, 0, .null, [], []),
  (26, .lcmp, 1, 0, 0, .null, [], []),
  (27, .ifCond .lt 5, 3, 32, 0, .null, [], []),
  (30, .iconst 0, 1, 0, 0, .int 0, [], []),
  (31, .ireturn, 1, 0, 0, .long 0, [], []),
  (32, .aload_n 1, 1, 1, 0, .null, [], []),
  (33, .lload_n 2, 1, 2, 0, .null, [], []),
  (34, .l2i, 1, 0, 0, .null, [], []),
  (35, .invokevirtual 313, 12, 104, 1, .long 0, [], [529, 95, 532, 530, 531]),
  (38, .l2i, 1, 0, 0, .null, [], []),
  (39, .istore 4, 2, 4, 0, .null, [], []),
  (41, .aload_n 1, 1, 1, 0, .null, [], []),
  (42, .lload_n 2, 1, 2, 0, .null, [], []),
  (43, .l2i, 1, 0, 0, .null, [], []),
  (44, .iconst 1, 1, 0, 0, .int 1, [], []),
  (45, .iadd, 1, 0, 0, .null, [], []),
  (46, .invokevirtual 313, 12, 104, 1, .long 0, [], [529, 95, 532, 530, 531]),
  (49, .l2i, 1, 0, 0, .null, [], []),
  (50, .istore 5, 2, 5, 0, .null, [], []),
  (52, .iload 4, 2, 4, 0, .null, [], []),
  (54, .iconst 0, 1, 0, 0, .int 0, [], []),
  (55, .bipush 99, 2, 0, 0, .int 99, [], []),
  (57, .invokestatic 81, 3, 147, 3, .int 0, [], [502, 85, 504, 503]),
  (60, .ifCond .eq 14, 3, 74, 0, .null, [], []),
  (63, .iload 5, 2, 5, 0, .null, [], []),
  (65, .iconst 0, 1, 0, 0, .int 0, [], []),
  (66, .iload 4, 2, 4, 0, .null, [], []),
  (68, .invokestatic 81, 3, 147, 3, .int 0, [], [502, 85, 504, 503]),
  (71, .ifCond .ne 5, 3, 76, 0, .null, [], []),
  (74, .iconst 0, 1, 0, 0, .int 0, [], []),
  (75, .ireturn, 1, 0, 0, .long 0, [], []),
  (76, .aload_n 0, 1, 0, 0, .null, [], []),
  (77, .getfield 10, 3, 10, 0, .null, [], [467]),
  (80, .iload 4, 2, 4, 0, .null, [], []),
  (82, .iload 5, 2, 5, 0, .null, [], []),
  (84, .invokevirtual 89, 5, 17, 2, .null, [], [505, 86, 508, 506, 507]),
  (87, .iconst 1, 1, 0, 0, .int 1, [], []),
  (88, .ireturn, 1, 0, 0, .long 0, [], [])],
  [], 6)
/-- 150: LeastPays.ofOne(II)I -/
def kX10_ofOne : j_K := ([
  (0, .iload_n 2, 1, 2, 0, .null, [], []),
  (1, .tableswitch 123 0 6 #[43, 53, 63, 73, 83, 103, 113], 43, 124, 0, .null, [(0, 44), (1, 54), (2, 64), (3, 74), (4, 84), (5, 104), (6, 114)], []),
  (44, .aload_n 0, 1, 0, 0, .null, [], []),
  (45, .getfield 10, 3, 10, 0, .null, [], [467]),
  (48, .getfield 161, 3, 2, 0, .null, [], [116]),
  (51, .iload_n 1, 1, 1, 0, .null, [], []),
  (52, .iaload, 1, 0, 0, .null, [], []),
  (53, .ireturn, 1, 0, 0, .int 0, [], []),
  (54, .aload_n 0, 1, 0, 0, .null, [], []),
  (55, .getfield 10, 3, 10, 0, .null, [], [467]),
  (58, .getfield 358, 3, 2, 1, .null, [], [123]),
  (61, .iload_n 1, 1, 1, 0, .null, [], []),
  (62, .iaload, 1, 0, 0, .null, [], []),
  (63, .ireturn, 1, 0, 0, .int 0, [], []),
  (64, .aload_n 0, 1, 0, 0, .null, [], []),
  (65, .getfield 10, 3, 10, 0, .null, [], [467]),
  (68, .getfield 360, 3, 2, 2, .null, [], [127]),
  (71, .iload_n 1, 1, 1, 0, .null, [], []),
  (72, .iaload, 1, 0, 0, .null, [], []),
  (73, .ireturn, 1, 0, 0, .int 0, [], []),
  (74, .aload_n 0, 1, 0, 0, .null, [], []),
  (75, .getfield 10, 3, 10, 0, .null, [], [467]),
  (78, .getfield 363, 3, 2, 3, .null, [], [131]),
  (81, .iload_n 1, 1, 1, 0, .null, [], []),
  (82, .iaload, 1, 0, 0, .null, [], []),
  (83, .ireturn, 1, 0, 0, .int 0, [], []),
  (84, .aload_n 0, 1, 0, 0, .null, [], []),
  (85, .getfield 19, 3, 10, 1, .null, [], [468]),
  (88, .aload_n 0, 1, 0, 0, .null, [], []),
  (89, .getfield 10, 3, 10, 0, .null, [], [467]),
  (92, .invokevirtual 147, 6, 22, 1, .null, [], [577, 87, 580, 578, 579]),
  (95, .aload_n 0, 1, 0, 0, .null, [], []),
  (96, .getfield 19, 3, 10, 1, .null, [], [468]),
  (99, .iload_n 1, 1, 1, 0, .null, [], []),
  (100, .invokevirtual 230, 6, 26, 1, .int 0, [], [599, 87, 602, 600, 601]),
  (103, .ireturn, 1, 0, 0, .int 0, [], []),
  (104, .aload_n 0, 1, 0, 0, .null, [], []),
  (105, .getfield 10, 3, 10, 0, .null, [], [467]),
  (108, .getfield 366, 3, 2, 5, .null, [], [137]),
  (111, .iload_n 1, 1, 1, 0, .null, [], []),
  (112, .iaload, 1, 0, 0, .null, [], []),
  (113, .ireturn, 1, 0, 0, .int 0, [], []),
  (114, .aload_n 0, 1, 0, 0, .null, [], []),
  (115, .getfield 10, 3, 10, 0, .null, [], [467]),
  (118, .getfield 136, 3, 2, 4, .null, [], [133]),
  (121, .iload_n 1, 1, 1, 0, .null, [], []),
  (122, .iaload, 1, 0, 0, .null, [], []),
  (123, .ireturn, 1, 0, 0, .int 0, [], []),
  (124, .ldc 129, 2, 0, 0, .int (-2000000000), [], [593]),
  (126, .ireturn, 1, 0, 0, .int 0, [], [])],
  [], 3)
/-- 151: LeastPays.ofTheTable(I)I -/
def kX10_ofTheTable : j_K := ([
  (0, .aload_n 0, 1, 0, 0, .null, [], []),
  (1, .getfield 19, 3, 10, 1, .null, [], [468]),
  (4, .aload_n 0, 1, 0, 0, .null, [], []),
  (5, .getfield 10, 3, 10, 0, .null, [], [467]),
  (8, .invokevirtual 147, 6, 22, 1, .null, [], [577, 87, 580, 578, 579]),
  (11, .iload_n 1, 1, 1, 0, .null, [], []),
  (12, .tableswitch 112 10 17 #[48, 56, 64, 72, 80, 88, 96, 104], 48, 124, 0, .null, [(10, 60), (11, 68), (12, 76), (13, 84), (14, 92), (15, 100), (16, 108), (17, 116)], []),
  (60, .aload_n 0, 1, 0, 0, .null, [], []),
  (61, .getfield 10, 3, 10, 0, .null, [], [467]),
  (64, .getfield 369, 3, 2, 7, .int 0, [], [148]),
  (67, .ireturn, 1, 0, 0, .int 0, [], []),
  (68, .aload_n 0, 1, 0, 0, .null, [], []),
  (69, .getfield 10, 3, 10, 0, .null, [], [467]),
  (72, .getfield 253, 3, 2, 8, .int 0, [], [151]),
  (75, .ireturn, 1, 0, 0, .int 0, [], []),
  (76, .aload_n 0, 1, 0, 0, .null, [], []),
  (77, .getfield 10, 3, 10, 0, .null, [], [467]),
  (80, .getfield 372, 3, 2, 9, .int 0, [], [155]),
  (83, .ireturn, 1, 0, 0, .int 0, [], []),
  (84, .aload_n 0, 1, 0, 0, .null, [], []),
  (85, .getfield 19, 3, 10, 1, .null, [], [468]),
  (88, .getfield 375, 3, 3, 4, .int 0, [], [204]),
  (91, .ireturn, 1, 0, 0, .int 0, [], []),
  (92, .aload_n 0, 1, 0, 0, .null, [], []),
  (93, .getfield 19, 3, 10, 1, .null, [], [468]),
  (96, .getfield 378, 3, 3, 5, .int 0, [], [206]),
  (99, .ireturn, 1, 0, 0, .int 0, [], []),
  (100, .aload_n 0, 1, 0, 0, .null, [], []),
  (101, .getfield 19, 3, 10, 1, .null, [], [468]),
  (104, .getfield 381, 3, 3, 6, .int 0, [], [208]),
  (107, .ireturn, 1, 0, 0, .int 0, [], []),
  (108, .aload_n 0, 1, 0, 0, .null, [], []),
  (109, .getfield 10, 3, 10, 0, .null, [], [467]),
  (112, .getfield 384, 3, 2, 10, .int 0, [], [158]),
  (115, .ireturn, 1, 0, 0, .int 0, [], []),
  (116, .aload_n 0, 1, 0, 0, .null, [], []),
  (117, .getfield 10, 3, 10, 0, .null, [], [467]),
  (120, .getfield 276, 3, 2, 11, .int 0, [], [161]),
  (123, .ireturn, 1, 0, 0, .int 0, [], []),
  (124, .ldc 129, 2, 0, 0, .int (-2000000000), [], [593]),
  (126, .ireturn, 1, 0, 0, .int 0, [], [])],
  [], 2)
/-- 152: LeastPays.givenBy(I)I -/
def kX10_givenBy : j_K := ([
  (0, .aload_n 0, 1, 0, 0, .null, [], []),
  (1, .getfield 10, 3, 10, 0, .null, [], [467]),
  (4, .getfield 136, 3, 2, 4, .null, [], [133]),
  (7, .iload_n 1, 1, 1, 0, .null, [], []),
  (8, .iaload, 1, 0, 0, .null, [], []),
  (9, .istore_n 2, 1, 2, 0, .null, [], []),
  (10, .aload_n 0, 1, 0, 0, .null, [], []),
  (11, .getfield 42, 3, 10, 4, .null, [], [471]),
  (14, .aload_n 0, 1, 0, 0, .null, [], []),
  (15, .getfield 10, 3, 10, 0, .null, [], [467]),
  (18, .iload_n 1, 1, 1, 0, .null, [], []),
  (19, .iload_n 2, 1, 2, 0, .null, [], []),
  (20, .iconst (-1), 1, 0, 0, .int (-1), [], []),
  (21, .if_icmp .ne 13, 3, 34, 0, .null, [], []),
  (24, .aload_n 0, 1, 0, 0, .null, [], []),
  (25, .getfield 10, 3, 10, 0, .null, [], [467]),
  (28, .getfield 369, 3, 2, 7, .int 0, [], [148]),
  (31, .goto 4, 3, 35, 0, .null, [], []),
  (34, .iload_n 2, 1, 2, 0, .null, [], []),
  (35, .invokevirtual 223, 7, 52, 3, .int 0, [], [868, 90, 871, 869, 870]),
  (38, .ireturn, 1, 0, 0, .int 0, [], [])],
  [], 3)
/-- 153: LeastPays.refusalOfTold(I)I -/
def kX10_refusalOfTold : j_K := ([
  (0, .iload_n 1, 1, 1, 0, .null, [], []),
  (1, .invokestatic 93, 3, 148, 1, .int 0, [], [513, 85, 515, 514]),
  (4, .ifCond .ne 5, 3, 9, 0, .null, [], []),
  (7, .iconst (-1), 1, 0, 0, .int (-1), [], []),
  (8, .ireturn, 1, 0, 0, .int 0, [], []),
  (9, .aload_n 0, 1, 0, 0, .null, [], []),
  (10, .getfield 76, 3, 10, 9, .null, [], [476]),
  (13, .iload_n 1, 1, 1, 0, .null, [], []),
  (14, .aaload, 1, 0, 0, .null, [], []),
  (15, .invokevirtual 97, 12, 97, 0, .int 0, [], [516, 95, 519, 517, 518]),
  (18, .ifCond .eq 6, 3, 24, 0, .null, [], []),
  (21, .bipush (-11), 2, 0, 0, .int (-11), [], []),
  (23, .ireturn, 1, 0, 0, .int 0, [], []),
  (24, .aload_n 0, 1, 0, 0, .null, [], []),
  (25, .getfield 76, 3, 10, 9, .null, [], [476]),
  (28, .iload_n 1, 1, 1, 0, .null, [], []),
  (29, .aaload, 1, 0, 0, .null, [], []),
  (30, .iconst 1, 1, 0, 0, .int 1, [], []),
  (31, .invokevirtual 101, 12, 99, 1, .int 0, [], [520, 95, 523, 521, 522]),
  (34, .ifCond .eq 7, 3, 41, 0, .null, [], []),
  (37, .iconst 0, 1, 0, 0, .int 0, [], []),
  (38, .goto 5, 3, 43, 0, .null, [], []),
  (41, .bipush (-12), 2, 0, 0, .int (-12), [], []),
  (43, .ireturn, 1, 0, 0, .int 0, [], [])],
  [], 2)
/-- 154: LeastPays.fraction(JJI)J -/
def kX10_fraction : j_K := ([
  (0, .lload_n 0, 1, 0, 0, .null, [], []),
  (1, .lstore 5, 2, 5, 0, .null, [], []),
  (3, .lload_n 2, 1, 2, 0, .null, [], []),
  (4, .lstore 7, 2, 7, 0, .null, [], []),
  (6, .iconst 0, 1, 0, 0, .int 0, [], []),
  (7, .istore 9, 2, 9, 0, .null, [], []),
  (9, .iload 9, 2, 9, 0, .null, [], []),
  (11, .sipush 200, 3, 0, 0, .int 200, [], []),
  (14, .if_icmp .ge 31, 3, 45, 0, .null, [], []),
  (17, .lload 7, 2, 7, 0, .null, [], []),
  (19, .lconst 0, 1, 0, 0, .long 0, [], []),
  (20, .lcmp, 1, 0, 0, .null, [], []),
  (21, .ifCond .eq 24, 3, 45, 0, .null, [], []),
  (24, .lload 5, 2, 5, 0, .null, [], []),
  (26, .lload 7, 2, 7, 0, .null, [], []),
  (28, .lrem, 1, 0, 0, .null, [], []),
  (29, .lstore 10, 2, 10, 0, .null, [], []),
  (31, .lload 7, 2, 7, 0, .null, [], []),
  (33, .lstore 5, 2, 5, 0, .null, [], []),
  (35, .lload 10, 2, 10, 0, .null, [], []),
  (37, .lstore 7, 2, 7, 0, .null, [], []),
  (39, .iinc 9 1, 3, 9, 0, .int 1, [], []),
  (42, .goto (-33), 3, 9, 0, .null, [], []),
  (45, .iload 4, 2, 4, 0, .null, [], []),
  (47, .ifCond .ne 7, 3, 54, 0, .null, [], []),
  (50, .lload_n 0, 1, 0, 0, .null, [], []),
  (51, .goto 4, 3, 55, 0, .null, [], []),
  (54, .lload_n 2, 1, 2, 0, .null, [], []),
  (55, .lstore 9, 2, 9, 0, .null, [], []),
  (57, .lload 5, 2, 5, 0, .null, [], []),
  (59, .lconst 0, 1, 0, 0, .long 0, [], []),
  (60, .lcmp, 1, 0, 0, .null, [], []),
  (61, .ifCond .ne 8, 3, 69, 0, .null, [], []),
  (64, .lload 9, 2, 9, 0, .null, [], []),
  (66, .goto 8, 3, 74, 0, .null, [], []),
  (69, .lload 9, 2, 9, 0, .null, [], []),
  (71, .lload 5, 2, 5, 0, .null, [], []),
  (73, .ldiv, 1, 0, 0, .null, [], []),
  (74, .lreturn, 1, 0, 0, .null, [], [])],
  [(9, [true, false, true, false, true, true, false, true, false, true, false, false]), (45, [true, false, true, false, true, true, false, false, false, false, false, false])], 12)
/-- 155: LeastPaysModel.within(JJJ)Z -/
def kX11_within : j_K := ([
  (0, .lload_n 0, 1, 0, 0, .null, [], []),
  (1, .lload_n 2, 1, 2, 0, .null, [], []),
  (2, .lcmp, 1, 0, 0, .null, [], []),
  (3, .ifCond .lt 14, 3, 17, 0, .null, [], []),
  (6, .lload_n 0, 1, 0, 0, .null, [], []),
  (7, .lload 4, 2, 4, 0, .null, [], []),
  (9, .lcmp, 1, 0, 0, .null, [], []),
  (10, .ifCond .gt 7, 3, 17, 0, .null, [], []),
  (13, .iconst 1, 1, 0, 0, .int 1, [], []),
  (14, .goto 4, 3, 18, 0, .null, [], []),
  (17, .iconst 0, 1, 0, 0, .int 0, [], []),
  (18, .ireturn, 1, 0, 0, .long 0, [], [])],
  [], 6)
/-- 156: LeastPaysModel.<init>()V -/
def kX11_init : j_K := ([
  (0, .aload_n 0, 1, 0, 0, .null, [], []),
  (1, .invokespecial 3, 3, 999, 0, .null, [], [1130, 106, 107]),
  (4, .aload_n 0, 1, 0, 0, .null, [], []),
  (5, .bipush 27, 2, 0, 0, .int 27, [], []),
  (7, .newarray .int, 2, 0, 0, .int 0, [], [187]),
  (9, .putfield 9, 3, 11, 0, .null, [], [1131]),
  (12, .aload_n 0, 1, 0, 0, .null, [], []),
  (13, .bipush 40, 2, 0, 0, .int 40, [], []),
  (15, .newarray .int, 2, 0, 0, .int 0, [], [187]),
  (17, .putfield 13, 3, 11, 1, .null, [], [1132]),
  (20, .aload_n 0, 1, 0, 0, .null, [], []),
  (21, .bipush 40, 2, 0, 0, .int 40, [], []),
  (23, .newarray .int, 2, 0, 0, .int 0, [], [187]),
  (25, .putfield 16, 3, 11, 2, .null, [], [1133]),
  (28, .aload_n 0, 1, 0, 0, .null, [], []),
  (29, .bipush 40, 2, 0, 0, .int 40, [], []),
  (31, .newarray .int, 2, 0, 0, .int 0, [], [187]),
  (33, .putfield 19, 3, 11, 3, .null, [], [1134]),
  (36, .aload_n 0, 1, 0, 0, .null, [], []),
  (37, .bipush 6, 2, 0, 0, .int 6, [], []),
  (39, .newarray .int, 2, 0, 0, .int 0, [], [187]),
  (41, .putfield 22, 3, 11, 7, .null, [], [1138]),
  (44, .aload_n 0, 1, 0, 0, .null, [], []),
  (45, .bipush 6, 2, 0, 0, .int 6, [], []),
  (47, .newarray .int, 2, 0, 0, .int 0, [], [187]),
  (49, .putfield 25, 3, 11, 8, .null, [], [1139]),
  (52, .aload_n 0, 1, 0, 0, .null, [], []),
  (53, .bipush 7, 2, 0, 0, .int 7, [], []),
  (55, .newarray .int, 2, 0, 0, .int 0, [], [187]),
  (57, .putfield 28, 3, 11, 11, .null, [], [1142]),
  (60, .aload_n 0, 1, 0, 0, .null, [], []),
  (61, .bipush 7, 2, 0, 0, .int 7, [], []),
  (63, .newarray .int, 2, 0, 0, .int 0, [], [187]),
  (65, .putfield 31, 3, 11, 13, .null, [], [1144]),
  (68, .aload_n 0, 1, 0, 0, .null, [], []),
  (69, .bipush 7, 2, 0, 0, .int 7, [], []),
  (71, .newarray .int, 2, 0, 0, .int 0, [], [187]),
  (73, .putfield 34, 3, 11, 14, .null, [], [1145]),
  (76, .aload_n 0, 1, 0, 0, .null, [], []),
  (77, .iconst 3, 1, 0, 0, .int 3, [], []),
  (78, .newarray .int, 2, 0, 0, .int 0, [], [187]),
  (80, .putfield 37, 3, 11, 18, .null, [], [1149]),
  (83, .aload_n 0, 1, 0, 0, .null, [], []),
  (84, .bipush 18, 2, 0, 0, .int 18, [], []),
  (86, .newarray .int, 2, 0, 0, .int 0, [], [187]),
  (88, .putfield 40, 3, 11, 19, .null, [], [1150]),
  (91, .aload_n 0, 1, 0, 0, .null, [], []),
  (92, .bipush 6, 2, 0, 0, .int 6, [], []),
  (94, .newarray .int, 2, 0, 0, .int 0, [], [187]),
  (96, .putfield 43, 3, 11, 20, .null, [], [1151]),
  (99, .aload_n 0, 1, 0, 0, .null, [], []),
  (100, .bipush 120, 2, 0, 0, .int 120, [], []),
  (102, .newarray .int, 2, 0, 0, .int 0, [], [187]),
  (104, .putfield 46, 3, 11, 21, .null, [], [1152]),
  (107, .aload_n 0, 1, 0, 0, .null, [], []),
  (108, .bipush 120, 2, 0, 0, .int 120, [], []),
  (110, .newarray .int, 2, 0, 0, .int 0, [], [187]),
  (112, .putfield 49, 3, 11, 23, .null, [], [1154]),
  (115, .aload_n 0, 1, 0, 0, .null, [], []),
  (116, .iconst 5, 1, 0, 0, .int 5, [], []),
  (117, .newarray .int, 2, 0, 0, .int 0, [], [187]),
  (119, .putfield 52, 3, 11, 30, .null, [], [1161]),
  (122, .aload_n 0, 1, 0, 0, .null, [], []),
  (123, .bipush 6, 2, 0, 0, .int 6, [], []),
  (125, .newarray .int, 2, 0, 0, .int 0, [], [187]),
  (127, .putfield 55, 3, 11, 35, .null, [], [1166]),
  (130, .aload_n 0, 1, 0, 0, .null, [], []),
  (131, .bipush 6, 2, 0, 0, .int 6, [], []),
  (133, .newarray .int, 2, 0, 0, .int 0, [], [187]),
  (135, .putfield 58, 3, 11, 36, .null, [], [1167]),
  (138, .aload_n 0, 1, 0, 0, .null, [], []),
  (139, .bipush 50, 2, 0, 0, .int 50, [], []),
  (141, .newarray .int, 2, 0, 0, .int 0, [], [187]),
  (143, .putfield 61, 3, 11, 38, .null, [], [1169]),
  (146, .aload_n 0, 1, 0, 0, .null, [], []),
  (147, .bipush 24, 2, 0, 0, .int 24, [], []),
  (149, .newarray .int, 2, 0, 0, .int 0, [], [187]),
  (151, .putfield 64, 3, 11, 39, .null, [], [1170]),
  (154, .aload_n 0, 1, 0, 0, .null, [], []),
  (155, .bipush 6, 2, 0, 0, .int 6, [], []),
  (157, .newarray .int, 2, 0, 0, .int 0, [], [187]),
  (159, .putfield 67, 3, 11, 43, .null, [], [1174]),
  (162, .aload_n 0, 1, 0, 0, .null, [], []),
  (163, .bipush 6, 2, 0, 0, .int 6, [], []),
  (165, .newarray .int, 2, 0, 0, .int 0, [], [187]),
  (167, .putfield 70, 3, 11, 44, .null, [], [1175]),
  (170, .aload_n 0, 1, 0, 0, .null, [], []),
  (171, .sipush 360, 3, 0, 0, .int 360, [], []),
  (174, .newarray .long, 2, 0, 0, .long 0, [], [466]),
  (176, .putfield 73, 3, 11, 45, .null, [], [1176]),
  (179, .aload_n 0, 1, 0, 0, .null, [], []),
  (180, .bipush 60, 2, 0, 0, .int 60, [], []),
  (182, .newarray .long, 2, 0, 0, .long 0, [], [466]),
  (184, .putfield 77, 3, 11, 46, .null, [], [1177]),
  (187, .iconst 0, 1, 0, 0, .int 0, [], []),
  (188, .istore_n 1, 1, 1, 0, .null, [], []),
  (189, .iload_n 1, 1, 1, 0, .null, [], []),
  (190, .bipush 6, 2, 0, 0, .int 6, [], []),
  (192, .if_icmp .ge 16, 3, 208, 0, .null, [], []),
  (195, .aload_n 0, 1, 0, 0, .null, [], []),
  (196, .getfield 67, 3, 11, 43, .null, [], [1174]),
  (199, .iload_n 1, 1, 1, 0, .null, [], []),
  (200, .iconst (-1), 1, 0, 0, .int (-1), [], []),
  (201, .iastore, 1, 0, 0, .null, [], []),
  (202, .iinc 1 1, 3, 1, 0, .int 1, [], []),
  (205, .goto (-16), 3, 189, 0, .null, [], []),
  (208, .aload_n 0, 1, 0, 0, .null, [], []),
  (209, .iconst (-1), 1, 0, 0, .int (-1), [], []),
  (210, .putfield 80, 3, 11, 24, .int 0, [], [1155]),
  (213, .aload_n 0, 1, 0, 0, .null, [], []),
  (214, .getfield 9, 3, 11, 0, .null, [], [1131]),
  (217, .bipush 24, 2, 0, 0, .int 24, [], []),
  (219, .bipush 60, 2, 0, 0, .int 60, [], []),
  (221, .iastore, 1, 0, 0, .null, [], []),
  (222, .aload_n 0, 1, 0, 0, .null, [], []),
  (223, .getfield 9, 3, 11, 0, .null, [], [1131]),
  (226, .bipush 26, 2, 0, 0, .int 26, [], []),
  (228, .bipush 10, 2, 0, 0, .int 10, [], []),
  (230, .iastore, 1, 0, 0, .null, [], []),
  (231, .iconst 0, 1, 0, 0, .int 0, [], []),
  (232, .istore_n 1, 1, 1, 0, .null, [], []),
  (233, .iload_n 1, 1, 1, 0, .null, [], []),
  (234, .bipush 6, 2, 0, 0, .int 6, [], []),
  (236, .if_icmp .ge 16, 3, 252, 0, .null, [], []),
  (239, .aload_n 0, 1, 0, 0, .null, [], []),
  (240, .getfield 22, 3, 11, 7, .null, [], [1138]),
  (243, .iload_n 1, 1, 1, 0, .null, [], []),
  (244, .iconst (-1), 1, 0, 0, .int (-1), [], []),
  (245, .iastore, 1, 0, 0, .null, [], []),
  (246, .iinc 1 1, 3, 1, 0, .int 1, [], []),
  (249, .goto (-16), 3, 233, 0, .null, [], []),
  (252, .return_, 1, 0, 0, .null, [], [])],
  [(189, [true, true]), (233, [true, true])], 2)
/-- 157: LeastPaysModel.becomes(II)I -/
def kX11_becomes : j_K := ([
  (0, .aload_n 0, 1, 0, 0, .null, [], []),
  (1, .getfield 9, 3, 11, 0, .null, [], [1131]),
  (4, .iload_n 1, 1, 1, 0, .null, [], []),
  (5, .iaload, 1, 0, 0, .null, [], []),
  (6, .istore_n 3, 1, 3, 0, .null, [], []),
  (7, .iload_n 3, 1, 3, 0, .null, [], []),
  (8, .iload_n 2, 1, 2, 0, .null, [], []),
  (9, .if_icmp .ne 5, 3, 14, 0, .null, [], []),
  (12, .iload_n 3, 1, 3, 0, .null, [], []),
  (13, .ireturn, 1, 0, 0, .int 0, [], []),
  (14, .aload_n 0, 1, 0, 0, .null, [], []),
  (15, .getfield 84, 3, 11, 5, .int 0, [], [1136]),
  (18, .bipush 40, 2, 0, 0, .int 40, [], []),
  (20, .if_icmp .ne 77, 3, 97, 0, .null, [], []),
  (23, .iconst 1, 1, 0, 0, .int 1, [], []),
  (24, .istore 4, 2, 4, 0, .null, [], []),
  (26, .iload 4, 2, 4, 0, .null, [], []),
  (28, .bipush 40, 2, 0, 0, .int 40, [], []),
  (30, .if_icmp .ge 57, 3, 87, 0, .null, [], []),
  (33, .aload_n 0, 1, 0, 0, .null, [], []),
  (34, .getfield 13, 3, 11, 1, .null, [], [1132]),
  (37, .iload 4, 2, 4, 0, .null, [], []),
  (39, .iconst 1, 1, 0, 0, .int 1, [], []),
  (40, .isub, 1, 0, 0, .null, [], []),
  (41, .aload_n 0, 1, 0, 0, .null, [], []),
  (42, .getfield 13, 3, 11, 1, .null, [], [1132]),
  (45, .iload 4, 2, 4, 0, .null, [], []),
  (47, .iaload, 1, 0, 0, .null, [], []),
  (48, .iastore, 1, 0, 0, .null, [], []),
  (49, .aload_n 0, 1, 0, 0, .null, [], []),
  (50, .getfield 16, 3, 11, 2, .null, [], [1133]),
  (53, .iload 4, 2, 4, 0, .null, [], []),
  (55, .iconst 1, 1, 0, 0, .int 1, [], []),
  (56, .isub, 1, 0, 0, .null, [], []),
  (57, .aload_n 0, 1, 0, 0, .null, [], []),
  (58, .getfield 16, 3, 11, 2, .null, [], [1133]),
  (61, .iload 4, 2, 4, 0, .null, [], []),
  (63, .iaload, 1, 0, 0, .null, [], []),
  (64, .iastore, 1, 0, 0, .null, [], []),
  (65, .aload_n 0, 1, 0, 0, .null, [], []),
  (66, .getfield 19, 3, 11, 3, .null, [], [1134]),
  (69, .iload 4, 2, 4, 0, .null, [], []),
  (71, .iconst 1, 1, 0, 0, .int 1, [], []),
  (72, .isub, 1, 0, 0, .null, [], []),
  (73, .aload_n 0, 1, 0, 0, .null, [], []),
  (74, .getfield 19, 3, 11, 3, .null, [], [1134]),
  (77, .iload 4, 2, 4, 0, .null, [], []),
  (79, .iaload, 1, 0, 0, .null, [], []),
  (80, .iastore, 1, 0, 0, .null, [], []),
  (81, .iinc 4 1, 3, 4, 0, .int 1, [], []),
  (84, .goto (-58), 3, 26, 0, .null, [], []),
  (87, .aload_n 0, 1, 0, 0, .null, [], []),
  (88, .dup, 1, 0, 0, .null, [], []),
  (89, .getfield 84, 3, 11, 5, .int 0, [], [1136]),
  (92, .iconst 1, 1, 0, 0, .int 1, [], []),
  (93, .isub, 1, 0, 0, .null, [], []),
  (94, .putfield 84, 3, 11, 5, .int 0, [], [1136]),
  (97, .aload_n 0, 1, 0, 0, .null, [], []),
  (98, .getfield 13, 3, 11, 1, .null, [], [1132]),
  (101, .aload_n 0, 1, 0, 0, .null, [], []),
  (102, .getfield 84, 3, 11, 5, .int 0, [], [1136]),
  (105, .iload_n 1, 1, 1, 0, .null, [], []),
  (106, .iastore, 1, 0, 0, .null, [], []),
  (107, .aload_n 0, 1, 0, 0, .null, [], []),
  (108, .getfield 16, 3, 11, 2, .null, [], [1133]),
  (111, .aload_n 0, 1, 0, 0, .null, [], []),
  (112, .getfield 84, 3, 11, 5, .int 0, [], [1136]),
  (115, .iload_n 3, 1, 3, 0, .null, [], []),
  (116, .iastore, 1, 0, 0, .null, [], []),
  (117, .aload_n 0, 1, 0, 0, .null, [], []),
  (118, .getfield 19, 3, 11, 3, .null, [], [1134]),
  (121, .aload_n 0, 1, 0, 0, .null, [], []),
  (122, .getfield 84, 3, 11, 5, .int 0, [], [1136]),
  (125, .iload_n 2, 1, 2, 0, .null, [], []),
  (126, .iastore, 1, 0, 0, .null, [], []),
  (127, .aload_n 0, 1, 0, 0, .null, [], []),
  (128, .dup, 1, 0, 0, .null, [], []),
  (129, .getfield 84, 3, 11, 5, .int 0, [], [1136]),
  (132, .iconst 1, 1, 0, 0, .int 1, [], []),
  (133, .iadd, 1, 0, 0, .null, [], []),
  (134, .putfield 84, 3, 11, 5, .int 0, [], [1136]),
  (137, .aload_n 0, 1, 0, 0, .null, [], []),
  (138, .aload_n 0, 1, 0, 0, .null, [], []),
  (139, .getfield 84, 3, 11, 5, .int 0, [], [1136]),
  (142, .putfield 87, 3, 11, 4, .int 0, [], [1135]),
  (145, .aload_n 0, 1, 0, 0, .null, [], []),
  (146, .getfield 9, 3, 11, 0, .null, [], [1131]),
  (149, .iload_n 1, 1, 1, 0, .null, [], []),
  (150, .iload_n 2, 1, 2, 0, .null, [], []),
  (151, .iastore, 1, 0, 0, .null, [], []),
  (152, .iload_n 3, 1, 3, 0, .null, [], []),
  (153, .ireturn, 1, 0, 0, .int 0, [], [])],
  [(26, [true, true, true, true, true]), (97, [true, true, true, true, false])], 5)
/-- 158: LeastPaysModel.undo()I -/
def kX11_undo : j_K := ([
  (0, .aload_n 0, 1, 0, 0, .null, [], []),
  (1, .getfield 84, 3, 11, 5, .int 0, [], [1136]),
  (4, .ifCond .ne 6, 3, 10, 0, .null, [], []),
  (7, .bipush (-5), 2, 0, 0, .int (-5), [], []),
  (9, .ireturn, 1, 0, 0, .int 0, [], []),
  (10, .aload_n 0, 1, 0, 0, .null, [], []),
  (11, .dup, 1, 0, 0, .null, [], []),
  (12, .getfield 84, 3, 11, 5, .int 0, [], [1136]),
  (15, .iconst 1, 1, 0, 0, .int 1, [], []),
  (16, .isub, 1, 0, 0, .null, [], []),
  (17, .putfield 84, 3, 11, 5, .int 0, [], [1136]),
  (20, .aload_n 0, 1, 0, 0, .null, [], []),
  (21, .getfield 9, 3, 11, 0, .null, [], [1131]),
  (24, .aload_n 0, 1, 0, 0, .null, [], []),
  (25, .getfield 13, 3, 11, 1, .null, [], [1132]),
  (28, .aload_n 0, 1, 0, 0, .null, [], []),
  (29, .getfield 84, 3, 11, 5, .int 0, [], [1136]),
  (32, .iaload, 1, 0, 0, .null, [], []),
  (33, .aload_n 0, 1, 0, 0, .null, [], []),
  (34, .getfield 16, 3, 11, 2, .null, [], [1133]),
  (37, .aload_n 0, 1, 0, 0, .null, [], []),
  (38, .getfield 84, 3, 11, 5, .int 0, [], [1136]),
  (41, .iaload, 1, 0, 0, .null, [], []),
  (42, .iastore, 1, 0, 0, .null, [], []),
  (43, .aload_n 0, 1, 0, 0, .null, [], []),
  (44, .getfield 84, 3, 11, 5, .int 0, [], [1136]),
  (47, .ireturn, 1, 0, 0, .int 0, [], [])],
  [], 1)
/-- 159: LeastPaysModel.redo()I -/
def kX11_redo : j_K := ([
  (0, .aload_n 0, 1, 0, 0, .null, [], []),
  (1, .getfield 84, 3, 11, 5, .int 0, [], [1136]),
  (4, .aload_n 0, 1, 0, 0, .null, [], []),
  (5, .getfield 87, 3, 11, 4, .int 0, [], [1135]),
  (8, .if_icmp .ne 6, 3, 14, 0, .null, [], []),
  (11, .bipush (-5), 2, 0, 0, .int (-5), [], []),
  (13, .ireturn, 1, 0, 0, .int 0, [], []),
  (14, .aload_n 0, 1, 0, 0, .null, [], []),
  (15, .getfield 9, 3, 11, 0, .null, [], [1131]),
  (18, .aload_n 0, 1, 0, 0, .null, [], []),
  (19, .getfield 13, 3, 11, 1, .null, [], [1132]),
  (22, .aload_n 0, 1, 0, 0, .null, [], []),
  (23, .getfield 84, 3, 11, 5, .int 0, [], [1136]),
  (26, .iaload, 1, 0, 0, .null, [], []),
  (27, .aload_n 0, 1, 0, 0, .null, [], []),
  (28, .getfield 19, 3, 11, 3, .null, [], [1134]),
  (31, .aload_n 0, 1, 0, 0, .null, [], []),
  (32, .getfield 84, 3, 11, 5, .int 0, [], [1136]),
  (35, .iaload, 1, 0, 0, .null, [], []),
  (36, .iastore, 1, 0, 0, .null, [], []),
  (37, .aload_n 0, 1, 0, 0, .null, [], []),
  (38, .dup, 1, 0, 0, .null, [], []),
  (39, .getfield 84, 3, 11, 5, .int 0, [], [1136]),
  (42, .iconst 1, 1, 0, 0, .int 1, [], []),
  (43, .iadd, 1, 0, 0, .null, [], []),
  (44, .putfield 84, 3, 11, 5, .int 0, [], [1136]),
  (47, .aload_n 0, 1, 0, 0, .null, [], []),
  (48, .getfield 87, 3, 11, 4, .int 0, [], [1135]),
  (51, .aload_n 0, 1, 0, 0, .null, [], []),
  (52, .getfield 84, 3, 11, 5, .int 0, [], [1136]),
  (55, .isub, 1, 0, 0, .null, [], []),
  (56, .ireturn, 1, 0, 0, .int 0, [], [])],
  [], 1)
/-- 160: LeastPaysModel.isGuest(I)Z -/
def kX11_isGuest : j_K := ([
  (0, .iload_n 1, 1, 1, 0, .null, [], []),
  (1, .i2l, 1, 0, 0, .null, [], []),
  (2, .lconst 0, 1, 0, 0, .long 0, [], []),
  (3, .aload_n 0, 1, 0, 0, .null, [], []),
  (4, .getfield 90, 3, 11, 6, .int 0, [], [1137]),
  (7, .iconst 1, 1, 0, 0, .int 1, [], []),
  (8, .isub, 1, 0, 0, .null, [], []),
  (9, .i2l, 1, 0, 0, .null, [], []),
  (10, .invokestatic 93, 3, 155, 3, .int 0, [], [1286, 96, 1288, 1287]),
  (13, .ireturn, 1, 0, 0, .long 0, [], [])],
  [], 2)
/-- 161: LeastPaysModel.guest(I)I -/
def kX11_guest : j_K := ([
  (0, .iload_n 1, 1, 1, 0, .null, [], []),
  (1, .i2l, 1, 0, 0, .null, [], []),
  (2, .lconst 0, 1, 0, 0, .long 0, [], []),
  (3, .ldc2_w 97, 3, 0, 0, .long 99, [], [1285]),
  (6, .invokestatic 93, 3, 155, 3, .int 0, [], [1286, 96, 1288, 1287]),
  (9, .ifCond .ne 5, 3, 14, 0, .null, [], []),
  (12, .iconst (-1), 1, 0, 0, .int (-1), [], []),
  (13, .ireturn, 1, 0, 0, .int 0, [], []),
  (14, .aload_n 0, 1, 0, 0, .null, [], []),
  (15, .getfield 90, 3, 11, 6, .int 0, [], [1137]),
  (18, .bipush 6, 2, 0, 0, .int 6, [], []),
  (20, .if_icmp .ne 6, 3, 26, 0, .null, [], []),
  (23, .bipush (-3), 2, 0, 0, .int (-3), [], []),
  (25, .ireturn, 1, 0, 0, .int 0, [], []),
  (26, .aload_n 0, 1, 0, 0, .null, [], []),
  (27, .getfield 9, 3, 11, 0, .null, [], [1131]),
  (30, .aload_n 0, 1, 0, 0, .null, [], []),
  (31, .getfield 90, 3, 11, 6, .int 0, [], [1137]),
  (34, .iload_n 1, 1, 1, 0, .null, [], []),
  (35, .iastore, 1, 0, 0, .null, [], []),
  (36, .aload_n 0, 1, 0, 0, .null, [], []),
  (37, .dup, 1, 0, 0, .null, [], []),
  (38, .getfield 90, 3, 11, 6, .int 0, [], [1137]),
  (41, .iconst 1, 1, 0, 0, .int 1, [], []),
  (42, .iadd, 1, 0, 0, .null, [], []),
  (43, .putfield 90, 3, 11, 6, .int 0, [], [1137]),
  (46, .aload_n 0, 1, 0, 0, .null, [], []),
  (47, .getfield 90, 3, 11, 6, .int 0, [], [1137]),
  (50, .iconst 1, 1, 0, 0, .int 1, [], []),
  (51, .isub, 1, 0, 0, .null, [], []),
  (52, .ireturn, 1, 0, 0, .int 0, [], [])],
  [], 2)
/-- 162: LeastPaysModel.guests(III)I -/
def kX11_guests : j_K := ([
  (0, .iload_n 1, 1, 1, 0, .null, [], []),
  (1, .invokestatic 99, 3, 235, 1, .int 0, [], [1293, 96, 1295, 1294]),
  (4, .ifCond .eq 15, 3, 19, 0, .null, [], []),
  (7, .iload_n 3, 1, 3, 0, .null, [], []),
  (8, .i2l, 1, 0, 0, .null, [], []),
  (9, .lconst 1, 1, 0, 0, .long 1, [], []),
  (10, .ldc2_w 103, 3, 0, 0, .long 6, [], [1297]),
  (13, .invokestatic 93, 3, 155, 3, .int 0, [], [1286, 96, 1288, 1287]),
  (16, .ifCond .ne 5, 3, 21, 0, .null, [], []),
  (19, .iconst (-1), 1, 0, 0, .int (-1), [], []),
  (20, .ireturn, 1, 0, 0, .int 0, [], []),
  (21, .aload_n 0, 1, 0, 0, .null, [], []),
  (22, .getfield 67, 3, 11, 43, .null, [], [1174]),
  (25, .iload_n 1, 1, 1, 0, .null, [], []),
  (26, .iaload, 1, 0, 0, .null, [], []),
  (27, .ifCond .lt 17, 3, 44, 0, .null, [], []),
  (30, .aload_n 0, 1, 0, 0, .null, [], []),
  (31, .getfield 67, 3, 11, 43, .null, [], [1174]),
  (34, .iload_n 1, 1, 1, 0, .null, [], []),
  (35, .iaload, 1, 0, 0, .null, [], []),
  (36, .bipush 50, 2, 0, 0, .int 50, [], []),
  (38, .if_icmp .eq 6, 3, 44, 0, .null, [], []),
  (41, .bipush (-12), 2, 0, 0, .int (-12), [], []),
  (43, .ireturn, 1, 0, 0, .int 0, [], []),
  (44, .iconst 0, 1, 0, 0, .int 0, [], []),
  (45, .istore 4, 2, 4, 0, .null, [], []),
  (47, .aload_n 0, 1, 0, 0, .null, [], []),
  (48, .getfield 67, 3, 11, 43, .null, [], [1174]),
  (51, .iload_n 1, 1, 1, 0, .null, [], []),
  (52, .iaload, 1, 0, 0, .null, [], []),
  (53, .bipush 50, 2, 0, 0, .int 50, [], []),
  (55, .if_icmp .ne 11, 3, 66, 0, .null, [], []),
  (58, .iload_n 2, 1, 2, 0, .null, [], []),
  (59, .ifCond .lt 7, 3, 66, 0, .null, [], []),
  (62, .iconst 1, 1, 0, 0, .int 1, [], []),
  (63, .goto 4, 3, 67, 0, .null, [], []),
  (66, .iconst 0, 1, 0, 0, .int 0, [], []),
  (67, .istore 5, 2, 5, 0, .null, [], []),
  (69, .iload 5, 2, 5, 0, .null, [], []),
  (71, .ifCond .eq 167, 3, 238, 0, .null, [], []),
  (74, .iload 4, 2, 4, 0, .null, [], []),
  (76, .iload_n 3, 1, 3, 0, .null, [], []),
  (77, .if_icmp .ge 161, 3, 238, 0, .null, [], []),
  (80, .iload_n 2, 1, 2, 0, .null, [], []),
  (81, .aload_n 0, 1, 0, 0, .null, [], []),
  (82, .getfield 70, 3, 11, 44, .null, [], [1175]),
  (85, .iload_n 1, 1, 1, 0, .null, [], []),
  (86, .iaload, 1, 0, 0, .null, [], []),
  (87, .iconst 2, 1, 0, 0, .int 2, [], []),
  (88, .isub, 1, 0, 0, .null, [], []),
  (89, .iconst 2, 1, 0, 0, .int 2, [], []),
  (90, .iload 4, 2, 4, 0, .null, [], []),
  (92, .imul, 1, 0, 0, .null, [], []),
  (93, .isub, 1, 0, 0, .null, [], []),
  (94, .if_icmp .gt 16, 3, 110, 0, .null, [], []),
  (97, .aload_n 0, 1, 0, 0, .null, [], []),
  (98, .getfield 90, 3, 11, 6, .int 0, [], [1137]),
  (101, .bipush 6, 2, 0, 0, .int 6, [], []),
  (103, .if_icmp .ge 7, 3, 110, 0, .null, [], []),
  (106, .iconst 1, 1, 0, 0, .int 1, [], []),
  (107, .goto 4, 3, 111, 0, .null, [], []),
  (110, .iconst 0, 1, 0, 0, .int 0, [], []),
  (111, .istore 5, 2, 5, 0, .null, [], []),
  (113, .bipush 60, 2, 0, 0, .int 60, [], []),
  (115, .iload_n 1, 1, 1, 0, .null, [], []),
  (116, .imul, 1, 0, 0, .null, [], []),
  (117, .iload_n 2, 1, 2, 0, .null, [], []),
  (118, .iadd, 1, 0, 0, .null, [], []),
  (119, .iconst 2, 1, 0, 0, .int 2, [], []),
  (120, .iload 4, 2, 4, 0, .null, [], []),
  (122, .imul, 1, 0, 0, .null, [], []),
  (123, .iadd, 1, 0, 0, .null, [], []),
  (124, .istore 6, 2, 6, 0, .null, [], []),
  (126, .iload 5, 2, 5, 0, .null, [], []),
  (128, .ifCond .eq 47, 3, 175, 0, .null, [], []),
  (131, .aload_n 0, 1, 0, 0, .null, [], []),
  (132, .getfield 73, 3, 11, 45, .null, [], [1176]),
  (135, .iload 6, 2, 6, 0, .null, [], []),
  (137, .laload, 1, 0, 0, .null, [], []),
  (138, .lconst 0, 1, 0, 0, .long 0, [], []),
  (139, .ldc2_w 97, 3, 0, 0, .long 99, [], [1285]),
  (142, .invokestatic 93, 3, 155, 3, .int 0, [], [1286, 96, 1288, 1287]),
  (145, .ifCond .eq 30, 3, 175, 0, .null, [], []),
  (148, .aload_n 0, 1, 0, 0, .null, [], []),
  (149, .getfield 73, 3, 11, 45, .null, [], [1176]),
  (152, .iload 6, 2, 6, 0, .null, [], []),
  (154, .iconst 1, 1, 0, 0, .int 1, [], []),
  (155, .iadd, 1, 0, 0, .null, [], []),
  (156, .laload, 1, 0, 0, .null, [], []),
  (157, .lconst 0, 1, 0, 0, .long 0, [], []),
  (158, .aload_n 0, 1, 0, 0, .null, [], []),
  (159, .getfield 73, 3, 11, 45, .null, [], [1176]),
  (162, .iload 6, 2, 6, 0, .null, [], []),
  (164, .laload, 1, 0, 0, .null, [], []),
  (165, .invokestatic 93, 3, 155, 3, .int 0, [], [1286, 96, 1288, 1287]),
  (168, .ifCond .eq 7, 3, 175, 0, .null, [], []),
  (171, .iconst 1, 1, 0, 0, .int 1, [], []),
  (172, .goto 4, 3, 176, 0, .null, [], []),
  (175, .iconst 0, 1, 0, 0, .int 0, [], []),
  (176, .istore 5, 2, 5, 0, .null, [], []),
  (178, .iload 5, 2, 5, 0, .null, [], []),
  (180, .ifCond .eq 55, 3, 235, 0, .null, [], []),
  (183, .aload_n 0, 1, 0, 0, .null, [], []),
  (184, .getfield 9, 3, 11, 0, .null, [], [1131]),
  (187, .aload_n 0, 1, 0, 0, .null, [], []),
  (188, .getfield 90, 3, 11, 6, .int 0, [], [1137]),
  (191, .aload_n 0, 1, 0, 0, .null, [], []),
  (192, .getfield 73, 3, 11, 45, .null, [], [1176]),
  (195, .iload 6, 2, 6, 0, .null, [], []),
  (197, .laload, 1, 0, 0, .null, [], []),
  (198, .l2i, 1, 0, 0, .null, [], []),
  (199, .iastore, 1, 0, 0, .null, [], []),
  (200, .aload_n 0, 1, 0, 0, .null, [], []),
  (201, .getfield 9, 3, 11, 0, .null, [], [1131]),
  (204, .bipush 6, 2, 0, 0, .int 6, [], []),
  (206, .aload_n 0, 1, 0, 0, .null, [], []),
  (207, .getfield 90, 3, 11, 6, .int 0, [], [1137]),
  (210, .iadd, 1, 0, 0, .null, [], []),
  (211, .aload_n 0, 1, 0, 0, .null, [], []),
  (212, .getfield 73, 3, 11, 45, .null, [], [1176]),
  (215, .iload 6, 2, 6, 0, .null, [], []),
  (217, .iconst 1, 1, 0, 0, .int 1, [], []),
  (218, .iadd, 1, 0, 0, .null, [], []),
  (219, .laload, 1, 0, 0, .null, [], []),
  (220, .l2i, 1, 0, 0, .null, [], []),
  (221, .iastore, 1, 0, 0, .null, [], []),
  (222, .aload_n 0, 1, 0, 0, .null, [], []),
  (223, .dup, 1, 0, 0, .null, [], []),
  (224, .getfield 90, 3, 11, 6, .int 0, [], [1137]),
  (227, .iconst 1, 1, 0, 0, .int 1, [], []),
  (228, .iadd, 1, 0, 0, .null, [], []),
  (229, .putfield 90, 3, 11, 6, .int 0, [], [1137]),
  (232, .iinc 4 1, 3, 4, 0, .int 1, [], []),
  (235, .goto (-166), 3, 69, 0, .null, [], []),
  (238, .iload 4, 2, 4, 0, .null, [], []),
  (240, .ireturn, 1, 0, 0, .int 0, [], [])],
  [(69, [true, true, true, true, true, true, false]), (111, [true, true, true, true, true, false, false]), (176, [true, true, true, true, true, false, true])], 7)
/-- 163: LeastPaysModel.mend(III)I -/
def kX11_mend : j_K := ([
  (0, .iload_n 2, 1, 2, 0, .null, [], []),
  (1, .tableswitch 232 0 6 #[43, 74, 114, 74, 148, 176, 204], 43, 233, 0, .null, [(0, 44), (1, 75), (2, 115), (3, 75), (4, 149), (5, 177), (6, 205)], []),
  (44, .aload_n 0, 1, 0, 0, .null, [], []),
  (45, .iload_n 1, 1, 1, 0, .null, [], []),
  (46, .invokevirtual 105, 14, 160, 1, .int 0, [], [1302, 96, 1305, 1304, 41]),
  (49, .ifCond .eq 24, 3, 73, 0, .null, [], []),
  (52, .iload_n 3, 1, 3, 0, .null, [], []),
  (53, .i2l, 1, 0, 0, .null, [], []),
  (54, .lconst 0, 1, 0, 0, .long 0, [], []),
  (55, .ldc2_w 97, 3, 0, 0, .long 99, [], [1285]),
  (58, .invokestatic 93, 3, 155, 3, .int 0, [], [1286, 96, 1288, 1287]),
  (61, .ifCond .eq 12, 3, 73, 0, .null, [], []),
  (64, .aload_n 0, 1, 0, 0, .null, [], []),
  (65, .iload_n 1, 1, 1, 0, .null, [], []),
  (66, .iload_n 3, 1, 3, 0, .null, [], []),
  (67, .invokevirtual 108, 14, 157, 2, .int 0, [], [1306, 96, 1309, 1308, 42]),
  (70, .goto 4, 3, 74, 0, .null, [], []),
  (73, .iconst (-1), 1, 0, 0, .int (-1), [], []),
  (74, .ireturn, 1, 0, 0, .int 0, [], []),
  (75, .aload_n 0, 1, 0, 0, .null, [], []),
  (76, .iload_n 1, 1, 1, 0, .null, [], []),
  (77, .invokevirtual 105, 14, 160, 1, .int 0, [], [1302, 96, 1305, 1304, 41]),
  (80, .ifCond .eq 33, 3, 113, 0, .null, [], []),
  (83, .iload_n 3, 1, 3, 0, .null, [], []),
  (84, .i2l, 1, 0, 0, .null, [], []),
  (85, .lconst 0, 1, 0, 0, .long 0, [], []),
  (86, .aload_n 0, 1, 0, 0, .null, [], []),
  (87, .getfield 9, 3, 11, 0, .null, [], [1131]),
  (90, .iload_n 1, 1, 1, 0, .null, [], []),
  (91, .iaload, 1, 0, 0, .null, [], []),
  (92, .i2l, 1, 0, 0, .null, [], []),
  (93, .invokestatic 93, 3, 155, 3, .int 0, [], [1286, 96, 1288, 1287]),
  (96, .ifCond .eq 17, 3, 113, 0, .null, [], []),
  (99, .aload_n 0, 1, 0, 0, .null, [], []),
  (100, .bipush 6, 2, 0, 0, .int 6, [], []),
  (102, .iload_n 2, 1, 2, 0, .null, [], []),
  (103, .imul, 1, 0, 0, .null, [], []),
  (104, .iload_n 1, 1, 1, 0, .null, [], []),
  (105, .iadd, 1, 0, 0, .null, [], []),
  (106, .iload_n 3, 1, 3, 0, .null, [], []),
  (107, .invokevirtual 108, 14, 157, 2, .int 0, [], [1306, 96, 1309, 1308, 42]),
  (110, .goto 4, 3, 114, 0, .null, [], []),
  (113, .iconst (-1), 1, 0, 0, .int (-1), [], []),
  (114, .ireturn, 1, 0, 0, .int 0, [], []),
  (115, .aload_n 0, 1, 0, 0, .null, [], []),
  (116, .iload_n 1, 1, 1, 0, .null, [], []),
  (117, .invokevirtual 105, 14, 160, 1, .int 0, [], [1302, 96, 1305, 1304, 41]),
  (120, .ifCond .eq 27, 3, 147, 0, .null, [], []),
  (123, .iload_n 3, 1, 3, 0, .null, [], []),
  (124, .i2l, 1, 0, 0, .null, [], []),
  (125, .lconst 0, 1, 0, 0, .long 0, [], []),
  (126, .ldc2_w 112, 3, 0, 0, .long 12, [], [1310]),
  (129, .invokestatic 93, 3, 155, 3, .int 0, [], [1286, 96, 1288, 1287]),
  (132, .ifCond .eq 15, 3, 147, 0, .null, [], []),
  (135, .aload_n 0, 1, 0, 0, .null, [], []),
  (136, .bipush 12, 2, 0, 0, .int 12, [], []),
  (138, .iload_n 1, 1, 1, 0, .null, [], []),
  (139, .iadd, 1, 0, 0, .null, [], []),
  (140, .iload_n 3, 1, 3, 0, .null, [], []),
  (141, .invokevirtual 108, 14, 157, 2, .int 0, [], [1306, 96, 1309, 1308, 42]),
  (144, .goto 4, 3, 148, 0, .null, [], []),
  (147, .iconst (-1), 1, 0, 0, .int (-1), [], []),
  (148, .ireturn, 1, 0, 0, .int 0, [], []),
  (149, .iload_n 1, 1, 1, 0, .null, [], []),
  (150, .ifCond .ne 25, 3, 175, 0, .null, [], []),
  (153, .iload_n 3, 1, 3, 0, .null, [], []),
  (154, .i2l, 1, 0, 0, .null, [], []),
  (155, .lconst 0, 1, 0, 0, .long 0, [], []),
  (156, .ldc2_w 114, 3, 0, 0, .long 599, [], [1311]),
  (159, .invokestatic 93, 3, 155, 3, .int 0, [], [1286, 96, 1288, 1287]),
  (162, .ifCond .eq 13, 3, 175, 0, .null, [], []),
  (165, .aload_n 0, 1, 0, 0, .null, [], []),
  (166, .bipush 24, 2, 0, 0, .int 24, [], []),
  (168, .iload_n 3, 1, 3, 0, .null, [], []),
  (169, .invokevirtual 108, 14, 157, 2, .int 0, [], [1306, 96, 1309, 1308, 42]),
  (172, .goto 4, 3, 176, 0, .null, [], []),
  (175, .iconst (-1), 1, 0, 0, .int (-1), [], []),
  (176, .ireturn, 1, 0, 0, .int 0, [], []),
  (177, .iload_n 1, 1, 1, 0, .null, [], []),
  (178, .ifCond .ne 25, 3, 203, 0, .null, [], []),
  (181, .iload_n 3, 1, 3, 0, .null, [], []),
  (182, .i2l, 1, 0, 0, .null, [], []),
  (183, .lconst 0, 1, 0, 0, .long 0, [], []),
  (184, .ldc2_w 116, 3, 0, 0, .long 4, [], [1312]),
  (187, .invokestatic 93, 3, 155, 3, .int 0, [], [1286, 96, 1288, 1287]),
  (190, .ifCond .eq 13, 3, 203, 0, .null, [], []),
  (193, .aload_n 0, 1, 0, 0, .null, [], []),
  (194, .bipush 25, 2, 0, 0, .int 25, [], []),
  (196, .iload_n 3, 1, 3, 0, .null, [], []),
  (197, .invokevirtual 108, 14, 157, 2, .int 0, [], [1306, 96, 1309, 1308, 42]),
  (200, .goto 4, 3, 204, 0, .null, [], []),
  (203, .iconst (-1), 1, 0, 0, .int (-1), [], []),
  (204, .ireturn, 1, 0, 0, .int 0, [], []),
  (205, .iload_n 1, 1, 1, 0, .null, [], []),
  (206, .ifCond .ne 25, 3, 231, 0, .null, [], []),
  (209, .iload_n 3, 1, 3, 0, .null, [], []),
  (210, .i2l, 1, 0, 0, .null, [], []),
  (211, .lconst 1, 1, 0, 0, .long 1, [], []),
  (212, .ldc2_w 97, 3, 0, 0, .long 99, [], [1285]),
  (215, .invokestatic 93, 3, 155, 3, .int 0, [], [1286, 96, 1288, 1287]),
  (218, .ifCond .eq 13, 3, 231, 0, .null, [], []),
  (221, .aload_n 0, 1, 0, 0, .null, [], []),
  (222, .bipush 26, 2, 0, 0, .int 26, [], []),
  (224, .iload_n 3, 1, 3, 0, .null, [], []),
  (225, .invokevirtual 108, 14, 157, 2, .int 0, [], [1306, 96, 1309, 1308, 42]),
  (228, .goto 4, 3, 232, 0, .null, [], []),
  (231, .iconst (-1), 1, 0, 0, .int (-1), [], []),
  (232, .ireturn, 1, 0, 0, .int 0, [], []),
  (233, .iconst (-1), 1, 0, 0, .int (-1), [], []),
  (234, .ireturn, 1, 0, 0, .int 0, [], [])],
  [], 4)
/-- 164: LeastPaysModel.ofGuest(II)I -/
def kX11_ofGuest : j_K := ([
  (0, .iload_n 2, 1, 2, 0, .null, [], []),
  (1, .tableswitch 47 4 6 #[27, 33, 40], 27, 48, 0, .null, [(4, 28), (5, 34), (6, 41)], []),
  (28, .aload_n 0, 1, 0, 0, .null, [], []),
  (29, .iload_n 1, 1, 1, 0, .null, [], []),
  (30, .invokevirtual 118, 14, 175, 1, .int 0, [], [1321, 96, 1324, 1323, 44]),
  (33, .ireturn, 1, 0, 0, .int 0, [], []),
  (34, .aload_n 0, 1, 0, 0, .null, [], []),
  (35, .getfield 25, 3, 11, 8, .null, [], [1139]),
  (38, .iload_n 1, 1, 1, 0, .null, [], []),
  (39, .iaload, 1, 0, 0, .null, [], []),
  (40, .ireturn, 1, 0, 0, .int 0, [], []),
  (41, .aload_n 0, 1, 0, 0, .null, [], []),
  (42, .getfield 22, 3, 11, 7, .null, [], [1138]),
  (45, .iload_n 1, 1, 1, 0, .null, [], []),
  (46, .iaload, 1, 0, 0, .null, [], []),
  (47, .ireturn, 1, 0, 0, .int 0, [], []),
  (48, .aload_n 0, 1, 0, 0, .null, [], []),
  (49, .getfield 9, 3, 11, 0, .null, [], [1131]),
  (52, .bipush 6, 2, 0, 0, .int 6, [], []),
  (54, .iload_n 2, 1, 2, 0, .null, [], []),
  (55, .imul, 1, 0, 0, .null, [], []),
  (56, .iload_n 1, 1, 1, 0, .null, [], []),
  (57, .iadd, 1, 0, 0, .null, [], []),
  (58, .iaload, 1, 0, 0, .null, [], []),
  (59, .ireturn, 1, 0, 0, .int 0, [], [])],
  [], 3)
/-- 165: LeastPaysModel.of(II)I -/
def kX11_of : j_K := ([
  (0, .iload_n 2, 1, 2, 0, .null, [], []),
  (1, .i2l, 1, 0, 0, .null, [], []),
  (2, .lconst 0, 1, 0, 0, .long 0, [], []),
  (3, .ldc2_w 103, 3, 0, 0, .long 6, [], [1297]),
  (6, .invokestatic 93, 3, 155, 3, .int 0, [], [1286, 96, 1288, 1287]),
  (9, .ifCond .eq 23, 3, 32, 0, .null, [], []),
  (12, .aload_n 0, 1, 0, 0, .null, [], []),
  (13, .iload_n 1, 1, 1, 0, .null, [], []),
  (14, .invokevirtual 105, 14, 160, 1, .int 0, [], [1302, 96, 1305, 1304, 41]),
  (17, .ifCond .eq 12, 3, 29, 0, .null, [], []),
  (20, .aload_n 0, 1, 0, 0, .null, [], []),
  (21, .iload_n 1, 1, 1, 0, .null, [], []),
  (22, .iload_n 2, 1, 2, 0, .null, [], []),
  (23, .invokevirtual 122, 14, 164, 2, .int 0, [], [1317, 96, 1320, 1319, 43]),
  (26, .goto 5, 3, 31, 0, .null, [], []),
  (29, .ldc 125, 2, 0, 0, .int (-2000000000), [], [1357]),
  (31, .ireturn, 1, 0, 0, .int 0, [], []),
  (32, .iload_n 1, 1, 1, 0, .null, [], []),
  (33, .ifCond .eq 6, 3, 39, 0, .null, [], []),
  (36, .ldc 125, 2, 0, 0, .int (-2000000000), [], [1357]),
  (38, .ireturn, 1, 0, 0, .int 0, [], []),
  (39, .iconst 0, 1, 0, 0, .int 0, [], []),
  (40, .istore_n 3, 1, 3, 0, .null, [], []),
  (41, .iconst 0, 1, 0, 0, .int 0, [], []),
  (42, .istore 4, 2, 4, 0, .null, [], []),
  (44, .iload 4, 2, 4, 0, .null, [], []),
  (46, .aload_n 0, 1, 0, 0, .null, [], []),
  (47, .getfield 90, 3, 11, 6, .int 0, [], [1137]),
  (50, .if_icmp .ge 22, 3, 72, 0, .null, [], []),
  (53, .iload_n 3, 1, 3, 0, .null, [], []),
  (54, .aload_n 0, 1, 0, 0, .null, [], []),
  (55, .getfield 9, 3, 11, 0, .null, [], [1131]),
  (58, .bipush 6, 2, 0, 0, .int 6, [], []),
  (60, .iload 4, 2, 4, 0, .null, [], []),
  (62, .iadd, 1, 0, 0, .null, [], []),
  (63, .iaload, 1, 0, 0, .null, [], []),
  (64, .iadd, 1, 0, 0, .null, [], []),
  (65, .istore_n 3, 1, 3, 0, .null, [], []),
  (66, .iinc 4 1, 3, 4, 0, .int 1, [], []),
  (69, .goto (-25), 3, 44, 0, .null, [], []),
  (72, .aload_n 0, 1, 0, 0, .null, [], []),
  (73, .getfield 9, 3, 11, 0, .null, [], [1131]),
  (76, .bipush 24, 2, 0, 0, .int 24, [], []),
  (78, .iaload, 1, 0, 0, .null, [], []),
  (79, .iload_n 3, 1, 3, 0, .null, [], []),
  (80, .isub, 1, 0, 0, .null, [], []),
  (81, .istore 4, 2, 4, 0, .null, [], []),
  (83, .iload_n 2, 1, 2, 0, .null, [], []),
  (84, .tableswitch 98 10 17 #[48, 48, 48, 61, 63, 75, 88, 93], 48, 182, 0, .null, [(10, 132), (11, 132), (12, 132), (13, 145), (14, 147), (15, 159), (16, 172), (17, 177)], []),
  (132, .aload_n 0, 1, 0, 0, .null, [], []),
  (133, .getfield 9, 3, 11, 0, .null, [], [1131]),
  (136, .bipush 24, 2, 0, 0, .int 24, [], []),
  (138, .iload_n 2, 1, 2, 0, .null, [], []),
  (139, .iadd, 1, 0, 0, .null, [], []),
  (140, .bipush 10, 2, 0, 0, .int 10, [], []),
  (142, .isub, 1, 0, 0, .null, [], []),
  (143, .iaload, 1, 0, 0, .null, [], []),
  (144, .ireturn, 1, 0, 0, .int 0, [], []),
  (145, .iload_n 3, 1, 3, 0, .null, [], []),
  (146, .ireturn, 1, 0, 0, .int 0, [], []),
  (147, .iload 4, 2, 4, 0, .null, [], []),
  (149, .ifCond .le 8, 3, 157, 0, .null, [], []),
  (152, .iload 4, 2, 4, 0, .null, [], []),
  (154, .goto 4, 3, 158, 0, .null, [], []),
  (157, .iconst 0, 1, 0, 0, .int 0, [], []),
  (158, .ireturn, 1, 0, 0, .int 0, [], []),
  (159, .iload 4, 2, 4, 0, .null, [], []),
  (161, .ifCond .ge 9, 3, 170, 0, .null, [], []),
  (164, .iload 4, 2, 4, 0, .null, [], []),
  (166, .ineg, 1, 0, 0, .null, [], []),
  (167, .goto 4, 3, 171, 0, .null, [], []),
  (170, .iconst 0, 1, 0, 0, .int 0, [], []),
  (171, .ireturn, 1, 0, 0, .int 0, [], []),
  (172, .aload_n 0, 1, 0, 0, .null, [], []),
  (173, .getfield 126, 3, 11, 10, .int 0, [], [1141]),
  (176, .ireturn, 1, 0, 0, .int 0, [], []),
  (177, .aload_n 0, 1, 0, 0, .null, [], []),
  (178, .getfield 129, 3, 11, 9, .int 0, [], [1140]),
  (181, .ireturn, 1, 0, 0, .int 0, [], []),
  (182, .ldc 125, 2, 0, 0, .int (-2000000000), [], [1357]),
  (184, .ireturn, 1, 0, 0, .int 0, [], [])],
  [(44, [true, false, true, true, true])], 5)
/-- 166: LeastPaysModel.think(II)I -/
def kX11_think : j_K := ([
  (0, .aload_n 0, 1, 0, 0, .null, [], []),
  (1, .iload_n 1, 1, 1, 0, .null, [], []),
  (2, .invokevirtual 105, 14, 160, 1, .int 0, [], [1302, 96, 1305, 1304, 41]),
  (5, .ifCond .eq 17, 3, 22, 0, .null, [], []),
  (8, .iload_n 2, 1, 2, 0, .null, [], []),
  (9, .i2l, 1, 0, 0, .null, [], []),
  (10, .ldc2_w 132, 3, 0, 0, .long (-1), [], [1362]),
  (13, .ldc2_w 114, 3, 0, 0, .long 599, [], [1311]),
  (16, .invokestatic 93, 3, 155, 3, .int 0, [], [1286, 96, 1288, 1287]),
  (19, .ifCond .ne 6, 3, 25, 0, .null, [], []),
  (22, .ldc 125, 2, 0, 0, .int (-2000000000), [], [1357]),
  (24, .ireturn, 1, 0, 0, .int 0, [], []),
  (25, .aload_n 0, 1, 0, 0, .null, [], []),
  (26, .getfield 22, 3, 11, 7, .null, [], [1138]),
  (29, .iload_n 1, 1, 1, 0, .null, [], []),
  (30, .iaload, 1, 0, 0, .null, [], []),
  (31, .istore_n 3, 1, 3, 0, .null, [], []),
  (32, .aload_n 0, 1, 0, 0, .null, [], []),
  (33, .getfield 22, 3, 11, 7, .null, [], [1138]),
  (36, .iload_n 1, 1, 1, 0, .null, [], []),
  (37, .iload_n 2, 1, 2, 0, .null, [], []),
  (38, .iastore, 1, 0, 0, .null, [], []),
  (39, .iload_n 3, 1, 3, 0, .null, [], []),
  (40, .ireturn, 1, 0, 0, .int 0, [], [])],
  [], 4)
/-- 167: LeastPaysModel.laysOut()V -/
def kX11_laysOut : j_K := ([
  (0, .aload_n 0, 1, 0, 0, .null, [], []),
  (1, .aload_n 0, 1, 0, 0, .null, [], []),
  (2, .getfield 90, 3, 11, 6, .int 0, [], [1137]),
  (5, .putfield 134, 3, 11, 12, .int 0, [], [1143]),
  (8, .iconst 0, 1, 0, 0, .int 0, [], []),
  (9, .istore_n 1, 1, 1, 0, .null, [], []),
  (10, .iload_n 1, 1, 1, 0, .null, [], []),
  (11, .aload_n 0, 1, 0, 0, .null, [], []),
  (12, .getfield 90, 3, 11, 6, .int 0, [], [1137]),
  (15, .if_icmp .ge 24, 3, 39, 0, .null, [], []),
  (18, .aload_n 0, 1, 0, 0, .null, [], []),
  (19, .getfield 28, 3, 11, 11, .null, [], [1142]),
  (22, .iload_n 1, 1, 1, 0, .null, [], []),
  (23, .aload_n 0, 1, 0, 0, .null, [], []),
  (24, .getfield 9, 3, 11, 0, .null, [], [1131]),
  (27, .bipush 6, 2, 0, 0, .int 6, [], []),
  (29, .iload_n 1, 1, 1, 0, .null, [], []),
  (30, .iadd, 1, 0, 0, .null, [], []),
  (31, .iaload, 1, 0, 0, .null, [], []),
  (32, .iastore, 1, 0, 0, .null, [], []),
  (33, .iinc 1 1, 3, 1, 0, .int 1, [], []),
  (36, .goto (-26), 3, 10, 0, .null, [], []),
  (39, .return_, 1, 0, 0, .null, [], [])],
  [(10, [true, true])], 2)
/-- 168: LeastPaysModel.leastBut(I)I -/
def kX11_leastBut : j_K := ([
  (0, .iconst (-1), 1, 0, 0, .int (-1), [], []),
  (1, .istore_n 2, 1, 2, 0, .null, [], []),
  (2, .iconst 0, 1, 0, 0, .int 0, [], []),
  (3, .istore_n 3, 1, 3, 0, .null, [], []),
  (4, .iload_n 3, 1, 3, 0, .null, [], []),
  (5, .aload_n 0, 1, 0, 0, .null, [], []),
  (6, .getfield 134, 3, 11, 12, .int 0, [], [1143]),
  (9, .if_icmp .ge 39, 3, 48, 0, .null, [], []),
  (12, .iload_n 3, 1, 3, 0, .null, [], []),
  (13, .iload_n 1, 1, 1, 0, .null, [], []),
  (14, .if_icmp .eq 26, 3, 40, 0, .null, [], []),
  (17, .iload_n 2, 1, 2, 0, .null, [], []),
  (18, .ifCond .lt 18, 3, 36, 0, .null, [], []),
  (21, .aload_n 0, 1, 0, 0, .null, [], []),
  (22, .getfield 28, 3, 11, 11, .null, [], [1142]),
  (25, .iload_n 3, 1, 3, 0, .null, [], []),
  (26, .iaload, 1, 0, 0, .null, [], []),
  (27, .aload_n 0, 1, 0, 0, .null, [], []),
  (28, .getfield 28, 3, 11, 11, .null, [], [1142]),
  (31, .iload_n 2, 1, 2, 0, .null, [], []),
  (32, .iaload, 1, 0, 0, .null, [], []),
  (33, .if_icmp .ge 7, 3, 40, 0, .null, [], []),
  (36, .iload_n 3, 1, 3, 0, .null, [], []),
  (37, .goto 4, 3, 41, 0, .null, [], []),
  (40, .iload_n 2, 1, 2, 0, .null, [], []),
  (41, .istore_n 2, 1, 2, 0, .null, [], []),
  (42, .iinc 3 1, 3, 3, 0, .int 1, [], []),
  (45, .goto (-41), 3, 4, 0, .null, [], []),
  (48, .iload_n 2, 1, 2, 0, .null, [], []),
  (49, .ireturn, 1, 0, 0, .int 0, [], [])],
  [(4, [true, true, true, true])], 4)
/-- 169: LeastPaysModel.alikePay(I)V -/
def kX11_alikePay : j_K := ([
  (0, .aload_n 0, 1, 0, 0, .null, [], []),
  (1, .getfield 28, 3, 11, 11, .null, [], [1142]),
  (4, .aload_n 0, 1, 0, 0, .null, [], []),
  (5, .iconst (-1), 1, 0, 0, .int (-1), [], []),
  (6, .invokevirtual 137, 14, 168, 1, .int 0, [], [1337, 96, 1340, 1339, 48]),
  (9, .iaload, 1, 0, 0, .null, [], []),
  (10, .istore_n 2, 1, 2, 0, .null, [], []),
  (11, .iconst 0, 1, 0, 0, .int 0, [], []),
  (12, .istore_n 3, 1, 3, 0, .null, [], []),
  (13, .iconst 0, 1, 0, 0, .int 0, [], []),
  (14, .istore 4, 2, 4, 0, .null, [], []),
  (16, .iload 4, 2, 4, 0, .null, [], []),
  (18, .aload_n 0, 1, 0, 0, .null, [], []),
  (19, .getfield 134, 3, 11, 12, .int 0, [], [1143]),
  (22, .if_icmp .ge 28, 3, 50, 0, .null, [], []),
  (25, .iload_n 3, 1, 3, 0, .null, [], []),
  (26, .aload_n 0, 1, 0, 0, .null, [], []),
  (27, .getfield 28, 3, 11, 11, .null, [], [1142]),
  (30, .iload 4, 2, 4, 0, .null, [], []),
  (32, .iaload, 1, 0, 0, .null, [], []),
  (33, .iload_n 2, 1, 2, 0, .null, [], []),
  (34, .if_icmp .ne 7, 3, 41, 0, .null, [], []),
  (37, .iconst 1, 1, 0, 0, .int 1, [], []),
  (38, .goto 4, 3, 42, 0, .null, [], []),
  (41, .iconst 0, 1, 0, 0, .int 0, [], []),
  (42, .iadd, 1, 0, 0, .null, [], []),
  (43, .istore_n 3, 1, 3, 0, .null, [], []),
  (44, .iinc 4 1, 3, 4, 0, .int 1, [], []),
  (47, .goto (-31), 3, 16, 0, .null, [], []),
  (50, .iload_n 1, 1, 1, 0, .null, [], []),
  (51, .iload_n 3, 1, 3, 0, .null, [], []),
  (52, .irem, 1, 0, 0, .null, [], []),
  (53, .istore 4, 2, 4, 0, .null, [], []),
  (55, .iconst 0, 1, 0, 0, .int 0, [], []),
  (56, .istore 5, 2, 5, 0, .null, [], []),
  (58, .iload 5, 2, 5, 0, .null, [], []),
  (60, .aload_n 0, 1, 0, 0, .null, [], []),
  (61, .getfield 134, 3, 11, 12, .int 0, [], [1143]),
  (64, .if_icmp .ge 44, 3, 108, 0, .null, [], []),
  (67, .aload_n 0, 1, 0, 0, .null, [], []),
  (68, .getfield 28, 3, 11, 11, .null, [], [1142]),
  (71, .iload 5, 2, 5, 0, .null, [], []),
  (73, .iaload, 1, 0, 0, .null, [], []),
  (74, .iload_n 2, 1, 2, 0, .null, [], []),
  (75, .if_icmp .ne 27, 3, 102, 0, .null, [], []),
  (78, .aload_n 0, 1, 0, 0, .null, [], []),
  (79, .getfield 31, 3, 11, 13, .null, [], [1144]),
  (82, .iload 5, 2, 5, 0, .null, [], []),
  (84, .iload_n 1, 1, 1, 0, .null, [], []),
  (85, .iload_n 3, 1, 3, 0, .null, [], []),
  (86, .idiv, 1, 0, 0, .null, [], []),
  (87, .iload 4, 2, 4, 0, .null, [], []),
  (89, .ifCond .le 7, 3, 96, 0, .null, [], []),
  (92, .iconst 1, 1, 0, 0, .int 1, [], []),
  (93, .goto 4, 3, 97, 0, .null, [], []),
  (96, .iconst 0, 1, 0, 0, .int 0, [], []),
  (97, .iadd, 1, 0, 0, .null, [], []),
  (98, .iastore, 1, 0, 0, .null, [], []),
  (99, .iinc 4 (-1), 3, 4, 0, .int (-1), [], []),
  (102, .iinc 5 1, 3, 5, 0, .int 1, [], []),
  (105, .goto (-47), 3, 58, 0, .null, [], []),
  (108, .return_, 1, 0, 0, .null, [], [])],
  [(16, [true, true, true, true, true, false]), (58, [true, true, true, true, true, true])], 6)
/-- 170: LeastPaysModel.twoPay(I)V -/
def kX11_twoPay : j_K := ([
  (0, .aload_n 0, 1, 0, 0, .null, [], []),
  (1, .iconst (-1), 1, 0, 0, .int (-1), [], []),
  (2, .invokevirtual 137, 14, 168, 1, .int 0, [], [1337, 96, 1340, 1339, 48]),
  (5, .istore_n 2, 1, 2, 0, .null, [], []),
  (6, .aload_n 0, 1, 0, 0, .null, [], []),
  (7, .iload_n 2, 1, 2, 0, .null, [], []),
  (8, .invokevirtual 137, 14, 168, 1, .int 0, [], [1337, 96, 1340, 1339, 48]),
  (11, .istore_n 3, 1, 3, 0, .null, [], []),
  (12, .aload_n 0, 1, 0, 0, .null, [], []),
  (13, .getfield 31, 3, 11, 13, .null, [], [1144]),
  (16, .iload_n 2, 1, 2, 0, .null, [], []),
  (17, .iload_n 3, 1, 3, 0, .null, [], []),
  (18, .ifCond .ge 7, 3, 25, 0, .null, [], []),
  (21, .iload_n 1, 1, 1, 0, .null, [], []),
  (22, .goto 8, 3, 30, 0, .null, [], []),
  (25, .iload_n 1, 1, 1, 0, .null, [], []),
  (26, .iload_n 1, 1, 1, 0, .null, [], []),
  (27, .iconst 2, 1, 0, 0, .int 2, [], []),
  (28, .idiv, 1, 0, 0, .null, [], []),
  (29, .isub, 1, 0, 0, .null, [], []),
  (30, .iastore, 1, 0, 0, .null, [], []),
  (31, .iload_n 3, 1, 3, 0, .null, [], []),
  (32, .ifCond .lt 12, 3, 44, 0, .null, [], []),
  (35, .aload_n 0, 1, 0, 0, .null, [], []),
  (36, .getfield 31, 3, 11, 13, .null, [], [1144]),
  (39, .iload_n 3, 1, 3, 0, .null, [], []),
  (40, .iload_n 1, 1, 1, 0, .null, [], []),
  (41, .iconst 2, 1, 0, 0, .int 2, [], []),
  (42, .idiv, 1, 0, 0, .null, [], []),
  (43, .iastore, 1, 0, 0, .null, [], []),
  (44, .return_, 1, 0, 0, .null, [], [])],
  [], 4)
/-- 171: LeastPaysModel.givesBack(I)V -/
def kX11_givesBack : j_K := ([
  (0, .iconst 0, 1, 0, 0, .int 0, [], []),
  (1, .istore_n 2, 1, 2, 0, .null, [], []),
  (2, .iconst 1, 1, 0, 0, .int 1, [], []),
  (3, .istore_n 3, 1, 3, 0, .null, [], []),
  (4, .iload_n 3, 1, 3, 0, .null, [], []),
  (5, .aload_n 0, 1, 0, 0, .null, [], []),
  (6, .getfield 134, 3, 11, 12, .int 0, [], [1143]),
  (9, .if_icmp .ge 30, 3, 39, 0, .null, [], []),
  (12, .aload_n 0, 1, 0, 0, .null, [], []),
  (13, .getfield 28, 3, 11, 11, .null, [], [1142]),
  (16, .iload_n 3, 1, 3, 0, .null, [], []),
  (17, .iaload, 1, 0, 0, .null, [], []),
  (18, .aload_n 0, 1, 0, 0, .null, [], []),
  (19, .getfield 28, 3, 11, 11, .null, [], [1142]),
  (22, .iload_n 2, 1, 2, 0, .null, [], []),
  (23, .iaload, 1, 0, 0, .null, [], []),
  (24, .if_icmp .le 7, 3, 31, 0, .null, [], []),
  (27, .iload_n 3, 1, 3, 0, .null, [], []),
  (28, .goto 4, 3, 32, 0, .null, [], []),
  (31, .iload_n 2, 1, 2, 0, .null, [], []),
  (32, .istore_n 2, 1, 2, 0, .null, [], []),
  (33, .iinc 3 1, 3, 3, 0, .int 1, [], []),
  (36, .goto (-32), 3, 4, 0, .null, [], []),
  (39, .aload_n 0, 1, 0, 0, .null, [], []),
  (40, .getfield 34, 3, 11, 14, .null, [], [1145]),
  (43, .iload_n 2, 1, 2, 0, .null, [], []),
  (44, .iload_n 1, 1, 1, 0, .null, [], []),
  (45, .aload_n 0, 1, 0, 0, .null, [], []),
  (46, .getfield 28, 3, 11, 11, .null, [], [1142]),
  (49, .iload_n 2, 1, 2, 0, .null, [], []),
  (50, .iaload, 1, 0, 0, .null, [], []),
  (51, .if_icmp .ge 7, 3, 58, 0, .null, [], []),
  (54, .iload_n 1, 1, 1, 0, .null, [], []),
  (55, .goto 9, 3, 64, 0, .null, [], []),
  (58, .aload_n 0, 1, 0, 0, .null, [], []),
  (59, .getfield 28, 3, 11, 11, .null, [], [1142]),
  (62, .iload_n 2, 1, 2, 0, .null, [], []),
  (63, .iaload, 1, 0, 0, .null, [], []),
  (64, .iastore, 1, 0, 0, .null, [], []),
  (65, .aload_n 0, 1, 0, 0, .null, [], []),
  (66, .iload_n 1, 1, 1, 0, .null, [], []),
  (67, .aload_n 0, 1, 0, 0, .null, [], []),
  (68, .getfield 34, 3, 11, 14, .null, [], [1145]),
  (71, .iload_n 2, 1, 2, 0, .null, [], []),
  (72, .iaload, 1, 0, 0, .null, [], []),
  (73, .isub, 1, 0, 0, .null, [], []),
  (74, .putfield 140, 3, 11, 15, .int 0, [], [1146]),
  (77, .return_, 1, 0, 0, .null, [], [])],
  [(4, [true, true, true, true])], 4)
/-- 172: LeastPaysModel.nightBy(II)V -/
def kX11_nightBy : j_K := ([
  (0, .iconst 0, 1, 0, 0, .int 0, [], []),
  (1, .istore_n 3, 1, 3, 0, .null, [], []),
  (2, .iconst 0, 1, 0, 0, .int 0, [], []),
  (3, .istore 4, 2, 4, 0, .null, [], []),
  (5, .iload 4, 2, 4, 0, .null, [], []),
  (7, .aload_n 0, 1, 0, 0, .null, [], []),
  (8, .getfield 134, 3, 11, 12, .int 0, [], [1143]),
  (11, .if_icmp .ge 35, 3, 46, 0, .null, [], []),
  (14, .iload_n 3, 1, 3, 0, .null, [], []),
  (15, .aload_n 0, 1, 0, 0, .null, [], []),
  (16, .getfield 28, 3, 11, 11, .null, [], [1142]),
  (19, .iload 4, 2, 4, 0, .null, [], []),
  (21, .iaload, 1, 0, 0, .null, [], []),
  (22, .iadd, 1, 0, 0, .null, [], []),
  (23, .istore_n 3, 1, 3, 0, .null, [], []),
  (24, .aload_n 0, 1, 0, 0, .null, [], []),
  (25, .getfield 31, 3, 11, 13, .null, [], [1144]),
  (28, .iload 4, 2, 4, 0, .null, [], []),
  (30, .iconst 0, 1, 0, 0, .int 0, [], []),
  (31, .iastore, 1, 0, 0, .null, [], []),
  (32, .aload_n 0, 1, 0, 0, .null, [], []),
  (33, .getfield 34, 3, 11, 14, .null, [], [1145]),
  (36, .iload 4, 2, 4, 0, .null, [], []),
  (38, .iconst 0, 1, 0, 0, .int 0, [], []),
  (39, .iastore, 1, 0, 0, .null, [], []),
  (40, .iinc 4 1, 3, 4, 0, .int 1, [], []),
  (43, .goto (-38), 3, 5, 0, .null, [], []),
  (46, .iload_n 1, 1, 1, 0, .null, [], []),
  (47, .iload_n 3, 1, 3, 0, .null, [], []),
  (48, .if_icmp .le 9, 3, 57, 0, .null, [], []),
  (51, .iload_n 1, 1, 1, 0, .null, [], []),
  (52, .iload_n 3, 1, 3, 0, .null, [], []),
  (53, .isub, 1, 0, 0, .null, [], []),
  (54, .goto 4, 3, 58, 0, .null, [], []),
  (57, .iconst 0, 1, 0, 0, .int 0, [], []),
  (58, .istore 4, 2, 4, 0, .null, [], []),
  (60, .iload_n 3, 1, 3, 0, .null, [], []),
  (61, .iload_n 1, 1, 1, 0, .null, [], []),
  (62, .if_icmp .le 9, 3, 71, 0, .null, [], []),
  (65, .iload_n 3, 1, 3, 0, .null, [], []),
  (66, .iload_n 1, 1, 1, 0, .null, [], []),
  (67, .isub, 1, 0, 0, .null, [], []),
  (68, .goto 4, 3, 72, 0, .null, [], []),
  (71, .iconst 0, 1, 0, 0, .int 0, [], []),
  (72, .istore 5, 2, 5, 0, .null, [], []),
  (74, .aload_n 0, 1, 0, 0, .null, [], []),
  (75, .iload 5, 2, 5, 0, .null, [], []),
  (77, .putfield 140, 3, 11, 15, .int 0, [], [1146]),
  (80, .aload_n 0, 1, 0, 0, .null, [], []),
  (81, .getfield 134, 3, 11, 12, .int 0, [], [1143]),
  (84, .ifCond .ne 4, 3, 88, 0, .null, [], []),
  (87, .return_, 1, 0, 0, .null, [], []),
  (88, .aload_n 0, 1, 0, 0, .null, [], []),
  (89, .iconst (-1), 1, 0, 0, .int (-1), [], []),
  (90, .invokevirtual 137, 14, 168, 1, .int 0, [], [1337, 96, 1340, 1339, 48]),
  (93, .istore 6, 2, 6, 0, .null, [], []),
  (95, .iload_n 2, 1, 2, 0, .null, [], []),
  (96, .ifCond .ne 12, 3, 108, 0, .null, [], []),
  (99, .aload_n 0, 1, 0, 0, .null, [], []),
  (100, .iload 4, 2, 4, 0, .null, [], []),
  (102, .invokevirtual 143, 14, 169, 1, .null, [], [1341, 96, 1344, 1343, 49]),
  (105, .goto 68, 3, 173, 0, .null, [], []),
  (108, .iload_n 2, 1, 2, 0, .null, [], []),
  (109, .iconst 2, 1, 0, 0, .int 2, [], []),
  (110, .if_icmp .ne 12, 3, 122, 0, .null, [], []),
  (113, .aload_n 0, 1, 0, 0, .null, [], []),
  (114, .iload 4, 2, 4, 0, .null, [], []),
  (116, .invokevirtual 147, 14, 170, 1, .null, [], [1345, 96, 1348, 1347, 50]),
  (119, .goto 54, 3, 173, 0, .null, [], []),
  (122, .aload_n 0, 1, 0, 0, .null, [], []),
  (123, .getfield 31, 3, 11, 13, .null, [], [1144]),
  (126, .iload 6, 2, 6, 0, .null, [], []),
  (128, .iload 4, 2, 4, 0, .null, [], []),
  (130, .iload_n 2, 1, 2, 0, .null, [], []),
  (131, .iconst 3, 1, 0, 0, .int 3, [], []),
  (132, .if_icmp .ne 13, 3, 145, 0, .null, [], []),
  (135, .aload_n 0, 1, 0, 0, .null, [], []),
  (136, .getfield 28, 3, 11, 11, .null, [], [1142]),
  (139, .iload 6, 2, 6, 0, .null, [], []),
  (141, .iaload, 1, 0, 0, .null, [], []),
  (142, .goto 4, 3, 146, 0, .null, [], []),
  (145, .iconst 0, 1, 0, 0, .int 0, [], []),
  (146, .iadd, 1, 0, 0, .null, [], []),
  (147, .iastore, 1, 0, 0, .null, [], []),
  (148, .aload_n 0, 1, 0, 0, .null, [], []),
  (149, .dup, 1, 0, 0, .null, [], []),
  (150, .getfield 140, 3, 11, 15, .int 0, [], [1146]),
  (153, .iload_n 2, 1, 2, 0, .null, [], []),
  (154, .iconst 3, 1, 0, 0, .int 3, [], []),
  (155, .if_icmp .ne 13, 3, 168, 0, .null, [], []),
  (158, .aload_n 0, 1, 0, 0, .null, [], []),
  (159, .getfield 28, 3, 11, 11, .null, [], [1142]),
  (162, .iload 6, 2, 6, 0, .null, [], []),
  (164, .iaload, 1, 0, 0, .null, [], []),
  (165, .goto 4, 3, 169, 0, .null, [], []),
  (168, .iconst 0, 1, 0, 0, .int 0, [], []),
  (169, .iadd, 1, 0, 0, .null, [], []),
  (170, .putfield 140, 3, 11, 15, .int 0, [], [1146]),
  (173, .iload_n 2, 1, 2, 0, .null, [], []),
  (174, .iconst 4, 1, 0, 0, .int 4, [], []),
  (175, .if_icmp .ne 9, 3, 184, 0, .null, [], []),
  (178, .aload_n 0, 1, 0, 0, .null, [], []),
  (179, .iload 5, 2, 5, 0, .null, [], []),
  (181, .invokevirtual 150, 14, 171, 1, .null, [], [1349, 96, 1352, 1351, 51]),
  (184, .return_, 1, 0, 0, .null, [], [])],
  [(5, [true, true, true, true, true, false, false]), (72, [true, false, true, false, true, false, false]), (146, [true, false, true, false, false, true, true])], 7)
/-- 173: LeastPaysModel.nightAsIs()V -/
def kX11_nightAsIs : j_K := ([
  (0, .aload_n 0, 1, 0, 0, .null, [], []),
  (1, .aload_n 0, 1, 0, 0, .null, [], []),
  (2, .getfield 9, 3, 11, 0, .null, [], [1131]),
  (5, .bipush 24, 2, 0, 0, .int 24, [], []),
  (7, .iaload, 1, 0, 0, .null, [], []),
  (8, .aload_n 0, 1, 0, 0, .null, [], []),
  (9, .getfield 9, 3, 11, 0, .null, [], [1131]),
  (12, .bipush 25, 2, 0, 0, .int 25, [], []),
  (14, .iaload, 1, 0, 0, .null, [], []),
  (15, .invokevirtual 153, 14, 172, 2, .null, [], [1333, 96, 1336, 1335, 47]),
  (18, .return_, 1, 0, 0, .null, [], [])],
  [], 1)
/-- 174: LeastPaysModel.costIn(I)I -/
def kX11_costIn : j_K := ([
  (0, .aload_n 0, 1, 0, 0, .null, [], []),
  (1, .getfield 28, 3, 11, 11, .null, [], [1142]),
  (4, .iload_n 1, 1, 1, 0, .null, [], []),
  (5, .iaload, 1, 0, 0, .null, [], []),
  (6, .aload_n 0, 1, 0, 0, .null, [], []),
  (7, .getfield 31, 3, 11, 13, .null, [], [1144]),
  (10, .iload_n 1, 1, 1, 0, .null, [], []),
  (11, .iaload, 1, 0, 0, .null, [], []),
  (12, .iadd, 1, 0, 0, .null, [], []),
  (13, .aload_n 0, 1, 0, 0, .null, [], []),
  (14, .getfield 34, 3, 11, 14, .null, [], [1145]),
  (17, .iload_n 1, 1, 1, 0, .null, [], []),
  (18, .iaload, 1, 0, 0, .null, [], []),
  (19, .isub, 1, 0, 0, .null, [], []),
  (20, .ireturn, 1, 0, 0, .int 0, [], [])],
  [], 2)
/-- 175: LeastPaysModel.costNow(I)I -/
def kX11_costNow : j_K := ([
  (0, .aload_n 0, 1, 0, 0, .null, [], []),
  (1, .invokevirtual 157, 14, 167, 0, .null, [], [1325, 96, 1328, 1327, 45]),
  (4, .aload_n 0, 1, 0, 0, .null, [], []),
  (5, .invokevirtual 160, 14, 173, 0, .null, [], [1329, 96, 1332, 1331, 46]),
  (8, .aload_n 0, 1, 0, 0, .null, [], []),
  (9, .iload_n 1, 1, 1, 0, .null, [], []),
  (10, .invokevirtual 163, 14, 174, 1, .int 0, [], [1353, 96, 1356, 1355, 52]),
  (13, .ireturn, 1, 0, 0, .int 0, [], [])],
  [], 2)
/-- 176: LeastPaysModel.costBy(II)I -/
def kX11_costBy : j_K := ([
  (0, .aload_n 0, 1, 0, 0, .null, [], []),
  (1, .getfield 28, 3, 11, 11, .null, [], [1142]),
  (4, .iload_n 1, 1, 1, 0, .null, [], []),
  (5, .iaload, 1, 0, 0, .null, [], []),
  (6, .istore_n 3, 1, 3, 0, .null, [], []),
  (7, .aload_n 0, 1, 0, 0, .null, [], []),
  (8, .getfield 28, 3, 11, 11, .null, [], [1142]),
  (11, .iload_n 1, 1, 1, 0, .null, [], []),
  (12, .iload_n 2, 1, 2, 0, .null, [], []),
  (13, .iastore, 1, 0, 0, .null, [], []),
  (14, .aload_n 0, 1, 0, 0, .null, [], []),
  (15, .invokevirtual 160, 14, 173, 0, .null, [], [1329, 96, 1332, 1331, 46]),
  (18, .aload_n 0, 1, 0, 0, .null, [], []),
  (19, .iload_n 1, 1, 1, 0, .null, [], []),
  (20, .invokevirtual 163, 14, 174, 1, .int 0, [], [1353, 96, 1356, 1355, 52]),
  (23, .istore 4, 2, 4, 0, .null, [], []),
  (25, .aload_n 0, 1, 0, 0, .null, [], []),
  (26, .getfield 28, 3, 11, 11, .null, [], [1142]),
  (29, .iload_n 1, 1, 1, 0, .null, [], []),
  (30, .iload_n 3, 1, 3, 0, .null, [], []),
  (31, .iastore, 1, 0, 0, .null, [], []),
  (32, .iload 4, 2, 4, 0, .null, [], []),
  (34, .ireturn, 1, 0, 0, .int 0, [], [])],
  [], 5)
/-- 177: LeastPaysModel.leastCost(I)I -/
def kX11_leastCost : j_K := ([
  (0, .iconst (-1), 1, 0, 0, .int (-1), [], []),
  (1, .istore_n 2, 1, 2, 0, .null, [], []),
  (2, .iconst 0, 1, 0, 0, .int 0, [], []),
  (3, .istore_n 3, 1, 3, 0, .null, [], []),
  (4, .iload_n 3, 1, 3, 0, .null, [], []),
  (5, .aload_n 0, 1, 0, 0, .null, [], []),
  (6, .getfield 9, 3, 11, 0, .null, [], [1131]),
  (9, .iload_n 1, 1, 1, 0, .null, [], []),
  (10, .iaload, 1, 0, 0, .null, [], []),
  (11, .if_icmp .gt 42, 3, 53, 0, .null, [], []),
  (14, .aload_n 0, 1, 0, 0, .null, [], []),
  (15, .iload_n 1, 1, 1, 0, .null, [], []),
  (16, .iload_n 3, 1, 3, 0, .null, [], []),
  (17, .invokevirtual 166, 14, 176, 2, .int 0, [], [1371, 96, 1374, 1373, 54]),
  (20, .istore 4, 2, 4, 0, .null, [], []),
  (22, .iload_n 2, 1, 2, 0, .null, [], []),
  (23, .ifCond .lt 9, 3, 32, 0, .null, [], []),
  (26, .iload 4, 2, 4, 0, .null, [], []),
  (28, .iload_n 2, 1, 2, 0, .null, [], []),
  (29, .if_icmp .ge 11, 3, 40, 0, .null, [], []),
  (32, .iload 4, 2, 4, 0, .null, [], []),
  (34, .istore_n 2, 1, 2, 0, .null, [], []),
  (35, .aload_n 0, 1, 0, 0, .null, [], []),
  (36, .iload_n 3, 1, 3, 0, .null, [], []),
  (37, .putfield 169, 3, 11, 16, .int 0, [], [1147]),
  (40, .iload_n 3, 1, 3, 0, .null, [], []),
  (41, .aload_n 0, 1, 0, 0, .null, [], []),
  (42, .getfield 9, 3, 11, 0, .null, [], [1131]),
  (45, .bipush 26, 2, 0, 0, .int 26, [], []),
  (47, .iaload, 1, 0, 0, .null, [], []),
  (48, .iadd, 1, 0, 0, .null, [], []),
  (49, .istore_n 3, 1, 3, 0, .null, [], []),
  (50, .goto (-46), 3, 4, 0, .null, [], []),
  (53, .iload_n 2, 1, 2, 0, .null, [], []),
  (54, .ireturn, 1, 0, 0, .int 0, [], [])],
  [(4, [true, true, true, true, false])], 5)
/-- 178: LeastPaysModel.putIn(II)I -/
def kX11_putIn : j_K := ([
  (0, .aload_n 0, 1, 0, 0, .null, [], []),
  (1, .iload_n 1, 1, 1, 0, .null, [], []),
  (2, .invokevirtual 105, 14, 160, 1, .int 0, [], [1302, 96, 1305, 1304, 41]),
  (5, .ifCond .eq 13, 3, 18, 0, .null, [], []),
  (8, .iload_n 2, 1, 2, 0, .null, [], []),
  (9, .i2l, 1, 0, 0, .null, [], []),
  (10, .lconst 0, 1, 0, 0, .long 0, [], []),
  (11, .lconst 1, 1, 0, 0, .long 1, [], []),
  (12, .invokestatic 93, 3, 155, 3, .int 0, [], [1286, 96, 1288, 1287]),
  (15, .ifCond .ne 6, 3, 21, 0, .null, [], []),
  (18, .ldc 125, 2, 0, 0, .int (-2000000000), [], [1357]),
  (20, .ireturn, 1, 0, 0, .int 0, [], []),
  (21, .aload_n 0, 1, 0, 0, .null, [], []),
  (22, .invokevirtual 157, 14, 167, 0, .null, [], [1325, 96, 1328, 1327, 45]),
  (25, .aload_n 0, 1, 0, 0, .null, [], []),
  (26, .iload_n 1, 1, 1, 0, .null, [], []),
  (27, .invokevirtual 172, 14, 177, 1, .int 0, [], [1367, 96, 1370, 1369, 53]),
  (30, .istore_n 3, 1, 3, 0, .null, [], []),
  (31, .iload_n 2, 1, 2, 0, .null, [], []),
  (32, .ifCond .ne 10, 3, 42, 0, .null, [], []),
  (35, .aload_n 0, 1, 0, 0, .null, [], []),
  (36, .getfield 169, 3, 11, 16, .int 0, [], [1147]),
  (39, .goto 4, 3, 43, 0, .null, [], []),
  (42, .iload_n 3, 1, 3, 0, .null, [], []),
  (43, .ireturn, 1, 0, 0, .int 0, [], [])],
  [], 4)
/-- 179: LeastPaysModel.common(JJ)J -/
def kX11_common : j_K := ([
  (0, .lload_n 0, 1, 0, 0, .null, [], []),
  (1, .lstore 4, 2, 4, 0, .null, [], []),
  (3, .lload_n 2, 1, 2, 0, .null, [], []),
  (4, .lstore 6, 2, 6, 0, .null, [], []),
  (6, .lload 6, 2, 6, 0, .null, [], []),
  (8, .lconst 0, 1, 0, 0, .long 0, [], []),
  (9, .lcmp, 1, 0, 0, .null, [], []),
  (10, .ifCond .eq 21, 3, 31, 0, .null, [], []),
  (13, .lload 4, 2, 4, 0, .null, [], []),
  (15, .lload 6, 2, 6, 0, .null, [], []),
  (17, .lrem, 1, 0, 0, .null, [], []),
  (18, .lstore 8, 2, 8, 0, .null, [], []),
  (20, .lload 6, 2, 6, 0, .null, [], []),
  (22, .lstore 4, 2, 4, 0, .null, [], []),
  (24, .lload 8, 2, 8, 0, .null, [], []),
  (26, .lstore 6, 2, 6, 0, .null, [], []),
  (28, .goto (-22), 3, 6, 0, .null, [], []),
  (31, .lload 4, 2, 4, 0, .null, [], []),
  (33, .lreturn, 1, 0, 0, .null, [], [])],
  [(6, [false, false, false, false, true, false, true, false, false, false])], 10)
/-- 180: LeastPaysModel.partOf(JJI)J -/
def kX11_partOf : j_K := ([
  (0, .lload_n 0, 1, 0, 0, .null, [], []),
  (1, .lconst 0, 1, 0, 0, .long 0, [], []),
  (2, .lcmp, 1, 0, 0, .null, [], []),
  (3, .ifCond .ne 7, 3, 10, 0, .null, [], []),
  (6, .iload 4, 2, 4, 0, .null, [], []),
  (8, .i2l, 1, 0, 0, .null, [], []),
  (9, .lreturn, 1, 0, 0, .null, [], []),
  (10, .lload_n 0, 1, 0, 0, .null, [], []),
  (11, .lload_n 2, 1, 2, 0, .null, [], []),
  (12, .invokestatic 175, 3, 179, 2, .long 0, [], [1391, 96, 1393, 1392]),
  (15, .lstore 5, 2, 5, 0, .null, [], []),
  (17, .iload 4, 2, 4, 0, .null, [], []),
  (19, .ifCond .ne 10, 3, 29, 0, .null, [], []),
  (22, .lload_n 0, 1, 0, 0, .null, [], []),
  (23, .lload 5, 2, 5, 0, .null, [], []),
  (25, .ldiv, 1, 0, 0, .null, [], []),
  (26, .goto 7, 3, 33, 0, .null, [], []),
  (29, .lload_n 2, 1, 2, 0, .null, [], []),
  (30, .lload 5, 2, 5, 0, .null, [], []),
  (32, .ldiv, 1, 0, 0, .null, [], []),
  (33, .lreturn, 1, 0, 0, .null, [], [])],
  [], 7)
/-- 181: LeastPaysModel.meanOf(II)J -/
def kX11_meanOf : j_K := ([
  (0, .lconst 0, 1, 0, 0, .long 0, [], []),
  (1, .lstore_n 3, 1, 3, 0, .null, [], []),
  (2, .iconst 0, 1, 0, 0, .int 0, [], []),
  (3, .istore 5, 2, 5, 0, .null, [], []),
  (5, .iload 5, 2, 5, 0, .null, [], []),
  (7, .iconst 1, 1, 0, 0, .int 1, [], []),
  (8, .aload_n 0, 1, 0, 0, .null, [], []),
  (9, .getfield 90, 3, 11, 6, .int 0, [], [1137]),
  (12, .ishl, 1, 0, 0, .null, [], []),
  (13, .if_icmp .ge 169, 3, 182, 0, .null, [], []),
  (16, .iload 5, 2, 5, 0, .null, [], []),
  (18, .iload_n 1, 1, 1, 0, .null, [], []),
  (19, .ishr, 1, 0, 0, .null, [], []),
  (20, .iconst 1, 1, 0, 0, .int 1, [], []),
  (21, .iand, 1, 0, 0, .null, [], []),
  (22, .iconst 1, 1, 0, 0, .int 1, [], []),
  (23, .if_icmp .ne 6, 3, 29, 0, .null, [], []),
  (26, .goto 150, 3, 176, 0, .null, [], []),
  (29, .aload_n 0, 1, 0, 0, .null, [], []),
  (30, .invokevirtual 157, 14, 167, 0, .null, [], [1325, 96, 1328, 1327, 45]),
  (33, .lconst 1, 1, 0, 0, .long 1, [], []),
  (34, .lstore 6, 2, 6, 0, .null, [], []),
  (36, .iconst 0, 1, 0, 0, .int 0, [], []),
  (37, .istore 8, 2, 8, 0, .null, [], []),
  (39, .iload 8, 2, 8, 0, .null, [], []),
  (41, .aload_n 0, 1, 0, 0, .null, [], []),
  (42, .getfield 90, 3, 11, 6, .int 0, [], [1137]),
  (45, .if_icmp .ge 107, 3, 152, 0, .null, [], []),
  (48, .iload 5, 2, 5, 0, .null, [], []),
  (50, .iload 8, 2, 8, 0, .null, [], []),
  (52, .ishr, 1, 0, 0, .null, [], []),
  (53, .iconst 1, 1, 0, 0, .int 1, [], []),
  (54, .iand, 1, 0, 0, .null, [], []),
  (55, .iconst 1, 1, 0, 0, .int 1, [], []),
  (56, .if_icmp .ne 7, 3, 63, 0, .null, [], []),
  (59, .iconst 1, 1, 0, 0, .int 1, [], []),
  (60, .goto 4, 3, 64, 0, .null, [], []),
  (63, .iconst 0, 1, 0, 0, .int 0, [], []),
  (64, .istore 9, 2, 9, 0, .null, [], []),
  (66, .aload_n 0, 1, 0, 0, .null, [], []),
  (67, .getfield 28, 3, 11, 11, .null, [], [1142]),
  (70, .iload 8, 2, 8, 0, .null, [], []),
  (72, .iload 9, 2, 9, 0, .null, [], []),
  (74, .ifCond .eq 16, 3, 90, 0, .null, [], []),
  (77, .aload_n 0, 1, 0, 0, .null, [], []),
  (78, .getfield 9, 3, 11, 0, .null, [], [1131]),
  (81, .bipush 18, 2, 0, 0, .int 18, [], []),
  (83, .iload 8, 2, 8, 0, .null, [], []),
  (85, .iadd, 1, 0, 0, .null, [], []),
  (86, .iaload, 1, 0, 0, .null, [], []),
  (87, .goto 10, 3, 97, 0, .null, [], []),
  (90, .aload_n 0, 1, 0, 0, .null, [], []),
  (91, .getfield 28, 3, 11, 11, .null, [], [1142]),
  (94, .iload 8, 2, 8, 0, .null, [], []),
  (96, .iaload, 1, 0, 0, .null, [], []),
  (97, .iastore, 1, 0, 0, .null, [], []),
  (98, .lload 6, 2, 6, 0, .null, [], []),
  (100, .iload 8, 2, 8, 0, .null, [], []),
  (102, .iload_n 1, 1, 1, 0, .null, [], []),
  (103, .if_icmp .ne 7, 3, 110, 0, .null, [], []),
  (106, .lconst 1, 1, 0, 0, .long 1, [], []),
  (107, .goto 36, 3, 143, 0, .null, [], []),
  (110, .iload 9, 2, 9, 0, .null, [], []),
  (112, .ifCond .eq 17, 3, 129, 0, .null, [], []),
  (115, .aload_n 0, 1, 0, 0, .null, [], []),
  (116, .getfield 9, 3, 11, 0, .null, [], [1131]),
  (119, .bipush 12, 2, 0, 0, .int 12, [], []),
  (121, .iload 8, 2, 8, 0, .null, [], []),
  (123, .iadd, 1, 0, 0, .null, [], []),
  (124, .iaload, 1, 0, 0, .null, [], []),
  (125, .i2l, 1, 0, 0, .null, [], []),
  (126, .goto 17, 3, 143, 0, .null, [], []),
  (129, .bipush 12, 2, 0, 0, .int 12, [], []),
  (131, .aload_n 0, 1, 0, 0, .null, [], []),
  (132, .getfield 9, 3, 11, 0, .null, [], [1131]),
  (135, .bipush 12, 2, 0, 0, .int 12, [], []),
  (137, .iload 8, 2, 8, 0, .null, [], []),
  (139, .iadd, 1, 0, 0, .null, [], []),
  (140, .iaload, 1, 0, 0, .null, [], []),
  (141, .isub, 1, 0, 0, .null, [], []),
  (142, .i2l, 1, 0, 0, .null, [], []),
  (143, .lmul, 1, 0, 0, .null, [], []),
  (144, .lstore 6, 2, 6, 0, .null, [], []),
  (146, .iinc 8 1, 3, 8, 0, .int 1, [], []),
  (149, .goto (-110), 3, 39, 0, .null, [], []),
  (152, .lload_n 3, 1, 3, 0, .null, [], []),
  (153, .lload 6, 2, 6, 0, .null, [], []),
  (155, .lconst 0, 1, 0, 0, .long 0, [], []),
  (156, .lcmp, 1, 0, 0, .null, [], []),
  (157, .ifCond .ne 7, 3, 164, 0, .null, [], []),
  (160, .lconst 0, 1, 0, 0, .long 0, [], []),
  (161, .goto 13, 3, 174, 0, .null, [], []),
  (164, .lload 6, 2, 6, 0, .null, [], []),
  (166, .aload_n 0, 1, 0, 0, .null, [], []),
  (167, .iload_n 1, 1, 1, 0, .null, [], []),
  (168, .iload_n 2, 1, 2, 0, .null, [], []),
  (169, .invokevirtual 166, 14, 176, 2, .int 0, [], [1371, 96, 1374, 1373, 54]),
  (172, .i2l, 1, 0, 0, .null, [], []),
  (173, .lmul, 1, 0, 0, .null, [], []),
  (174, .ladd, 1, 0, 0, .null, [], []),
  (175, .lstore_n 3, 1, 3, 0, .null, [], []),
  (176, .iinc 5 1, 3, 5, 0, .int 1, [], []),
  (179, .goto (-174), 3, 5, 0, .null, [], []),
  (182, .lload_n 3, 1, 3, 0, .null, [], []),
  (183, .lreturn, 1, 0, 0, .null, [], [])],
  [(5, [true, true, true, true, false, true, false, false, false, false]), (39, [true, true, true, true, false, true, true, false, true, false]), (97, [true, true, true, true, false, true, true, false, true, true])], 10)
/-- 182: LeastPaysModel.wholeOf()J -/
def kX11_wholeOf : j_K := ([
  (0, .lconst 1, 1, 0, 0, .long 1, [], []),
  (1, .lstore_n 1, 1, 1, 0, .null, [], []),
  (2, .iconst 1, 1, 0, 0, .int 1, [], []),
  (3, .istore_n 3, 1, 3, 0, .null, [], []),
  (4, .iload_n 3, 1, 3, 0, .null, [], []),
  (5, .aload_n 0, 1, 0, 0, .null, [], []),
  (6, .getfield 90, 3, 11, 6, .int 0, [], [1137]),
  (9, .if_icmp .ge 15, 3, 24, 0, .null, [], []),
  (12, .lload_n 1, 1, 1, 0, .null, [], []),
  (13, .ldc2_w 112, 3, 0, 0, .long 12, [], [1310]),
  (16, .lmul, 1, 0, 0, .null, [], []),
  (17, .lstore_n 1, 1, 1, 0, .null, [], []),
  (18, .iinc 3 1, 3, 3, 0, .int 1, [], []),
  (21, .goto (-17), 3, 4, 0, .null, [], []),
  (24, .lload_n 1, 1, 1, 0, .null, [], []),
  (25, .lreturn, 1, 0, 0, .null, [], [])],
  [(4, [true, true, false, true])], 4)
/-- 183: LeastPaysModel.mean(III)J -/
def kX11_mean : j_K := ([
  (0, .aload_n 0, 1, 0, 0, .null, [], []),
  (1, .iload_n 1, 1, 1, 0, .null, [], []),
  (2, .invokevirtual 105, 14, 160, 1, .int 0, [], [1302, 96, 1305, 1304, 41]),
  (5, .ifCond .eq 29, 3, 34, 0, .null, [], []),
  (8, .iload_n 2, 1, 2, 0, .null, [], []),
  (9, .i2l, 1, 0, 0, .null, [], []),
  (10, .lconst 0, 1, 0, 0, .long 0, [], []),
  (11, .aload_n 0, 1, 0, 0, .null, [], []),
  (12, .getfield 9, 3, 11, 0, .null, [], [1131]),
  (15, .iload_n 1, 1, 1, 0, .null, [], []),
  (16, .iaload, 1, 0, 0, .null, [], []),
  (17, .i2l, 1, 0, 0, .null, [], []),
  (18, .invokestatic 93, 3, 155, 3, .int 0, [], [1286, 96, 1288, 1287]),
  (21, .ifCond .eq 13, 3, 34, 0, .null, [], []),
  (24, .iload_n 3, 1, 3, 0, .null, [], []),
  (25, .i2l, 1, 0, 0, .null, [], []),
  (26, .lconst 0, 1, 0, 0, .long 0, [], []),
  (27, .lconst 1, 1, 0, 0, .long 1, [], []),
  (28, .invokestatic 93, 3, 155, 3, .int 0, [], [1286, 96, 1288, 1287]),
  (31, .ifCond .ne 7, 3, 38, 0, .null, [], []),
  (34, .ldc2_w 181, 3, 0, 0, .long (-9223372036854775808), [], [1379]),
  (37, .lreturn, 1, 0, 0, .null, [], []),
  (38, .aload_n 0, 1, 0, 0, .null, [], []),
  (39, .iload_n 1, 1, 1, 0, .null, [], []),
  (40, .iload_n 2, 1, 2, 0, .null, [], []),
  (41, .invokevirtual 183, 14, 181, 2, .long 0, [], [1380, 96, 1383, 1382, 55]),
  (44, .aload_n 0, 1, 0, 0, .null, [], []),
  (45, .invokevirtual 187, 14, 182, 0, .long 0, [], [1384, 96, 1387, 1386, 56]),
  (48, .iload_n 3, 1, 3, 0, .null, [], []),
  (49, .invokestatic 191, 3, 180, 3, .long 0, [], [1388, 96, 1390, 1389]),
  (52, .lreturn, 1, 0, 0, .null, [], [])],
  [], 4)
/-- 184: LeastPaysModel.bestMean(I)I -/
def kX11_bestMean : j_K := ([
  (0, .aload_n 0, 1, 0, 0, .null, [], []),
  (1, .iload_n 1, 1, 1, 0, .null, [], []),
  (2, .invokevirtual 105, 14, 160, 1, .int 0, [], [1302, 96, 1305, 1304, 41]),
  (5, .ifCond .ne 5, 3, 10, 0, .null, [], []),
  (8, .iconst (-1), 1, 0, 0, .int (-1), [], []),
  (9, .ireturn, 1, 0, 0, .int 0, [], []),
  (10, .iconst 0, 1, 0, 0, .int 0, [], []),
  (11, .istore_n 2, 1, 2, 0, .null, [], []),
  (12, .aload_n 0, 1, 0, 0, .null, [], []),
  (13, .iload_n 1, 1, 1, 0, .null, [], []),
  (14, .iconst 0, 1, 0, 0, .int 0, [], []),
  (15, .invokevirtual 183, 14, 181, 2, .long 0, [], [1380, 96, 1383, 1382, 55]),
  (18, .lstore_n 3, 1, 3, 0, .null, [], []),
  (19, .aload_n 0, 1, 0, 0, .null, [], []),
  (20, .getfield 9, 3, 11, 0, .null, [], [1131]),
  (23, .bipush 26, 2, 0, 0, .int 26, [], []),
  (25, .iaload, 1, 0, 0, .null, [], []),
  (26, .istore 5, 2, 5, 0, .null, [], []),
  (28, .iload 5, 2, 5, 0, .null, [], []),
  (30, .aload_n 0, 1, 0, 0, .null, [], []),
  (31, .getfield 9, 3, 11, 0, .null, [], [1131]),
  (34, .iload_n 1, 1, 1, 0, .null, [], []),
  (35, .iaload, 1, 0, 0, .null, [], []),
  (36, .if_icmp .gt 55, 3, 91, 0, .null, [], []),
  (39, .aload_n 0, 1, 0, 0, .null, [], []),
  (40, .iload_n 1, 1, 1, 0, .null, [], []),
  (41, .iload 5, 2, 5, 0, .null, [], []),
  (43, .invokevirtual 183, 14, 181, 2, .long 0, [], [1380, 96, 1383, 1382, 55]),
  (46, .lstore 6, 2, 6, 0, .null, [], []),
  (48, .lload 6, 2, 6, 0, .null, [], []),
  (50, .lload_n 3, 1, 3, 0, .null, [], []),
  (51, .lcmp, 1, 0, 0, .null, [], []),
  (52, .ifCond .ge 8, 3, 60, 0, .null, [], []),
  (55, .iload 5, 2, 5, 0, .null, [], []),
  (57, .goto 4, 3, 61, 0, .null, [], []),
  (60, .iload_n 2, 1, 2, 0, .null, [], []),
  (61, .istore_n 2, 1, 2, 0, .null, [], []),
  (62, .lload 6, 2, 6, 0, .null, [], []),
  (64, .lload_n 3, 1, 3, 0, .null, [], []),
  (65, .lcmp, 1, 0, 0, .null, [], []),
  (66, .ifCond .ge 8, 3, 74, 0, .null, [], []),
  (69, .lload 6, 2, 6, 0, .null, [], []),
  (71, .goto 4, 3, 75, 0, .null, [], []),
  (74, .lload_n 3, 1, 3, 0, .null, [], []),
  (75, .lstore_n 3, 1, 3, 0, .null, [], []),
  (76, .iload 5, 2, 5, 0, .null, [], []),
  (78, .aload_n 0, 1, 0, 0, .null, [], []),
  (79, .getfield 9, 3, 11, 0, .null, [], [1131]),
  (82, .bipush 26, 2, 0, 0, .int 26, [], []),
  (84, .iaload, 1, 0, 0, .null, [], []),
  (85, .iadd, 1, 0, 0, .null, [], []),
  (86, .istore 5, 2, 5, 0, .null, [], []),
  (88, .goto (-60), 3, 28, 0, .null, [], []),
  (91, .iload_n 2, 1, 2, 0, .null, [], []),
  (92, .ireturn, 1, 0, 0, .int 0, [], [])],
  [(28, [true, true, true, true, false, true, false, false])], 8)
/-- 185: LeastPaysModel.wouldChange(I)Z -/
def kX11_wouldChange : j_K := ([
  (0, .aload_n 0, 1, 0, 0, .null, [], []),
  (1, .iload_n 1, 1, 1, 0, .null, [], []),
  (2, .invokevirtual 172, 14, 177, 1, .int 0, [], [1367, 96, 1370, 1369, 53]),
  (5, .aload_n 0, 1, 0, 0, .null, [], []),
  (6, .iload_n 1, 1, 1, 0, .null, [], []),
  (7, .aload_n 0, 1, 0, 0, .null, [], []),
  (8, .getfield 28, 3, 11, 11, .null, [], [1142]),
  (11, .iload_n 1, 1, 1, 0, .null, [], []),
  (12, .iaload, 1, 0, 0, .null, [], []),
  (13, .invokevirtual 166, 14, 176, 2, .int 0, [], [1371, 96, 1374, 1373, 54]),
  (16, .if_icmp .ge 7, 3, 23, 0, .null, [], []),
  (19, .iconst 1, 1, 0, 0, .int 1, [], []),
  (20, .goto 4, 3, 24, 0, .null, [], []),
  (23, .iconst 0, 1, 0, 0, .int 0, [], []),
  (24, .ireturn, 1, 0, 0, .long 0, [], [])],
  [], 2)
/-- 186: LeastPaysModel.firstWho()I -/
def kX11_firstWho : j_K := ([
  (0, .iconst 0, 1, 0, 0, .int 0, [], []),
  (1, .istore_n 1, 1, 1, 0, .null, [], []),
  (2, .iload_n 1, 1, 1, 0, .null, [], []),
  (3, .aload_n 0, 1, 0, 0, .null, [], []),
  (4, .getfield 90, 3, 11, 6, .int 0, [], [1137]),
  (7, .if_icmp .ge 19, 3, 26, 0, .null, [], []),
  (10, .aload_n 0, 1, 0, 0, .null, [], []),
  (11, .iload_n 1, 1, 1, 0, .null, [], []),
  (12, .invokevirtual 195, 14, 185, 1, .int 0, [], [1406, 96, 1409, 1408, 58]),
  (15, .ifCond .eq 5, 3, 20, 0, .null, [], []),
  (18, .iload_n 1, 1, 1, 0, .null, [], []),
  (19, .ireturn, 1, 0, 0, .int 0, [], []),
  (20, .iinc 1 1, 3, 1, 0, .int 1, [], []),
  (23, .goto (-21), 3, 2, 0, .null, [], []),
  (26, .bipush (-2), 2, 0, 0, .int (-2), [], []),
  (28, .ireturn, 1, 0, 0, .int 0, [], [])],
  [(2, [true, true])], 2)
/-- 187: LeastPaysModel.rest(I)I -/
def kX11_rest : j_K := ([
  (0, .iload_n 1, 1, 1, 0, .null, [], []),
  (1, .i2l, 1, 0, 0, .null, [], []),
  (2, .lconst 0, 1, 0, 0, .long 0, [], []),
  (3, .lconst 1, 1, 0, 0, .long 1, [], []),
  (4, .invokestatic 93, 3, 155, 3, .int 0, [], [1286, 96, 1288, 1287]),
  (7, .ifCond .ne 5, 3, 12, 0, .null, [], []),
  (10, .iconst (-1), 1, 0, 0, .int (-1), [], []),
  (11, .ireturn, 1, 0, 0, .int 0, [], []),
  (12, .aload_n 0, 1, 0, 0, .null, [], []),
  (13, .invokevirtual 157, 14, 167, 0, .null, [], [1325, 96, 1328, 1327, 45]),
  (16, .aload_n 0, 1, 0, 0, .null, [], []),
  (17, .invokevirtual 198, 14, 186, 0, .int 0, [], [1402, 96, 1405, 1404, 57]),
  (20, .istore_n 2, 1, 2, 0, .null, [], []),
  (21, .iload_n 1, 1, 1, 0, .null, [], []),
  (22, .iconst 1, 1, 0, 0, .int 1, [], []),
  (23, .if_icmp .ne 7, 3, 30, 0, .null, [], []),
  (26, .iload_n 2, 1, 2, 0, .null, [], []),
  (27, .goto 12, 3, 39, 0, .null, [], []),
  (30, .iload_n 2, 1, 2, 0, .null, [], []),
  (31, .ifCond .ge 7, 3, 38, 0, .null, [], []),
  (34, .iconst 1, 1, 0, 0, .int 1, [], []),
  (35, .goto 4, 3, 39, 0, .null, [], []),
  (38, .iconst 0, 1, 0, 0, .int 0, [], []),
  (39, .ireturn, 1, 0, 0, .int 0, [], [])],
  [], 3)
/-- 188: LeastPaysModel.sumsOf(I)I -/
def kX11_sumsOf : j_K := ([
  (0, .aload_n 0, 1, 0, 0, .null, [], []),
  (1, .getfield 9, 3, 11, 0, .null, [], [1131]),
  (4, .iload_n 1, 1, 1, 0, .null, [], []),
  (5, .iaload, 1, 0, 0, .null, [], []),
  (6, .aload_n 0, 1, 0, 0, .null, [], []),
  (7, .getfield 9, 3, 11, 0, .null, [], [1131]),
  (10, .bipush 26, 2, 0, 0, .int 26, [], []),
  (12, .iaload, 1, 0, 0, .null, [], []),
  (13, .idiv, 1, 0, 0, .null, [], []),
  (14, .iconst 1, 1, 0, 0, .int 1, [], []),
  (15, .iadd, 1, 0, 0, .null, [], []),
  (16, .ireturn, 1, 0, 0, .int 0, [], [])],
  [], 2)
/-- 189: LeastPaysModel.rests(I)I -/
def kX11_rests : j_K := ([
  (0, .iload_n 1, 1, 1, 0, .null, [], []),
  (1, .iconst (-1), 1, 0, 0, .int (-1), [], []),
  (2, .if_icmp .eq 13, 3, 15, 0, .null, [], []),
  (5, .aload_n 0, 1, 0, 0, .null, [], []),
  (6, .iload_n 1, 1, 1, 0, .null, [], []),
  (7, .invokevirtual 105, 14, 160, 1, .int 0, [], [1302, 96, 1305, 1304, 41]),
  (10, .ifCond .ne 5, 3, 15, 0, .null, [], []),
  (13, .iconst (-1), 1, 0, 0, .int (-1), [], []),
  (14, .ireturn, 1, 0, 0, .int 0, [], []),
  (15, .iconst 1, 1, 0, 0, .int 1, [], []),
  (16, .istore_n 2, 1, 2, 0, .null, [], []),
  (17, .iconst 0, 1, 0, 0, .int 0, [], []),
  (18, .istore_n 3, 1, 3, 0, .null, [], []),
  (19, .iload_n 3, 1, 3, 0, .null, [], []),
  (20, .aload_n 0, 1, 0, 0, .null, [], []),
  (21, .getfield 90, 3, 11, 6, .int 0, [], [1137]),
  (24, .if_icmp .ge 27, 3, 51, 0, .null, [], []),
  (27, .iload_n 2, 1, 2, 0, .null, [], []),
  (28, .aload_n 0, 1, 0, 0, .null, [], []),
  (29, .iload_n 3, 1, 3, 0, .null, [], []),
  (30, .invokevirtual 202, 14, 188, 1, .int 0, [], [1414, 96, 1417, 1416, 59]),
  (33, .imul, 1, 0, 0, .null, [], []),
  (34, .istore_n 2, 1, 2, 0, .null, [], []),
  (35, .iload_n 2, 1, 2, 0, .null, [], []),
  (36, .sipush 4096, 3, 0, 0, .int 4096, [], []),
  (39, .if_icmp .le 6, 3, 45, 0, .null, [], []),
  (42, .bipush (-5), 2, 0, 0, .int (-5), [], []),
  (44, .ireturn, 1, 0, 0, .int 0, [], []),
  (45, .iinc 3 1, 3, 3, 0, .int 1, [], []),
  (48, .goto (-29), 3, 19, 0, .null, [], []),
  (51, .aload_n 0, 1, 0, 0, .null, [], []),
  (52, .aload_n 0, 1, 0, 0, .null, [], []),
  (53, .getfield 90, 3, 11, 6, .int 0, [], [1137]),
  (56, .putfield 134, 3, 11, 12, .int 0, [], [1143]),
  (59, .iconst 0, 1, 0, 0, .int 0, [], []),
  (60, .istore_n 3, 1, 3, 0, .null, [], []),
  (61, .bipush (-2), 2, 0, 0, .int (-2), [], []),
  (63, .istore 4, 2, 4, 0, .null, [], []),
  (65, .iconst 0, 1, 0, 0, .int 0, [], []),
  (66, .istore 5, 2, 5, 0, .null, [], []),
  (68, .iload 5, 2, 5, 0, .null, [], []),
  (70, .iload_n 2, 1, 2, 0, .null, [], []),
  (71, .if_icmp .ge 98, 3, 169, 0, .null, [], []),
  (74, .iload 5, 2, 5, 0, .null, [], []),
  (76, .istore 6, 2, 6, 0, .null, [], []),
  (78, .aload_n 0, 1, 0, 0, .null, [], []),
  (79, .getfield 90, 3, 11, 6, .int 0, [], [1137]),
  (82, .iconst 1, 1, 0, 0, .int 1, [], []),
  (83, .isub, 1, 0, 0, .null, [], []),
  (84, .istore 7, 2, 7, 0, .null, [], []),
  (86, .iload 7, 2, 7, 0, .null, [], []),
  (88, .ifCond .lt 44, 3, 132, 0, .null, [], []),
  (91, .aload_n 0, 1, 0, 0, .null, [], []),
  (92, .getfield 28, 3, 11, 11, .null, [], [1142]),
  (95, .iload 7, 2, 7, 0, .null, [], []),
  (97, .iload 6, 2, 6, 0, .null, [], []),
  (99, .aload_n 0, 1, 0, 0, .null, [], []),
  (100, .iload 7, 2, 7, 0, .null, [], []),
  (102, .invokevirtual 202, 14, 188, 1, .int 0, [], [1414, 96, 1417, 1416, 59]),
  (105, .irem, 1, 0, 0, .null, [], []),
  (106, .aload_n 0, 1, 0, 0, .null, [], []),
  (107, .getfield 9, 3, 11, 0, .null, [], [1131]),
  (110, .bipush 26, 2, 0, 0, .int 26, [], []),
  (112, .iaload, 1, 0, 0, .null, [], []),
  (113, .imul, 1, 0, 0, .null, [], []),
  (114, .iastore, 1, 0, 0, .null, [], []),
  (115, .iload 6, 2, 6, 0, .null, [], []),
  (117, .aload_n 0, 1, 0, 0, .null, [], []),
  (118, .iload 7, 2, 7, 0, .null, [], []),
  (120, .invokevirtual 202, 14, 188, 1, .int 0, [], [1414, 96, 1417, 1416, 59]),
  (123, .idiv, 1, 0, 0, .null, [], []),
  (124, .istore 6, 2, 6, 0, .null, [], []),
  (126, .iinc 7 (-1), 3, 7, 0, .int (-1), [], []),
  (129, .goto (-43), 3, 86, 0, .null, [], []),
  (132, .aload_n 0, 1, 0, 0, .null, [], []),
  (133, .invokevirtual 198, 14, 186, 0, .int 0, [], [1402, 96, 1405, 1404, 57]),
  (136, .ifCond .ge 27, 3, 163, 0, .null, [], []),
  (139, .iload_n 3, 1, 3, 0, .null, [], []),
  (140, .ifCond .ne 16, 3, 156, 0, .null, [], []),
  (143, .iload_n 1, 1, 1, 0, .null, [], []),
  (144, .ifCond .lt 12, 3, 156, 0, .null, [], []),
  (147, .aload_n 0, 1, 0, 0, .null, [], []),
  (148, .getfield 28, 3, 11, 11, .null, [], [1142]),
  (151, .iload_n 1, 1, 1, 0, .null, [], []),
  (152, .iaload, 1, 0, 0, .null, [], []),
  (153, .goto 5, 3, 158, 0, .null, [], []),
  (156, .iload 4, 2, 4, 0, .null, [], []),
  (158, .istore 4, 2, 4, 0, .null, [], []),
  (160, .iinc 3 1, 3, 3, 0, .int 1, [], []),
  (163, .iinc 5 1, 3, 5, 0, .int 1, [], []),
  (166, .goto (-98), 3, 68, 0, .null, [], []),
  (169, .iload_n 1, 1, 1, 0, .null, [], []),
  (170, .ifCond .ge 7, 3, 177, 0, .null, [], []),
  (173, .iload_n 3, 1, 3, 0, .null, [], []),
  (174, .goto 5, 3, 179, 0, .null, [], []),
  (177, .iload 4, 2, 4, 0, .null, [], []),
  (179, .ireturn, 1, 0, 0, .int 0, [], [])],
  [(19, [true, true, true, true, false, false, false, false]), (68, [true, true, true, true, true, true, false, false]), (86, [true, true, true, true, true, true, true, true])], 8)
/-- 190: LeastPaysModel.turns(I)I -/
def kX11_turns : j_K := ([
  (0, .iload_n 1, 1, 1, 0, .null, [], []),
  (1, .iconst (-1), 1, 0, 0, .int (-1), [], []),
  (2, .if_icmp .eq 13, 3, 15, 0, .null, [], []),
  (5, .aload_n 0, 1, 0, 0, .null, [], []),
  (6, .iload_n 1, 1, 1, 0, .null, [], []),
  (7, .invokevirtual 105, 14, 160, 1, .int 0, [], [1302, 96, 1305, 1304, 41]),
  (10, .ifCond .ne 5, 3, 15, 0, .null, [], []),
  (13, .iconst (-1), 1, 0, 0, .int (-1), [], []),
  (14, .ireturn, 1, 0, 0, .int 0, [], []),
  (15, .aload_n 0, 1, 0, 0, .null, [], []),
  (16, .invokevirtual 157, 14, 167, 0, .null, [], [1325, 96, 1328, 1327, 45]),
  (19, .iconst 0, 1, 0, 0, .int 0, [], []),
  (20, .istore_n 2, 1, 2, 0, .null, [], []),
  (21, .iconst 0, 1, 0, 0, .int 0, [], []),
  (22, .istore_n 3, 1, 3, 0, .null, [], []),
  (23, .iconst 0, 1, 0, 0, .int 0, [], []),
  (24, .istore 4, 2, 4, 0, .null, [], []),
  (26, .iload_n 3, 1, 3, 0, .null, [], []),
  (27, .aload_n 0, 1, 0, 0, .null, [], []),
  (28, .getfield 90, 3, 11, 6, .int 0, [], [1137]),
  (31, .if_icmp .ge 75, 3, 106, 0, .null, [], []),
  (34, .aload_n 0, 1, 0, 0, .null, [], []),
  (35, .iload 4, 2, 4, 0, .null, [], []),
  (37, .invokevirtual 195, 14, 185, 1, .int 0, [], [1406, 96, 1409, 1408, 58]),
  (40, .ifCond .eq 49, 3, 89, 0, .null, [], []),
  (43, .iload_n 2, 1, 2, 0, .null, [], []),
  (44, .bipush 60, 2, 0, 0, .int 60, [], []),
  (46, .if_icmp .ne 19, 3, 65, 0, .null, [], []),
  (49, .iload_n 1, 1, 1, 0, .null, [], []),
  (50, .ifCond .ge 8, 3, 58, 0, .null, [], []),
  (53, .bipush (-2), 2, 0, 0, .int (-2), [], []),
  (55, .goto 9, 3, 64, 0, .null, [], []),
  (58, .aload_n 0, 1, 0, 0, .null, [], []),
  (59, .getfield 28, 3, 11, 11, .null, [], [1142]),
  (62, .iload_n 1, 1, 1, 0, .null, [], []),
  (63, .iaload, 1, 0, 0, .null, [], []),
  (64, .ireturn, 1, 0, 0, .int 0, [], []),
  (65, .aload_n 0, 1, 0, 0, .null, [], []),
  (66, .iload 4, 2, 4, 0, .null, [], []),
  (68, .invokevirtual 172, 14, 177, 1, .int 0, [], [1367, 96, 1370, 1369, 53]),
  (71, .istore 5, 2, 5, 0, .null, [], []),
  (73, .aload_n 0, 1, 0, 0, .null, [], []),
  (74, .getfield 28, 3, 11, 11, .null, [], [1142]),
  (77, .iload 4, 2, 4, 0, .null, [], []),
  (79, .aload_n 0, 1, 0, 0, .null, [], []),
  (80, .getfield 169, 3, 11, 16, .int 0, [], [1147]),
  (83, .iastore, 1, 0, 0, .null, [], []),
  (84, .iinc 2 1, 3, 2, 0, .int 1, [], []),
  (87, .iconst 0, 1, 0, 0, .int 0, [], []),
  (88, .istore_n 3, 1, 3, 0, .null, [], []),
  (89, .iinc 3 1, 3, 3, 0, .int 1, [], []),
  (92, .iload 4, 2, 4, 0, .null, [], []),
  (94, .iconst 1, 1, 0, 0, .int 1, [], []),
  (95, .iadd, 1, 0, 0, .null, [], []),
  (96, .aload_n 0, 1, 0, 0, .null, [], []),
  (97, .getfield 90, 3, 11, 6, .int 0, [], [1137]),
  (100, .irem, 1, 0, 0, .null, [], []),
  (101, .istore 4, 2, 4, 0, .null, [], []),
  (103, .goto (-77), 3, 26, 0, .null, [], []),
  (106, .iload_n 1, 1, 1, 0, .null, [], []),
  (107, .ifCond .ge 7, 3, 114, 0, .null, [], []),
  (110, .iload_n 2, 1, 2, 0, .null, [], []),
  (111, .goto 9, 3, 120, 0, .null, [], []),
  (114, .aload_n 0, 1, 0, 0, .null, [], []),
  (115, .getfield 28, 3, 11, 11, .null, [], [1142]),
  (118, .iload_n 1, 1, 1, 0, .null, [], []),
  (119, .iaload, 1, 0, 0, .null, [], []),
  (120, .ireturn, 1, 0, 0, .int 0, [], [])],
  [(26, [true, true, true, true, true, false])], 6)
/-- 191: LeastPaysModel.agree(II)I -/
def kX11_agree : j_K := ([
  (0, .iload_n 1, 1, 1, 0, .null, [], []),
  (1, .ifCond .lt 48, 3, 49, 0, .null, [], []),
  (4, .aload_n 0, 1, 0, 0, .null, [], []),
  (5, .iload_n 1, 1, 1, 0, .null, [], []),
  (6, .bipush 10, 2, 0, 0, .int 10, [], []),
  (8, .idiv, 1, 0, 0, .null, [], []),
  (9, .invokevirtual 105, 14, 160, 1, .int 0, [], [1302, 96, 1305, 1304, 41]),
  (12, .ifCond .eq 37, 3, 49, 0, .null, [], []),
  (15, .aload_n 0, 1, 0, 0, .null, [], []),
  (16, .iload_n 1, 1, 1, 0, .null, [], []),
  (17, .bipush 10, 2, 0, 0, .int 10, [], []),
  (19, .irem, 1, 0, 0, .null, [], []),
  (20, .invokevirtual 105, 14, 160, 1, .int 0, [], [1302, 96, 1305, 1304, 41]),
  (23, .ifCond .eq 26, 3, 49, 0, .null, [], []),
  (26, .iload_n 1, 1, 1, 0, .null, [], []),
  (27, .bipush 10, 2, 0, 0, .int 10, [], []),
  (29, .idiv, 1, 0, 0, .null, [], []),
  (30, .iload_n 1, 1, 1, 0, .null, [], []),
  (31, .bipush 10, 2, 0, 0, .int 10, [], []),
  (33, .irem, 1, 0, 0, .null, [], []),
  (34, .if_icmp .ge 15, 3, 49, 0, .null, [], []),
  (37, .iload_n 2, 1, 2, 0, .null, [], []),
  (38, .i2l, 1, 0, 0, .null, [], []),
  (39, .lconst 0, 1, 0, 0, .long 0, [], []),
  (40, .ldc2_w 205, 3, 0, 0, .long 3, [], [1426]),
  (43, .invokestatic 93, 3, 155, 3, .int 0, [], [1286, 96, 1288, 1287]),
  (46, .ifCond .ne 6, 3, 52, 0, .null, [], []),
  (49, .ldc 125, 2, 0, 0, .int (-2000000000), [], [1357]),
  (51, .ireturn, 1, 0, 0, .int 0, [], []),
  (52, .iload_n 1, 1, 1, 0, .null, [], []),
  (53, .bipush 10, 2, 0, 0, .int 10, [], []),
  (55, .idiv, 1, 0, 0, .null, [], []),
  (56, .istore_n 3, 1, 3, 0, .null, [], []),
  (57, .iload_n 1, 1, 1, 0, .null, [], []),
  (58, .bipush 10, 2, 0, 0, .int 10, [], []),
  (60, .irem, 1, 0, 0, .null, [], []),
  (61, .istore 4, 2, 4, 0, .null, [], []),
  (63, .aload_n 0, 1, 0, 0, .null, [], []),
  (64, .invokevirtual 157, 14, 167, 0, .null, [], [1325, 96, 1328, 1327, 45]),
  (67, .iconst (-1), 1, 0, 0, .int (-1), [], []),
  (68, .istore 5, 2, 5, 0, .null, [], []),
  (70, .iconst 0, 1, 0, 0, .int 0, [], []),
  (71, .istore 6, 2, 6, 0, .null, [], []),
  (73, .iconst 0, 1, 0, 0, .int 0, [], []),
  (74, .istore 7, 2, 7, 0, .null, [], []),
  (76, .iconst 0, 1, 0, 0, .int 0, [], []),
  (77, .istore 8, 2, 8, 0, .null, [], []),
  (79, .iload 8, 2, 8, 0, .null, [], []),
  (81, .aload_n 0, 1, 0, 0, .null, [], []),
  (82, .getfield 9, 3, 11, 0, .null, [], [1131]),
  (85, .iload_n 3, 1, 3, 0, .null, [], []),
  (86, .iaload, 1, 0, 0, .null, [], []),
  (87, .if_icmp .gt 107, 3, 194, 0, .null, [], []),
  (90, .iconst 0, 1, 0, 0, .int 0, [], []),
  (91, .istore 9, 2, 9, 0, .null, [], []),
  (93, .iload 9, 2, 9, 0, .null, [], []),
  (95, .aload_n 0, 1, 0, 0, .null, [], []),
  (96, .getfield 9, 3, 11, 0, .null, [], [1131]),
  (99, .iload 4, 2, 4, 0, .null, [], []),
  (101, .iaload, 1, 0, 0, .null, [], []),
  (102, .if_icmp .gt 77, 3, 179, 0, .null, [], []),
  (105, .aload_n 0, 1, 0, 0, .null, [], []),
  (106, .getfield 28, 3, 11, 11, .null, [], [1142]),
  (109, .iload_n 3, 1, 3, 0, .null, [], []),
  (110, .iload 8, 2, 8, 0, .null, [], []),
  (112, .iastore, 1, 0, 0, .null, [], []),
  (113, .aload_n 0, 1, 0, 0, .null, [], []),
  (114, .getfield 28, 3, 11, 11, .null, [], [1142]),
  (117, .iload 4, 2, 4, 0, .null, [], []),
  (119, .iload 9, 2, 9, 0, .null, [], []),
  (121, .iastore, 1, 0, 0, .null, [], []),
  (122, .aload_n 0, 1, 0, 0, .null, [], []),
  (123, .invokevirtual 160, 14, 173, 0, .null, [], [1329, 96, 1332, 1331, 46]),
  (126, .aload_n 0, 1, 0, 0, .null, [], []),
  (127, .iload_n 3, 1, 3, 0, .null, [], []),
  (128, .invokevirtual 163, 14, 174, 1, .int 0, [], [1353, 96, 1356, 1355, 52]),
  (131, .aload_n 0, 1, 0, 0, .null, [], []),
  (132, .iload 4, 2, 4, 0, .null, [], []),
  (134, .invokevirtual 163, 14, 174, 1, .int 0, [], [1353, 96, 1356, 1355, 52]),
  (137, .iadd, 1, 0, 0, .null, [], []),
  (138, .istore 10, 2, 10, 0, .null, [], []),
  (140, .iload 5, 2, 5, 0, .null, [], []),
  (142, .ifCond .lt 10, 3, 152, 0, .null, [], []),
  (145, .iload 10, 2, 10, 0, .null, [], []),
  (147, .iload 5, 2, 5, 0, .null, [], []),
  (149, .if_icmp .ge 15, 3, 164, 0, .null, [], []),
  (152, .iload 10, 2, 10, 0, .null, [], []),
  (154, .istore 5, 2, 5, 0, .null, [], []),
  (156, .iload 8, 2, 8, 0, .null, [], []),
  (158, .istore 6, 2, 6, 0, .null, [], []),
  (160, .iload 9, 2, 9, 0, .null, [], []),
  (162, .istore 7, 2, 7, 0, .null, [], []),
  (164, .iload 9, 2, 9, 0, .null, [], []),
  (166, .aload_n 0, 1, 0, 0, .null, [], []),
  (167, .getfield 9, 3, 11, 0, .null, [], [1131]),
  (170, .bipush 26, 2, 0, 0, .int 26, [], []),
  (172, .iaload, 1, 0, 0, .null, [], []),
  (173, .iadd, 1, 0, 0, .null, [], []),
  (174, .istore 9, 2, 9, 0, .null, [], []),
  (176, .goto (-83), 3, 93, 0, .null, [], []),
  (179, .iload 8, 2, 8, 0, .null, [], []),
  (181, .aload_n 0, 1, 0, 0, .null, [], []),
  (182, .getfield 9, 3, 11, 0, .null, [], [1131]),
  (185, .bipush 26, 2, 0, 0, .int 26, [], []),
  (187, .iaload, 1, 0, 0, .null, [], []),
  (188, .iadd, 1, 0, 0, .null, [], []),
  (189, .istore 8, 2, 8, 0, .null, [], []),
  (191, .goto (-112), 3, 79, 0, .null, [], []),
  (194, .iload_n 2, 1, 2, 0, .null, [], []),
  (195, .iconst 3, 1, 0, 0, .int 3, [], []),
  (196, .if_icmp .ge 25, 3, 221, 0, .null, [], []),
  (199, .iload_n 2, 1, 2, 0, .null, [], []),
  (200, .ifCond .ne 8, 3, 208, 0, .null, [], []),
  (203, .iload 5, 2, 5, 0, .null, [], []),
  (205, .goto 15, 3, 220, 0, .null, [], []),
  (208, .iload_n 2, 1, 2, 0, .null, [], []),
  (209, .iconst 1, 1, 0, 0, .int 1, [], []),
  (210, .if_icmp .ne 8, 3, 218, 0, .null, [], []),
  (213, .iload 6, 2, 6, 0, .null, [], []),
  (215, .goto 5, 3, 220, 0, .null, [], []),
  (218, .iload 7, 2, 7, 0, .null, [], []),
  (220, .ireturn, 1, 0, 0, .int 0, [], []),
  (221, .aload_n 0, 1, 0, 0, .null, [], []),
  (222, .getfield 28, 3, 11, 11, .null, [], [1142]),
  (225, .iload_n 3, 1, 3, 0, .null, [], []),
  (226, .iload 6, 2, 6, 0, .null, [], []),
  (228, .iastore, 1, 0, 0, .null, [], []),
  (229, .aload_n 0, 1, 0, 0, .null, [], []),
  (230, .getfield 28, 3, 11, 11, .null, [], [1142]),
  (233, .iload 4, 2, 4, 0, .null, [], []),
  (235, .iload 7, 2, 7, 0, .null, [], []),
  (237, .iastore, 1, 0, 0, .null, [], []),
  (238, .aload_n 0, 1, 0, 0, .null, [], []),
  (239, .invokevirtual 160, 14, 173, 0, .null, [], [1329, 96, 1332, 1331, 46]),
  (242, .iconst 0, 1, 0, 0, .int 0, [], []),
  (243, .istore 8, 2, 8, 0, .null, [], []),
  (245, .iload 8, 2, 8, 0, .null, [], []),
  (247, .aload_n 0, 1, 0, 0, .null, [], []),
  (248, .getfield 90, 3, 11, 6, .int 0, [], [1137]),
  (251, .if_icmp .ge 35, 3, 286, 0, .null, [], []),
  (254, .iload 8, 2, 8, 0, .null, [], []),
  (256, .iload_n 3, 1, 3, 0, .null, [], []),
  (257, .if_icmp .eq 23, 3, 280, 0, .null, [], []),
  (260, .iload 8, 2, 8, 0, .null, [], []),
  (262, .iload 4, 2, 4, 0, .null, [], []),
  (264, .if_icmp .eq 16, 3, 280, 0, .null, [], []),
  (267, .aload_n 0, 1, 0, 0, .null, [], []),
  (268, .getfield 31, 3, 11, 13, .null, [], [1144]),
  (271, .iload 8, 2, 8, 0, .null, [], []),
  (273, .iaload, 1, 0, 0, .null, [], []),
  (274, .ifCond .le 6, 3, 280, 0, .null, [], []),
  (277, .iload 8, 2, 8, 0, .null, [], []),
  (279, .ireturn, 1, 0, 0, .int 0, [], []),
  (280, .iinc 8 1, 3, 8, 0, .int 1, [], []),
  (283, .goto (-38), 3, 245, 0, .null, [], []),
  (286, .bipush (-2), 2, 0, 0, .int (-2), [], []),
  (288, .ireturn, 1, 0, 0, .int 0, [], [])],
  [(79, [true, false, true, true, true, true, true, true, true, false, false]), (93, [true, false, true, true, true, true, true, true, true, true, false]), (245, [true, false, false, true, true, false, false, false, true, false, false])], 11)
/-- 192: LeastPaysModel.dish(I)I -/
def kX11_dish : j_K := ([
  (0, .iload_n 1, 1, 1, 0, .null, [], []),
  (1, .i2l, 1, 0, 0, .null, [], []),
  (2, .lconst 0, 1, 0, 0, .long 0, [], []),
  (3, .ldc2_w 97, 3, 0, 0, .long 99, [], [1285]),
  (6, .invokestatic 93, 3, 155, 3, .int 0, [], [1286, 96, 1288, 1287]),
  (9, .ifCond .ne 5, 3, 14, 0, .null, [], []),
  (12, .iconst (-1), 1, 0, 0, .int (-1), [], []),
  (13, .ireturn, 1, 0, 0, .int 0, [], []),
  (14, .aload_n 0, 1, 0, 0, .null, [], []),
  (15, .getfield 207, 3, 11, 17, .int 0, [], [1148]),
  (18, .iconst 3, 1, 0, 0, .int 3, [], []),
  (19, .if_icmp .ne 6, 3, 25, 0, .null, [], []),
  (22, .bipush (-3), 2, 0, 0, .int (-3), [], []),
  (24, .ireturn, 1, 0, 0, .int 0, [], []),
  (25, .aload_n 0, 1, 0, 0, .null, [], []),
  (26, .getfield 37, 3, 11, 18, .null, [], [1149]),
  (29, .aload_n 0, 1, 0, 0, .null, [], []),
  (30, .getfield 207, 3, 11, 17, .int 0, [], [1148]),
  (33, .iload_n 1, 1, 1, 0, .null, [], []),
  (34, .iastore, 1, 0, 0, .null, [], []),
  (35, .aload_n 0, 1, 0, 0, .null, [], []),
  (36, .dup, 1, 0, 0, .null, [], []),
  (37, .getfield 207, 3, 11, 17, .int 0, [], [1148]),
  (40, .iconst 1, 1, 0, 0, .int 1, [], []),
  (41, .iadd, 1, 0, 0, .null, [], []),
  (42, .putfield 207, 3, 11, 17, .int 0, [], [1148]),
  (45, .aload_n 0, 1, 0, 0, .null, [], []),
  (46, .getfield 207, 3, 11, 17, .int 0, [], [1148]),
  (49, .iconst 1, 1, 0, 0, .int 1, [], []),
  (50, .isub, 1, 0, 0, .null, [], []),
  (51, .ireturn, 1, 0, 0, .int 0, [], [])],
  [], 2)
/-- 193: LeastPaysModel.joy(II)I -/
def kX11_joy : j_K := ([
  (0, .iload_n 1, 1, 1, 0, .null, [], []),
  (1, .ifCond .lt 45, 3, 46, 0, .null, [], []),
  (4, .aload_n 0, 1, 0, 0, .null, [], []),
  (5, .iload_n 1, 1, 1, 0, .null, [], []),
  (6, .bipush 10, 2, 0, 0, .int 10, [], []),
  (8, .idiv, 1, 0, 0, .null, [], []),
  (9, .invokevirtual 105, 14, 160, 1, .int 0, [], [1302, 96, 1305, 1304, 41]),
  (12, .ifCond .eq 34, 3, 46, 0, .null, [], []),
  (15, .iload_n 1, 1, 1, 0, .null, [], []),
  (16, .bipush 10, 2, 0, 0, .int 10, [], []),
  (18, .irem, 1, 0, 0, .null, [], []),
  (19, .i2l, 1, 0, 0, .null, [], []),
  (20, .lconst 0, 1, 0, 0, .long 0, [], []),
  (21, .aload_n 0, 1, 0, 0, .null, [], []),
  (22, .getfield 207, 3, 11, 17, .int 0, [], [1148]),
  (25, .iconst 1, 1, 0, 0, .int 1, [], []),
  (26, .isub, 1, 0, 0, .null, [], []),
  (27, .i2l, 1, 0, 0, .null, [], []),
  (28, .invokestatic 93, 3, 155, 3, .int 0, [], [1286, 96, 1288, 1287]),
  (31, .ifCond .eq 15, 3, 46, 0, .null, [], []),
  (34, .iload_n 2, 1, 2, 0, .null, [], []),
  (35, .i2l, 1, 0, 0, .null, [], []),
  (36, .lconst 0, 1, 0, 0, .long 0, [], []),
  (37, .ldc2_w 97, 3, 0, 0, .long 99, [], [1285]),
  (40, .invokestatic 93, 3, 155, 3, .int 0, [], [1286, 96, 1288, 1287]),
  (43, .ifCond .ne 5, 3, 48, 0, .null, [], []),
  (46, .iconst (-1), 1, 0, 0, .int (-1), [], []),
  (47, .ireturn, 1, 0, 0, .int 0, [], []),
  (48, .iconst 3, 1, 0, 0, .int 3, [], []),
  (49, .iload_n 1, 1, 1, 0, .null, [], []),
  (50, .bipush 10, 2, 0, 0, .int 10, [], []),
  (52, .idiv, 1, 0, 0, .null, [], []),
  (53, .imul, 1, 0, 0, .null, [], []),
  (54, .iload_n 1, 1, 1, 0, .null, [], []),
  (55, .bipush 10, 2, 0, 0, .int 10, [], []),
  (57, .irem, 1, 0, 0, .null, [], []),
  (58, .iadd, 1, 0, 0, .null, [], []),
  (59, .istore_n 3, 1, 3, 0, .null, [], []),
  (60, .aload_n 0, 1, 0, 0, .null, [], []),
  (61, .getfield 40, 3, 11, 19, .null, [], [1150]),
  (64, .iload_n 3, 1, 3, 0, .null, [], []),
  (65, .iaload, 1, 0, 0, .null, [], []),
  (66, .istore 4, 2, 4, 0, .null, [], []),
  (68, .aload_n 0, 1, 0, 0, .null, [], []),
  (69, .getfield 40, 3, 11, 19, .null, [], [1150]),
  (72, .iload_n 3, 1, 3, 0, .null, [], []),
  (73, .iload_n 2, 1, 2, 0, .null, [], []),
  (74, .iastore, 1, 0, 0, .null, [], []),
  (75, .iload 4, 2, 4, 0, .null, [], []),
  (77, .ireturn, 1, 0, 0, .int 0, [], [])],
  [], 5)
/-- 194: LeastPaysModel.joyOf(II)I -/
def kX11_joyOf : j_K := ([
  (0, .iload_n 2, 1, 2, 0, .null, [], []),
  (1, .ifCond .ge 7, 3, 8, 0, .null, [], []),
  (4, .iconst 0, 1, 0, 0, .int 0, [], []),
  (5, .goto 13, 3, 18, 0, .null, [], []),
  (8, .aload_n 0, 1, 0, 0, .null, [], []),
  (9, .getfield 40, 3, 11, 19, .null, [], [1150]),
  (12, .iconst 3, 1, 0, 0, .int 3, [], []),
  (13, .iload_n 1, 1, 1, 0, .null, [], []),
  (14, .imul, 1, 0, 0, .null, [], []),
  (15, .iload_n 2, 1, 2, 0, .null, [], []),
  (16, .iadd, 1, 0, 0, .null, [], []),
  (17, .iaload, 1, 0, 0, .null, [], []),
  (18, .ireturn, 1, 0, 0, .int 0, [], [])],
  [], 3)
/-- 195: LeastPaysModel.billFrom(II)I -/
def kX11_billFrom : j_K := ([
  (0, .iload_n 1, 1, 1, 0, .null, [], []),
  (1, .aload_n 0, 1, 0, 0, .null, [], []),
  (2, .getfield 90, 3, 11, 6, .int 0, [], [1137]),
  (5, .if_icmp .ne 5, 3, 10, 0, .null, [], []),
  (8, .iload_n 2, 1, 2, 0, .null, [], []),
  (9, .ireturn, 1, 0, 0, .int 0, [], []),
  (10, .bipush (-2), 2, 0, 0, .int (-2), [], []),
  (12, .istore_n 3, 1, 3, 0, .null, [], []),
  (13, .iconst 0, 1, 0, 0, .int 0, [], []),
  (14, .istore 4, 2, 4, 0, .null, [], []),
  (16, .iconst (-1), 1, 0, 0, .int (-1), [], []),
  (17, .istore 5, 2, 5, 0, .null, [], []),
  (19, .iload 5, 2, 5, 0, .null, [], []),
  (21, .aload_n 0, 1, 0, 0, .null, [], []),
  (22, .getfield 207, 3, 11, 17, .int 0, [], [1148]),
  (25, .if_icmp .ge 84, 3, 109, 0, .null, [], []),
  (28, .aload_n 0, 1, 0, 0, .null, [], []),
  (29, .iload_n 1, 1, 1, 0, .null, [], []),
  (30, .iconst 1, 1, 0, 0, .int 1, [], []),
  (31, .iadd, 1, 0, 0, .null, [], []),
  (32, .iload_n 2, 1, 2, 0, .null, [], []),
  (33, .iload 5, 2, 5, 0, .null, [], []),
  (35, .ifCond .ge 7, 3, 42, 0, .null, [], []),
  (38, .iconst 0, 1, 0, 0, .int 0, [], []),
  (39, .goto 10, 3, 49, 0, .null, [], []),
  (42, .aload_n 0, 1, 0, 0, .null, [], []),
  (43, .getfield 37, 3, 11, 18, .null, [], [1149]),
  (46, .iload 5, 2, 5, 0, .null, [], []),
  (48, .iaload, 1, 0, 0, .null, [], []),
  (49, .iadd, 1, 0, 0, .null, [], []),
  (50, .invokevirtual 210, 14, 195, 2, .int 0, [], [1440, 96, 1443, 1442, 60]),
  (53, .istore 6, 2, 6, 0, .null, [], []),
  (55, .aload_n 0, 1, 0, 0, .null, [], []),
  (56, .iload 6, 2, 6, 0, .null, [], []),
  (58, .aload_n 0, 1, 0, 0, .null, [], []),
  (59, .getfield 9, 3, 11, 0, .null, [], [1131]),
  (62, .bipush 25, 2, 0, 0, .int 25, [], []),
  (64, .iaload, 1, 0, 0, .null, [], []),
  (65, .invokevirtual 153, 14, 172, 2, .null, [], [1333, 96, 1336, 1335, 47]),
  (68, .aload_n 0, 1, 0, 0, .null, [], []),
  (69, .iload_n 1, 1, 1, 0, .null, [], []),
  (70, .iload 5, 2, 5, 0, .null, [], []),
  (72, .invokevirtual 213, 14, 194, 2, .int 0, [], [1444, 96, 1447, 1446, 61]),
  (75, .aload_n 0, 1, 0, 0, .null, [], []),
  (76, .iload_n 1, 1, 1, 0, .null, [], []),
  (77, .invokevirtual 163, 14, 174, 1, .int 0, [], [1353, 96, 1356, 1355, 52]),
  (80, .isub, 1, 0, 0, .null, [], []),
  (81, .istore 7, 2, 7, 0, .null, [], []),
  (83, .iload_n 3, 1, 3, 0, .null, [], []),
  (84, .bipush (-2), 2, 0, 0, .int (-2), [], []),
  (86, .if_icmp .eq 10, 3, 96, 0, .null, [], []),
  (89, .iload 7, 2, 7, 0, .null, [], []),
  (91, .iload 4, 2, 4, 0, .null, [], []),
  (93, .if_icmp .le 10, 3, 103, 0, .null, [], []),
  (96, .iload 5, 2, 5, 0, .null, [], []),
  (98, .istore_n 3, 1, 3, 0, .null, [], []),
  (99, .iload 7, 2, 7, 0, .null, [], []),
  (101, .istore 4, 2, 4, 0, .null, [], []),
  (103, .iinc 5 1, 3, 5, 0, .int 1, [], []),
  (106, .goto (-87), 3, 19, 0, .null, [], []),
  (109, .aload_n 0, 1, 0, 0, .null, [], []),
  (110, .iload_n 1, 1, 1, 0, .null, [], []),
  (111, .iconst 1, 1, 0, 0, .int 1, [], []),
  (112, .iadd, 1, 0, 0, .null, [], []),
  (113, .iload_n 2, 1, 2, 0, .null, [], []),
  (114, .iload_n 3, 1, 3, 0, .null, [], []),
  (115, .ifCond .ge 7, 3, 122, 0, .null, [], []),
  (118, .iconst 0, 1, 0, 0, .int 0, [], []),
  (119, .goto 9, 3, 128, 0, .null, [], []),
  (122, .aload_n 0, 1, 0, 0, .null, [], []),
  (123, .getfield 37, 3, 11, 18, .null, [], [1149]),
  (126, .iload_n 3, 1, 3, 0, .null, [], []),
  (127, .iaload, 1, 0, 0, .null, [], []),
  (128, .iadd, 1, 0, 0, .null, [], []),
  (129, .invokevirtual 210, 14, 195, 2, .int 0, [], [1440, 96, 1443, 1442, 60]),
  (132, .istore 5, 2, 5, 0, .null, [], []),
  (134, .aload_n 0, 1, 0, 0, .null, [], []),
  (135, .getfield 43, 3, 11, 20, .null, [], [1151]),
  (138, .iload_n 1, 1, 1, 0, .null, [], []),
  (139, .iload_n 3, 1, 3, 0, .null, [], []),
  (140, .iastore, 1, 0, 0, .null, [], []),
  (141, .iload 5, 2, 5, 0, .null, [], []),
  (143, .ireturn, 1, 0, 0, .int 0, [], [])],
  [(19, [true, true, true, true, true, true, false, false]), (49, [true, true, true, true, true, true, false, false])], 8)
/-- 196: LeastPaysModel.ordered(II)I -/
def kX11_ordered : j_K := ([
  (0, .aload_n 0, 1, 0, 0, .null, [], []),
  (1, .iload_n 1, 1, 1, 0, .null, [], []),
  (2, .invokevirtual 105, 14, 160, 1, .int 0, [], [1302, 96, 1305, 1304, 41]),
  (5, .ifCond .eq 24, 3, 29, 0, .null, [], []),
  (8, .iload_n 2, 1, 2, 0, .null, [], []),
  (9, .i2l, 1, 0, 0, .null, [], []),
  (10, .lconst 0, 1, 0, 0, .long 0, [], []),
  (11, .ldc2_w 216, 3, 0, 0, .long 2, [], [1439]),
  (14, .invokestatic 93, 3, 155, 3, .int 0, [], [1286, 96, 1288, 1287]),
  (17, .ifCond .eq 12, 3, 29, 0, .null, [], []),
  (20, .iload_n 2, 1, 2, 0, .null, [], []),
  (21, .iconst 2, 1, 0, 0, .int 2, [], []),
  (22, .if_icmp .ne 10, 3, 32, 0, .null, [], []),
  (25, .iload_n 1, 1, 1, 0, .null, [], []),
  (26, .ifCond .eq 6, 3, 32, 0, .null, [], []),
  (29, .ldc 125, 2, 0, 0, .int (-2000000000), [], [1357]),
  (31, .ireturn, 1, 0, 0, .int 0, [], []),
  (32, .aload_n 0, 1, 0, 0, .null, [], []),
  (33, .invokevirtual 157, 14, 167, 0, .null, [], [1325, 96, 1328, 1327, 45]),
  (36, .aload_n 0, 1, 0, 0, .null, [], []),
  (37, .iconst 0, 1, 0, 0, .int 0, [], []),
  (38, .iconst 0, 1, 0, 0, .int 0, [], []),
  (39, .invokevirtual 210, 14, 195, 2, .int 0, [], [1440, 96, 1443, 1442, 60]),
  (42, .istore_n 3, 1, 3, 0, .null, [], []),
  (43, .iload_n 2, 1, 2, 0, .null, [], []),
  (44, .iconst 1, 1, 0, 0, .int 1, [], []),
  (45, .if_icmp .eq 33, 3, 78, 0, .null, [], []),
  (48, .iload_n 2, 1, 2, 0, .null, [], []),
  (49, .iconst 2, 1, 0, 0, .int 2, [], []),
  (50, .if_icmp .ne 7, 3, 57, 0, .null, [], []),
  (53, .iload_n 3, 1, 3, 0, .null, [], []),
  (54, .goto 23, 3, 77, 0, .null, [], []),
  (57, .aload_n 0, 1, 0, 0, .null, [], []),
  (58, .getfield 43, 3, 11, 20, .null, [], [1151]),
  (61, .iload_n 1, 1, 1, 0, .null, [], []),
  (62, .iaload, 1, 0, 0, .null, [], []),
  (63, .ifCond .ge 8, 3, 71, 0, .null, [], []),
  (66, .bipush (-2), 2, 0, 0, .int (-2), [], []),
  (68, .goto 9, 3, 77, 0, .null, [], []),
  (71, .aload_n 0, 1, 0, 0, .null, [], []),
  (72, .getfield 43, 3, 11, 20, .null, [], [1151]),
  (75, .iload_n 1, 1, 1, 0, .null, [], []),
  (76, .iaload, 1, 0, 0, .null, [], []),
  (77, .ireturn, 1, 0, 0, .int 0, [], []),
  (78, .aload_n 0, 1, 0, 0, .null, [], []),
  (79, .iload_n 3, 1, 3, 0, .null, [], []),
  (80, .aload_n 0, 1, 0, 0, .null, [], []),
  (81, .getfield 9, 3, 11, 0, .null, [], [1131]),
  (84, .bipush 25, 2, 0, 0, .int 25, [], []),
  (86, .iaload, 1, 0, 0, .null, [], []),
  (87, .invokevirtual 153, 14, 172, 2, .null, [], [1333, 96, 1336, 1335, 47]),
  (90, .aload_n 0, 1, 0, 0, .null, [], []),
  (91, .iload_n 1, 1, 1, 0, .null, [], []),
  (92, .aload_n 0, 1, 0, 0, .null, [], []),
  (93, .getfield 43, 3, 11, 20, .null, [], [1151]),
  (96, .iload_n 1, 1, 1, 0, .null, [], []),
  (97, .iaload, 1, 0, 0, .null, [], []),
  (98, .invokevirtual 213, 14, 194, 2, .int 0, [], [1444, 96, 1447, 1446, 61]),
  (101, .aload_n 0, 1, 0, 0, .null, [], []),
  (102, .iload_n 1, 1, 1, 0, .null, [], []),
  (103, .invokevirtual 163, 14, 174, 1, .int 0, [], [1353, 96, 1356, 1355, 52]),
  (106, .isub, 1, 0, 0, .null, [], []),
  (107, .ireturn, 1, 0, 0, .int 0, [], [])],
  [(32, [true, true, true, false])], 4)
/-- 197: LeastPaysModel.feed(I)I -/
def kX11_feed : j_K := ([
  (0, .iload_n 1, 1, 1, 0, .null, [], []),
  (1, .i2l, 1, 0, 0, .null, [], []),
  (2, .lconst 0, 1, 0, 0, .long 0, [], []),
  (3, .ldc2_w 218, 3, 0, 0, .long 255, [], [1452]),
  (6, .invokestatic 93, 3, 155, 3, .int 0, [], [1286, 96, 1288, 1287]),
  (9, .ifCond .ne 5, 3, 14, 0, .null, [], []),
  (12, .iconst (-1), 1, 0, 0, .int (-1), [], []),
  (13, .ireturn, 1, 0, 0, .int 0, [], []),
  (14, .aload_n 0, 1, 0, 0, .null, [], []),
  (15, .getfield 220, 3, 11, 22, .int 0, [], [1153]),
  (18, .bipush 120, 2, 0, 0, .int 120, [], []),
  (20, .if_icmp .ne 6, 3, 26, 0, .null, [], []),
  (23, .bipush (-3), 2, 0, 0, .int (-3), [], []),
  (25, .ireturn, 1, 0, 0, .int 0, [], []),
  (26, .aload_n 0, 1, 0, 0, .null, [], []),
  (27, .getfield 46, 3, 11, 21, .null, [], [1152]),
  (30, .aload_n 0, 1, 0, 0, .null, [], []),
  (31, .getfield 220, 3, 11, 22, .int 0, [], [1153]),
  (34, .iload_n 1, 1, 1, 0, .null, [], []),
  (35, .iastore, 1, 0, 0, .null, [], []),
  (36, .aload_n 0, 1, 0, 0, .null, [], []),
  (37, .dup, 1, 0, 0, .null, [], []),
  (38, .getfield 220, 3, 11, 22, .int 0, [], [1153]),
  (41, .iconst 1, 1, 0, 0, .int 1, [], []),
  (42, .iadd, 1, 0, 0, .null, [], []),
  (43, .putfield 220, 3, 11, 22, .int 0, [], [1153]),
  (46, .aload_n 0, 1, 0, 0, .null, [], []),
  (47, .getfield 220, 3, 11, 22, .int 0, [], [1153]),
  (50, .ireturn, 1, 0, 0, .int 0, [], [])],
  [], 2)
/-- 198: LeastPaysModel.byteAt()I -/
def kX11_byteAt : j_K := ([
  (0, .aload_n 0, 1, 0, 0, .null, [], []),
  (1, .getfield 223, 3, 11, 26, .int 0, [], [1157]),
  (4, .aload_n 0, 1, 0, 0, .null, [], []),
  (5, .getfield 226, 3, 11, 27, .int 0, [], [1158]),
  (8, .if_icmp .ge 39, 3, 47, 0, .null, [], []),
  (11, .aload_n 0, 1, 0, 0, .null, [], []),
  (12, .getfield 229, 3, 11, 25, .int 0, [], [1156]),
  (15, .ifCond .ge 15, 3, 30, 0, .null, [], []),
  (18, .aload_n 0, 1, 0, 0, .null, [], []),
  (19, .getfield 46, 3, 11, 21, .null, [], [1152]),
  (22, .aload_n 0, 1, 0, 0, .null, [], []),
  (23, .getfield 223, 3, 11, 26, .int 0, [], [1157]),
  (26, .iaload, 1, 0, 0, .null, [], []),
  (27, .goto 21, 3, 48, 0, .null, [], []),
  (30, .aload_n 0, 1, 0, 0, .null, [], []),
  (31, .getfield 49, 3, 11, 23, .null, [], [1154]),
  (34, .aload_n 0, 1, 0, 0, .null, [], []),
  (35, .getfield 229, 3, 11, 25, .int 0, [], [1156]),
  (38, .aload_n 0, 1, 0, 0, .null, [], []),
  (39, .getfield 223, 3, 11, 26, .int 0, [], [1157]),
  (42, .iadd, 1, 0, 0, .null, [], []),
  (43, .iaload, 1, 0, 0, .null, [], []),
  (44, .goto 4, 3, 48, 0, .null, [], []),
  (47, .iconst 0, 1, 0, 0, .int 0, [], []),
  (48, .ireturn, 1, 0, 0, .int 0, [], [])],
  [], 1)
/-- 199: LeastPaysModel.wrong()I -/
def kX11_wrong : j_K := ([
  (0, .aload_n 0, 1, 0, 0, .null, [], []),
  (1, .aload_n 0, 1, 0, 0, .null, [], []),
  (2, .getfield 232, 3, 11, 28, .int 0, [], [1159]),
  (5, .ifCond .ge 10, 3, 15, 0, .null, [], []),
  (8, .aload_n 0, 1, 0, 0, .null, [], []),
  (9, .getfield 223, 3, 11, 26, .int 0, [], [1157]),
  (12, .goto 7, 3, 19, 0, .null, [], []),
  (15, .aload_n 0, 1, 0, 0, .null, [], []),
  (16, .getfield 232, 3, 11, 28, .int 0, [], [1159]),
  (19, .putfield 232, 3, 11, 28, .int 0, [], [1159]),
  (22, .iconst 0, 1, 0, 0, .int 0, [], []),
  (23, .ireturn, 1, 0, 0, .int 0, [], [])],
  [], 1)
/-- 200: LeastPaysModel.takes(I)Z -/
def kX11_takes : j_K := ([
  (0, .aload_n 0, 1, 0, 0, .null, [], []),
  (1, .getfield 232, 3, 11, 28, .int 0, [], [1159]),
  (4, .ifCond .ge 11, 3, 15, 0, .null, [], []),
  (7, .aload_n 0, 1, 0, 0, .null, [], []),
  (8, .invokevirtual 235, 14, 198, 0, .int 0, [], [1485, 96, 1488, 1487, 69]),
  (11, .iload_n 1, 1, 1, 0, .null, [], []),
  (12, .if_icmp .eq 5, 3, 17, 0, .null, [], []),
  (15, .iconst 0, 1, 0, 0, .int 0, [], []),
  (16, .ireturn, 1, 0, 0, .long 0, [], []),
  (17, .aload_n 0, 1, 0, 0, .null, [], []),
  (18, .dup, 1, 0, 0, .null, [], []),
  (19, .getfield 223, 3, 11, 26, .int 0, [], [1157]),
  (22, .iconst 1, 1, 0, 0, .int 1, [], []),
  (23, .iadd, 1, 0, 0, .null, [], []),
  (24, .putfield 223, 3, 11, 26, .int 0, [], [1157]),
  (27, .iconst 1, 1, 0, 0, .int 1, [], []),
  (28, .ireturn, 1, 0, 0, .long 0, [], [])],
  [], 2)
/-- 201: LeastPaysModel.either()I -/
def kX11_either : j_K := ([
  (0, .aload_n 0, 1, 0, 0, .null, [], []),
  (1, .invokevirtual 238, 14, 202, 0, .int 0, [], [1465, 96, 1468, 1467, 64]),
  (4, .istore_n 1, 1, 1, 0, .null, [], []),
  (5, .aload_n 0, 1, 0, 0, .null, [], []),
  (6, .bipush 124, 2, 0, 0, .int 124, [], []),
  (8, .invokevirtual 241, 14, 200, 1, .int 0, [], [1493, 96, 1496, 1495, 71]),
  (11, .ifCond .eq 25, 3, 36, 0, .null, [], []),
  (14, .aload_n 0, 1, 0, 0, .null, [], []),
  (15, .invokevirtual 238, 14, 202, 0, .int 0, [], [1465, 96, 1468, 1467, 64]),
  (18, .istore_n 2, 1, 2, 0, .null, [], []),
  (19, .iload_n 1, 1, 1, 0, .null, [], []),
  (20, .ifCond .ne 7, 3, 27, 0, .null, [], []),
  (23, .iload_n 2, 1, 2, 0, .null, [], []),
  (24, .ifCond .eq 7, 3, 31, 0, .null, [], []),
  (27, .iconst 1, 1, 0, 0, .int 1, [], []),
  (28, .goto 4, 3, 32, 0, .null, [], []),
  (31, .iconst 0, 1, 0, 0, .int 0, [], []),
  (32, .istore_n 1, 1, 1, 0, .null, [], []),
  (33, .goto (-28), 3, 5, 0, .null, [], []),
  (36, .iload_n 1, 1, 1, 0, .null, [], []),
  (37, .ireturn, 1, 0, 0, .int 0, [], [])],
  [(5, [true, true, false])], 3)
/-- 202: LeastPaysModel.both()I -/
def kX11_both : j_K := ([
  (0, .aload_n 0, 1, 0, 0, .null, [], []),
  (1, .invokevirtual 244, 14, 203, 0, .int 0, [], [1469, 96, 1472, 1471, 65]),
  (4, .istore_n 1, 1, 1, 0, .null, [], []),
  (5, .aload_n 0, 1, 0, 0, .null, [], []),
  (6, .bipush 38, 2, 0, 0, .int 38, [], []),
  (8, .invokevirtual 241, 14, 200, 1, .int 0, [], [1493, 96, 1496, 1495, 71]),
  (11, .ifCond .eq 25, 3, 36, 0, .null, [], []),
  (14, .aload_n 0, 1, 0, 0, .null, [], []),
  (15, .invokevirtual 244, 14, 203, 0, .int 0, [], [1469, 96, 1472, 1471, 65]),
  (18, .istore_n 2, 1, 2, 0, .null, [], []),
  (19, .iload_n 1, 1, 1, 0, .null, [], []),
  (20, .ifCond .eq 11, 3, 31, 0, .null, [], []),
  (23, .iload_n 2, 1, 2, 0, .null, [], []),
  (24, .ifCond .eq 7, 3, 31, 0, .null, [], []),
  (27, .iconst 1, 1, 0, 0, .int 1, [], []),
  (28, .goto 4, 3, 32, 0, .null, [], []),
  (31, .iconst 0, 1, 0, 0, .int 0, [], []),
  (32, .istore_n 1, 1, 1, 0, .null, [], []),
  (33, .goto (-28), 3, 5, 0, .null, [], []),
  (36, .iload_n 1, 1, 1, 0, .null, [], []),
  (37, .ireturn, 1, 0, 0, .int 0, [], [])],
  [(5, [true, true, false])], 3)
/-- 203: LeastPaysModel.compared()I -/
def kX11_compared : j_K := ([
  (0, .aload_n 0, 1, 0, 0, .null, [], []),
  (1, .invokevirtual 247, 14, 204, 0, .int 0, [], [1473, 96, 1476, 1475, 66]),
  (4, .istore_n 1, 1, 1, 0, .null, [], []),
  (5, .aload_n 0, 1, 0, 0, .null, [], []),
  (6, .invokevirtual 235, 14, 198, 0, .int 0, [], [1485, 96, 1488, 1487, 69]),
  (9, .istore_n 2, 1, 2, 0, .null, [], []),
  (10, .aload_n 0, 1, 0, 0, .null, [], []),
  (11, .getfield 232, 3, 11, 28, .int 0, [], [1159]),
  (14, .ifCond .ge 21, 3, 35, 0, .null, [], []),
  (17, .iload_n 2, 1, 2, 0, .null, [], []),
  (18, .bipush 60, 2, 0, 0, .int 60, [], []),
  (20, .if_icmp .eq 17, 3, 37, 0, .null, [], []),
  (23, .iload_n 2, 1, 2, 0, .null, [], []),
  (24, .bipush 61, 2, 0, 0, .int 61, [], []),
  (26, .if_icmp .eq 11, 3, 37, 0, .null, [], []),
  (29, .iload_n 2, 1, 2, 0, .null, [], []),
  (30, .bipush 62, 2, 0, 0, .int 62, [], []),
  (32, .if_icmp .eq 5, 3, 37, 0, .null, [], []),
  (35, .iload_n 1, 1, 1, 0, .null, [], []),
  (36, .ireturn, 1, 0, 0, .int 0, [], []),
  (37, .aload_n 0, 1, 0, 0, .null, [], []),
  (38, .dup, 1, 0, 0, .null, [], []),
  (39, .getfield 223, 3, 11, 26, .int 0, [], [1157]),
  (42, .iconst 1, 1, 0, 0, .int 1, [], []),
  (43, .iadd, 1, 0, 0, .null, [], []),
  (44, .putfield 223, 3, 11, 26, .int 0, [], [1157]),
  (47, .aload_n 0, 1, 0, 0, .null, [], []),
  (48, .invokevirtual 247, 14, 204, 0, .int 0, [], [1473, 96, 1476, 1475, 66]),
  (51, .istore_n 3, 1, 3, 0, .null, [], []),
  (52, .iload_n 2, 1, 2, 0, .null, [], []),
  (53, .bipush 60, 2, 0, 0, .int 60, [], []),
  (55, .if_icmp .ne 11, 3, 66, 0, .null, [], []),
  (58, .iload_n 1, 1, 1, 0, .null, [], []),
  (59, .iload_n 3, 1, 3, 0, .null, [], []),
  (60, .if_icmp .ge 29, 3, 89, 0, .null, [], []),
  (63, .goto 22, 3, 85, 0, .null, [], []),
  (66, .iload_n 2, 1, 2, 0, .null, [], []),
  (67, .bipush 61, 2, 0, 0, .int 61, [], []),
  (69, .if_icmp .ne 11, 3, 80, 0, .null, [], []),
  (72, .iload_n 1, 1, 1, 0, .null, [], []),
  (73, .iload_n 3, 1, 3, 0, .null, [], []),
  (74, .if_icmp .ne 15, 3, 89, 0, .null, [], []),
  (77, .goto 8, 3, 85, 0, .null, [], []),
  (80, .iload_n 1, 1, 1, 0, .null, [], []),
  (81, .iload_n 3, 1, 3, 0, .null, [], []),
  (82, .if_icmp .le 7, 3, 89, 0, .null, [], []),
  (85, .iconst 1, 1, 0, 0, .int 1, [], []),
  (86, .goto 4, 3, 90, 0, .null, [], []),
  (89, .iconst 0, 1, 0, 0, .int 0, [], []),
  (90, .ireturn, 1, 0, 0, .int 0, [], [])],
  [(37, [true, true, true, false])], 4)
/-- 204: LeastPaysModel.sums()I -/
def kX11_sums : j_K := ([
  (0, .aload_n 0, 1, 0, 0, .null, [], []),
  (1, .invokevirtual 250, 14, 205, 0, .int 0, [], [1477, 96, 1480, 1479, 67]),
  (4, .istore_n 1, 1, 1, 0, .null, [], []),
  (5, .aload_n 0, 1, 0, 0, .null, [], []),
  (6, .getfield 232, 3, 11, 28, .int 0, [], [1159]),
  (9, .ifCond .ge 68, 3, 77, 0, .null, [], []),
  (12, .aload_n 0, 1, 0, 0, .null, [], []),
  (13, .invokevirtual 235, 14, 198, 0, .int 0, [], [1485, 96, 1488, 1487, 69]),
  (16, .bipush 43, 2, 0, 0, .int 43, [], []),
  (18, .if_icmp .eq 12, 3, 30, 0, .null, [], []),
  (21, .aload_n 0, 1, 0, 0, .null, [], []),
  (22, .invokevirtual 235, 14, 198, 0, .int 0, [], [1485, 96, 1488, 1487, 69]),
  (25, .bipush 45, 2, 0, 0, .int 45, [], []),
  (27, .if_icmp .ne 50, 3, 77, 0, .null, [], []),
  (30, .aload_n 0, 1, 0, 0, .null, [], []),
  (31, .invokevirtual 235, 14, 198, 0, .int 0, [], [1485, 96, 1488, 1487, 69]),
  (34, .bipush 43, 2, 0, 0, .int 43, [], []),
  (36, .if_icmp .ne 7, 3, 43, 0, .null, [], []),
  (39, .iconst 1, 1, 0, 0, .int 1, [], []),
  (40, .goto 4, 3, 44, 0, .null, [], []),
  (43, .iconst 0, 1, 0, 0, .int 0, [], []),
  (44, .istore_n 2, 1, 2, 0, .null, [], []),
  (45, .aload_n 0, 1, 0, 0, .null, [], []),
  (46, .dup, 1, 0, 0, .null, [], []),
  (47, .getfield 223, 3, 11, 26, .int 0, [], [1157]),
  (50, .iconst 1, 1, 0, 0, .int 1, [], []),
  (51, .iadd, 1, 0, 0, .null, [], []),
  (52, .putfield 223, 3, 11, 26, .int 0, [], [1157]),
  (55, .aload_n 0, 1, 0, 0, .null, [], []),
  (56, .invokevirtual 250, 14, 205, 0, .int 0, [], [1477, 96, 1480, 1479, 67]),
  (59, .istore_n 3, 1, 3, 0, .null, [], []),
  (60, .iload_n 2, 1, 2, 0, .null, [], []),
  (61, .ifCond .eq 9, 3, 70, 0, .null, [], []),
  (64, .iload_n 1, 1, 1, 0, .null, [], []),
  (65, .iload_n 3, 1, 3, 0, .null, [], []),
  (66, .iadd, 1, 0, 0, .null, [], []),
  (67, .goto 6, 3, 73, 0, .null, [], []),
  (70, .iload_n 1, 1, 1, 0, .null, [], []),
  (71, .iload_n 3, 1, 3, 0, .null, [], []),
  (72, .isub, 1, 0, 0, .null, [], []),
  (73, .istore_n 1, 1, 1, 0, .null, [], []),
  (74, .goto (-69), 3, 5, 0, .null, [], []),
  (77, .iload_n 1, 1, 1, 0, .null, [], []),
  (78, .ireturn, 1, 0, 0, .int 0, [], [])],
  [(5, [true, true, false, false]), (30, [true, true, false, false])], 4)
/-- 205: LeastPaysModel.product()I -/
def kX11_product : j_K := ([
  (0, .aload_n 0, 1, 0, 0, .null, [], []),
  (1, .invokevirtual 253, 14, 207, 0, .int 0, [], [1481, 96, 1484, 1483, 68]),
  (4, .istore_n 1, 1, 1, 0, .null, [], []),
  (5, .aload_n 0, 1, 0, 0, .null, [], []),
  (6, .invokevirtual 235, 14, 198, 0, .int 0, [], [1485, 96, 1488, 1487, 69]),
  (9, .istore_n 2, 1, 2, 0, .null, [], []),
  (10, .aload_n 0, 1, 0, 0, .null, [], []),
  (11, .getfield 232, 3, 11, 28, .int 0, [], [1159]),
  (14, .ifCond .ge 80, 3, 94, 0, .null, [], []),
  (17, .iload_n 2, 1, 2, 0, .null, [], []),
  (18, .bipush 42, 2, 0, 0, .int 42, [], []),
  (20, .if_icmp .eq 15, 3, 35, 0, .null, [], []),
  (23, .iload_n 2, 1, 2, 0, .null, [], []),
  (24, .bipush 47, 2, 0, 0, .int 47, [], []),
  (26, .if_icmp .eq 9, 3, 35, 0, .null, [], []),
  (29, .iload_n 2, 1, 2, 0, .null, [], []),
  (30, .bipush 37, 2, 0, 0, .int 37, [], []),
  (32, .if_icmp .ne 62, 3, 94, 0, .null, [], []),
  (35, .aload_n 0, 1, 0, 0, .null, [], []),
  (36, .dup, 1, 0, 0, .null, [], []),
  (37, .getfield 223, 3, 11, 26, .int 0, [], [1157]),
  (40, .iconst 1, 1, 0, 0, .int 1, [], []),
  (41, .iadd, 1, 0, 0, .null, [], []),
  (42, .putfield 223, 3, 11, 26, .int 0, [], [1157]),
  (45, .aload_n 0, 1, 0, 0, .null, [], []),
  (46, .invokevirtual 253, 14, 207, 0, .int 0, [], [1481, 96, 1484, 1483, 68]),
  (49, .istore_n 3, 1, 3, 0, .null, [], []),
  (50, .iload_n 2, 1, 2, 0, .null, [], []),
  (51, .bipush 42, 2, 0, 0, .int 42, [], []),
  (53, .if_icmp .ne 9, 3, 62, 0, .null, [], []),
  (56, .iload_n 1, 1, 1, 0, .null, [], []),
  (57, .iload_n 3, 1, 3, 0, .null, [], []),
  (58, .imul, 1, 0, 0, .null, [], []),
  (59, .goto 26, 3, 85, 0, .null, [], []),
  (62, .iload_n 3, 1, 3, 0, .null, [], []),
  (63, .ifCond .ne 7, 3, 70, 0, .null, [], []),
  (66, .iconst 0, 1, 0, 0, .int 0, [], []),
  (67, .goto 18, 3, 85, 0, .null, [], []),
  (70, .iload_n 2, 1, 2, 0, .null, [], []),
  (71, .bipush 47, 2, 0, 0, .int 47, [], []),
  (73, .if_icmp .ne 9, 3, 82, 0, .null, [], []),
  (76, .iload_n 1, 1, 1, 0, .null, [], []),
  (77, .iload_n 3, 1, 3, 0, .null, [], []),
  (78, .idiv, 1, 0, 0, .null, [], []),
  (79, .goto 6, 3, 85, 0, .null, [], []),
  (82, .iload_n 1, 1, 1, 0, .null, [], []),
  (83, .iload_n 3, 1, 3, 0, .null, [], []),
  (84, .irem, 1, 0, 0, .null, [], []),
  (85, .istore_n 1, 1, 1, 0, .null, [], []),
  (86, .aload_n 0, 1, 0, 0, .null, [], []),
  (87, .invokevirtual 235, 14, 198, 0, .int 0, [], [1485, 96, 1488, 1487, 69]),
  (90, .istore_n 2, 1, 2, 0, .null, [], []),
  (91, .goto (-81), 3, 10, 0, .null, [], []),
  (94, .iload_n 1, 1, 1, 0, .null, [], []),
  (95, .ireturn, 1, 0, 0, .int 0, [], [])],
  [(10, [true, true, true, false]), (35, [true, true, true, false])], 4)
/-- 206: LeastPaysModel.nameOf(I)I -/
def kX11_nameOf : j_K := ([
  (0, .iload_n 0, 1, 0, 0, .null, [], []),
  (1, .lookupswitch 61 #[(98, 51), (107, 57), (110, 55), (112, 53), (114, 59)], 51, 62, 0, .null, [(98, 52), (107, 58), (110, 56), (112, 54), (114, 60)], []),
  (52, .iconst 0, 1, 0, 0, .int 0, [], []),
  (53, .ireturn, 1, 0, 0, .int 0, [], []),
  (54, .iconst 1, 1, 0, 0, .int 1, [], []),
  (55, .ireturn, 1, 0, 0, .int 0, [], []),
  (56, .iconst 2, 1, 0, 0, .int 2, [], []),
  (57, .ireturn, 1, 0, 0, .int 0, [], []),
  (58, .iconst 3, 1, 0, 0, .int 3, [], []),
  (59, .ireturn, 1, 0, 0, .int 0, [], []),
  (60, .iconst 4, 1, 0, 0, .int 4, [], []),
  (61, .ireturn, 1, 0, 0, .int 0, [], []),
  (62, .iconst (-1), 1, 0, 0, .int (-1), [], []),
  (63, .ireturn, 1, 0, 0, .int 0, [], [])],
  [], 1)
/-- 207: LeastPaysModel.one()I -/
def kX11_one : j_K := ([
  (0, .aload_n 0, 1, 0, 0, .null, [], []),
  (1, .getfield 232, 3, 11, 28, .int 0, [], [1159]),
  (4, .ifCond .lt 5, 3, 9, 0, .null, [], []),
  (7, .iconst 0, 1, 0, 0, .int 0, [], []),
  (8, .ireturn, 1, 0, 0, .int 0, [], []),
  (9, .aload_n 0, 1, 0, 0, .null, [], []),
  (10, .invokevirtual 235, 14, 198, 0, .int 0, [], [1485, 96, 1488, 1487, 69]),
  (13, .istore_n 1, 1, 1, 0, .null, [], []),
  (14, .iload_n 1, 1, 1, 0, .null, [], []),
  (15, .bipush 33, 2, 0, 0, .int 33, [], []),
  (17, .if_icmp .eq 15, 3, 32, 0, .null, [], []),
  (20, .iload_n 1, 1, 1, 0, .null, [], []),
  (21, .bipush 45, 2, 0, 0, .int 45, [], []),
  (23, .if_icmp .eq 9, 3, 32, 0, .null, [], []),
  (26, .iload_n 1, 1, 1, 0, .null, [], []),
  (27, .bipush 40, 2, 0, 0, .int 40, [], []),
  (29, .if_icmp .ne 116, 3, 145, 0, .null, [], []),
  (32, .aload_n 0, 1, 0, 0, .null, [], []),
  (33, .getfield 256, 3, 11, 29, .int 0, [], [1160]),
  (36, .bipush 6, 2, 0, 0, .int 6, [], []),
  (38, .if_icmp .ne 8, 3, 46, 0, .null, [], []),
  (41, .aload_n 0, 1, 0, 0, .null, [], []),
  (42, .invokevirtual 259, 14, 199, 0, .int 0, [], [1489, 96, 1492, 1491, 70]),
  (45, .ireturn, 1, 0, 0, .int 0, [], []),
  (46, .aload_n 0, 1, 0, 0, .null, [], []),
  (47, .dup, 1, 0, 0, .null, [], []),
  (48, .getfield 256, 3, 11, 29, .int 0, [], [1160]),
  (51, .iconst 1, 1, 0, 0, .int 1, [], []),
  (52, .iadd, 1, 0, 0, .null, [], []),
  (53, .putfield 256, 3, 11, 29, .int 0, [], [1160]),
  (56, .aload_n 0, 1, 0, 0, .null, [], []),
  (57, .dup, 1, 0, 0, .null, [], []),
  (58, .getfield 223, 3, 11, 26, .int 0, [], [1157]),
  (61, .iconst 1, 1, 0, 0, .int 1, [], []),
  (62, .iadd, 1, 0, 0, .null, [], []),
  (63, .putfield 223, 3, 11, 26, .int 0, [], [1157]),
  (66, .iload_n 1, 1, 1, 0, .null, [], []),
  (67, .bipush 40, 2, 0, 0, .int 40, [], []),
  (69, .if_icmp .ne 10, 3, 79, 0, .null, [], []),
  (72, .aload_n 0, 1, 0, 0, .null, [], []),
  (73, .invokevirtual 262, 14, 201, 0, .int 0, [], [1461, 96, 1464, 1463, 63]),
  (76, .goto 7, 3, 83, 0, .null, [], []),
  (79, .aload_n 0, 1, 0, 0, .null, [], []),
  (80, .invokevirtual 253, 14, 207, 0, .int 0, [], [1481, 96, 1484, 1483, 68]),
  (83, .istore_n 2, 1, 2, 0, .null, [], []),
  (84, .iload_n 1, 1, 1, 0, .null, [], []),
  (85, .bipush 40, 2, 0, 0, .int 40, [], []),
  (87, .if_icmp .ne 17, 3, 104, 0, .null, [], []),
  (90, .aload_n 0, 1, 0, 0, .null, [], []),
  (91, .bipush 41, 2, 0, 0, .int 41, [], []),
  (93, .invokevirtual 241, 14, 200, 1, .int 0, [], [1493, 96, 1496, 1495, 71]),
  (96, .ifCond .ne 8, 3, 104, 0, .null, [], []),
  (99, .aload_n 0, 1, 0, 0, .null, [], []),
  (100, .invokevirtual 259, 14, 199, 0, .int 0, [], [1489, 96, 1492, 1491, 70]),
  (103, .ireturn, 1, 0, 0, .int 0, [], []),
  (104, .aload_n 0, 1, 0, 0, .null, [], []),
  (105, .dup, 1, 0, 0, .null, [], []),
  (106, .getfield 256, 3, 11, 29, .int 0, [], [1160]),
  (109, .iconst 1, 1, 0, 0, .int 1, [], []),
  (110, .isub, 1, 0, 0, .null, [], []),
  (111, .putfield 256, 3, 11, 29, .int 0, [], [1160]),
  (114, .iload_n 1, 1, 1, 0, .null, [], []),
  (115, .bipush 40, 2, 0, 0, .int 40, [], []),
  (117, .if_icmp .ne 7, 3, 124, 0, .null, [], []),
  (120, .iload_n 2, 1, 2, 0, .null, [], []),
  (121, .goto 23, 3, 144, 0, .null, [], []),
  (124, .iload_n 1, 1, 1, 0, .null, [], []),
  (125, .bipush 45, 2, 0, 0, .int 45, [], []),
  (127, .if_icmp .ne 8, 3, 135, 0, .null, [], []),
  (130, .iload_n 2, 1, 2, 0, .null, [], []),
  (131, .ineg, 1, 0, 0, .null, [], []),
  (132, .goto 12, 3, 144, 0, .null, [], []),
  (135, .iload_n 2, 1, 2, 0, .null, [], []),
  (136, .ifCond .ne 7, 3, 143, 0, .null, [], []),
  (139, .iconst 1, 1, 0, 0, .int 1, [], []),
  (140, .goto 4, 3, 144, 0, .null, [], []),
  (143, .iconst 0, 1, 0, 0, .int 0, [], []),
  (144, .ireturn, 1, 0, 0, .int 0, [], []),
  (145, .iload_n 1, 1, 1, 0, .null, [], []),
  (146, .invokestatic 265, 3, 206, 1, .int 0, [], [1497, 96, 1499, 1498]),
  (149, .istore_n 2, 1, 2, 0, .null, [], []),
  (150, .iload_n 2, 1, 2, 0, .null, [], []),
  (151, .ifCond .lt 20, 3, 171, 0, .null, [], []),
  (154, .aload_n 0, 1, 0, 0, .null, [], []),
  (155, .dup, 1, 0, 0, .null, [], []),
  (156, .getfield 223, 3, 11, 26, .int 0, [], [1157]),
  (159, .iconst 1, 1, 0, 0, .int 1, [], []),
  (160, .iadd, 1, 0, 0, .null, [], []),
  (161, .putfield 223, 3, 11, 26, .int 0, [], [1157]),
  (164, .aload_n 0, 1, 0, 0, .null, [], []),
  (165, .getfield 52, 3, 11, 30, .null, [], [1161]),
  (168, .iload_n 2, 1, 2, 0, .null, [], []),
  (169, .iaload, 1, 0, 0, .null, [], []),
  (170, .ireturn, 1, 0, 0, .int 0, [], []),
  (171, .iconst 0, 1, 0, 0, .int 0, [], []),
  (172, .istore_n 3, 1, 3, 0, .null, [], []),
  (173, .iconst 0, 1, 0, 0, .int 0, [], []),
  (174, .istore 4, 2, 4, 0, .null, [], []),
  (176, .iload 4, 2, 4, 0, .null, [], []),
  (178, .iconst 4, 1, 0, 0, .int 4, [], []),
  (179, .if_icmp .ge 50, 3, 229, 0, .null, [], []),
  (182, .aload_n 0, 1, 0, 0, .null, [], []),
  (183, .invokevirtual 235, 14, 198, 0, .int 0, [], [1485, 96, 1488, 1487, 69]),
  (186, .bipush 48, 2, 0, 0, .int 48, [], []),
  (188, .if_icmp .lt 41, 3, 229, 0, .null, [], []),
  (191, .aload_n 0, 1, 0, 0, .null, [], []),
  (192, .invokevirtual 235, 14, 198, 0, .int 0, [], [1485, 96, 1488, 1487, 69]),
  (195, .bipush 57, 2, 0, 0, .int 57, [], []),
  (197, .if_icmp .gt 32, 3, 229, 0, .null, [], []),
  (200, .bipush 10, 2, 0, 0, .int 10, [], []),
  (202, .iload_n 3, 1, 3, 0, .null, [], []),
  (203, .imul, 1, 0, 0, .null, [], []),
  (204, .aload_n 0, 1, 0, 0, .null, [], []),
  (205, .invokevirtual 235, 14, 198, 0, .int 0, [], [1485, 96, 1488, 1487, 69]),
  (208, .iadd, 1, 0, 0, .null, [], []),
  (209, .bipush 48, 2, 0, 0, .int 48, [], []),
  (211, .isub, 1, 0, 0, .null, [], []),
  (212, .istore_n 3, 1, 3, 0, .null, [], []),
  (213, .iinc 4 1, 3, 4, 0, .int 1, [], []),
  (216, .aload_n 0, 1, 0, 0, .null, [], []),
  (217, .dup, 1, 0, 0, .null, [], []),
  (218, .getfield 223, 3, 11, 26, .int 0, [], [1157]),
  (221, .iconst 1, 1, 0, 0, .int 1, [], []),
  (222, .iadd, 1, 0, 0, .null, [], []),
  (223, .putfield 223, 3, 11, 26, .int 0, [], [1157]),
  (226, .goto (-50), 3, 176, 0, .null, [], []),
  (229, .iload 4, 2, 4, 0, .null, [], []),
  (231, .ifCond .ne 10, 3, 241, 0, .null, [], []),
  (234, .aload_n 0, 1, 0, 0, .null, [], []),
  (235, .invokevirtual 259, 14, 199, 0, .int 0, [], [1489, 96, 1492, 1491, 70]),
  (238, .goto 4, 3, 242, 0, .null, [], []),
  (241, .iload_n 3, 1, 3, 0, .null, [], []),
  (242, .ireturn, 1, 0, 0, .int 0, [], [])],
  [(32, [true, true, false, false, false]), (83, [true, true, false, false, false]), (176, [true, false, false, true, true])], 5)
/-- 208: LeastPaysModel.workOut(II)I -/
def kX11_workOut : j_K := ([
  (0, .aload_n 0, 1, 0, 0, .null, [], []),
  (1, .iload_n 1, 1, 1, 0, .null, [], []),
  (2, .putfield 229, 3, 11, 25, .int 0, [], [1156]),
  (5, .aload_n 0, 1, 0, 0, .null, [], []),
  (6, .iconst 0, 1, 0, 0, .int 0, [], []),
  (7, .putfield 223, 3, 11, 26, .int 0, [], [1157]),
  (10, .aload_n 0, 1, 0, 0, .null, [], []),
  (11, .iload_n 2, 1, 2, 0, .null, [], []),
  (12, .putfield 226, 3, 11, 27, .int 0, [], [1158]),
  (15, .aload_n 0, 1, 0, 0, .null, [], []),
  (16, .iconst (-1), 1, 0, 0, .int (-1), [], []),
  (17, .putfield 232, 3, 11, 28, .int 0, [], [1159]),
  (20, .aload_n 0, 1, 0, 0, .null, [], []),
  (21, .iconst 0, 1, 0, 0, .int 0, [], []),
  (22, .putfield 256, 3, 11, 29, .int 0, [], [1160]),
  (25, .iconst 0, 1, 0, 0, .int 0, [], []),
  (26, .istore_n 3, 1, 3, 0, .null, [], []),
  (27, .iconst 0, 1, 0, 0, .int 0, [], []),
  (28, .istore 4, 2, 4, 0, .null, [], []),
  (30, .iconst 1, 1, 0, 0, .int 1, [], []),
  (31, .istore 5, 2, 5, 0, .null, [], []),
  (33, .iload 5, 2, 5, 0, .null, [], []),
  (35, .ifCond .eq 72, 3, 107, 0, .null, [], []),
  (38, .aload_n 0, 1, 0, 0, .null, [], []),
  (39, .invokevirtual 262, 14, 201, 0, .int 0, [], [1461, 96, 1464, 1463, 63]),
  (42, .istore 6, 2, 6, 0, .null, [], []),
  (44, .iconst 1, 1, 0, 0, .int 1, [], []),
  (45, .istore 7, 2, 7, 0, .null, [], []),
  (47, .aload_n 0, 1, 0, 0, .null, [], []),
  (48, .bipush 63, 2, 0, 0, .int 63, [], []),
  (50, .invokevirtual 241, 14, 200, 1, .int 0, [], [1493, 96, 1496, 1495, 71]),
  (53, .ifCond .eq 21, 3, 74, 0, .null, [], []),
  (56, .iload 6, 2, 6, 0, .null, [], []),
  (58, .ifCond .eq 7, 3, 65, 0, .null, [], []),
  (61, .iconst 1, 1, 0, 0, .int 1, [], []),
  (62, .goto 4, 3, 66, 0, .null, [], []),
  (65, .iconst 0, 1, 0, 0, .int 0, [], []),
  (66, .istore 7, 2, 7, 0, .null, [], []),
  (68, .aload_n 0, 1, 0, 0, .null, [], []),
  (69, .invokevirtual 262, 14, 201, 0, .int 0, [], [1461, 96, 1464, 1463, 63]),
  (72, .istore 6, 2, 6, 0, .null, [], []),
  (74, .aload_n 0, 1, 0, 0, .null, [], []),
  (75, .getfield 232, 3, 11, 28, .int 0, [], [1159]),
  (78, .ifCond .ge 18, 3, 96, 0, .null, [], []),
  (81, .iload 7, 2, 7, 0, .null, [], []),
  (83, .ifCond .eq 13, 3, 96, 0, .null, [], []),
  (86, .iload_n 3, 1, 3, 0, .null, [], []),
  (87, .ifCond .ne 9, 3, 96, 0, .null, [], []),
  (90, .iconst 1, 1, 0, 0, .int 1, [], []),
  (91, .istore_n 3, 1, 3, 0, .null, [], []),
  (92, .iload 6, 2, 6, 0, .null, [], []),
  (94, .istore 4, 2, 4, 0, .null, [], []),
  (96, .aload_n 0, 1, 0, 0, .null, [], []),
  (97, .bipush 59, 2, 0, 0, .int 59, [], []),
  (99, .invokevirtual 241, 14, 200, 1, .int 0, [], [1493, 96, 1496, 1495, 71]),
  (102, .istore 5, 2, 5, 0, .null, [], []),
  (104, .goto (-71), 3, 33, 0, .null, [], []),
  (107, .aload_n 0, 1, 0, 0, .null, [], []),
  (108, .getfield 232, 3, 11, 28, .int 0, [], [1159]),
  (111, .ifCond .ge 19, 3, 130, 0, .null, [], []),
  (114, .aload_n 0, 1, 0, 0, .null, [], []),
  (115, .getfield 223, 3, 11, 26, .int 0, [], [1157]),
  (118, .aload_n 0, 1, 0, 0, .null, [], []),
  (119, .getfield 226, 3, 11, 27, .int 0, [], [1158]),
  (122, .if_icmp .ge 8, 3, 130, 0, .null, [], []),
  (125, .aload_n 0, 1, 0, 0, .null, [], []),
  (126, .invokevirtual 259, 14, 199, 0, .int 0, [], [1489, 96, 1492, 1491, 70]),
  (129, .ireturn, 1, 0, 0, .int 0, [], []),
  (130, .iload 4, 2, 4, 0, .null, [], []),
  (132, .ireturn, 1, 0, 0, .int 0, [], [])],
  [(33, [true, false, false, true, true, true, false, false]), (74, [true, false, false, true, true, false, true, true])], 8)
/-- 209: LeastPaysModel.law()I -/
def kX11_law : j_K := ([
  (0, .aload_n 0, 1, 0, 0, .null, [], []),
  (1, .iconst (-1), 1, 0, 0, .int (-1), [], []),
  (2, .aload_n 0, 1, 0, 0, .null, [], []),
  (3, .getfield 220, 3, 11, 22, .int 0, [], [1153]),
  (6, .invokevirtual 268, 14, 208, 2, .int 0, [], [1457, 96, 1460, 1459, 62]),
  (9, .istore_n 1, 1, 1, 0, .null, [], []),
  (10, .aload_n 0, 1, 0, 0, .null, [], []),
  (11, .getfield 220, 3, 11, 22, .int 0, [], [1153]),
  (14, .istore_n 2, 1, 2, 0, .null, [], []),
  (15, .aload_n 0, 1, 0, 0, .null, [], []),
  (16, .iconst 0, 1, 0, 0, .int 0, [], []),
  (17, .putfield 220, 3, 11, 22, .int 0, [], [1153]),
  (20, .aload_n 0, 1, 0, 0, .null, [], []),
  (21, .getfield 232, 3, 11, 28, .int 0, [], [1159]),
  (24, .ifCond .lt 11, 3, 35, 0, .null, [], []),
  (27, .bipush (-100), 2, 0, 0, .int (-100), [], []),
  (29, .aload_n 0, 1, 0, 0, .null, [], []),
  (30, .getfield 232, 3, 11, 28, .int 0, [], [1159]),
  (33, .isub, 1, 0, 0, .null, [], []),
  (34, .ireturn, 1, 0, 0, .int 0, [], []),
  (35, .iconst 0, 1, 0, 0, .int 0, [], []),
  (36, .istore_n 3, 1, 3, 0, .null, [], []),
  (37, .iload_n 3, 1, 3, 0, .null, [], []),
  (38, .iload_n 2, 1, 2, 0, .null, [], []),
  (39, .if_icmp .ge 21, 3, 60, 0, .null, [], []),
  (42, .aload_n 0, 1, 0, 0, .null, [], []),
  (43, .getfield 49, 3, 11, 23, .null, [], [1154]),
  (46, .iload_n 3, 1, 3, 0, .null, [], []),
  (47, .aload_n 0, 1, 0, 0, .null, [], []),
  (48, .getfield 46, 3, 11, 21, .null, [], [1152]),
  (51, .iload_n 3, 1, 3, 0, .null, [], []),
  (52, .iaload, 1, 0, 0, .null, [], []),
  (53, .iastore, 1, 0, 0, .null, [], []),
  (54, .iinc 3 1, 3, 3, 0, .int 1, [], []),
  (57, .goto (-20), 3, 37, 0, .null, [], []),
  (60, .aload_n 0, 1, 0, 0, .null, [], []),
  (61, .iload_n 2, 1, 2, 0, .null, [], []),
  (62, .putfield 80, 3, 11, 24, .int 0, [], [1155]),
  (65, .iconst 1, 1, 0, 0, .int 1, [], []),
  (66, .ireturn, 1, 0, 0, .int 0, [], [])],
  [(37, [true, false, true, true])], 4)
/-- 210: LeastPaysModel.wouldGive(II)I -/
def kX11_wouldGive : j_K := ([
  (0, .iload_n 2, 1, 2, 0, .null, [], []),
  (1, .aload_n 0, 1, 0, 0, .null, [], []),
  (2, .getfield 90, 3, 11, 6, .int 0, [], [1137]),
  (5, .idiv, 1, 0, 0, .null, [], []),
  (6, .istore_n 3, 1, 3, 0, .null, [], []),
  (7, .aload_n 0, 1, 0, 0, .null, [], []),
  (8, .getfield 80, 3, 11, 24, .int 0, [], [1155]),
  (11, .ifCond .lt 62, 3, 73, 0, .null, [], []),
  (14, .aload_n 0, 1, 0, 0, .null, [], []),
  (15, .getfield 52, 3, 11, 30, .null, [], [1161]),
  (18, .iconst 0, 1, 0, 0, .int 0, [], []),
  (19, .iload_n 2, 1, 2, 0, .null, [], []),
  (20, .iastore, 1, 0, 0, .null, [], []),
  (21, .aload_n 0, 1, 0, 0, .null, [], []),
  (22, .getfield 52, 3, 11, 30, .null, [], [1161]),
  (25, .iconst 1, 1, 0, 0, .int 1, [], []),
  (26, .aload_n 0, 1, 0, 0, .null, [], []),
  (27, .getfield 9, 3, 11, 0, .null, [], [1131]),
  (30, .iload_n 1, 1, 1, 0, .null, [], []),
  (31, .iaload, 1, 0, 0, .null, [], []),
  (32, .iastore, 1, 0, 0, .null, [], []),
  (33, .aload_n 0, 1, 0, 0, .null, [], []),
  (34, .getfield 52, 3, 11, 30, .null, [], [1161]),
  (37, .iconst 2, 1, 0, 0, .int 2, [], []),
  (38, .iload_n 1, 1, 1, 0, .null, [], []),
  (39, .iastore, 1, 0, 0, .null, [], []),
  (40, .aload_n 0, 1, 0, 0, .null, [], []),
  (41, .getfield 52, 3, 11, 30, .null, [], [1161]),
  (44, .iconst 3, 1, 0, 0, .int 3, [], []),
  (45, .aload_n 0, 1, 0, 0, .null, [], []),
  (46, .getfield 90, 3, 11, 6, .int 0, [], [1137]),
  (49, .iastore, 1, 0, 0, .null, [], []),
  (50, .aload_n 0, 1, 0, 0, .null, [], []),
  (51, .getfield 52, 3, 11, 30, .null, [], [1161]),
  (54, .iconst 4, 1, 0, 0, .int 4, [], []),
  (55, .aload_n 0, 1, 0, 0, .null, [], []),
  (56, .getfield 9, 3, 11, 0, .null, [], [1131]),
  (59, .bipush 25, 2, 0, 0, .int 25, [], []),
  (61, .iaload, 1, 0, 0, .null, [], []),
  (62, .iastore, 1, 0, 0, .null, [], []),
  (63, .aload_n 0, 1, 0, 0, .null, [], []),
  (64, .iconst 0, 1, 0, 0, .int 0, [], []),
  (65, .aload_n 0, 1, 0, 0, .null, [], []),
  (66, .getfield 80, 3, 11, 24, .int 0, [], [1155]),
  (69, .invokevirtual 268, 14, 208, 2, .int 0, [], [1457, 96, 1460, 1459, 62]),
  (72, .istore_n 3, 1, 3, 0, .null, [], []),
  (73, .iload_n 3, 1, 3, 0, .null, [], []),
  (74, .ifCond .ge 7, 3, 81, 0, .null, [], []),
  (77, .iconst 0, 1, 0, 0, .int 0, [], []),
  (78, .goto 23, 3, 101, 0, .null, [], []),
  (81, .iload_n 3, 1, 3, 0, .null, [], []),
  (82, .aload_n 0, 1, 0, 0, .null, [], []),
  (83, .getfield 9, 3, 11, 0, .null, [], [1131]),
  (86, .iload_n 1, 1, 1, 0, .null, [], []),
  (87, .iaload, 1, 0, 0, .null, [], []),
  (88, .if_icmp .le 12, 3, 100, 0, .null, [], []),
  (91, .aload_n 0, 1, 0, 0, .null, [], []),
  (92, .getfield 9, 3, 11, 0, .null, [], [1131]),
  (95, .iload_n 1, 1, 1, 0, .null, [], []),
  (96, .iaload, 1, 0, 0, .null, [], []),
  (97, .goto 4, 3, 101, 0, .null, [], []),
  (100, .iload_n 3, 1, 3, 0, .null, [], []),
  (101, .ireturn, 1, 0, 0, .int 0, [], [])],
  [], 4)
/-- 211: LeastPaysModel.thought(III)I -/
def kX11_thought : j_K := ([
  (0, .aload_n 0, 1, 0, 0, .null, [], []),
  (1, .iload_n 1, 1, 1, 0, .null, [], []),
  (2, .invokevirtual 105, 14, 160, 1, .int 0, [], [1302, 96, 1305, 1304, 41]),
  (5, .ifCond .eq 25, 3, 30, 0, .null, [], []),
  (8, .iload_n 2, 1, 2, 0, .null, [], []),
  (9, .i2l, 1, 0, 0, .null, [], []),
  (10, .lconst 0, 1, 0, 0, .long 0, [], []),
  (11, .ldc2_w 97, 3, 0, 0, .long 99, [], [1285]),
  (14, .invokestatic 93, 3, 155, 3, .int 0, [], [1286, 96, 1288, 1287]),
  (17, .ifCond .eq 13, 3, 30, 0, .null, [], []),
  (20, .iload_n 3, 1, 3, 0, .null, [], []),
  (21, .i2l, 1, 0, 0, .null, [], []),
  (22, .lconst 0, 1, 0, 0, .long 0, [], []),
  (23, .lconst 1, 1, 0, 0, .long 1, [], []),
  (24, .invokestatic 93, 3, 155, 3, .int 0, [], [1286, 96, 1288, 1287]),
  (27, .ifCond .ne 5, 3, 32, 0, .null, [], []),
  (30, .iconst (-1), 1, 0, 0, .int (-1), [], []),
  (31, .ireturn, 1, 0, 0, .int 0, [], []),
  (32, .bipush (-2), 2, 0, 0, .int (-2), [], []),
  (34, .istore 4, 2, 4, 0, .null, [], []),
  (36, .bipush (-2), 2, 0, 0, .int (-2), [], []),
  (38, .istore 5, 2, 5, 0, .null, [], []),
  (40, .iconst 0, 1, 0, 0, .int 0, [], []),
  (41, .istore 6, 2, 6, 0, .null, [], []),
  (43, .iload 6, 2, 6, 0, .null, [], []),
  (45, .sipush 599, 3, 0, 0, .int 599, [], []),
  (48, .if_icmp .gt 38, 3, 86, 0, .null, [], []),
  (51, .aload_n 0, 1, 0, 0, .null, [], []),
  (52, .iload_n 1, 1, 1, 0, .null, [], []),
  (53, .iload 6, 2, 6, 0, .null, [], []),
  (55, .invokevirtual 271, 14, 210, 2, .int 0, [], [1504, 96, 1507, 1506, 72]),
  (58, .iload_n 2, 1, 2, 0, .null, [], []),
  (59, .if_icmp .ne 21, 3, 80, 0, .null, [], []),
  (62, .iload 4, 2, 4, 0, .null, [], []),
  (64, .ifCond .ge 8, 3, 72, 0, .null, [], []),
  (67, .iload 6, 2, 6, 0, .null, [], []),
  (69, .goto 5, 3, 74, 0, .null, [], []),
  (72, .iload 4, 2, 4, 0, .null, [], []),
  (74, .istore 4, 2, 4, 0, .null, [], []),
  (76, .iload 6, 2, 6, 0, .null, [], []),
  (78, .istore 5, 2, 5, 0, .null, [], []),
  (80, .iinc 6 1, 3, 6, 0, .int 1, [], []),
  (83, .goto (-40), 3, 43, 0, .null, [], []),
  (86, .iload_n 3, 1, 3, 0, .null, [], []),
  (87, .ifCond .ne 8, 3, 95, 0, .null, [], []),
  (90, .iload 4, 2, 4, 0, .null, [], []),
  (92, .goto 5, 3, 97, 0, .null, [], []),
  (95, .iload 5, 2, 5, 0, .null, [], []),
  (97, .ireturn, 1, 0, 0, .int 0, [], [])],
  [(43, [true, true, true, true, true, true, true])], 7)
/-- 212: LeastPaysModel.givenBy(I)I -/
def kX11_givenBy : j_K := ([
  (0, .aload_n 0, 1, 0, 0, .null, [], []),
  (1, .iload_n 1, 1, 1, 0, .null, [], []),
  (2, .aload_n 0, 1, 0, 0, .null, [], []),
  (3, .getfield 22, 3, 11, 7, .null, [], [1138]),
  (6, .iload_n 1, 1, 1, 0, .null, [], []),
  (7, .iaload, 1, 0, 0, .null, [], []),
  (8, .ifCond .ge 13, 3, 21, 0, .null, [], []),
  (11, .aload_n 0, 1, 0, 0, .null, [], []),
  (12, .getfield 9, 3, 11, 0, .null, [], [1131]),
  (15, .bipush 24, 2, 0, 0, .int 24, [], []),
  (17, .iaload, 1, 0, 0, .null, [], []),
  (18, .goto 9, 3, 27, 0, .null, [], []),
  (21, .aload_n 0, 1, 0, 0, .null, [], []),
  (22, .getfield 22, 3, 11, 7, .null, [], [1138]),
  (25, .iload_n 1, 1, 1, 0, .null, [], []),
  (26, .iaload, 1, 0, 0, .null, [], []),
  (27, .invokevirtual 271, 14, 210, 2, .int 0, [], [1504, 96, 1507, 1506, 72]),
  (30, .ireturn, 1, 0, 0, .int 0, [], [])],
  [], 2)
/-- 213: LeastPaysModel.given(I)I -/
def kX11_given : j_K := ([
  (0, .iload_n 1, 1, 1, 0, .null, [], []),
  (1, .iconst (-1), 1, 0, 0, .int (-1), [], []),
  (2, .if_icmp .eq 13, 3, 15, 0, .null, [], []),
  (5, .aload_n 0, 1, 0, 0, .null, [], []),
  (6, .iload_n 1, 1, 1, 0, .null, [], []),
  (7, .invokevirtual 105, 14, 160, 1, .int 0, [], [1302, 96, 1305, 1304, 41]),
  (10, .ifCond .ne 5, 3, 15, 0, .null, [], []),
  (13, .iconst (-1), 1, 0, 0, .int (-1), [], []),
  (14, .ireturn, 1, 0, 0, .int 0, [], []),
  (15, .iload_n 1, 1, 1, 0, .null, [], []),
  (16, .ifCond .lt 9, 3, 25, 0, .null, [], []),
  (19, .aload_n 0, 1, 0, 0, .null, [], []),
  (20, .iload_n 1, 1, 1, 0, .null, [], []),
  (21, .invokevirtual 274, 14, 212, 1, .int 0, [], [1512, 96, 1515, 1514, 73]),
  (24, .ireturn, 1, 0, 0, .int 0, [], []),
  (25, .iconst 0, 1, 0, 0, .int 0, [], []),
  (26, .istore_n 2, 1, 2, 0, .null, [], []),
  (27, .iconst 0, 1, 0, 0, .int 0, [], []),
  (28, .istore_n 3, 1, 3, 0, .null, [], []),
  (29, .iload_n 3, 1, 3, 0, .null, [], []),
  (30, .aload_n 0, 1, 0, 0, .null, [], []),
  (31, .getfield 90, 3, 11, 6, .int 0, [], [1137]),
  (34, .if_icmp .ge 17, 3, 51, 0, .null, [], []),
  (37, .iload_n 2, 1, 2, 0, .null, [], []),
  (38, .aload_n 0, 1, 0, 0, .null, [], []),
  (39, .iload_n 3, 1, 3, 0, .null, [], []),
  (40, .invokevirtual 274, 14, 212, 1, .int 0, [], [1512, 96, 1515, 1514, 73]),
  (43, .iadd, 1, 0, 0, .null, [], []),
  (44, .istore_n 2, 1, 2, 0, .null, [], []),
  (45, .iinc 3 1, 3, 3, 0, .int 1, [], []),
  (48, .goto (-19), 3, 29, 0, .null, [], []),
  (51, .iload_n 2, 1, 2, 0, .null, [], []),
  (52, .ireturn, 1, 0, 0, .int 0, [], [])],
  [(29, [true, false, true, true])], 4)
/-- 214: LeastPaysModel.stranger(III)J -/
def kX11_stranger : j_K := ([
  (0, .aload_n 0, 1, 0, 0, .null, [], []),
  (1, .iload_n 1, 1, 1, 0, .null, [], []),
  (2, .invokevirtual 105, 14, 160, 1, .int 0, [], [1302, 96, 1305, 1304, 41]),
  (5, .ifCond .eq 26, 3, 31, 0, .null, [], []),
  (8, .iload_n 2, 1, 2, 0, .null, [], []),
  (9, .ifCond .lt 22, 3, 31, 0, .null, [], []),
  (12, .iload_n 2, 1, 2, 0, .null, [], []),
  (13, .bipush 100, 2, 0, 0, .int 100, [], []),
  (15, .idiv, 1, 0, 0, .null, [], []),
  (16, .bipush 12, 2, 0, 0, .int 12, [], []),
  (18, .if_icmp .gt 13, 3, 31, 0, .null, [], []),
  (21, .iload_n 3, 1, 3, 0, .null, [], []),
  (22, .i2l, 1, 0, 0, .null, [], []),
  (23, .lconst 0, 1, 0, 0, .long 0, [], []),
  (24, .lconst 1, 1, 0, 0, .long 1, [], []),
  (25, .invokestatic 93, 3, 155, 3, .int 0, [], [1286, 96, 1288, 1287]),
  (28, .ifCond .ne 7, 3, 35, 0, .null, [], []),
  (31, .ldc2_w 181, 3, 0, 0, .long (-9223372036854775808), [], [1379]),
  (34, .lreturn, 1, 0, 0, .null, [], []),
  (35, .iload_n 2, 1, 2, 0, .null, [], []),
  (36, .bipush 100, 2, 0, 0, .int 100, [], []),
  (38, .idiv, 1, 0, 0, .null, [], []),
  (39, .istore 4, 2, 4, 0, .null, [], []),
  (41, .aload_n 0, 1, 0, 0, .null, [], []),
  (42, .invokevirtual 157, 14, 167, 0, .null, [], [1325, 96, 1328, 1327, 45]),
  (45, .aload_n 0, 1, 0, 0, .null, [], []),
  (46, .invokevirtual 160, 14, 173, 0, .null, [], [1329, 96, 1332, 1331, 46]),
  (49, .aload_n 0, 1, 0, 0, .null, [], []),
  (50, .iload_n 1, 1, 1, 0, .null, [], []),
  (51, .invokevirtual 163, 14, 174, 1, .int 0, [], [1353, 96, 1356, 1355, 52]),
  (54, .i2l, 1, 0, 0, .null, [], []),
  (55, .lstore 5, 2, 5, 0, .null, [], []),
  (57, .aload_n 0, 1, 0, 0, .null, [], []),
  (58, .getfield 28, 3, 11, 11, .null, [], [1142]),
  (61, .aload_n 0, 1, 0, 0, .null, [], []),
  (62, .getfield 90, 3, 11, 6, .int 0, [], [1137]),
  (65, .iload_n 2, 1, 2, 0, .null, [], []),
  (66, .bipush 100, 2, 0, 0, .int 100, [], []),
  (68, .irem, 1, 0, 0, .null, [], []),
  (69, .iastore, 1, 0, 0, .null, [], []),
  (70, .aload_n 0, 1, 0, 0, .null, [], []),
  (71, .aload_n 0, 1, 0, 0, .null, [], []),
  (72, .getfield 90, 3, 11, 6, .int 0, [], [1137]),
  (75, .iconst 1, 1, 0, 0, .int 1, [], []),
  (76, .iadd, 1, 0, 0, .null, [], []),
  (77, .putfield 134, 3, 11, 12, .int 0, [], [1143]),
  (80, .aload_n 0, 1, 0, 0, .null, [], []),
  (81, .invokevirtual 160, 14, 173, 0, .null, [], [1329, 96, 1332, 1331, 46]),
  (84, .iload 4, 2, 4, 0, .null, [], []),
  (86, .aload_n 0, 1, 0, 0, .null, [], []),
  (87, .iload_n 1, 1, 1, 0, .null, [], []),
  (88, .invokevirtual 163, 14, 174, 1, .int 0, [], [1353, 96, 1356, 1355, 52]),
  (91, .imul, 1, 0, 0, .null, [], []),
  (92, .i2l, 1, 0, 0, .null, [], []),
  (93, .bipush 12, 2, 0, 0, .int 12, [], []),
  (95, .iload 4, 2, 4, 0, .null, [], []),
  (97, .isub, 1, 0, 0, .null, [], []),
  (98, .i2l, 1, 0, 0, .null, [], []),
  (99, .lload 5, 2, 5, 0, .null, [], []),
  (101, .lmul, 1, 0, 0, .null, [], []),
  (102, .ladd, 1, 0, 0, .null, [], []),
  (103, .ldc2_w 112, 3, 0, 0, .long 12, [], [1310]),
  (106, .iload_n 3, 1, 3, 0, .null, [], []),
  (107, .invokestatic 191, 3, 180, 3, .long 0, [], [1388, 96, 1390, 1389]),
  (110, .lreturn, 1, 0, 0, .null, [], [])],
  [], 7)
/-- 215: LeastPaysModel.night()I -/
def kX11_night : j_K := ([
  (0, .aload_n 0, 1, 0, 0, .null, [], []),
  (1, .getfield 90, 3, 11, 6, .int 0, [], [1137]),
  (4, .ifCond .ne 6, 3, 10, 0, .null, [], []),
  (7, .bipush (-5), 2, 0, 0, .int (-5), [], []),
  (9, .ireturn, 1, 0, 0, .int 0, [], []),
  (10, .aload_n 0, 1, 0, 0, .null, [], []),
  (11, .invokevirtual 157, 14, 167, 0, .null, [], [1325, 96, 1328, 1327, 45]),
  (14, .aload_n 0, 1, 0, 0, .null, [], []),
  (15, .invokevirtual 160, 14, 173, 0, .null, [], [1329, 96, 1332, 1331, 46]),
  (18, .iconst 0, 1, 0, 0, .int 0, [], []),
  (19, .istore_n 1, 1, 1, 0, .null, [], []),
  (20, .iconst 0, 1, 0, 0, .int 0, [], []),
  (21, .istore_n 2, 1, 2, 0, .null, [], []),
  (22, .iload_n 2, 1, 2, 0, .null, [], []),
  (23, .aload_n 0, 1, 0, 0, .null, [], []),
  (24, .getfield 90, 3, 11, 6, .int 0, [], [1137]),
  (27, .if_icmp .ge 31, 3, 58, 0, .null, [], []),
  (30, .iload_n 1, 1, 1, 0, .null, [], []),
  (31, .aload_n 0, 1, 0, 0, .null, [], []),
  (32, .iload_n 2, 1, 2, 0, .null, [], []),
  (33, .invokevirtual 163, 14, 174, 1, .int 0, [], [1353, 96, 1356, 1355, 52]),
  (36, .iadd, 1, 0, 0, .null, [], []),
  (37, .istore_n 1, 1, 1, 0, .null, [], []),
  (38, .aload_n 0, 1, 0, 0, .null, [], []),
  (39, .getfield 25, 3, 11, 8, .null, [], [1139]),
  (42, .iload_n 2, 1, 2, 0, .null, [], []),
  (43, .dup2, 1, 0, 0, .null, [], []),
  (44, .iaload, 1, 0, 0, .null, [], []),
  (45, .aload_n 0, 1, 0, 0, .null, [], []),
  (46, .iload_n 2, 1, 2, 0, .null, [], []),
  (47, .invokevirtual 163, 14, 174, 1, .int 0, [], [1353, 96, 1356, 1355, 52]),
  (50, .iadd, 1, 0, 0, .null, [], []),
  (51, .iastore, 1, 0, 0, .null, [], []),
  (52, .iinc 2 1, 3, 2, 0, .int 1, [], []),
  (55, .goto (-33), 3, 22, 0, .null, [], []),
  (58, .aload_n 0, 1, 0, 0, .null, [], []),
  (59, .dup, 1, 0, 0, .null, [], []),
  (60, .getfield 129, 3, 11, 9, .int 0, [], [1140]),
  (63, .iconst 1, 1, 0, 0, .int 1, [], []),
  (64, .iadd, 1, 0, 0, .null, [], []),
  (65, .putfield 129, 3, 11, 9, .int 0, [], [1140]),
  (68, .aload_n 0, 1, 0, 0, .null, [], []),
  (69, .dup, 1, 0, 0, .null, [], []),
  (70, .getfield 126, 3, 11, 10, .int 0, [], [1141]),
  (73, .aload_n 0, 1, 0, 0, .null, [], []),
  (74, .getfield 140, 3, 11, 15, .int 0, [], [1146]),
  (77, .iadd, 1, 0, 0, .null, [], []),
  (78, .putfield 126, 3, 11, 10, .int 0, [], [1141]),
  (81, .iload_n 1, 1, 1, 0, .null, [], []),
  (82, .ireturn, 1, 0, 0, .int 0, [], [])],
  [(22, [true, true, true])], 3)
/-- 216: LeastPaysModel.drawn(IIII)I -/
def kX11_drawn : j_K := ([
  (0, .iload_n 2, 1, 2, 0, .null, [], []),
  (1, .i2l, 1, 0, 0, .null, [], []),
  (2, .lconst 1, 1, 0, 0, .long 1, [], []),
  (3, .ldc2_w 277, 3, 0, 0, .long 50, [], [1528]),
  (6, .invokestatic 93, 3, 155, 3, .int 0, [], [1286, 96, 1288, 1287]),
  (9, .ifCond .eq 22, 3, 31, 0, .null, [], []),
  (12, .aload_n 0, 1, 0, 0, .null, [], []),
  (13, .iload_n 3, 1, 3, 0, .null, [], []),
  (14, .invokevirtual 105, 14, 160, 1, .int 0, [], [1302, 96, 1305, 1304, 41]),
  (17, .ifCond .eq 14, 3, 31, 0, .null, [], []),
  (20, .iload 4, 2, 4, 0, .null, [], []),
  (22, .i2l, 1, 0, 0, .null, [], []),
  (23, .lconst 0, 1, 0, 0, .long 0, [], []),
  (24, .lconst 1, 1, 0, 0, .long 1, [], []),
  (25, .invokestatic 93, 3, 155, 3, .int 0, [], [1286, 96, 1288, 1287]),
  (28, .ifCond .ne 6, 3, 34, 0, .null, [], []),
  (31, .ldc 125, 2, 0, 0, .int (-2000000000), [], [1357]),
  (33, .ireturn, 1, 0, 0, .int 0, [], []),
  (34, .iload_n 1, 1, 1, 0, .null, [], []),
  (35, .istore 5, 2, 5, 0, .null, [], []),
  (37, .iconst 0, 1, 0, 0, .int 0, [], []),
  (38, .istore 6, 2, 6, 0, .null, [], []),
  (40, .iconst 0, 1, 0, 0, .int 0, [], []),
  (41, .istore 7, 2, 7, 0, .null, [], []),
  (43, .iconst 0, 1, 0, 0, .int 0, [], []),
  (44, .istore 8, 2, 8, 0, .null, [], []),
  (46, .iload 8, 2, 8, 0, .null, [], []),
  (48, .iload_n 2, 1, 2, 0, .null, [], []),
  (49, .if_icmp .ge 124, 3, 173, 0, .null, [], []),
  (52, .aload_n 0, 1, 0, 0, .null, [], []),
  (53, .invokevirtual 157, 14, 167, 0, .null, [], [1325, 96, 1328, 1327, 45]),
  (56, .iconst 0, 1, 0, 0, .int 0, [], []),
  (57, .istore 9, 2, 9, 0, .null, [], []),
  (59, .iload 9, 2, 9, 0, .null, [], []),
  (61, .aload_n 0, 1, 0, 0, .null, [], []),
  (62, .getfield 90, 3, 11, 6, .int 0, [], [1137]),
  (65, .if_icmp .ge 69, 3, 134, 0, .null, [], []),
  (68, .iload 5, 2, 5, 0, .null, [], []),
  (70, .ldc_w 279, 3, 0, 0, .int 1103515245, [], [1529]),
  (73, .imul, 1, 0, 0, .null, [], []),
  (74, .sipush 12345, 3, 0, 0, .int 12345, [], []),
  (77, .iadd, 1, 0, 0, .null, [], []),
  (78, .istore 5, 2, 5, 0, .null, [], []),
  (80, .aload_n 0, 1, 0, 0, .null, [], []),
  (81, .getfield 28, 3, 11, 11, .null, [], [1142]),
  (84, .iload 9, 2, 9, 0, .null, [], []),
  (86, .iload 5, 2, 5, 0, .null, [], []),
  (88, .bipush 8, 2, 0, 0, .int 8, [], []),
  (90, .iushr, 1, 0, 0, .null, [], []),
  (91, .bipush 12, 2, 0, 0, .int 12, [], []),
  (93, .irem, 1, 0, 0, .null, [], []),
  (94, .aload_n 0, 1, 0, 0, .null, [], []),
  (95, .getfield 9, 3, 11, 0, .null, [], [1131]),
  (98, .bipush 12, 2, 0, 0, .int 12, [], []),
  (100, .iload 9, 2, 9, 0, .null, [], []),
  (102, .iadd, 1, 0, 0, .null, [], []),
  (103, .iaload, 1, 0, 0, .null, [], []),
  (104, .if_icmp .ge 16, 3, 120, 0, .null, [], []),
  (107, .aload_n 0, 1, 0, 0, .null, [], []),
  (108, .getfield 9, 3, 11, 0, .null, [], [1131]),
  (111, .bipush 18, 2, 0, 0, .int 18, [], []),
  (113, .iload 9, 2, 9, 0, .null, [], []),
  (115, .iadd, 1, 0, 0, .null, [], []),
  (116, .iaload, 1, 0, 0, .null, [], []),
  (117, .goto 10, 3, 127, 0, .null, [], []),
  (120, .aload_n 0, 1, 0, 0, .null, [], []),
  (121, .getfield 28, 3, 11, 11, .null, [], [1142]),
  (124, .iload 9, 2, 9, 0, .null, [], []),
  (126, .iaload, 1, 0, 0, .null, [], []),
  (127, .iastore, 1, 0, 0, .null, [], []),
  (128, .iinc 9 1, 3, 9, 0, .int 1, [], []),
  (131, .goto (-72), 3, 59, 0, .null, [], []),
  (134, .aload_n 0, 1, 0, 0, .null, [], []),
  (135, .invokevirtual 160, 14, 173, 0, .null, [], [1329, 96, 1332, 1331, 46]),
  (138, .iload 6, 2, 6, 0, .null, [], []),
  (140, .aload_n 0, 1, 0, 0, .null, [], []),
  (141, .getfield 31, 3, 11, 13, .null, [], [1144]),
  (144, .iload_n 3, 1, 3, 0, .null, [], []),
  (145, .iaload, 1, 0, 0, .null, [], []),
  (146, .ifCond .le 7, 3, 153, 0, .null, [], []),
  (149, .iconst 1, 1, 0, 0, .int 1, [], []),
  (150, .goto 4, 3, 154, 0, .null, [], []),
  (153, .iconst 0, 1, 0, 0, .int 0, [], []),
  (154, .iadd, 1, 0, 0, .null, [], []),
  (155, .istore 6, 2, 6, 0, .null, [], []),
  (157, .iload 7, 2, 7, 0, .null, [], []),
  (159, .aload_n 0, 1, 0, 0, .null, [], []),
  (160, .iload_n 3, 1, 3, 0, .null, [], []),
  (161, .invokevirtual 163, 14, 174, 1, .int 0, [], [1353, 96, 1356, 1355, 52]),
  (164, .iadd, 1, 0, 0, .null, [], []),
  (165, .istore 7, 2, 7, 0, .null, [], []),
  (167, .iinc 8 1, 3, 8, 0, .int 1, [], []),
  (170, .goto (-124), 3, 46, 0, .null, [], []),
  (173, .iload 4, 2, 4, 0, .null, [], []),
  (175, .ifCond .ne 8, 3, 183, 0, .null, [], []),
  (178, .iload 6, 2, 6, 0, .null, [], []),
  (180, .goto 5, 3, 185, 0, .null, [], []),
  (183, .iload 7, 2, 7, 0, .null, [], []),
  (185, .ireturn, 1, 0, 0, .int 0, [], [])],
  [(46, [true, false, true, true, true, true, true, true, true, false]), (59, [true, false, true, true, true, true, true, true, true, true]), (73, [true, false, true, true, true, false, true, true, true, true]), (78, [true, false, true, true, true, false, true, true, true, true])], 10)
/-- 217: LeastPaysModel.hatIs(I)I -/
def kX11_hatIs : j_K := ([
  (0, .iload_n 1, 1, 1, 0, .null, [], []),
  (1, .invokestatic 99, 3, 235, 1, .int 0, [], [1293, 96, 1295, 1294]),
  (4, .ifCond .ne 7, 3, 11, 0, .null, [], []),
  (7, .iconst (-1), 1, 0, 0, .int (-1), [], []),
  (8, .goto 34, 3, 42, 0, .null, [], []),
  (11, .aload_n 0, 1, 0, 0, .null, [], []),
  (12, .getfield 67, 3, 11, 43, .null, [], [1174]),
  (15, .iload_n 1, 1, 1, 0, .null, [], []),
  (16, .iaload, 1, 0, 0, .null, [], []),
  (17, .ifCond .ge 8, 3, 25, 0, .null, [], []),
  (20, .bipush (-11), 2, 0, 0, .int (-11), [], []),
  (22, .goto 20, 3, 42, 0, .null, [], []),
  (25, .aload_n 0, 1, 0, 0, .null, [], []),
  (26, .getfield 67, 3, 11, 43, .null, [], [1174]),
  (29, .iload_n 1, 1, 1, 0, .null, [], []),
  (30, .iaload, 1, 0, 0, .null, [], []),
  (31, .bipush 51, 2, 0, 0, .int 51, [], []),
  (33, .if_icmp .ne 7, 3, 40, 0, .null, [], []),
  (36, .iconst 1, 1, 0, 0, .int 1, [], []),
  (37, .goto 5, 3, 42, 0, .null, [], []),
  (40, .bipush (-12), 2, 0, 0, .int (-12), [], []),
  (42, .ireturn, 1, 0, 0, .int 0, [], [])],
  [], 2)
/-- 218: LeastPaysModel.firstFalse(II)I -/
def kX11_firstFalse : j_K := ([
  (0, .aload_n 0, 1, 0, 0, .null, [], []),
  (1, .invokevirtual 157, 14, 167, 0, .null, [], [1325, 96, 1328, 1327, 45]),
  (4, .aload_n 0, 1, 0, 0, .null, [], []),
  (5, .aload_n 0, 1, 0, 0, .null, [], []),
  (6, .getfield 9, 3, 11, 0, .null, [], [1131]),
  (9, .bipush 24, 2, 0, 0, .int 24, [], []),
  (11, .iaload, 1, 0, 0, .null, [], []),
  (12, .iload_n 2, 1, 2, 0, .null, [], []),
  (13, .invokevirtual 153, 14, 172, 2, .null, [], [1333, 96, 1336, 1335, 47]),
  (16, .iconst 0, 1, 0, 0, .int 0, [], []),
  (17, .istore_n 3, 1, 3, 0, .null, [], []),
  (18, .iload_n 3, 1, 3, 0, .null, [], []),
  (19, .aload_n 0, 1, 0, 0, .null, [], []),
  (20, .getfield 90, 3, 11, 6, .int 0, [], [1137]),
  (23, .if_icmp .ge 42, 3, 65, 0, .null, [], []),
  (26, .iload_n 3, 1, 3, 0, .null, [], []),
  (27, .aload_n 0, 1, 0, 0, .null, [], []),
  (28, .getfield 70, 3, 11, 44, .null, [], [1175]),
  (31, .iload_n 1, 1, 1, 0, .null, [], []),
  (32, .iaload, 1, 0, 0, .null, [], []),
  (33, .if_icmp .ge 32, 3, 65, 0, .null, [], []),
  (36, .aload_n 0, 1, 0, 0, .null, [], []),
  (37, .getfield 73, 3, 11, 45, .null, [], [1176]),
  (40, .bipush 60, 2, 0, 0, .int 60, [], []),
  (42, .iload_n 1, 1, 1, 0, .null, [], []),
  (43, .imul, 1, 0, 0, .null, [], []),
  (44, .iload_n 3, 1, 3, 0, .null, [], []),
  (45, .iadd, 1, 0, 0, .null, [], []),
  (46, .laload, 1, 0, 0, .null, [], []),
  (47, .aload_n 0, 1, 0, 0, .null, [], []),
  (48, .iload_n 3, 1, 3, 0, .null, [], []),
  (49, .invokevirtual 163, 14, 174, 1, .int 0, [], [1353, 96, 1356, 1355, 52]),
  (52, .i2l, 1, 0, 0, .null, [], []),
  (53, .lcmp, 1, 0, 0, .null, [], []),
  (54, .ifCond .eq 5, 3, 59, 0, .null, [], []),
  (57, .iload_n 3, 1, 3, 0, .null, [], []),
  (58, .ireturn, 1, 0, 0, .int 0, [], []),
  (59, .iinc 3 1, 3, 3, 0, .int 1, [], []),
  (62, .goto (-44), 3, 18, 0, .null, [], []),
  (65, .bipush (-2), 2, 0, 0, .int (-2), [], []),
  (67, .ireturn, 1, 0, 0, .int 0, [], [])],
  [(18, [true, true, false, true])], 4)
/-- 219: LeastPaysModel.judge(I)I -/
def kX11_judge : j_K := ([
  (0, .aload_n 0, 1, 0, 0, .null, [], []),
  (1, .iload_n 1, 1, 1, 0, .null, [], []),
  (2, .invokevirtual 280, 14, 217, 1, .int 0, [], [1534, 96, 1537, 1536, 74]),
  (5, .ifCond .ge 11, 3, 16, 0, .null, [], []),
  (8, .aload_n 0, 1, 0, 0, .null, [], []),
  (9, .iload_n 1, 1, 1, 0, .null, [], []),
  (10, .invokevirtual 280, 14, 217, 1, .int 0, [], [1534, 96, 1537, 1536, 74]),
  (13, .goto 15, 3, 28, 0, .null, [], []),
  (16, .aload_n 0, 1, 0, 0, .null, [], []),
  (17, .iload_n 1, 1, 1, 0, .null, [], []),
  (18, .aload_n 0, 1, 0, 0, .null, [], []),
  (19, .getfield 9, 3, 11, 0, .null, [], [1131]),
  (22, .bipush 25, 2, 0, 0, .int 25, [], []),
  (24, .iaload, 1, 0, 0, .null, [], []),
  (25, .invokevirtual 283, 14, 218, 2, .int 0, [], [1538, 96, 1541, 1540, 75]),
  (28, .ireturn, 1, 0, 0, .int 0, [], [])],
  [], 2)
/-- 220: LeastPaysModel.fits(I)I -/
def kX11_fits : j_K := ([
  (0, .aload_n 0, 1, 0, 0, .null, [], []),
  (1, .iload_n 1, 1, 1, 0, .null, [], []),
  (2, .invokevirtual 280, 14, 217, 1, .int 0, [], [1534, 96, 1537, 1536, 74]),
  (5, .ifCond .ge 9, 3, 14, 0, .null, [], []),
  (8, .aload_n 0, 1, 0, 0, .null, [], []),
  (9, .iload_n 1, 1, 1, 0, .null, [], []),
  (10, .invokevirtual 280, 14, 217, 1, .int 0, [], [1534, 96, 1537, 1536, 74]),
  (13, .ireturn, 1, 0, 0, .int 0, [], []),
  (14, .iconst 0, 1, 0, 0, .int 0, [], []),
  (15, .istore_n 2, 1, 2, 0, .null, [], []),
  (16, .iconst 0, 1, 0, 0, .int 0, [], []),
  (17, .istore_n 3, 1, 3, 0, .null, [], []),
  (18, .iload_n 3, 1, 3, 0, .null, [], []),
  (19, .iconst 5, 1, 0, 0, .int 5, [], []),
  (20, .if_icmp .ge 30, 3, 50, 0, .null, [], []),
  (23, .iload_n 2, 1, 2, 0, .null, [], []),
  (24, .aload_n 0, 1, 0, 0, .null, [], []),
  (25, .iload_n 1, 1, 1, 0, .null, [], []),
  (26, .iload_n 3, 1, 3, 0, .null, [], []),
  (27, .invokevirtual 283, 14, 218, 2, .int 0, [], [1538, 96, 1541, 1540, 75]),
  (30, .bipush (-2), 2, 0, 0, .int (-2), [], []),
  (32, .if_icmp .ne 9, 3, 41, 0, .null, [], []),
  (35, .iconst 1, 1, 0, 0, .int 1, [], []),
  (36, .iload_n 3, 1, 3, 0, .null, [], []),
  (37, .ishl, 1, 0, 0, .null, [], []),
  (38, .goto 4, 3, 42, 0, .null, [], []),
  (41, .iconst 0, 1, 0, 0, .int 0, [], []),
  (42, .ior, 1, 0, 0, .null, [], []),
  (43, .istore_n 2, 1, 2, 0, .null, [], []),
  (44, .iinc 3 1, 3, 3, 0, .int 1, [], []),
  (47, .goto (-29), 3, 18, 0, .null, [], []),
  (50, .iload_n 2, 1, 2, 0, .null, [], []),
  (51, .ireturn, 1, 0, 0, .int 0, [], [])],
  [(18, [true, true, true, true])], 4)
/-- 221: LeastPaysModel.fair(I)I -/
def kX11_fair : j_K := ([
  (0, .iload_n 1, 1, 1, 0, .null, [], []),
  (1, .i2l, 1, 0, 0, .null, [], []),
  (2, .lconst 0, 1, 0, 0, .long 0, [], []),
  (3, .lconst 1, 1, 0, 0, .long 1, [], []),
  (4, .invokestatic 93, 3, 155, 3, .int 0, [], [1286, 96, 1288, 1287]),
  (7, .ifCond .ne 6, 3, 13, 0, .null, [], []),
  (10, .ldc 125, 2, 0, 0, .int (-2000000000), [], [1357]),
  (12, .ireturn, 1, 0, 0, .int 0, [], []),
  (13, .aload_n 0, 1, 0, 0, .null, [], []),
  (14, .getfield 90, 3, 11, 6, .int 0, [], [1137]),
  (17, .ifCond .ne 6, 3, 23, 0, .null, [], []),
  (20, .bipush (-5), 2, 0, 0, .int (-5), [], []),
  (22, .ireturn, 1, 0, 0, .int 0, [], []),
  (23, .aload_n 0, 1, 0, 0, .null, [], []),
  (24, .invokevirtual 157, 14, 167, 0, .null, [], [1325, 96, 1328, 1327, 45]),
  (27, .iconst (-1), 1, 0, 0, .int (-1), [], []),
  (28, .istore_n 2, 1, 2, 0, .null, [], []),
  (29, .iconst 0, 1, 0, 0, .int 0, [], []),
  (30, .istore_n 3, 1, 3, 0, .null, [], []),
  (31, .iconst 0, 1, 0, 0, .int 0, [], []),
  (32, .istore 4, 2, 4, 0, .null, [], []),
  (34, .iload 4, 2, 4, 0, .null, [], []),
  (36, .iconst 5, 1, 0, 0, .int 5, [], []),
  (37, .if_icmp .ge 83, 3, 120, 0, .null, [], []),
  (40, .aload_n 0, 1, 0, 0, .null, [], []),
  (41, .aload_n 0, 1, 0, 0, .null, [], []),
  (42, .getfield 9, 3, 11, 0, .null, [], [1131]),
  (45, .bipush 24, 2, 0, 0, .int 24, [], []),
  (47, .iaload, 1, 0, 0, .null, [], []),
  (48, .iload 4, 2, 4, 0, .null, [], []),
  (50, .invokevirtual 153, 14, 172, 2, .null, [], [1333, 96, 1336, 1335, 47]),
  (53, .iconst 0, 1, 0, 0, .int 0, [], []),
  (54, .istore 5, 2, 5, 0, .null, [], []),
  (56, .iconst 0, 1, 0, 0, .int 0, [], []),
  (57, .istore 6, 2, 6, 0, .null, [], []),
  (59, .iload 6, 2, 6, 0, .null, [], []),
  (61, .aload_n 0, 1, 0, 0, .null, [], []),
  (62, .getfield 90, 3, 11, 6, .int 0, [], [1137]),
  (65, .if_icmp .ge 33, 3, 98, 0, .null, [], []),
  (68, .aload_n 0, 1, 0, 0, .null, [], []),
  (69, .iload 6, 2, 6, 0, .null, [], []),
  (71, .invokevirtual 163, 14, 174, 1, .int 0, [], [1353, 96, 1356, 1355, 52]),
  (74, .iload 5, 2, 5, 0, .null, [], []),
  (76, .if_icmp .le 12, 3, 88, 0, .null, [], []),
  (79, .aload_n 0, 1, 0, 0, .null, [], []),
  (80, .iload 6, 2, 6, 0, .null, [], []),
  (82, .invokevirtual 163, 14, 174, 1, .int 0, [], [1353, 96, 1356, 1355, 52]),
  (85, .goto 5, 3, 90, 0, .null, [], []),
  (88, .iload 5, 2, 5, 0, .null, [], []),
  (90, .istore 5, 2, 5, 0, .null, [], []),
  (92, .iinc 6 1, 3, 6, 0, .int 1, [], []),
  (95, .goto (-36), 3, 59, 0, .null, [], []),
  (98, .iload_n 2, 1, 2, 0, .null, [], []),
  (99, .ifCond .lt 9, 3, 108, 0, .null, [], []),
  (102, .iload 5, 2, 5, 0, .null, [], []),
  (104, .iload_n 3, 1, 3, 0, .null, [], []),
  (105, .if_icmp .ge 9, 3, 114, 0, .null, [], []),
  (108, .iload 4, 2, 4, 0, .null, [], []),
  (110, .istore_n 2, 1, 2, 0, .null, [], []),
  (111, .iload 5, 2, 5, 0, .null, [], []),
  (113, .istore_n 3, 1, 3, 0, .null, [], []),
  (114, .iinc 4 1, 3, 4, 0, .int 1, [], []),
  (117, .goto (-83), 3, 34, 0, .null, [], []),
  (120, .iload_n 1, 1, 1, 0, .null, [], []),
  (121, .ifCond .ne 7, 3, 128, 0, .null, [], []),
  (124, .iload_n 2, 1, 2, 0, .null, [], []),
  (125, .goto 4, 3, 129, 0, .null, [], []),
  (128, .iload_n 3, 1, 3, 0, .null, [], []),
  (129, .ireturn, 1, 0, 0, .int 0, [], [])],
  [(34, [true, true, true, true, true, false, false]), (59, [true, true, true, true, true, true, true])], 7)
/-- 222: LeastPaysModel.image()I -/
def kX11_image : j_K := ([
  (0, .aload_n 0, 1, 0, 0, .null, [], []),
  (1, .iconst 1, 1, 0, 0, .int 1, [], []),
  (2, .putfield 286, 3, 11, 31, .long 0, [], [1162]),
  (5, .aload_n 0, 1, 0, 0, .null, [], []),
  (6, .aload_n 0, 1, 0, 0, .null, [], []),
  (7, .getfield 90, 3, 11, 6, .int 0, [], [1137]),
  (10, .putfield 290, 3, 11, 32, .int 0, [], [1163]),
  (13, .aload_n 0, 1, 0, 0, .null, [], []),
  (14, .aload_n 0, 1, 0, 0, .null, [], []),
  (15, .getfield 129, 3, 11, 9, .int 0, [], [1140]),
  (18, .putfield 293, 3, 11, 33, .int 0, [], [1164]),
  (21, .aload_n 0, 1, 0, 0, .null, [], []),
  (22, .aload_n 0, 1, 0, 0, .null, [], []),
  (23, .getfield 126, 3, 11, 10, .int 0, [], [1141]),
  (26, .putfield 296, 3, 11, 34, .int 0, [], [1165]),
  (29, .iconst 0, 1, 0, 0, .int 0, [], []),
  (30, .istore_n 1, 1, 1, 0, .null, [], []),
  (31, .iload_n 1, 1, 1, 0, .null, [], []),
  (32, .bipush 6, 2, 0, 0, .int 6, [], []),
  (34, .if_icmp .ge 36, 3, 70, 0, .null, [], []),
  (37, .aload_n 0, 1, 0, 0, .null, [], []),
  (38, .getfield 55, 3, 11, 35, .null, [], [1166]),
  (41, .iload_n 1, 1, 1, 0, .null, [], []),
  (42, .aload_n 0, 1, 0, 0, .null, [], []),
  (43, .getfield 9, 3, 11, 0, .null, [], [1131]),
  (46, .bipush 6, 2, 0, 0, .int 6, [], []),
  (48, .iload_n 1, 1, 1, 0, .null, [], []),
  (49, .iadd, 1, 0, 0, .null, [], []),
  (50, .iaload, 1, 0, 0, .null, [], []),
  (51, .iastore, 1, 0, 0, .null, [], []),
  (52, .aload_n 0, 1, 0, 0, .null, [], []),
  (53, .getfield 58, 3, 11, 36, .null, [], [1167]),
  (56, .iload_n 1, 1, 1, 0, .null, [], []),
  (57, .aload_n 0, 1, 0, 0, .null, [], []),
  (58, .getfield 25, 3, 11, 8, .null, [], [1139]),
  (61, .iload_n 1, 1, 1, 0, .null, [], []),
  (62, .iaload, 1, 0, 0, .null, [], []),
  (63, .iastore, 1, 0, 0, .null, [], []),
  (64, .iinc 1 1, 3, 1, 0, .int 1, [], []),
  (67, .goto (-36), 3, 31, 0, .null, [], []),
  (70, .aload_n 0, 1, 0, 0, .null, [], []),
  (71, .getfield 129, 3, 11, 9, .int 0, [], [1140]),
  (74, .ireturn, 1, 0, 0, .int 0, [], [])],
  [(31, [true, true])], 2)
/-- 223: LeastPaysModel.back()I -/
def kX11_back : j_K := ([
  (0, .aload_n 0, 1, 0, 0, .null, [], []),
  (1, .getfield 286, 3, 11, 31, .long 0, [], [1162]),
  (4, .ifCond .ne 6, 3, 10, 0, .null, [], []),
  (7, .bipush (-5), 2, 0, 0, .int (-5), [], []),
  (9, .ireturn, 1, 0, 0, .int 0, [], []),
  (10, .aload_n 0, 1, 0, 0, .null, [], []),
  (11, .aload_n 0, 1, 0, 0, .null, [], []),
  (12, .getfield 293, 3, 11, 33, .int 0, [], [1164]),
  (15, .putfield 129, 3, 11, 9, .int 0, [], [1140]),
  (18, .aload_n 0, 1, 0, 0, .null, [], []),
  (19, .aload_n 0, 1, 0, 0, .null, [], []),
  (20, .getfield 296, 3, 11, 34, .int 0, [], [1165]),
  (23, .putfield 126, 3, 11, 10, .int 0, [], [1141]),
  (26, .iconst 0, 1, 0, 0, .int 0, [], []),
  (27, .istore_n 1, 1, 1, 0, .null, [], []),
  (28, .iload_n 1, 1, 1, 0, .null, [], []),
  (29, .aload_n 0, 1, 0, 0, .null, [], []),
  (30, .getfield 90, 3, 11, 6, .int 0, [], [1137]),
  (33, .if_icmp .ge 68, 3, 101, 0, .null, [], []),
  (36, .aload_n 0, 1, 0, 0, .null, [], []),
  (37, .getfield 9, 3, 11, 0, .null, [], [1131]),
  (40, .bipush 6, 2, 0, 0, .int 6, [], []),
  (42, .iload_n 1, 1, 1, 0, .null, [], []),
  (43, .iadd, 1, 0, 0, .null, [], []),
  (44, .iload_n 1, 1, 1, 0, .null, [], []),
  (45, .aload_n 0, 1, 0, 0, .null, [], []),
  (46, .getfield 290, 3, 11, 32, .int 0, [], [1163]),
  (49, .if_icmp .ge 12, 3, 61, 0, .null, [], []),
  (52, .aload_n 0, 1, 0, 0, .null, [], []),
  (53, .getfield 55, 3, 11, 35, .null, [], [1166]),
  (56, .iload_n 1, 1, 1, 0, .null, [], []),
  (57, .iaload, 1, 0, 0, .null, [], []),
  (58, .goto 12, 3, 70, 0, .null, [], []),
  (61, .aload_n 0, 1, 0, 0, .null, [], []),
  (62, .getfield 9, 3, 11, 0, .null, [], [1131]),
  (65, .bipush 6, 2, 0, 0, .int 6, [], []),
  (67, .iload_n 1, 1, 1, 0, .null, [], []),
  (68, .iadd, 1, 0, 0, .null, [], []),
  (69, .iaload, 1, 0, 0, .null, [], []),
  (70, .iastore, 1, 0, 0, .null, [], []),
  (71, .aload_n 0, 1, 0, 0, .null, [], []),
  (72, .getfield 25, 3, 11, 8, .null, [], [1139]),
  (75, .iload_n 1, 1, 1, 0, .null, [], []),
  (76, .iload_n 1, 1, 1, 0, .null, [], []),
  (77, .aload_n 0, 1, 0, 0, .null, [], []),
  (78, .getfield 290, 3, 11, 32, .int 0, [], [1163]),
  (81, .if_icmp .ge 12, 3, 93, 0, .null, [], []),
  (84, .aload_n 0, 1, 0, 0, .null, [], []),
  (85, .getfield 58, 3, 11, 36, .null, [], [1167]),
  (88, .iload_n 1, 1, 1, 0, .null, [], []),
  (89, .iaload, 1, 0, 0, .null, [], []),
  (90, .goto 4, 3, 94, 0, .null, [], []),
  (93, .iconst 0, 1, 0, 0, .int 0, [], []),
  (94, .iastore, 1, 0, 0, .null, [], []),
  (95, .iinc 1 1, 3, 1, 0, .int 1, [], []),
  (98, .goto (-70), 3, 28, 0, .null, [], []),
  (101, .aload_n 0, 1, 0, 0, .null, [], []),
  (102, .getfield 129, 3, 11, 9, .int 0, [], [1140]),
  (105, .ireturn, 1, 0, 0, .int 0, [], [])],
  [(28, [true, true])], 2)
/-- 224: LeastPaysModel.isBody(I)Z -/
def kX11_isBody : j_K := ([
  (0, .iload_n 1, 1, 1, 0, .null, [], []),
  (1, .i2l, 1, 0, 0, .null, [], []),
  (2, .lconst 0, 1, 0, 0, .long 0, [], []),
  (3, .aload_n 0, 1, 0, 0, .null, [], []),
  (4, .getfield 299, 3, 11, 37, .int 0, [], [1168]),
  (7, .iconst 1, 1, 0, 0, .int 1, [], []),
  (8, .isub, 1, 0, 0, .null, [], []),
  (9, .i2l, 1, 0, 0, .null, [], []),
  (10, .invokestatic 93, 3, 155, 3, .int 0, [], [1286, 96, 1288, 1287]),
  (13, .ireturn, 1, 0, 0, .long 0, [], [])],
  [], 2)
/-- 225: LeastPaysModel.kindOf(I)I -/
def kX11_kindOf : j_K := ([
  (0, .aload_n 0, 1, 0, 0, .null, [], []),
  (1, .getfield 61, 3, 11, 38, .null, [], [1169]),
  (4, .iload_n 1, 1, 1, 0, .null, [], []),
  (5, .iaload, 1, 0, 0, .null, [], []),
  (6, .ireturn, 1, 0, 0, .int 0, [], [])],
  [], 2)
/-- 226: LeastPaysModel.body(I)I -/
def kX11_body : j_K := ([
  (0, .iload_n 1, 1, 1, 0, .null, [], []),
  (1, .i2l, 1, 0, 0, .null, [], []),
  (2, .lconst 0, 1, 0, 0, .long 0, [], []),
  (3, .ldc2_w 302, 3, 0, 0, .long 7, [], [1562]),
  (6, .invokestatic 93, 3, 155, 3, .int 0, [], [1286, 96, 1288, 1287]),
  (9, .ifCond .ne 5, 3, 14, 0, .null, [], []),
  (12, .iconst (-1), 1, 0, 0, .int (-1), [], []),
  (13, .ireturn, 1, 0, 0, .int 0, [], []),
  (14, .aload_n 0, 1, 0, 0, .null, [], []),
  (15, .getfield 299, 3, 11, 37, .int 0, [], [1168]),
  (18, .bipush 50, 2, 0, 0, .int 50, [], []),
  (20, .if_icmp .ne 6, 3, 26, 0, .null, [], []),
  (23, .bipush (-3), 2, 0, 0, .int (-3), [], []),
  (25, .ireturn, 1, 0, 0, .int 0, [], []),
  (26, .aload_n 0, 1, 0, 0, .null, [], []),
  (27, .getfield 61, 3, 11, 38, .null, [], [1169]),
  (30, .aload_n 0, 1, 0, 0, .null, [], []),
  (31, .getfield 299, 3, 11, 37, .int 0, [], [1168]),
  (34, .iload_n 1, 1, 1, 0, .null, [], []),
  (35, .iastore, 1, 0, 0, .null, [], []),
  (36, .aload_n 0, 1, 0, 0, .null, [], []),
  (37, .dup, 1, 0, 0, .null, [], []),
  (38, .getfield 299, 3, 11, 37, .int 0, [], [1168]),
  (41, .iconst 1, 1, 0, 0, .int 1, [], []),
  (42, .iadd, 1, 0, 0, .null, [], []),
  (43, .putfield 299, 3, 11, 37, .int 0, [], [1168]),
  (46, .aload_n 0, 1, 0, 0, .null, [], []),
  (47, .getfield 299, 3, 11, 37, .int 0, [], [1168]),
  (50, .iconst 1, 1, 0, 0, .int 1, [], []),
  (51, .isub, 1, 0, 0, .null, [], []),
  (52, .ireturn, 1, 0, 0, .int 0, [], [])],
  [], 2)
/-- 227: LeastPaysModel.above(I)I -/
def kX11_above : j_K := ([
  (0, .iload_n 0, 1, 0, 0, .null, [], []),
  (1, .iconst 3, 1, 0, 0, .int 3, [], []),
  (2, .if_icmp .ne 7, 3, 9, 0, .null, [], []),
  (5, .iconst 2, 1, 0, 0, .int 2, [], []),
  (6, .goto 32, 3, 38, 0, .null, [], []),
  (9, .iload_n 0, 1, 0, 0, .null, [], []),
  (10, .iconst 4, 1, 0, 0, .int 4, [], []),
  (11, .if_icmp .ne 7, 3, 18, 0, .null, [], []),
  (14, .iconst 1, 1, 0, 0, .int 1, [], []),
  (15, .goto 23, 3, 38, 0, .null, [], []),
  (18, .iload_n 0, 1, 0, 0, .null, [], []),
  (19, .iconst 5, 1, 0, 0, .int 5, [], []),
  (20, .if_icmp .ne 7, 3, 27, 0, .null, [], []),
  (23, .iconst 3, 1, 0, 0, .int 3, [], []),
  (24, .goto 14, 3, 38, 0, .null, [], []),
  (27, .iload_n 0, 1, 0, 0, .null, [], []),
  (28, .bipush 7, 2, 0, 0, .int 7, [], []),
  (30, .if_icmp .ne 7, 3, 37, 0, .null, [], []),
  (33, .iconst 4, 1, 0, 0, .int 4, [], []),
  (34, .goto 4, 3, 38, 0, .null, [], []),
  (37, .iconst 0, 1, 0, 0, .int 0, [], []),
  (38, .ireturn, 1, 0, 0, .int 0, [], [])],
  [], 1)
/-- 228: LeastPaysModel.begins(I)V -/
def kX11_begins : j_K := ([
  (0, .aload_n 0, 1, 0, 0, .null, [], []),
  (1, .getfield 304, 3, 11, 40, .int 0, [], [1171]),
  (4, .bipush 24, 2, 0, 0, .int 24, [], []),
  (6, .if_icmp .ge 13, 3, 19, 0, .null, [], []),
  (9, .aload_n 0, 1, 0, 0, .null, [], []),
  (10, .getfield 64, 3, 11, 39, .null, [], [1170]),
  (13, .aload_n 0, 1, 0, 0, .null, [], []),
  (14, .getfield 304, 3, 11, 40, .int 0, [], [1171]),
  (17, .iload_n 1, 1, 1, 0, .null, [], []),
  (18, .iastore, 1, 0, 0, .null, [], []),
  (19, .aload_n 0, 1, 0, 0, .null, [], []),
  (20, .dup, 1, 0, 0, .null, [], []),
  (21, .getfield 304, 3, 11, 40, .int 0, [], [1171]),
  (24, .iconst 1, 1, 0, 0, .int 1, [], []),
  (25, .iadd, 1, 0, 0, .null, [], []),
  (26, .putfield 304, 3, 11, 40, .int 0, [], [1171]),
  (29, .return_, 1, 0, 0, .null, [], [])],
  [], 2)
/-- 229: LeastPaysModel.givesAs(II)I -/
def kX11_givesAs : j_K := ([
  (0, .iload_n 1, 1, 1, 0, .null, [], []),
  (1, .iconst 1, 1, 0, 0, .int 1, [], []),
  (2, .if_icmp .eq 14, 3, 16, 0, .null, [], []),
  (5, .iload_n 1, 1, 1, 0, .null, [], []),
  (6, .iconst 4, 1, 0, 0, .int 4, [], []),
  (7, .if_icmp .eq 9, 3, 16, 0, .null, [], []),
  (10, .iload_n 1, 1, 1, 0, .null, [], []),
  (11, .bipush 7, 2, 0, 0, .int 7, [], []),
  (13, .if_icmp .ne 18, 3, 31, 0, .null, [], []),
  (16, .aload_n 0, 1, 0, 0, .null, [], []),
  (17, .bipush 20, 2, 0, 0, .int 20, [], []),
  (19, .invokevirtual 307, 14, 228, 1, .null, [], [1575, 96, 1578, 1577, 78]),
  (22, .aload_n 0, 1, 0, 0, .null, [], []),
  (23, .iconst 0, 1, 0, 0, .int 0, [], []),
  (24, .iload_n 2, 1, 2, 0, .null, [], []),
  (25, .invokevirtual 310, 14, 229, 2, .int 0, [], [1571, 96, 1574, 1573, 77]),
  (28, .iconst 3, 1, 0, 0, .int 3, [], []),
  (29, .iadd, 1, 0, 0, .null, [], []),
  (30, .ireturn, 1, 0, 0, .int 0, [], []),
  (31, .iload_n 1, 1, 1, 0, .null, [], []),
  (32, .bipush 6, 2, 0, 0, .int 6, [], []),
  (34, .if_icmp .ne 18, 3, 52, 0, .null, [], []),
  (37, .aload_n 0, 1, 0, 0, .null, [], []),
  (38, .bipush 70, 2, 0, 0, .int 70, [], []),
  (40, .invokevirtual 307, 14, 228, 1, .null, [], [1575, 96, 1578, 1577, 78]),
  (43, .aload_n 0, 1, 0, 0, .null, [], []),
  (44, .iconst 0, 1, 0, 0, .int 0, [], []),
  (45, .iload_n 2, 1, 2, 0, .null, [], []),
  (46, .invokevirtual 310, 14, 229, 2, .int 0, [], [1571, 96, 1574, 1573, 77]),
  (49, .iconst 2, 1, 0, 0, .int 2, [], []),
  (50, .imul, 1, 0, 0, .null, [], []),
  (51, .ireturn, 1, 0, 0, .int 0, [], []),
  (52, .aload_n 0, 1, 0, 0, .null, [], []),
  (53, .iconst 1, 1, 0, 0, .int 1, [], []),
  (54, .invokevirtual 307, 14, 228, 1, .null, [], [1575, 96, 1578, 1577, 78]),
  (57, .iload_n 2, 1, 2, 0, .null, [], []),
  (58, .aload_n 0, 1, 0, 0, .null, [], []),
  (59, .getfield 313, 3, 11, 42, .int 0, [], [1173]),
  (62, .iadd, 1, 0, 0, .null, [], []),
  (63, .ireturn, 1, 0, 0, .int 0, [], [])],
  [], 3)
/-- 230: LeastPaysModel.owesAs(II)I -/
def kX11_owesAs : j_K := ([
  (0, .iload_n 1, 1, 1, 0, .null, [], []),
  (1, .iconst 3, 1, 0, 0, .int 3, [], []),
  (2, .if_icmp .eq 8, 3, 10, 0, .null, [], []),
  (5, .iload_n 1, 1, 1, 0, .null, [], []),
  (6, .iconst 5, 1, 0, 0, .int 5, [], []),
  (7, .if_icmp .ne 18, 3, 25, 0, .null, [], []),
  (10, .aload_n 0, 1, 0, 0, .null, [], []),
  (11, .bipush 41, 2, 0, 0, .int 41, [], []),
  (13, .invokevirtual 307, 14, 228, 1, .null, [], [1575, 96, 1578, 1577, 78]),
  (16, .aload_n 0, 1, 0, 0, .null, [], []),
  (17, .iconst 2, 1, 0, 0, .int 2, [], []),
  (18, .iload_n 2, 1, 2, 0, .null, [], []),
  (19, .iconst 1, 1, 0, 0, .int 1, [], []),
  (20, .iadd, 1, 0, 0, .null, [], []),
  (21, .invokevirtual 316, 14, 230, 2, .int 0, [], [1579, 96, 1582, 1581, 79]),
  (24, .ireturn, 1, 0, 0, .int 0, [], []),
  (25, .iload_n 1, 1, 1, 0, .null, [], []),
  (26, .iconst 2, 1, 0, 0, .int 2, [], []),
  (27, .if_icmp .ne 17, 3, 44, 0, .null, [], []),
  (30, .aload_n 0, 1, 0, 0, .null, [], []),
  (31, .bipush 30, 2, 0, 0, .int 30, [], []),
  (33, .invokevirtual 307, 14, 228, 1, .null, [], [1575, 96, 1578, 1577, 78]),
  (36, .aload_n 0, 1, 0, 0, .null, [], []),
  (37, .iconst 0, 1, 0, 0, .int 0, [], []),
  (38, .iload_n 2, 1, 2, 0, .null, [], []),
  (39, .invokevirtual 316, 14, 230, 2, .int 0, [], [1579, 96, 1582, 1581, 79]),
  (42, .ineg, 1, 0, 0, .null, [], []),
  (43, .ireturn, 1, 0, 0, .int 0, [], []),
  (44, .iload_n 1, 1, 1, 0, .null, [], []),
  (45, .bipush 7, 2, 0, 0, .int 7, [], []),
  (47, .if_icmp .ne 28, 3, 75, 0, .null, [], []),
  (50, .aload_n 0, 1, 0, 0, .null, [], []),
  (51, .bipush 80, 2, 0, 0, .int 80, [], []),
  (53, .invokevirtual 307, 14, 228, 1, .null, [], [1575, 96, 1578, 1577, 78]),
  (56, .aload_n 0, 1, 0, 0, .null, [], []),
  (57, .iconst 4, 1, 0, 0, .int 4, [], []),
  (58, .iload_n 2, 1, 2, 0, .null, [], []),
  (59, .invokevirtual 316, 14, 230, 2, .int 0, [], [1579, 96, 1582, 1581, 79]),
  (62, .istore_n 3, 1, 3, 0, .null, [], []),
  (63, .iload_n 3, 1, 3, 0, .null, [], []),
  (64, .aload_n 0, 1, 0, 0, .null, [], []),
  (65, .aload_n 0, 1, 0, 0, .null, [], []),
  (66, .getfield 319, 3, 11, 41, .int 0, [], [1172]),
  (69, .iconst 2, 1, 0, 0, .int 2, [], []),
  (70, .invokevirtual 322, 14, 231, 2, .int 0, [], [1583, 96, 1586, 1585, 80]),
  (73, .iadd, 1, 0, 0, .null, [], []),
  (74, .ireturn, 1, 0, 0, .int 0, [], []),
  (75, .aload_n 0, 1, 0, 0, .null, [], []),
  (76, .bipush 10, 2, 0, 0, .int 10, [], []),
  (78, .invokevirtual 307, 14, 228, 1, .null, [], [1575, 96, 1578, 1577, 78]),
  (81, .aload_n 0, 1, 0, 0, .null, [], []),
  (82, .aload_n 0, 1, 0, 0, .null, [], []),
  (83, .getfield 319, 3, 11, 41, .int 0, [], [1172]),
  (86, .iload_n 2, 1, 2, 0, .null, [], []),
  (87, .invokevirtual 310, 14, 229, 2, .int 0, [], [1571, 96, 1574, 1573, 77]),
  (90, .iconst 2, 1, 0, 0, .int 2, [], []),
  (91, .imul, 1, 0, 0, .null, [], []),
  (92, .ireturn, 1, 0, 0, .int 0, [], [])],
  [], 4)
/-- 231: LeastPaysModel.lacksAs(II)I -/
def kX11_lacksAs : j_K := ([
  (0, .iload_n 1, 1, 1, 0, .null, [], []),
  (1, .iconst 3, 1, 0, 0, .int 3, [], []),
  (2, .if_icmp .eq 8, 3, 10, 0, .null, [], []),
  (5, .iload_n 1, 1, 1, 0, .null, [], []),
  (6, .iconst 5, 1, 0, 0, .int 5, [], []),
  (7, .if_icmp .ne 18, 3, 25, 0, .null, [], []),
  (10, .aload_n 0, 1, 0, 0, .null, [], []),
  (11, .bipush 40, 2, 0, 0, .int 40, [], []),
  (13, .invokevirtual 307, 14, 228, 1, .null, [], [1575, 96, 1578, 1577, 78]),
  (16, .aload_n 0, 1, 0, 0, .null, [], []),
  (17, .iconst 2, 1, 0, 0, .int 2, [], []),
  (18, .iload_n 2, 1, 2, 0, .null, [], []),
  (19, .invokevirtual 322, 14, 231, 2, .int 0, [], [1583, 96, 1586, 1585, 80]),
  (22, .iconst 3, 1, 0, 0, .int 3, [], []),
  (23, .imul, 1, 0, 0, .null, [], []),
  (24, .ireturn, 1, 0, 0, .int 0, [], []),
  (25, .iload_n 1, 1, 1, 0, .null, [], []),
  (26, .iconst 4, 1, 0, 0, .int 4, [], []),
  (27, .if_icmp .eq 9, 3, 36, 0, .null, [], []),
  (30, .iload_n 1, 1, 1, 0, .null, [], []),
  (31, .bipush 7, 2, 0, 0, .int 7, [], []),
  (33, .if_icmp .ne 28, 3, 61, 0, .null, [], []),
  (36, .aload_n 0, 1, 0, 0, .null, [], []),
  (37, .bipush 50, 2, 0, 0, .int 50, [], []),
  (39, .invokevirtual 307, 14, 228, 1, .null, [], [1575, 96, 1578, 1577, 78]),
  (42, .aload_n 0, 1, 0, 0, .null, [], []),
  (43, .iconst 1, 1, 0, 0, .int 1, [], []),
  (44, .iload_n 2, 1, 2, 0, .null, [], []),
  (45, .invokevirtual 322, 14, 231, 2, .int 0, [], [1583, 96, 1586, 1585, 80]),
  (48, .istore_n 3, 1, 3, 0, .null, [], []),
  (49, .iload_n 3, 1, 3, 0, .null, [], []),
  (50, .aload_n 0, 1, 0, 0, .null, [], []),
  (51, .aload_n 0, 1, 0, 0, .null, [], []),
  (52, .getfield 319, 3, 11, 41, .int 0, [], [1172]),
  (55, .iconst 2, 1, 0, 0, .int 2, [], []),
  (56, .invokevirtual 310, 14, 229, 2, .int 0, [], [1571, 96, 1574, 1573, 77]),
  (59, .isub, 1, 0, 0, .null, [], []),
  (60, .ireturn, 1, 0, 0, .int 0, [], []),
  (61, .aload_n 0, 1, 0, 0, .null, [], []),
  (62, .bipush 11, 2, 0, 0, .int 11, [], []),
  (64, .invokevirtual 307, 14, 228, 1, .null, [], [1575, 96, 1578, 1577, 78]),
  (67, .iload_n 2, 1, 2, 0, .null, [], []),
  (68, .aload_n 0, 1, 0, 0, .null, [], []),
  (69, .getfield 313, 3, 11, 42, .int 0, [], [1173]),
  (72, .ixor, 1, 0, 0, .null, [], []),
  (73, .ireturn, 1, 0, 0, .int 0, [], [])],
  [], 4)
/-- 232: LeastPaysModel.tellsAs(II)I -/
def kX11_tellsAs : j_K := ([
  (0, .iload_n 1, 1, 1, 0, .null, [], []),
  (1, .iconst 5, 1, 0, 0, .int 5, [], []),
  (2, .if_icmp .ne 18, 3, 20, 0, .null, [], []),
  (5, .aload_n 0, 1, 0, 0, .null, [], []),
  (6, .bipush 60, 2, 0, 0, .int 60, [], []),
  (8, .invokevirtual 307, 14, 228, 1, .null, [], [1575, 96, 1578, 1577, 78]),
  (11, .aload_n 0, 1, 0, 0, .null, [], []),
  (12, .iconst 3, 1, 0, 0, .int 3, [], []),
  (13, .iload_n 2, 1, 2, 0, .null, [], []),
  (14, .invokevirtual 325, 14, 232, 2, .int 0, [], [1587, 96, 1590, 1589, 81]),
  (17, .iconst 5, 1, 0, 0, .int 5, [], []),
  (18, .ixor, 1, 0, 0, .null, [], []),
  (19, .ireturn, 1, 0, 0, .int 0, [], []),
  (20, .iload_n 1, 1, 1, 0, .null, [], []),
  (21, .bipush 7, 2, 0, 0, .int 7, [], []),
  (23, .if_icmp .ne 18, 3, 41, 0, .null, [], []),
  (26, .aload_n 0, 1, 0, 0, .null, [], []),
  (27, .bipush 81, 2, 0, 0, .int 81, [], []),
  (29, .invokevirtual 307, 14, 228, 1, .null, [], [1575, 96, 1578, 1577, 78]),
  (32, .aload_n 0, 1, 0, 0, .null, [], []),
  (33, .iconst 4, 1, 0, 0, .int 4, [], []),
  (34, .iload_n 2, 1, 2, 0, .null, [], []),
  (35, .invokevirtual 325, 14, 232, 2, .int 0, [], [1587, 96, 1590, 1589, 81]),
  (38, .iconst 1, 1, 0, 0, .int 1, [], []),
  (39, .isub, 1, 0, 0, .null, [], []),
  (40, .ireturn, 1, 0, 0, .int 0, [], []),
  (41, .aload_n 0, 1, 0, 0, .null, [], []),
  (42, .iconst 2, 1, 0, 0, .int 2, [], []),
  (43, .invokevirtual 307, 14, 228, 1, .null, [], [1575, 96, 1578, 1577, 78]),
  (46, .aload_n 0, 1, 0, 0, .null, [], []),
  (47, .aload_n 0, 1, 0, 0, .null, [], []),
  (48, .getfield 319, 3, 11, 41, .int 0, [], [1172]),
  (51, .iload_n 2, 1, 2, 0, .null, [], []),
  (52, .invokevirtual 316, 14, 230, 2, .int 0, [], [1579, 96, 1582, 1581, 79]),
  (55, .istore_n 3, 1, 3, 0, .null, [], []),
  (56, .iload_n 3, 1, 3, 0, .null, [], []),
  (57, .aload_n 0, 1, 0, 0, .null, [], []),
  (58, .aload_n 0, 1, 0, 0, .null, [], []),
  (59, .getfield 319, 3, 11, 41, .int 0, [], [1172]),
  (62, .iconst 1, 1, 0, 0, .int 1, [], []),
  (63, .invokevirtual 322, 14, 231, 2, .int 0, [], [1583, 96, 1586, 1585, 80]),
  (66, .isub, 1, 0, 0, .null, [], []),
  (67, .ireturn, 1, 0, 0, .int 0, [], [])],
  [], 4)
/-- 233: LeastPaysModel.act(III)I -/
def kX11_act : j_K := ([
  (0, .aload_n 0, 1, 0, 0, .null, [], []),
  (1, .iconst 0, 1, 0, 0, .int 0, [], []),
  (2, .putfield 304, 3, 11, 40, .int 0, [], [1171]),
  (5, .aload_n 0, 1, 0, 0, .null, [], []),
  (6, .iload_n 1, 1, 1, 0, .null, [], []),
  (7, .invokevirtual 328, 14, 224, 1, .int 0, [], [1567, 96, 1570, 1569, 76]),
  (10, .ifCond .ne 5, 3, 15, 0, .null, [], []),
  (13, .iconst 0, 1, 0, 0, .int 0, [], []),
  (14, .ireturn, 1, 0, 0, .int 0, [], []),
  (15, .aload_n 0, 1, 0, 0, .null, [], []),
  (16, .aload_n 0, 1, 0, 0, .null, [], []),
  (17, .getfield 61, 3, 11, 38, .null, [], [1169]),
  (20, .iload_n 1, 1, 1, 0, .null, [], []),
  (21, .iaload, 1, 0, 0, .null, [], []),
  (22, .putfield 319, 3, 11, 41, .int 0, [], [1172]),
  (25, .aload_n 0, 1, 0, 0, .null, [], []),
  (26, .iload_n 1, 1, 1, 0, .null, [], []),
  (27, .putfield 313, 3, 11, 42, .int 0, [], [1173]),
  (30, .iload_n 2, 1, 2, 0, .null, [], []),
  (31, .tableswitch 69 0 3 #[29, 39, 49, 59], 29, 100, 0, .null, [(0, 60), (1, 70), (2, 80), (3, 90)], []),
  (60, .aload_n 0, 1, 0, 0, .null, [], []),
  (61, .aload_n 0, 1, 0, 0, .null, [], []),
  (62, .getfield 319, 3, 11, 41, .int 0, [], [1172]),
  (65, .iload_n 3, 1, 3, 0, .null, [], []),
  (66, .invokevirtual 310, 14, 229, 2, .int 0, [], [1571, 96, 1574, 1573, 77]),
  (69, .ireturn, 1, 0, 0, .int 0, [], []),
  (70, .aload_n 0, 1, 0, 0, .null, [], []),
  (71, .aload_n 0, 1, 0, 0, .null, [], []),
  (72, .getfield 319, 3, 11, 41, .int 0, [], [1172]),
  (75, .iload_n 3, 1, 3, 0, .null, [], []),
  (76, .invokevirtual 316, 14, 230, 2, .int 0, [], [1579, 96, 1582, 1581, 79]),
  (79, .ireturn, 1, 0, 0, .int 0, [], []),
  (80, .aload_n 0, 1, 0, 0, .null, [], []),
  (81, .aload_n 0, 1, 0, 0, .null, [], []),
  (82, .getfield 319, 3, 11, 41, .int 0, [], [1172]),
  (85, .iload_n 3, 1, 3, 0, .null, [], []),
  (86, .invokevirtual 322, 14, 231, 2, .int 0, [], [1583, 96, 1586, 1585, 80]),
  (89, .ireturn, 1, 0, 0, .int 0, [], []),
  (90, .aload_n 0, 1, 0, 0, .null, [], []),
  (91, .aload_n 0, 1, 0, 0, .null, [], []),
  (92, .getfield 319, 3, 11, 41, .int 0, [], [1172]),
  (95, .iload_n 3, 1, 3, 0, .null, [], []),
  (96, .invokevirtual 325, 14, 232, 2, .int 0, [], [1587, 96, 1590, 1589, 81]),
  (99, .ireturn, 1, 0, 0, .int 0, [], []),
  (100, .iconst 0, 1, 0, 0, .int 0, [], []),
  (101, .ireturn, 1, 0, 0, .int 0, [], [])],
  [], 4)
/-- 234: LeastPaysModel.trace(I)I -/
def kX11_trace : j_K := ([
  (0, .iload_n 1, 1, 1, 0, .null, [], []),
  (1, .ifCond .lt 26, 3, 27, 0, .null, [], []),
  (4, .iload_n 1, 1, 1, 0, .null, [], []),
  (5, .aload_n 0, 1, 0, 0, .null, [], []),
  (6, .getfield 304, 3, 11, 40, .int 0, [], [1171]),
  (9, .if_icmp .ge 18, 3, 27, 0, .null, [], []),
  (12, .iload_n 1, 1, 1, 0, .null, [], []),
  (13, .bipush 24, 2, 0, 0, .int 24, [], []),
  (15, .if_icmp .ge 12, 3, 27, 0, .null, [], []),
  (18, .aload_n 0, 1, 0, 0, .null, [], []),
  (19, .getfield 64, 3, 11, 39, .null, [], [1170]),
  (22, .iload_n 1, 1, 1, 0, .null, [], []),
  (23, .iaload, 1, 0, 0, .null, [], []),
  (24, .goto 4, 3, 28, 0, .null, [], []),
  (27, .iconst (-1), 1, 0, 0, .int (-1), [], []),
  (28, .ireturn, 1, 0, 0, .int 0, [], [])],
  [], 2)
/-- 235: LeastPaysModel.isShelf(I)Z -/
def kX11_isShelf : j_K := ([
  (0, .iload_n 0, 1, 0, 0, .null, [], []),
  (1, .i2l, 1, 0, 0, .null, [], []),
  (2, .lconst 0, 1, 0, 0, .long 0, [], []),
  (3, .ldc2_w 331, 3, 0, 0, .long 5, [], [1296]),
  (6, .invokestatic 93, 3, 155, 3, .int 0, [], [1286, 96, 1288, 1287]),
  (9, .ireturn, 1, 0, 0, .long 0, [], [])],
  [], 1)
/-- 236: LeastPaysModel.keep(II)I -/
def kX11_keep : j_K := ([
  (0, .iload_n 1, 1, 1, 0, .null, [], []),
  (1, .invokestatic 99, 3, 235, 1, .int 0, [], [1293, 96, 1295, 1294]),
  (4, .ifCond .eq 16, 3, 20, 0, .null, [], []),
  (7, .iload_n 2, 1, 2, 0, .null, [], []),
  (8, .iconst (-1), 1, 0, 0, .int (-1), [], []),
  (9, .if_icmp .eq 13, 3, 22, 0, .null, [], []),
  (12, .aload_n 0, 1, 0, 0, .null, [], []),
  (13, .iload_n 2, 1, 2, 0, .null, [], []),
  (14, .invokevirtual 328, 14, 224, 1, .int 0, [], [1567, 96, 1570, 1569, 76]),
  (17, .ifCond .ne 5, 3, 22, 0, .null, [], []),
  (20, .iconst (-1), 1, 0, 0, .int (-1), [], []),
  (21, .ireturn, 1, 0, 0, .int 0, [], []),
  (22, .aload_n 0, 1, 0, 0, .null, [], []),
  (23, .getfield 67, 3, 11, 43, .null, [], [1174]),
  (26, .iload_n 1, 1, 1, 0, .null, [], []),
  (27, .iload_n 2, 1, 2, 0, .null, [], []),
  (28, .iastore, 1, 0, 0, .null, [], []),
  (29, .aload_n 0, 1, 0, 0, .null, [], []),
  (30, .getfield 70, 3, 11, 44, .null, [], [1175]),
  (33, .iload_n 1, 1, 1, 0, .null, [], []),
  (34, .iconst 0, 1, 0, 0, .int 0, [], []),
  (35, .iastore, 1, 0, 0, .null, [], []),
  (36, .iconst 1, 1, 0, 0, .int 1, [], []),
  (37, .ireturn, 1, 0, 0, .int 0, [], [])],
  [], 3)
/-- 237: LeastPaysModel.row(III)I -/
def kX11_row : j_K := ([
  (0, .iload_n 1, 1, 1, 0, .null, [], []),
  (1, .invokestatic 99, 3, 235, 1, .int 0, [], [1293, 96, 1295, 1294]),
  (4, .ifCond .eq 21, 3, 25, 0, .null, [], []),
  (7, .iload_n 2, 1, 2, 0, .null, [], []),
  (8, .i2l, 1, 0, 0, .null, [], []),
  (9, .lconst 0, 1, 0, 0, .long 0, [], []),
  (10, .ldc2_w 116, 3, 0, 0, .long 4, [], [1312]),
  (13, .invokestatic 93, 3, 155, 3, .int 0, [], [1286, 96, 1288, 1287]),
  (16, .ifCond .eq 9, 3, 25, 0, .null, [], []),
  (19, .iload_n 3, 1, 3, 0, .null, [], []),
  (20, .bipush 60, 2, 0, 0, .int 60, [], []),
  (22, .if_icmp .le 5, 3, 27, 0, .null, [], []),
  (25, .iconst (-1), 1, 0, 0, .int (-1), [], []),
  (26, .ireturn, 1, 0, 0, .int 0, [], []),
  (27, .iload_n 3, 1, 3, 0, .null, [], []),
  (28, .ifCond .ge 6, 3, 34, 0, .null, [], []),
  (31, .bipush (-14), 2, 0, 0, .int (-14), [], []),
  (33, .ireturn, 1, 0, 0, .int 0, [], []),
  (34, .aload_n 0, 1, 0, 0, .null, [], []),
  (35, .getfield 67, 3, 11, 43, .null, [], [1174]),
  (38, .iload_n 1, 1, 1, 0, .null, [], []),
  (39, .bipush 50, 2, 0, 0, .int 50, [], []),
  (41, .iload_n 2, 1, 2, 0, .null, [], []),
  (42, .iadd, 1, 0, 0, .null, [], []),
  (43, .iastore, 1, 0, 0, .null, [], []),
  (44, .aload_n 0, 1, 0, 0, .null, [], []),
  (45, .getfield 70, 3, 11, 44, .null, [], [1175]),
  (48, .iload_n 1, 1, 1, 0, .null, [], []),
  (49, .iload_n 3, 1, 3, 0, .null, [], []),
  (50, .iastore, 1, 0, 0, .null, [], []),
  (51, .bipush 60, 2, 0, 0, .int 60, [], []),
  (53, .iload_n 1, 1, 1, 0, .null, [], []),
  (54, .imul, 1, 0, 0, .null, [], []),
  (55, .istore 4, 2, 4, 0, .null, [], []),
  (57, .iload 4, 2, 4, 0, .null, [], []),
  (59, .bipush 60, 2, 0, 0, .int 60, [], []),
  (61, .iload_n 1, 1, 1, 0, .null, [], []),
  (62, .imul, 1, 0, 0, .null, [], []),
  (63, .bipush 60, 2, 0, 0, .int 60, [], []),
  (65, .iadd, 1, 0, 0, .null, [], []),
  (66, .if_icmp .ge 17, 3, 83, 0, .null, [], []),
  (69, .aload_n 0, 1, 0, 0, .null, [], []),
  (70, .getfield 73, 3, 11, 45, .null, [], [1176]),
  (73, .iload 4, 2, 4, 0, .null, [], []),
  (75, .lconst 0, 1, 0, 0, .long 0, [], []),
  (76, .lastore, 1, 0, 0, .null, [], []),
  (77, .iinc 4 1, 3, 4, 0, .int 1, [], []),
  (80, .goto (-23), 3, 57, 0, .null, [], []),
  (83, .iconst 1, 1, 0, 0, .int 1, [], []),
  (84, .ireturn, 1, 0, 0, .int 0, [], [])],
  [(57, [true, true, false, false, true])], 5)
/-- 238: LeastPaysModel.refusal(II)I -/
def kX11_refusal : j_K := ([
  (0, .iload_n 1, 1, 1, 0, .null, [], []),
  (1, .invokestatic 99, 3, 235, 1, .int 0, [], [1293, 96, 1295, 1294]),
  (4, .ifCond .ne 5, 3, 9, 0, .null, [], []),
  (7, .iconst (-1), 1, 0, 0, .int (-1), [], []),
  (8, .ireturn, 1, 0, 0, .int 0, [], []),
  (9, .aload_n 0, 1, 0, 0, .null, [], []),
  (10, .getfield 67, 3, 11, 43, .null, [], [1174]),
  (13, .iload_n 1, 1, 1, 0, .null, [], []),
  (14, .iaload, 1, 0, 0, .null, [], []),
  (15, .ifCond .ge 6, 3, 21, 0, .null, [], []),
  (18, .bipush (-11), 2, 0, 0, .int (-11), [], []),
  (20, .ireturn, 1, 0, 0, .int 0, [], []),
  (21, .aload_n 0, 1, 0, 0, .null, [], []),
  (22, .getfield 67, 3, 11, 43, .null, [], [1174]),
  (25, .iload_n 1, 1, 1, 0, .null, [], []),
  (26, .iaload, 1, 0, 0, .null, [], []),
  (27, .bipush 50, 2, 0, 0, .int 50, [], []),
  (29, .if_icmp .ge 6, 3, 35, 0, .null, [], []),
  (32, .bipush (-12), 2, 0, 0, .int (-12), [], []),
  (34, .ireturn, 1, 0, 0, .int 0, [], []),
  (35, .iload_n 2, 1, 2, 0, .null, [], []),
  (36, .ifCond .lt 17, 3, 53, 0, .null, [], []),
  (39, .iload_n 2, 1, 2, 0, .null, [], []),
  (40, .aload_n 0, 1, 0, 0, .null, [], []),
  (41, .getfield 70, 3, 11, 44, .null, [], [1175]),
  (44, .iload_n 1, 1, 1, 0, .null, [], []),
  (45, .iaload, 1, 0, 0, .null, [], []),
  (46, .if_icmp .ge 7, 3, 53, 0, .null, [], []),
  (49, .iconst 0, 1, 0, 0, .int 0, [], []),
  (50, .goto 5, 3, 55, 0, .null, [], []),
  (53, .bipush (-13), 2, 0, 0, .int (-13), [], []),
  (55, .ireturn, 1, 0, 0, .int 0, [], [])],
  [], 3)
/-- 239: LeastPaysModel.asSort(IJ)J -/
def kX11_asSort : j_K := ([
  (0, .iload_n 0, 1, 0, 0, .null, [], []),
  (1, .ifCond .ne 10, 3, 11, 0, .null, [], []),
  (4, .lload_n 1, 1, 1, 0, .null, [], []),
  (5, .l2i, 1, 0, 0, .null, [], []),
  (6, .i2b, 1, 0, 0, .null, [], []),
  (7, .i2l, 1, 0, 0, .null, [], []),
  (8, .goto 46, 3, 54, 0, .null, [], []),
  (11, .iload_n 0, 1, 0, 0, .null, [], []),
  (12, .iconst 1, 1, 0, 0, .int 1, [], []),
  (13, .if_icmp .ne 10, 3, 23, 0, .null, [], []),
  (16, .lload_n 1, 1, 1, 0, .null, [], []),
  (17, .l2i, 1, 0, 0, .null, [], []),
  (18, .i2s, 1, 0, 0, .null, [], []),
  (19, .i2l, 1, 0, 0, .null, [], []),
  (20, .goto 34, 3, 54, 0, .null, [], []),
  (23, .iload_n 0, 1, 0, 0, .null, [], []),
  (24, .iconst 2, 1, 0, 0, .int 2, [], []),
  (25, .if_icmp .ne 9, 3, 34, 0, .null, [], []),
  (28, .lload_n 1, 1, 1, 0, .null, [], []),
  (29, .l2i, 1, 0, 0, .null, [], []),
  (30, .i2l, 1, 0, 0, .null, [], []),
  (31, .goto 23, 3, 54, 0, .null, [], []),
  (34, .iload_n 0, 1, 0, 0, .null, [], []),
  (35, .iconst 4, 1, 0, 0, .int 4, [], []),
  (36, .if_icmp .ne 17, 3, 53, 0, .null, [], []),
  (39, .lload_n 1, 1, 1, 0, .null, [], []),
  (40, .lconst 0, 1, 0, 0, .long 0, [], []),
  (41, .lcmp, 1, 0, 0, .null, [], []),
  (42, .ifCond .eq 7, 3, 49, 0, .null, [], []),
  (45, .lconst 1, 1, 0, 0, .long 1, [], []),
  (46, .goto 8, 3, 54, 0, .null, [], []),
  (49, .lconst 0, 1, 0, 0, .long 0, [], []),
  (50, .goto 4, 3, 54, 0, .null, [], []),
  (53, .lload_n 1, 1, 1, 0, .null, [], []),
  (54, .lreturn, 1, 0, 0, .null, [], [])],
  [], 3)
/-- 240: LeastPaysModel.put(IIJ)I -/
def kX11_put : j_K := ([
  (0, .aload_n 0, 1, 0, 0, .null, [], []),
  (1, .iload_n 1, 1, 1, 0, .null, [], []),
  (2, .iload_n 2, 1, 2, 0, .null, [], []),
  (3, .invokevirtual 333, 14, 238, 2, .int 0, [], [1607, 96, 1610, 1609, 82]),
  (6, .istore 5, 2, 5, 0, .null, [], []),
  (8, .iload 5, 2, 5, 0, .null, [], []),
  (10, .ifCond .ne 27, 3, 37, 0, .null, [], []),
  (13, .aload_n 0, 1, 0, 0, .null, [], []),
  (14, .getfield 73, 3, 11, 45, .null, [], [1176]),
  (17, .bipush 60, 2, 0, 0, .int 60, [], []),
  (19, .iload_n 1, 1, 1, 0, .null, [], []),
  (20, .imul, 1, 0, 0, .null, [], []),
  (21, .iload_n 2, 1, 2, 0, .null, [], []),
  (22, .iadd, 1, 0, 0, .null, [], []),
  (23, .aload_n 0, 1, 0, 0, .null, [], []),
  (24, .getfield 67, 3, 11, 43, .null, [], [1174]),
  (27, .iload_n 1, 1, 1, 0, .null, [], []),
  (28, .iaload, 1, 0, 0, .null, [], []),
  (29, .bipush 50, 2, 0, 0, .int 50, [], []),
  (31, .isub, 1, 0, 0, .null, [], []),
  (32, .lload_n 3, 1, 3, 0, .null, [], []),
  (33, .invokestatic 336, 3, 239, 2, .long 0, [], [1611, 96, 1613, 1612]),
  (36, .lastore, 1, 0, 0, .null, [], []),
  (37, .iload 5, 2, 5, 0, .null, [], []),
  (39, .ifCond .ne 7, 3, 46, 0, .null, [], []),
  (42, .iconst 1, 1, 0, 0, .int 1, [], []),
  (43, .goto 5, 3, 48, 0, .null, [], []),
  (46, .iload 5, 2, 5, 0, .null, [], []),
  (48, .ireturn, 1, 0, 0, .int 0, [], [])],
  [], 6)
/-- 241: LeastPaysModel.element(II)J -/
def kX11_element : j_K := ([
  (0, .aload_n 0, 1, 0, 0, .null, [], []),
  (1, .iload_n 1, 1, 1, 0, .null, [], []),
  (2, .iload_n 2, 1, 2, 0, .null, [], []),
  (3, .invokevirtual 333, 14, 238, 2, .int 0, [], [1607, 96, 1610, 1609, 82]),
  (6, .ifCond .eq 9, 3, 15, 0, .null, [], []),
  (9, .ldc2_w 181, 3, 0, 0, .long (-9223372036854775808), [], [1379]),
  (12, .goto 14, 3, 26, 0, .null, [], []),
  (15, .aload_n 0, 1, 0, 0, .null, [], []),
  (16, .getfield 73, 3, 11, 45, .null, [], [1176]),
  (19, .bipush 60, 2, 0, 0, .int 60, [], []),
  (21, .iload_n 1, 1, 1, 0, .null, [], []),
  (22, .imul, 1, 0, 0, .null, [], []),
  (23, .iload_n 2, 1, 2, 0, .null, [], []),
  (24, .iadd, 1, 0, 0, .null, [], []),
  (25, .laload, 1, 0, 0, .null, [], []),
  (26, .lreturn, 1, 0, 0, .null, [], [])],
  [], 3)
/-- 242: LeastPaysModel.shift(IIIII)I -/
def kX11_shift : j_K := ([
  (0, .iload_n 1, 1, 1, 0, .null, [], []),
  (1, .invokestatic 99, 3, 235, 1, .int 0, [], [1293, 96, 1295, 1294]),
  (4, .ifCond .eq 10, 3, 14, 0, .null, [], []),
  (7, .iload_n 3, 1, 3, 0, .null, [], []),
  (8, .invokestatic 99, 3, 235, 1, .int 0, [], [1293, 96, 1295, 1294]),
  (11, .ifCond .ne 5, 3, 16, 0, .null, [], []),
  (14, .iconst (-1), 1, 0, 0, .int (-1), [], []),
  (15, .ireturn, 1, 0, 0, .int 0, [], []),
  (16, .aload_n 0, 1, 0, 0, .null, [], []),
  (17, .getfield 67, 3, 11, 43, .null, [], [1174]),
  (20, .iload_n 1, 1, 1, 0, .null, [], []),
  (21, .iaload, 1, 0, 0, .null, [], []),
  (22, .ifCond .lt 12, 3, 34, 0, .null, [], []),
  (25, .aload_n 0, 1, 0, 0, .null, [], []),
  (26, .getfield 67, 3, 11, 43, .null, [], [1174]),
  (29, .iload_n 3, 1, 3, 0, .null, [], []),
  (30, .iaload, 1, 0, 0, .null, [], []),
  (31, .ifCond .ge 6, 3, 37, 0, .null, [], []),
  (34, .bipush (-11), 2, 0, 0, .int (-11), [], []),
  (36, .ireturn, 1, 0, 0, .int 0, [], []),
  (37, .aload_n 0, 1, 0, 0, .null, [], []),
  (38, .getfield 67, 3, 11, 43, .null, [], [1174]),
  (41, .iload_n 1, 1, 1, 0, .null, [], []),
  (42, .iaload, 1, 0, 0, .null, [], []),
  (43, .bipush 50, 2, 0, 0, .int 50, [], []),
  (45, .if_icmp .lt 18, 3, 63, 0, .null, [], []),
  (48, .aload_n 0, 1, 0, 0, .null, [], []),
  (49, .getfield 67, 3, 11, 43, .null, [], [1174]),
  (52, .iload_n 1, 1, 1, 0, .null, [], []),
  (53, .iaload, 1, 0, 0, .null, [], []),
  (54, .aload_n 0, 1, 0, 0, .null, [], []),
  (55, .getfield 67, 3, 11, 43, .null, [], [1174]),
  (58, .iload_n 3, 1, 3, 0, .null, [], []),
  (59, .iaload, 1, 0, 0, .null, [], []),
  (60, .if_icmp .eq 6, 3, 66, 0, .null, [], []),
  (63, .bipush (-12), 2, 0, 0, .int (-12), [], []),
  (65, .ireturn, 1, 0, 0, .int 0, [], []),
  (66, .iload 5, 2, 5, 0, .null, [], []),
  (68, .ifCond .lt 39, 3, 107, 0, .null, [], []),
  (71, .iload_n 2, 1, 2, 0, .null, [], []),
  (72, .ifCond .lt 35, 3, 107, 0, .null, [], []),
  (75, .iload 4, 2, 4, 0, .null, [], []),
  (77, .ifCond .lt 30, 3, 107, 0, .null, [], []),
  (80, .iload_n 2, 1, 2, 0, .null, [], []),
  (81, .aload_n 0, 1, 0, 0, .null, [], []),
  (82, .getfield 70, 3, 11, 44, .null, [], [1175]),
  (85, .iload_n 1, 1, 1, 0, .null, [], []),
  (86, .iaload, 1, 0, 0, .null, [], []),
  (87, .iload 5, 2, 5, 0, .null, [], []),
  (89, .isub, 1, 0, 0, .null, [], []),
  (90, .if_icmp .gt 17, 3, 107, 0, .null, [], []),
  (93, .iload 4, 2, 4, 0, .null, [], []),
  (95, .aload_n 0, 1, 0, 0, .null, [], []),
  (96, .getfield 70, 3, 11, 44, .null, [], [1175]),
  (99, .iload_n 3, 1, 3, 0, .null, [], []),
  (100, .iaload, 1, 0, 0, .null, [], []),
  (101, .iload 5, 2, 5, 0, .null, [], []),
  (103, .isub, 1, 0, 0, .null, [], []),
  (104, .if_icmp .le 6, 3, 110, 0, .null, [], []),
  (107, .bipush (-13), 2, 0, 0, .int (-13), [], []),
  (109, .ireturn, 1, 0, 0, .int 0, [], []),
  (110, .iconst 0, 1, 0, 0, .int 0, [], []),
  (111, .istore 6, 2, 6, 0, .null, [], []),
  (113, .iload 6, 2, 6, 0, .null, [], []),
  (115, .iload 5, 2, 5, 0, .null, [], []),
  (117, .if_icmp .ge 30, 3, 147, 0, .null, [], []),
  (120, .aload_n 0, 1, 0, 0, .null, [], []),
  (121, .getfield 77, 3, 11, 46, .null, [], [1177]),
  (124, .iload 6, 2, 6, 0, .null, [], []),
  (126, .aload_n 0, 1, 0, 0, .null, [], []),
  (127, .getfield 73, 3, 11, 45, .null, [], [1176]),
  (130, .bipush 60, 2, 0, 0, .int 60, [], []),
  (132, .iload_n 1, 1, 1, 0, .null, [], []),
  (133, .imul, 1, 0, 0, .null, [], []),
  (134, .iload_n 2, 1, 2, 0, .null, [], []),
  (135, .iadd, 1, 0, 0, .null, [], []),
  (136, .iload 6, 2, 6, 0, .null, [], []),
  (138, .iadd, 1, 0, 0, .null, [], []),
  (139, .laload, 1, 0, 0, .null, [], []),
  (140, .lastore, 1, 0, 0, .null, [], []),
  (141, .iinc 6 1, 3, 6, 0, .int 1, [], []),
  (144, .goto (-31), 3, 113, 0, .null, [], []),
  (147, .iconst 0, 1, 0, 0, .int 0, [], []),
  (148, .istore 6, 2, 6, 0, .null, [], []),
  (150, .iload 6, 2, 6, 0, .null, [], []),
  (152, .iload 5, 2, 5, 0, .null, [], []),
  (154, .if_icmp .ge 31, 3, 185, 0, .null, [], []),
  (157, .aload_n 0, 1, 0, 0, .null, [], []),
  (158, .getfield 73, 3, 11, 45, .null, [], [1176]),
  (161, .bipush 60, 2, 0, 0, .int 60, [], []),
  (163, .iload_n 3, 1, 3, 0, .null, [], []),
  (164, .imul, 1, 0, 0, .null, [], []),
  (165, .iload 4, 2, 4, 0, .null, [], []),
  (167, .iadd, 1, 0, 0, .null, [], []),
  (168, .iload 6, 2, 6, 0, .null, [], []),
  (170, .iadd, 1, 0, 0, .null, [], []),
  (171, .aload_n 0, 1, 0, 0, .null, [], []),
  (172, .getfield 77, 3, 11, 46, .null, [], [1177]),
  (175, .iload 6, 2, 6, 0, .null, [], []),
  (177, .laload, 1, 0, 0, .null, [], []),
  (178, .lastore, 1, 0, 0, .null, [], []),
  (179, .iinc 6 1, 3, 6, 0, .int 1, [], []),
  (182, .goto (-32), 3, 150, 0, .null, [], []),
  (185, .iload 5, 2, 5, 0, .null, [], []),
  (187, .ireturn, 1, 0, 0, .int 0, [], [])],
  [(113, [true, true, true, true, true, true, true]), (150, [true, false, false, true, true, true, true])], 7)
/-- 243: LeastPaysModel.taken(II)I -/
def kX11_taken : j_K := ([
  (0, .iload_n 1, 1, 1, 0, .null, [], []),
  (1, .invokestatic 99, 3, 235, 1, .int 0, [], [1293, 96, 1295, 1294]),
  (4, .ifCond .eq 15, 3, 19, 0, .null, [], []),
  (7, .iload_n 2, 1, 2, 0, .null, [], []),
  (8, .i2l, 1, 0, 0, .null, [], []),
  (9, .lconst 0, 1, 0, 0, .long 0, [], []),
  (10, .ldc2_w 302, 3, 0, 0, .long 7, [], [1562]),
  (13, .invokestatic 93, 3, 155, 3, .int 0, [], [1286, 96, 1288, 1287]),
  (16, .ifCond .ne 5, 3, 21, 0, .null, [], []),
  (19, .iconst (-1), 1, 0, 0, .int (-1), [], []),
  (20, .ireturn, 1, 0, 0, .int 0, [], []),
  (21, .aload_n 0, 1, 0, 0, .null, [], []),
  (22, .getfield 67, 3, 11, 43, .null, [], [1174]),
  (25, .iload_n 1, 1, 1, 0, .null, [], []),
  (26, .iaload, 1, 0, 0, .null, [], []),
  (27, .ifCond .ge 6, 3, 33, 0, .null, [], []),
  (30, .bipush (-11), 2, 0, 0, .int (-11), [], []),
  (32, .ireturn, 1, 0, 0, .int 0, [], []),
  (33, .aload_n 0, 1, 0, 0, .null, [], []),
  (34, .getfield 67, 3, 11, 43, .null, [], [1174]),
  (37, .iload_n 1, 1, 1, 0, .null, [], []),
  (38, .iaload, 1, 0, 0, .null, [], []),
  (39, .bipush 50, 2, 0, 0, .int 50, [], []),
  (41, .if_icmp .lt 6, 3, 47, 0, .null, [], []),
  (44, .bipush (-12), 2, 0, 0, .int (-12), [], []),
  (46, .ireturn, 1, 0, 0, .int 0, [], []),
  (47, .aload_n 0, 1, 0, 0, .null, [], []),
  (48, .aload_n 0, 1, 0, 0, .null, [], []),
  (49, .getfield 67, 3, 11, 43, .null, [], [1174]),
  (52, .iload_n 1, 1, 1, 0, .null, [], []),
  (53, .iaload, 1, 0, 0, .null, [], []),
  (54, .invokevirtual 340, 14, 225, 1, .int 0, [], [1626, 96, 1629, 1628, 83]),
  (57, .istore_n 3, 1, 3, 0, .null, [], []),
  (58, .iload_n 3, 1, 3, 0, .null, [], []),
  (59, .iload_n 2, 1, 2, 0, .null, [], []),
  (60, .if_icmp .eq 15, 3, 75, 0, .null, [], []),
  (63, .iload_n 3, 1, 3, 0, .null, [], []),
  (64, .ifCond .le 11, 3, 75, 0, .null, [], []),
  (67, .iload_n 3, 1, 3, 0, .null, [], []),
  (68, .invokestatic 343, 3, 227, 1, .int 0, [], [1630, 96, 1632, 1631]),
  (71, .istore_n 3, 1, 3, 0, .null, [], []),
  (72, .goto (-14), 3, 58, 0, .null, [], []),
  (75, .iload_n 3, 1, 3, 0, .null, [], []),
  (76, .iload_n 2, 1, 2, 0, .null, [], []),
  (77, .if_icmp .ne 16, 3, 93, 0, .null, [], []),
  (80, .aload_n 0, 1, 0, 0, .null, [], []),
  (81, .aload_n 0, 1, 0, 0, .null, [], []),
  (82, .getfield 67, 3, 11, 43, .null, [], [1174]),
  (85, .iload_n 1, 1, 1, 0, .null, [], []),
  (86, .iaload, 1, 0, 0, .null, [], []),
  (87, .invokevirtual 340, 14, 225, 1, .int 0, [], [1626, 96, 1629, 1628, 83]),
  (90, .goto 5, 3, 95, 0, .null, [], []),
  (93, .bipush (-12), 2, 0, 0, .int (-12), [], []),
  (95, .ireturn, 1, 0, 0, .int 0, [], [])],
  [(58, [true, true, true, true])], 4)
/-- 244: LeastPaysModel.count(I)I -/
def kX11_count : j_K := ([
  (0, .iload_n 1, 1, 1, 0, .null, [], []),
  (1, .tableswitch 69 0 5 #[39, 44, 49, 54, 59, 64], 39, 70, 0, .null, [(0, 40), (1, 45), (2, 50), (3, 55), (4, 60), (5, 65)], []),
  (40, .aload_n 0, 1, 0, 0, .null, [], []),
  (41, .getfield 90, 3, 11, 6, .int 0, [], [1137]),
  (44, .ireturn, 1, 0, 0, .int 0, [], []),
  (45, .aload_n 0, 1, 0, 0, .null, [], []),
  (46, .getfield 207, 3, 11, 17, .int 0, [], [1148]),
  (49, .ireturn, 1, 0, 0, .int 0, [], []),
  (50, .aload_n 0, 1, 0, 0, .null, [], []),
  (51, .getfield 220, 3, 11, 22, .int 0, [], [1153]),
  (54, .ireturn, 1, 0, 0, .int 0, [], []),
  (55, .aload_n 0, 1, 0, 0, .null, [], []),
  (56, .getfield 84, 3, 11, 5, .int 0, [], [1136]),
  (59, .ireturn, 1, 0, 0, .int 0, [], []),
  (60, .aload_n 0, 1, 0, 0, .null, [], []),
  (61, .getfield 299, 3, 11, 37, .int 0, [], [1168]),
  (64, .ireturn, 1, 0, 0, .int 0, [], []),
  (65, .aload_n 0, 1, 0, 0, .null, [], []),
  (66, .getfield 304, 3, 11, 40, .int 0, [], [1171]),
  (69, .ireturn, 1, 0, 0, .int 0, [], []),
  (70, .iconst (-1), 1, 0, 0, .int (-1), [], []),
  (71, .ireturn, 1, 0, 0, .int 0, [], [])],
  [], 2)
/-- 245: java/util/Arrays.fill([JJ)V -/
def kJ7_fill_d0a16 : j_K := ([
  (0, .iconst 0, 1, 0, 0, .int 0, [], []),
  (1, .istore_n 3, 1, 3, 0, .null, [], []),
  (2, .aload_n 0, 1, 0, 0, .null, [], []),
  (3, .arraylength, 1, 0, 0, .null, [], []),
  (4, .istore 4, 2, 4, 0, .null, [], []),
  (6, .iload_n 3, 1, 3, 0, .null, [], []),
  (7, .iload 4, 2, 4, 0, .null, [], []),
  (9, .if_icmp .ge 13, 3, 22, 0, .null, [], []),
  (12, .aload_n 0, 1, 0, 0, .null, [], []),
  (13, .iload_n 3, 1, 3, 0, .null, [], []),
  (14, .lload_n 1, 1, 1, 0, .null, [], []),
  (15, .lastore, 1, 0, 0, .null, [], []),
  (16, .iinc 3 1, 3, 3, 0, .int 1, [], []),
  (19, .goto (-13), 3, 6, 0, .null, [], []),
  (22, .return_, 1, 0, 0, .null, [], [])],
  [(6, [true, true, false, true, true])], 5)
/-- 246: java/util/Arrays.fill([II)V -/
def kJ7_fill_53178 : j_K := ([
  (0, .iconst 0, 1, 0, 0, .int 0, [], []),
  (1, .istore_n 2, 1, 2, 0, .null, [], []),
  (2, .aload_n 0, 1, 0, 0, .null, [], []),
  (3, .arraylength, 1, 0, 0, .null, [], []),
  (4, .istore_n 3, 1, 3, 0, .null, [], []),
  (5, .iload_n 2, 1, 2, 0, .null, [], []),
  (6, .iload_n 3, 1, 3, 0, .null, [], []),
  (7, .if_icmp .ge 13, 3, 20, 0, .null, [], []),
  (10, .aload_n 0, 1, 0, 0, .null, [], []),
  (11, .iload_n 2, 1, 2, 0, .null, [], []),
  (12, .iload_n 1, 1, 1, 0, .null, [], []),
  (13, .iastore, 1, 0, 0, .null, [], []),
  (14, .iinc 2 1, 3, 2, 0, .int 1, [], []),
  (17, .goto (-12), 3, 5, 0, .null, [], []),
  (20, .return_, 1, 0, 0, .null, [], [])],
  [(5, [true, true, true, true])], 4)
def j_meths : List j_K := [kX0_init, kX0_has, kX0_kindOf, kX0_add, kX0_isUnder, kX0_ranAt, kX0_perform, kX0_call, kX0_from, kX0_run, kX1_init, kX1_note, kX1_dropOldest, kX1_takeBack, kX1_doAgain, kX2_init, kX2_has, kX2_welcome, kX2_allows, kX2_told, kX2_tell, kX3_init, kX3_lay, kX3_join, kX3_weigh, kX3_charge, kX3_cost, kX3_besides, kX3_partAmongAlike, kX3_partOfTwo, kX3_givenBack, kX3_intoChest, kX4_init, kX4_add, kX4_enact, kX4_readLines, kX4_readLine, kX4_readEither, kX4_readBoth, kX4_readCompared, kX4_readSum, kX4_takesSumSign, kX4_readProduct, kX4_takesProductSign, kX4_readOperand, kX4_readNumber, kX4_letterHere, kX4_isDigit, kX4_nameOf, kX4_takes, kX4_fail, kX4_write, kX4_gift, kX4_shareOf, kX4_workOut, kX4_apply, kX4_push, kX4_pop, kX4_valueOf, kX4_joined, kX4_truth, kX5_init, kX5_has, kX5_add, kX5_enjoy, kX5_orderAll, kX5_playOut, kX5_priceOf, kX5_worth, kX6_init, kX6_costBy, kX6_search, kX6_wouldChange, kX6_firstRestless, kX6_sumsOf, kX6_ways, kX6_fewWays, kX6_goThroughWays, kX6_layWay, kX6_takeTurns, kX6_settle, kX6_victimOf, kX6_allWeights, kX6_weighedCost, kX6_layByChance, kX6_sumOfLeastMean, kX7_init, kX7_pass, kX7_draw, kX7_firstWrong, kX7_rulesThatFit, kX7_weighRules, kX7_greatestCost, kX8_init, kX8_take, kX8_layBack, kX9_init, kX9_holdsNothing, kX9_isRow, kX9_isRowOf, kX9_holdHat, kX9_holdRow, kX9_hasPlaces, kX9_refusalAt, kX9_get, kX9_set, kX9_lowestBits, kX10_init, kX10_guest, kX10_guests, kX10_mend, kX10_of, kX10_think, kX10_feed, kX10_law, kX10_putIn, kX10_mean, kX10_bestMean, kX10_rest, kX10_rests, kX10_turns, kX10_agree, kX10_dish, kX10_joy, kX10_ordered, kX10_thought, kX10_given, kX10_stranger, kX10_night, kX10_drawn, kX10_judge, kX10_fits, kX10_fair, kX10_image, kX10_back, kX10_undo, kX10_redo, kX10_body, kX10_act, kX10_trace, kX10_keep, kX10_row, kX10_put, kX10_element, kX10_shift, kX10_taken, kX10_count, kX10_within, kX10_isShelf, kX10_comesFrom, kX10_ofOne, kX10_ofTheTable, kX10_givenBy, kX10_refusalOfTold, kX10_fraction, kX11_within, kX11_init, kX11_becomes, kX11_undo, kX11_redo, kX11_isGuest, kX11_guest, kX11_guests, kX11_mend, kX11_ofGuest, kX11_of, kX11_think, kX11_laysOut, kX11_leastBut, kX11_alikePay, kX11_twoPay, kX11_givesBack, kX11_nightBy, kX11_nightAsIs, kX11_costIn, kX11_costNow, kX11_costBy, kX11_leastCost, kX11_putIn, kX11_common, kX11_partOf, kX11_meanOf, kX11_wholeOf, kX11_mean, kX11_bestMean, kX11_wouldChange, kX11_firstWho, kX11_rest, kX11_sumsOf, kX11_rests, kX11_turns, kX11_agree, kX11_dish, kX11_joy, kX11_joyOf, kX11_billFrom, kX11_ordered, kX11_feed, kX11_byteAt, kX11_wrong, kX11_takes, kX11_either, kX11_both, kX11_compared, kX11_sums, kX11_product, kX11_nameOf, kX11_one, kX11_workOut, kX11_law, kX11_wouldGive, kX11_thought, kX11_givenBy, kX11_given, kX11_stranger, kX11_night, kX11_drawn, kX11_hatIs, kX11_firstFalse, kX11_judge, kX11_fits, kX11_fair, kX11_image, kX11_back, kX11_isBody, kX11_kindOf, kX11_body, kX11_above, kX11_begins, kX11_givesAs, kX11_owesAs, kX11_lacksAs, kX11_tellsAs, kX11_act, kX11_trace, kX11_isShelf, kX11_keep, kX11_row, kX11_refusal, kX11_asSort, kX11_put, kX11_element, kX11_shift, kX11_taken, kX11_count, kJ7_fill_d0a16, kJ7_fill_53178]
abbrev j_cnt : Nat := 247
def j_mn : List j_K → Nat → j_K
  | [], _ => ([], [], 0)
  | x :: _, 0 => x
  | _ :: r, k + 1 => j_mn r k
def j_meth (i : Nat) : j_K := j_mn j_meths i
end
section
/-! ===== runs: with fuel, and without (own text) ===== -/
section JMAP
variable {α β : Type} (g : α → β)
theorem j_i0_map (ks : α) (f : Int32 → α) (st : List Value) : g (j_i0 ks f st) = j_i0 (g ks) (fun x => g (f x)) st := by unfold j_i0; split <;> rfl
theorem j_l0_map (ks : α) (f : Int64 → α) (st : List Value) : g (j_l0 ks f st) = j_l0 (g ks) (fun x => g (f x)) st := by unfold j_l0; split <;> rfl
theorem j_i1_map (ks : α) (f : Int32 → List Value → α) (st : List Value) : g (j_i1 ks f st) = j_i1 (g ks) (fun x r => g (f x r)) st := by unfold j_i1; split <;> rfl
theorem j_i2_map (ks : α) (f : Int32 → Int32 → List Value → α) (st : List Value) : g (j_i2 ks f st) = j_i2 (g ks) (fun x y r => g (f x y r)) st := by unfold j_i2; split <;> rfl
theorem j_l1_map (ks : α) (f : Int64 → List Value → α) (st : List Value) : g (j_l1 ks f st) = j_l1 (g ks) (fun x r => g (f x r)) st := by unfold j_l1; split <;> rfl
theorem j_l2_map (ks : α) (f : Int64 → Int64 → List Value → α) (st : List Value) : g (j_l2 ks f st) = j_l2 (g ks) (fun x y r => g (f x y r)) st := by unfold j_l2; split <;> rfl
theorem j_il_map (ks : α) (f : Int64 → Int32 → List Value → α) (st : List Value) : g (j_il ks f st) = j_il (g ks) (fun x y r => g (f x y r)) st := by unfold j_il; split <;> rfl
theorem j_r1_map (ks : α) (f : Nat → List Value → α) (st : List Value) : g (j_r1 ks f st) = j_r1 (g ks) (fun x r => g (f x r)) st := by unfold j_r1; split <;> rfl
theorem j_ri_map (ks : α) (f : Nat → Int32 → List Value → α) (st : List Value) : g (j_ri ks f st) = j_ri (g ks) (fun x y r => g (f x y r)) st := by unfold j_ri; split <;> rfl
theorem j_rI_map (ks : α) (f : Nat → Int32 → List Value → α) (st : List Value) : g (j_rI ks f st) = j_rI (g ks) (fun x y r => g (f x y r)) st := by unfold j_rI; split <;> rfl
theorem j_rii_map (ks : α) (f : Nat → Int32 → Int32 → List Value → α) (st : List Value) : g (j_rii ks f st) = j_rii (g ks) (fun x y z r => g (f x y z r)) st := by unfold j_rii; split <;> rfl
theorem j_ril_map (ks : α) (f : Nat → Int32 → Int64 → List Value → α) (st : List Value) : g (j_ril ks f st) = j_ril (g ks) (fun x y z r => g (f x y z r)) st := by unfold j_ril; split <;> rfl
theorem j_rir_map (ks : α) (f : Nat → Int32 → Nat → List Value → α) (st : List Value) : g (j_rir ks f st) = j_rir (g ks) (fun x y z r => g (f x y z r)) st := by unfold j_rir; split <;> rfl
theorem j_rr_map (ks : α) (f : Nat → Nat → List Value → α) (st : List Value) : g (j_rr ks f st) = j_rr (g ks) (fun x y r => g (f x y r)) st := by unfold j_rr; split <;> rfl
theorem j_c5_map (ks : α) (f : Nat → Int32 → Nat → Int32 → Int32 → List Value → α) (st : List Value) : g (j_c5 ks f st) = j_c5 (g ks) (fun a b c d e r => g (f a b c d e r)) st := by unfold j_c5; split <;> rfl
theorem j_v1_map (ks : α) (f : Value → List Value → α) (st : List Value) : g (j_v1 ks f st) = j_v1 (g ks) (fun x r => g (f x r)) st := by unfold j_v1; split <;> rfl
theorem j_v2_map (ks : α) (f : Value → Value → List Value → α) (st : List Value) : g (j_v2 ks f st) = j_v2 (g ks) (fun x y r => g (f x y r)) st := by unfold j_v2; simp only [j_v1_map g]
theorem j_vi_map (ks : α) (f : Int32 → α) (v : Value) : g (j_vi ks f v) = j_vi (g ks) (fun x => g (f x)) v := by unfold j_vi; split <;> rfl
theorem j_vl_map (ks : α) (f : Int64 → α) (v : Value) : g (j_vl ks f v) = j_vl (g ks) (fun x => g (f x)) v := by unfold j_vl; split <;> rfl
theorem j_vr_map (ks : α) (f : Nat → α) (v : Value) : g (j_vr ks f v) = j_vr (g ks) (fun x => g (f x)) v := by unfold j_vr; split <;> rfl
theorem j_sw_map (k : Nat → α) (d : Nat) (x : Int32) : ∀ ts : List (Int32 × Nat), g (j_sw k d x ts) = j_sw (fun t => g (k t)) d x ts
  | [] => rfl
  | (c, t) :: r => by
    unfold j_sw
    split
    · rfl
    · exact j_sw_map k d x r
theorem j_popk_map (ks : α) (f : List Value → List Value → α) : ∀ (n : Nat) (acc st : List Value), g (j_popk ks f n acc st) = j_popk (g ks) (fun x r => g (f x r)) n acc st
  | 0, _, _ => rfl
  | n + 1, acc, x :: r => j_popk_map ks f n (x :: acc) r
  | _ + 1, _, [] => rfl
theorem j_by_map (v : Value) (i l r : α) : g (j_by v i l r) = j_by v (g i) (g l) (g r) := by unfold j_by; split <;> rfl
theorem j_br_map (c : Jvm.ClassFile.Cond) (x : Int32) (t f : α) : g (j_br c x t f) = j_br c x (g t) (g f) := by unfold j_br; split <;> split <;> rfl
theorem j_bc_map (c : Jvm.ClassFile.Cond) (x y : Int32) (t f : α) : g (j_bc c x y t f) = j_bc c x y (g t) (g f) := by unfold j_bc; split <;> split <;> rfl
theorem j_cond_map (c : Bool) (t f : α) : g (bif c then t else f) = bif c then g t else g f := by cases c <;> rfl
theorem j_ite_map (c : Prop) (h : Decidable c) (t f : α) : g (@ite α c h t f) = @ite β c h (g t) (g f) := by split <;> rfl
theorem j_nat_map (kn : List Value → j_Me → α) (ks : α) (a : Nat) (st : List Value) (me : j_Me) : g (j_nat kn ks a st me) = j_nat (fun r me => g (kn r me)) (g ks) a st me := by
  unfold j_nat
  simp only [j_cond_map g, j_c5_map g, j_i2_map g, j_l2_map g]
theorem j_oi_map (ks : α) (f : Int32 → α) (o : Option Value) : g (j_oi ks f o) = j_oi (g ks) (fun x => g (f x)) o := by unfold j_oi; split <;> rfl
theorem j_ol_map (ks : α) (f : Int64 → α) (o : Option Value) : g (j_ol ks f o) = j_ol (g ks) (fun x => g (f x)) o := by unfold j_ol; split <;> rfl
theorem j_ov_map (ks : α) (f : α) (o : Option Value) : g (j_ov ks f o) = j_ov (g ks) (g f) o := by unfold j_ov; split <;> rfl
theorem j_res_map (ks : α) (v : Value) (f : List Value → α) (o : Option Value) : g (j_res ks v f o) = j_res (g ks) v (fun vs => g (f vs)) o := by
  unfold j_res
  simp only [j_by_map g, j_oi_map g, j_ol_map g, j_ov_map g]
theorem j_ret_map (kr : Option Value → j_Me → α) (ks : α) (st : List Value) (me : j_Me) : g (match st with | [] => kr none me | _ => ks) = (match st with | [] => g (kr none me) | _ => g ks) := by split <;> rfl
set_option maxHeartbeats 4000000 in
theorem j_st_map (kn : Nat → List Value → List Value → j_Me → α) (kc : Nat → Value → List Value → Nat → List Value → List Value → j_Me → α) (kcs : Nat → List Value → Nat → List Value → List Value → j_Me → α) (kr : Option Value → j_Me → α) (ks : α) (pc : Nat) (ins : Instr) (z a b : Nat) (v : Value) (ts : List (Int32 × Nat)) (L st : List Value) (me : j_Me) :
    g (j_st kn kc kcs kr ks pc ins z a b v ts L st me) = j_st (fun a b c d => g (kn a b c d)) (fun a b c d e f h => g (kc a b c d e f h)) (fun a b c d e f => g (kcs a b c d e f)) (fun a b => g (kr a b)) (g ks) pc ins z a b v ts L st me := by
  cases ins <;> first
    | rfl
    | (simp only [j_st, j_i0_map g, j_l0_map g, j_i1_map g, j_i2_map g, j_l1_map g, j_l2_map g, j_il_map g, j_r1_map g, j_ri_map g, j_rI_map g, j_rii_map g, j_ril_map g, j_rir_map g, j_rr_map g, j_c5_map g, j_v1_map g, j_v2_map g, j_vi_map g, j_vl_map g, j_vr_map g, j_sw_map g, j_popk_map g, j_by_map g, j_br_map g, j_bc_map g, j_cond_map g, j_ite_map g, j_nat_map g, j_ret_map g]; done)
    | (simp only [j_st]; split <;> rfl)
theorem j_go_map (kn : Nat → List Value → List Value → j_Me → α) (kc : Nat → Value → List Value → Nat → List Value → List Value → j_Me → α) (kcs : Nat → List Value → Nat → List Value → List Value → j_Me → α) (kr : Option Value → j_Me → α) (ks : α) (K : j_K) (pc : Nat) (L st : List Value) (me : j_Me) :
    g (j_go kn kc kcs kr ks K pc L st me) = j_go (fun a b c d => g (kn a b c d)) (fun a b c d e f h => g (kc a b c d e f h)) (fun a b c d e f => g (kcs a b c d e f)) (fun a b => g (kr a b)) (g ks) K pc L st me := by
  unfold j_go
  split
  · rfl
  · exact j_st_map g ..
end JMAP
/-- a call: its method begins with its arguments -/
def j_call (run : Nat → j_K → Nat → List Value → List Value → j_Me → Option j_R) (d i : Nat) (as : List Value) (me : j_Me) : Option j_R := match d with
  | 0 => none
  | d' + 1 => bif Nat.ble (j_ent as).length (j_meth i).2.2 && Nat.blt i j_cnt then run d' (j_meth i) 0 (j_pad (j_meth i).2.2 (j_ent as)) [] me else none
/-- behind a call that makes nothing -/
def j_bh (k : List Value → j_Me → Option j_R) (v : Value) (S : j_S) (q : j_R) : Option j_R := bif decide (q.2.1 = S) then j_res none v (fun vs => k vs (S, q.2.2)) q.1 else none
def j_bhs (k : j_Me → Option j_R) (q : j_R) : Option j_R := j_ov none (k q.2) q.1
def j_step (run : Nat → j_K → Nat → List Value → List Value → j_Me → Option j_R) (d : Nat) (K : j_K) (pc : Nat) (L st : List Value) (me : j_Me) : Option j_R :=
  j_go (fun pc' L' st' me' => run d K pc' (j_fg K.2.1 pc' L') st' me')
    (fun i v as pc' L' r me => (j_call run d i as me).bind (j_bh (fun vs me' => run d K pc' (j_fg K.2.1 pc' L') (vs ++ r) me') v me.1))
    (fun i as pc' L' r me => (j_call run d i as me).bind (j_bhs (fun me' => run d K pc' (j_fg K.2.1 pc' L') r me')))
    (fun v me => some (v, me)) none K pc L st me
def j_run : Nat → Nat → j_K → Nat → List Value → List Value → j_Me → Option j_R
  | 0, _, _, _, _, _, _ => none
  | n + 1, d, K, pc, L, st, me => j_step (j_run n) d K pc L st me
theorem j_bind_map {α β : Type} (o : Option α) (f : α → Option β) (r : β) : (o.bind f = some r) = (∃ q, o = some q ∧ f q = some r) := by
  cases o with
  | none => simp
  | some x => simp
/-- what a step that ends says, as propositions -/
theorem j_step_some (run : Nat → j_K → Nat → List Value → List Value → j_Me → Option j_R) (d : Nat) (K : j_K) (pc : Nat) (L st : List Value) (me : j_Me) (r : j_R) : (j_step run d K pc L st me = some r) =
    j_go (fun pc' L' st' me' => run d K pc' (j_fg K.2.1 pc' L') st' me' = some r)
      (fun i v as pc' L' rs me => ∃ q, j_call run d i as me = some q ∧ j_bh (fun vs me' => run d K pc' (j_fg K.2.1 pc' L') (vs ++ rs) me') v me.1 q = some r)
      (fun i as pc' L' rs me => ∃ q, j_call run d i as me = some q ∧ j_bhs (fun me' => run d K pc' (j_fg K.2.1 pc' L') rs me') q = some r)
      (fun v me => (some (v, me) : Option j_R) = some r) False K pc L st me := by
  have h := j_go_map (fun o : Option j_R => o = some r) (fun pc' L' st' me' => run d K pc' (j_fg K.2.1 pc' L') st' me')
    (fun i v as pc' L' rs me => (j_call run d i as me).bind (j_bh (fun vs me' => run d K pc' (j_fg K.2.1 pc' L') (vs ++ rs) me') v me.1))
    (fun i as pc' L' rs me => (j_call run d i as me).bind (j_bhs (fun me' => run d K pc' (j_fg K.2.1 pc' L') rs me')))
    (fun v me => some (v, me)) none K pc L st me
  simp only [j_bind_map] at h
  have e : ((none : Option j_R) = some r) = False := by simp
  rw [e] at h
  exact h
end
section
/-! ===== runs without fuel, and how they go on (own text) ===== -/
theorem j_go_rel {α β : Type} (Rel : α → β → Prop) {kn : Nat → List Value → List Value → j_Me → α} {kn' : Nat → List Value → List Value → j_Me → β} {kc : Nat → Value → List Value → Nat → List Value → List Value → j_Me → α} {kc' : Nat → Value → List Value → Nat → List Value → List Value → j_Me → β} {kcs : Nat → List Value → Nat → List Value → List Value → j_Me → α} {kcs' : Nat → List Value → Nat → List Value → List Value → j_Me → β} {kr : Option Value → j_Me → α} {kr' : Option Value → j_Me → β} {ks : α} {ks' : β}
    (hn : ∀ a b c d, Rel (kn a b c d) (kn' a b c d)) (hc : ∀ a b c d e f h, Rel (kc a b c d e f h) (kc' a b c d e f h)) (hcs : ∀ a b c d e f, Rel (kcs a b c d e f) (kcs' a b c d e f)) (hr : ∀ a b, Rel (kr a b) (kr' a b)) (hs : Rel ks ks') (K : j_K) (pc : Nat) (L st : List Value) (me : j_Me) :
    Rel (j_go kn kc kcs kr ks K pc L st me) (j_go kn' kc' kcs' kr' ks' K pc L st me) := by
  have h := (j_go (α := { p : α × β // Rel p.1 p.2 }) (fun a b c d => ⟨(kn a b c d, kn' a b c d), hn a b c d⟩) (fun a b c d e f h => ⟨(kc a b c d e f h, kc' a b c d e f h), hc a b c d e f h⟩) (fun a b c d e f => ⟨(kcs a b c d e f, kcs' a b c d e f), hcs a b c d e f⟩) (fun a b => ⟨(kr a b, kr' a b), hr a b⟩) ⟨(ks, ks'), hs⟩ K pc L st me).2
  have h1 := j_go_map (fun x : { p : α × β // Rel p.1 p.2 } => x.1.1) (fun a b c d => ⟨(kn a b c d, kn' a b c d), hn a b c d⟩) (fun a b c d e f h => ⟨(kc a b c d e f h, kc' a b c d e f h), hc a b c d e f h⟩) (fun a b c d e f => ⟨(kcs a b c d e f, kcs' a b c d e f), hcs a b c d e f⟩) (fun a b => ⟨(kr a b, kr' a b), hr a b⟩) ⟨(ks, ks'), hs⟩ K pc L st me
  have h2 := j_go_map (fun x : { p : α × β // Rel p.1 p.2 } => x.1.2) (fun a b c d => ⟨(kn a b c d, kn' a b c d), hn a b c d⟩) (fun a b c d e f h => ⟨(kc a b c d e f h, kc' a b c d e f h), hc a b c d e f h⟩) (fun a b c d e f => ⟨(kcs a b c d e f, kcs' a b c d e f), hcs a b c d e f⟩) (fun a b => ⟨(kr a b, kr' a b), hr a b⟩) ⟨(ks, ks'), hs⟩ K pc L st me
  dsimp only at h1 h2
  rw [h1, h2] at h
  exact h
abbrev j_Ru : Type := Nat → j_K → Nat → List Value → List Value → j_Me → Option j_R
def j_le (f g : j_Ru) : Prop := ∀ d K pc L st me r, f d K pc L st me = some r → g d K pc L st me = some r
theorem j_call_le {f g : j_Ru} (h : j_le f g) (d i : Nat) (as : List Value) (me : j_Me) (r : j_R) (hf : j_call f d i as me = some r) : j_call g d i as me = some r := by
  cases d with
  | zero => exact hf
  | succ d =>
    unfold j_call at hf ⊢
    dsimp only at hf ⊢
    cases hb : (Nat.ble (j_ent as).length (j_meth i).2.2 && Nat.blt i j_cnt) with
    | false => rw [hb] at hf; cases hf
    | true => rw [hb] at hf; exact h _ _ _ _ _ _ _ hf
theorem j_res_le {v : Value} {f g : List Value → Option j_R} {o : Option Value} {r : j_R} (h : ∀ vs, f vs = some r → g vs = some r) (hf : j_res none v f o = some r) : j_res none v g o = some r := by
  unfold j_res j_by j_oi j_ol j_ov at hf ⊢
  revert hf
  cases v <;> dsimp only <;> split <;> first | exact h _ | exact fun q => q
theorem j_bh_le {k k' : List Value → j_Me → Option j_R} {v : Value} {S : j_S} {q r : j_R} (h : ∀ vs me, k vs me = some r → k' vs me = some r) (hf : j_bh k v S q = some r) : j_bh k' v S q = some r := by
  unfold j_bh at hf ⊢
  cases hb : decide (q.2.1 = S) with
  | false => rw [hb] at hf; cases hf
  | true => rw [hb] at hf; exact j_res_le (fun vs => h vs _) hf
theorem j_bhs_le {k k' : j_Me → Option j_R} {q r : j_R} (h : ∀ me, k me = some r → k' me = some r) (hf : j_bhs k q = some r) : j_bhs k' q = some r := by
  unfold j_bhs j_ov at hf ⊢
  revert hf
  split
  · exact h _
  · exact fun q => q
theorem j_step_le {f g : j_Ru} (h : j_le f g) : j_le (j_step f) (j_step g) := by
  intro d K pc L st me r hf
  refine j_go_rel (fun a b : Option j_R => a = some r → b = some r) (fun _ _ _ _ => h _ _ _ _ _ _ _) (fun i v as pc' L' rs me => ?_) (fun i as pc' L' rs me => ?_) (fun _ _ q => q) (fun q => q) K pc L st me hf
  · intro hq
    rw [j_bind_map] at hq ⊢
    obtain ⟨q, h1, h2⟩ := hq
    exact ⟨q, j_call_le h _ _ _ _ _ h1, j_bh_le (fun vs me => h _ _ _ _ _ _ _) h2⟩
  · intro hq
    rw [j_bind_map] at hq ⊢
    obtain ⟨q, h1, h2⟩ := hq
    exact ⟨q, j_call_le h _ _ _ _ _ h1, j_bhs_le (fun me => h _ _ _ _ _ _ _) h2⟩
theorem j_run_le1 : ∀ n, j_le (j_run n) (j_run (n + 1))
  | 0 => fun _ _ _ _ _ _ _ h => by cases h
  | n + 1 => j_step_le (j_run_le1 n)
theorem j_run_le {n m : Nat} (h : n ≤ m) : j_le (j_run n) (j_run m) := by
  induction h with
  | refl => exact fun _ _ _ _ _ _ _ h => h
  | step _ ih => exact fun d K pc L st me r q => j_run_le1 _ d K pc L st me r (ih d K pc L st me r q)
noncomputable def R : j_Ru := fun d K pc L st me => @dite (Option j_R) (∃ r n, j_run n d K pc L st me = some r) (Classical.propDecidable _) (fun h => some h.choose) (fun _ => none)
theorem R_some {d : Nat} {K : j_K} {pc : Nat} {L st : List Value} {me : j_Me} {r : j_R} : R d K pc L st me = some r ↔ ∃ n, j_run n d K pc L st me = some r := by
  unfold R
  by_cases h : ∃ r n, j_run n d K pc L st me = some r
  · rw [dif_pos h]
    obtain ⟨n, hn⟩ := h.choose_spec
    constructor
    · intro e
      cases e
      exact ⟨n, hn⟩
    · rintro ⟨m, hm⟩
      have a := j_run_le (Nat.le_max_left n m) _ _ _ _ _ _ _ hn
      have b := j_run_le (Nat.le_max_right n m) _ _ _ _ _ _ _ hm
      rw [a] at b
      exact b
  · rw [dif_neg h]
    constructor
    · intro e
      cases e
    · rintro ⟨m, hm⟩
      exact absurd ⟨r, m, hm⟩ h
theorem j_run_R (n : Nat) : j_le (j_run n) R := fun _ _ _ _ _ _ _ h => R_some.mpr ⟨n, h⟩
theorem j_call_ex {d i : Nat} {as : List Value} {me : j_Me} {r : j_R} (h : j_call R d i as me = some r) : ∃ n, j_call (j_run n) d i as me = some r := by
  cases d with
  | zero => cases h
  | succ d =>
    unfold j_call at h ⊢
    dsimp only at h ⊢
    cases hb : (Nat.ble (j_ent as).length (j_meth i).2.2 && Nat.blt i j_cnt) with
    | false => rw [hb] at h; cases h
    | true => rw [hb] at h; exact R_some.mp h
theorem j_res_ex {v : Value} {f : List Value → Option j_R} {g : Nat → List Value → Option j_R} {o : Option Value} {r : j_R} (h : ∀ vs, f vs = some r → ∃ n, g n vs = some r) (hf : j_res none v f o = some r) : ∃ n, j_res none v (g n) o = some r := by
  unfold j_res j_by j_oi j_ol j_ov at hf ⊢
  revert hf
  cases v <;> dsimp only <;> split <;> first | exact h _ | exact fun q => by cases q
theorem j_step_ex {d : Nat} {K : j_K} {pc : Nat} {L st : List Value} {me : j_Me} {r : j_R} (h : j_step R d K pc L st me = some r) : ∃ n, j_step (j_run n) d K pc L st me = some r := by
  have key := j_go_rel (fun (a : Option j_R) (b : Nat → Option j_R) => a = some r → ∃ n, b n = some r)
    (kn := fun pc' L' st' me' => R d K pc' (j_fg K.2.1 pc' L') st' me') (kn' := fun pc' L' st' me' n => j_run n d K pc' (j_fg K.2.1 pc' L') st' me')
    (kc := fun i v as pc' L' r me => (j_call R d i as me).bind (j_bh (fun vs me' => R d K pc' (j_fg K.2.1 pc' L') (vs ++ r) me') v me.1))
    (kc' := fun i v as pc' L' r me n => (j_call (j_run n) d i as me).bind (j_bh (fun vs me' => j_run n d K pc' (j_fg K.2.1 pc' L') (vs ++ r) me') v me.1))
    (kcs := fun i as pc' L' r me => (j_call R d i as me).bind (j_bhs (fun me' => R d K pc' (j_fg K.2.1 pc' L') r me')))
    (kcs' := fun i as pc' L' r me n => (j_call (j_run n) d i as me).bind (j_bhs (fun me' => j_run n d K pc' (j_fg K.2.1 pc' L') r me')))
    (kr := fun v me => some (v, me)) (kr' := fun v me _ => some (v, me)) (ks := none) (ks' := fun _ => none)
    (fun _ _ _ _ => R_some.mp) (fun i v as pc' L' rs me => ?_) (fun i as pc' L' rs me => ?_) (fun _ _ q => ⟨0, q⟩) (fun q => by cases q) K pc L st me h
  · obtain ⟨n, hn⟩ := key
    refine ⟨n, ?_⟩
    rw [← hn]
    exact (j_go_map (fun f : Nat → Option j_R => f n) (fun pc' L' st' me' n => j_run n d K pc' (j_fg K.2.1 pc' L') st' me')
      (fun i v as pc' L' r me n => (j_call (j_run n) d i as me).bind (j_bh (fun vs me' => j_run n d K pc' (j_fg K.2.1 pc' L') (vs ++ r) me') v me.1))
      (fun i as pc' L' r me n => (j_call (j_run n) d i as me).bind (j_bhs (fun me' => j_run n d K pc' (j_fg K.2.1 pc' L') r me')))
      (fun v me _ => some (v, me)) (fun _ => none) K pc L st me).symm
  · intro hq
    rw [j_bind_map] at hq
    obtain ⟨q, h1, h2⟩ := hq
    obtain ⟨n1, e1⟩ := j_call_ex h1
    unfold j_bh at h2
    cases hb : decide (q.2.1 = me.1) with
    | false => rw [hb] at h2; cases h2
    | true =>
      rw [hb] at h2
      obtain ⟨n2, e2⟩ := j_res_ex (g := fun n vs => j_run n d K pc' (j_fg K.2.1 pc' L') (vs ++ rs) (me.1, q.2.2)) (fun vs => R_some.mp) h2
      refine ⟨max n1 n2, ?_⟩
      rw [j_bind_map]
      refine ⟨q, j_call_le (j_run_le (Nat.le_max_left n1 n2)) _ _ _ _ _ e1, ?_⟩
      unfold j_bh
      rw [hb]
      exact j_res_le (fun vs => j_run_le (Nat.le_max_right n1 n2) _ _ _ _ _ _ _) e2
  · intro hq
    rw [j_bind_map] at hq
    obtain ⟨q, h1, h2⟩ := hq
    obtain ⟨n1, e1⟩ := j_call_ex h1
    have h3 : q.1 = none ∧ R d K pc' (j_fg K.2.1 pc' L') rs q.2 = some r := by
      unfold j_bhs j_ov at h2
      revert h2
      split
      · next e => exact fun z => ⟨e, z⟩
      · exact fun z => by cases z
    obtain ⟨n2, e2⟩ := R_some.mp h3.2
    refine ⟨max n1 n2, ?_⟩
    rw [j_bind_map]
    refine ⟨q, j_call_le (j_run_le (Nat.le_max_left n1 n2)) _ _ _ _ _ e1, ?_⟩
    unfold j_bhs
    rw [h3.1]
    exact j_run_le (Nat.le_max_right n1 n2) _ _ _ _ _ _ _ e2
theorem R_eq (d : Nat) (K : j_K) (pc : Nat) (L st : List Value) (me : j_Me) : R d K pc L st me = j_step R d K pc L st me := by
  have key : ∀ r, R d K pc L st me = some r ↔ j_step R d K pc L st me = some r := by
    intro r
    constructor
    · intro h
      obtain ⟨n, hn⟩ := R_some.mp h
      cases n with
      | zero => cases hn
      | succ n => exact j_step_le (j_run_R n) _ _ _ _ _ _ _ hn
    · intro h
      obtain ⟨n, hn⟩ := j_step_ex h
      exact R_some.mpr ⟨n + 1, hn⟩
  cases h1 : R d K pc L st me with
  | some r => exact ((key r).mp h1).symm
  | none =>
    cases h2 : j_step R d K pc L st me with
    | none => rfl
    | some r => rw [(key r).mpr h2] at h1; cases h1
/-- a call that makes nothing: its answer, ints, longs -/
noncomputable def C (d i : Nat) (as : List Value) (S : j_S) (M : j_M) (N : j_N) : Option (Option Value × j_M × j_N) := (j_call R d i as (S, M, N)).bind fun q => bif decide (q.2.1 = S) then some (q.1, q.2.2) else none
theorem j_bh_C (d i : Nat) (as : List Value) (me : j_Me) (k : List Value → j_Me → Option j_R) (v : Value) : (j_call R d i as me).bind (j_bh k v me.1) = (C d i as me.1 me.2.1 me.2.2).bind fun q => j_res none v (fun vs => k vs (me.1, q.2)) q.1 := by
  unfold C
  show _ = ((j_call R d i as me).bind _).bind _
  cases j_call R d i as me with
  | none => rfl
  | some q =>
    simp only [Option.bind_some, j_bh]
    cases decide (q.2.1 = me.1) <;> rfl
noncomputable def j_ev (d : Nat) (K : j_K) : Nat → Nat → List Value → List Value → j_Me → Option j_R
  | 0, pc, L, st, me => R d K pc L st me
  | k + 1, pc, L, st, me => j_go (fun pc' L' st' me' => match j_lk K.2.1 pc' with
        | some m => R d K pc' (j_mask m L') st' me'
        | none => j_ev d K k pc' L' st' me')
      (fun i v as pc' L' r me => (C d i as me.1 me.2.1 me.2.2).bind fun q => j_res none v (fun vs => match j_lk K.2.1 pc' with
        | some m => R d K pc' (j_mask m L') (vs ++ r) (me.1, q.2)
        | none => j_ev d K k pc' L' (vs ++ r) (me.1, q.2)) q.1)
      (fun i as pc' L' r me => (j_call R d i as me).bind (j_bhs (fun me' => match j_lk K.2.1 pc' with
        | some m => R d K pc' (j_mask m L') r me'
        | none => j_ev d K k pc' L' r me')))
      (fun v me => some (v, me)) none K pc L st me
theorem R_ev (d : Nat) (K : j_K) : ∀ (k pc : Nat) (L st : List Value) (me : j_Me), R d K pc L st me = j_ev d K k pc L st me
  | 0, _, _, _, _ => rfl
  | k + 1, pc, L, st, me => by
    have e : ∀ pc' L' st' me', R d K pc' (j_fg K.2.1 pc' L') st' me' = (match j_lk K.2.1 pc' with
        | some m => R d K pc' (j_mask m L') st' me'
        | none => j_ev d K k pc' L' st' me') := by
      intro pc' L' st' me'
      unfold j_fg
      cases j_lk K.2.1 pc' with
      | some m => rfl
      | none => exact R_ev d K k pc' L' st' me'
    rw [R_eq]
    unfold j_step
    simp only [j_bh_C, e]
    rfl
theorem C_eq {d i : Nat} {as : List Value} {S : j_S} {M M' : j_M} {N N' : j_N} {v : Option Value} {K : j_K} {L : List Value} (hd : 1 ≤ d) (hi : i < j_cnt) (hK : j_meth i = K) (ha : (j_ent as).length ≤ K.2.2) (hL : j_pad K.2.2 (j_ent as) = L) (h : R (d - 1) K 0 L [] (S, M, N) = some (v, (S, M', N'))) : C d i as S M N = some (v, M', N') := by
  obtain ⟨d, rfl⟩ : ∃ e, d = e + 1 := ⟨d - 1, by omega⟩
  subst hK
  subst hL
  have hb : (Nat.ble (j_ent as).length (j_meth i).2.2 && Nat.blt i j_cnt) = true := by
    rw [Nat.ble_eq_true_of_le ha, Bool.true_and]
    exact Nat.ble_eq_true_of_le hi
  have hc : j_call R (d + 1) i as (S, M, N) = some (v, (S, M', N')) := by
    unfold j_call
    dsimp only
    rw [hb]
    exact h
  unfold C
  rw [hc]
  simp
end
section
/-! ===== the shape behind both constructors (printed by wip/whole) ===== -/
def S0 : j_S := [(13, 10, [some 1, some 8, some 10, some 12, some 16, some 21, some 22, some 27, some 30, some 33]), (5, 12, [some 2, some 3, some 4, some 5, some 6, some 7, none, none, none, none, none, none]), (0, 6, []), (0, 6, []), (0, 6, []), (0, 6, []), (0, 6, []), (0, 6, []), (6, 11, [some 9, none, none, none, none, none, none, none, none, none, none]), (0, 7, []), (9, 6, [some 1, some 8, some 11, none, none, none]), (0, 6, []), (8, 6, [some 1, some 8, some 13, some 14, some 15, none]), (0, 3, []), (0, 18, []), (0, 6, []), (7, 11, [some 17, some 18, some 19, some 20, none, none, none, none, none, none, none]), (0, 120, []), (0, 122, []), (0, 122, []), (0, 122, []), (10, 6, [some 1, some 8, none, none, none, none]), (4, 6, [some 23, some 24, some 25, some 26, none, none]), (0, 40, []), (0, 40, []), (0, 40, []), (0, 40, []), (11, 6, [some 28, some 29, none, none, none, none]), (0, 6, []), (0, 6, []), (3, 5, [some 31, some 32, none, none, none]), (0, 50, []), (0, 24, []), (2, 6, [some 34, some 36, some 38, some 40, some 42, some 44]), (12, 5, [some 35, none, none, none, none]), (1, 60, []), (12, 5, [some 37, none, none, none, none]), (1, 60, []), (12, 5, [some 39, none, none, none, none]), (1, 60, []), (12, 5, [some 41, none, none, none, none]), (1, 60, []), (12, 5, [some 43, none, none, none, none]), (1, 60, []), (12, 5, [some 45, none, none, none, none]), (1, 60, []), (14, 47, [some 47, some 48, some 49, some 50, none, none, none, some 51, some 52, none, none, some 53, none, some 54, some 55, none, none, none, some 56, some 57, some 58, some 59, none, some 60, none, none, none, none, none, none, some 61, none, none, none, none, some 62, some 63, none, some 64, some 65, none, none, none, some 66, some 67, some 68, some 69]), (0, 27, []), (0, 40, []), (0, 40, []), (0, 40, []), (0, 6, []), (0, 6, []), (0, 7, []), (0, 7, []), (0, 7, []), (0, 3, []), (0, 18, []), (0, 6, []), (0, 120, []), (0, 120, []), (0, 5, []), (0, 6, []), (0, 6, []), (0, 50, []), (0, 24, []), (0, 6, []), (0, 6, []), (1, 360, []), (1, 60, [])]
end
section
/-! ===== block equations (printed by wip/whole/genblk.py) ===== -/
set_option maxRecDepth 100000 in
theorem bX0_has_0 (d : Nat) (x1 : Int32) (M : j_M) (N : j_N) : R d kX0_has 0 [.ref 30, .int x1] [] (S0, M, N) =
  (if x1 < 0 then
    some (some (.int 0), (S0, M, N))
  else
    if (M 30 2) ≤ x1 then
      some (some (.int 0), (S0, M, N))
    else
      some (some (.int 1), (S0, M, N))) := (R_ev d kX0_has 400 0 _ _ _).trans rfl
set_option maxRecDepth 100000 in
theorem bX0_kindOf_0 (d : Nat) (x1 : Int32) (M : j_M) (N : j_N) : R d kX0_kindOf 0 [.ref 30, .int x1] [] (S0, M, N) =
  ((C d 1 [.ref 30, .int x1] S0 M N).bind fun q1 => j_oi none (fun r1 =>
  if r1 = 0 then
    some (some (.int 0), (S0, q1.2.1, q1.2.2))
  else
    bif j_in x1 50 then
    some (some (.int (q1.2.1 31 (x1).toNatClampNeg)), (S0, q1.2.1, q1.2.2)) else none) q1.1) := (R_ev d kX0_kindOf 400 0 _ _ _).trans rfl
set_option maxRecDepth 100000 in
theorem bX0_add_0 (d : Nat) (x1 : Int32) (M : j_M) (N : j_N) : R d kX0_add 0 [.ref 30, .int x1] [] (S0, M, N) =
  (if (M 30 2) < 50 then
    bif j_in (M 30 2) 50 then
    some (some (.int (((M 30 2) + 1) - 1)), (S0, (j_w (j_w M 31 ((M 30 2)).toNatClampNeg x1) 30 2 ((M 30 2) + 1)), N)) else none
  else
    some (some (.int (-3)), (S0, M, N))) := (R_ev d kX0_add 400 0 _ _ _).trans rfl
set_option maxRecDepth 100000 in
theorem bX0_isUnder_0 (d : Nat) (x0 : Int32) (x1 : Int32) (M : j_M) (N : j_N) : R d kX0_isUnder 0 [.int x0, .int x1, .null, .null] [] (S0, M, N) =
  (R d kX0_isUnder 4 [.null, .int x1, .int x0, .int 0] [] (S0, M, N)) := (R_ev d kX0_isUnder 400 0 _ _ _).trans rfl
set_option maxRecDepth 100000 in
theorem bX0_isUnder_4 (d : Nat) (x1 : Int32) (x2 : Int32) (x3 : Int32) (M : j_M) (N : j_N) : R d kX0_isUnder 4 [.null, .int x1, .int x2, .int x3] [] (S0, M, N) =
  (if 8 ≤ x3 then
    some (some (.int 0), (S0, M, N))
  else
    if x2 < 0 then
      some (some (.int 0), (S0, M, N))
    else
      if x2 = x1 then
        some (some (.int 1), (S0, M, N))
      else
        bif j_in x2 8 then
        R d kX0_isUnder 4 [.null, .int x1, .int (j_tg j_T0 (x2).toNatClampNeg), .int (x3 + 1)] [] (S0, M, N) else none) := (R_ev d kX0_isUnder 400 4 _ _ _).trans rfl
set_option maxRecDepth 100000 in
theorem bX0_ranAt_0 (d : Nat) (x1 : Int32) (M : j_M) (N : j_N) : R d kX0_ranAt 0 [.ref 30, .int x1] [] (S0, M, N) =
  (if x1 < 0 then
    some (some (.int (-1)), (S0, M, N))
  else
    if (M 30 3) ≤ x1 then
      some (some (.int (-1)), (S0, M, N))
    else
      if 24 ≤ x1 then
        some (some (.int (-1)), (S0, M, N))
      else
        bif j_in x1 24 then
        some (some (.int (M 32 (x1).toNatClampNeg)), (S0, M, N)) else none) := (R_ev d kX0_ranAt 400 0 _ _ _).trans rfl
set_option maxRecDepth 100000 in
theorem bX0_perform_0 (d : Nat) (x1 : Int32) (x2 : Int32) (x3 : Int32) (M : j_M) (N : j_N) : R d kX0_perform 0 [.ref 30, .int x1, .int x2, .int x3] [] (S0, M, N) =
  ((C d 1 [.ref 30, .int x1] S0 (j_w M 30 3 0) N).bind fun q1 => j_oi none (fun r1 =>
  if r1 = 0 then
    some (some (.int 0), (S0, q1.2.1, q1.2.2))
  else
    if x2 < 0 then
      some (some (.int 0), (S0, q1.2.1, q1.2.2))
    else
      if x2 < 4 then
        (C d 7 [.ref 30, .int x2, .int x3, .int 0] S0 (j_w q1.2.1 30 4 x1) q1.2.2).bind fun q2 => j_oi none (fun r2 =>
        some (some (.int r2), (S0, q2.2.1, q2.2.2))) q2.1
      else
        some (some (.int 0), (S0, q1.2.1, q1.2.2))) q1.1) := (R_ev d kX0_perform 400 0 _ _ _).trans rfl
set_option maxRecDepth 100000 in
theorem bX0_call_0 (d : Nat) (x1 : Int32) (x2 : Int32) (x3 : Int32) (M : j_M) (N : j_N) : R d kX0_call 0 [.ref 30, .int x1, .int x2, .int x3] [] (S0, M, N) =
  (bif j_in (M 30 4) 50 then
  (C d 8 [.ref 30, .int (M 31 ((M 30 4)).toNatClampNeg), .int x1, .int x2, .int x3] S0 M N).bind fun q1 => j_oi none (fun r1 =>
  some (some (.int r1), (S0, q1.2.1, q1.2.2))) q1.1 else none) := (R_ev d kX0_call 400 0 _ _ _).trans rfl
set_option maxRecDepth 100000 in
theorem bX0_from_0 (d : Nat) (x1 : Int32) (x2 : Int32) (x3 : Int32) (x4 : Int32) (M : j_M) (N : j_N) : R d kX0_from 0 [.ref 30, .int x1, .int x2, .int x3, .int x4, .null, .null] [] (S0, M, N) =
  (if x4 ≤ 40 then
    R d kX0_from 15 [.ref 30, .null, .int x2, .int x3, .int x4, .int x1, .int 0] [] (S0, M, N)
  else
    some (some (.int 0), (S0, M, N))) := (R_ev d kX0_from 400 0 _ _ _).trans rfl
set_option maxRecDepth 100000 in
theorem bX0_from_15 (d : Nat) (x2 : Int32) (x3 : Int32) (x4 : Int32) (x5 : Int32) (x6 : Int32) (M : j_M) (N : j_N) : R d kX0_from 15 [.ref 30, .null, .int x2, .int x3, .int x4, .int x5, .int x6] [] (S0, M, N) =
  (if 8 ≤ x6 then
    if 0 ≤ x5 then
      bif j_in ((x5 * 4) + x2) 32 then
      (C d 9 [.ref 30, .int (j_tg j_T1 (((x5 * 4) + x2)).toNatClampNeg), .int x3, .int (x4 + 1)] S0 M N).bind fun q1 => j_oi none (fun r1 =>
      some (some (.int r1), (S0, q1.2.1, q1.2.2))) q1.1 else none
    else
      some (some (.int 0), (S0, M, N))
  else
    if x5 ≤ 0 then
      if 0 ≤ x5 then
        bif j_in ((x5 * 4) + x2) 32 then
        (C d 9 [.ref 30, .int (j_tg j_T1 (((x5 * 4) + x2)).toNatClampNeg), .int x3, .int (x4 + 1)] S0 M N).bind fun q2 => j_oi none (fun r2 =>
        some (some (.int r2), (S0, q2.2.1, q2.2.2))) q2.1 else none
      else
        some (some (.int 0), (S0, M, N))
    else
      bif j_in ((x5 * 4) + x2) 32 then
      if (j_tg j_T1 (((x5 * 4) + x2)).toNatClampNeg) = 0 then
        bif j_in x5 8 then
        R d kX0_from 15 [.ref 30, .null, .int x2, .int x3, .int x4, .int (j_tg j_T0 (x5).toNatClampNeg), .int (x6 + 1)] [] (S0, M, N) else none
      else
        if 0 ≤ x5 then
          bif j_in ((x5 * 4) + x2) 32 then
          (C d 9 [.ref 30, .int (j_tg j_T1 (((x5 * 4) + x2)).toNatClampNeg), .int x3, .int (x4 + 1)] S0 M N).bind fun q3 => j_oi none (fun r3 =>
          some (some (.int r3), (S0, q3.2.1, q3.2.2))) q3.1 else none
        else
          some (some (.int 0), (S0, M, N)) else none) := (R_ev d kX0_from 400 15 _ _ _).trans rfl
set_option maxRecDepth 100000 in
theorem bX0_run_0 (d : Nat) (x1 : Int32) (x2 : Int32) (x3 : Int32) (M : j_M) (N : j_N) : R d kX0_run 0 [.ref 30, .int x1, .int x2, .int x3] [] (S0, M, N) =
  (if 24 ≤ (M 30 3) then
    R d kX0_run 19 [.ref 30, .int x1, .int x2, .int x3] [] (S0, M, N)
  else
    bif j_in (M 30 3) 24 then
    R d kX0_run 19 [.ref 30, .int x1, .int x2, .int x3] [] (S0, (j_w M 32 ((M 30 3)).toNatClampNeg x1), N) else none) := (R_ev d kX0_run 400 0 _ _ _).trans rfl
set_option maxRecDepth 100000 in
theorem bX0_run_19 (d : Nat) (x1 : Int32) (x2 : Int32) (x3 : Int32) (M : j_M) (N : j_N) : R d kX0_run 19 [.ref 30, .int x1, .int x2, .int x3] [] (S0, M, N) =
  (if x1 = 1 then
    some (some (.int (x2 + (M 30 4))), (S0, (j_w M 30 3 ((M 30 3) + 1)), N))
  else if x1 = 2 then
    (C d 7 [.ref 30, .int 1, .int x2, .int x3] S0 (j_w M 30 3 ((M 30 3) + 1)) N).bind fun q1 => j_oi none (fun r1 =>
    (C d 7 [.ref 30, .int 2, .int 1, .int x3] S0 q1.2.1 q1.2.2).bind fun q2 => j_oi none (fun r2 =>
    some (some (.int (r1 - r2)), (S0, q2.2.1, q2.2.2))) q2.1) q1.1
  else if x1 = 10 then
    (C d 7 [.ref 30, .int 0, .int x2, .int x3] S0 (j_w M 30 3 ((M 30 3) + 1)) N).bind fun q3 => j_oi none (fun r3 =>
    some (some (.int (r3 * 2)), (S0, q3.2.1, q3.2.2))) q3.1
  else if x1 = 11 then
    some (some (.int (x2 ^^^ (M 30 4))), (S0, (j_w M 30 3 ((M 30 3) + 1)), N))
  else if x1 = 20 then
    (C d 8 [.ref 30, .int 0, .int 0, .int x2, .int x3] S0 (j_w M 30 3 ((M 30 3) + 1)) N).bind fun q4 => j_oi none (fun r4 =>
    some (some (.int (r4 + 3)), (S0, q4.2.1, q4.2.2))) q4.1
  else if x1 = 30 then
    (C d 8 [.ref 30, .int 0, .int 1, .int x2, .int x3] S0 (j_w M 30 3 ((M 30 3) + 1)) N).bind fun q5 => j_oi none (fun r5 =>
    some (some (.int (-r5)), (S0, q5.2.1, q5.2.2))) q5.1
  else if x1 = 40 then
    (C d 8 [.ref 30, .int 2, .int 2, .int x2, .int x3] S0 (j_w M 30 3 ((M 30 3) + 1)) N).bind fun q6 => j_oi none (fun r6 =>
    some (some (.int (r6 * 3)), (S0, q6.2.1, q6.2.2))) q6.1
  else if x1 = 41 then
    (C d 8 [.ref 30, .int 2, .int 1, .int (x2 + 1), .int x3] S0 (j_w M 30 3 ((M 30 3) + 1)) N).bind fun q7 => j_oi none (fun r7 =>
    some (some (.int r7), (S0, q7.2.1, q7.2.2))) q7.1
  else if x1 = 50 then
    (C d 8 [.ref 30, .int 1, .int 2, .int x2, .int x3] S0 (j_w M 30 3 ((M 30 3) + 1)) N).bind fun q8 => j_oi none (fun r8 =>
    (C d 7 [.ref 30, .int 0, .int 2, .int x3] S0 q8.2.1 q8.2.2).bind fun q9 => j_oi none (fun r9 =>
    some (some (.int (r8 - r9)), (S0, q9.2.1, q9.2.2))) q9.1) q8.1
  else if x1 = 60 then
    (C d 8 [.ref 30, .int 3, .int 3, .int x2, .int x3] S0 (j_w M 30 3 ((M 30 3) + 1)) N).bind fun q10 => j_oi none (fun r10 =>
    some (some (.int (r10 ^^^ 5)), (S0, q10.2.1, q10.2.2))) q10.1
  else if x1 = 70 then
    (C d 8 [.ref 30, .int 0, .int 0, .int x2, .int x3] S0 (j_w M 30 3 ((M 30 3) + 1)) N).bind fun q11 => j_oi none (fun r11 =>
    some (some (.int (r11 * 2)), (S0, q11.2.1, q11.2.2))) q11.1
  else if x1 = 80 then
    (C d 8 [.ref 30, .int 4, .int 1, .int x2, .int x3] S0 (j_w M 30 3 ((M 30 3) + 1)) N).bind fun q12 => j_oi none (fun r12 =>
    (C d 7 [.ref 30, .int 2, .int 2, .int x3] S0 q12.2.1 q12.2.2).bind fun q13 => j_oi none (fun r13 =>
    some (some (.int (r12 + r13)), (S0, q13.2.1, q13.2.2))) q13.1) q12.1
  else if x1 = 81 then
    (C d 8 [.ref 30, .int 4, .int 3, .int x2, .int x3] S0 (j_w M 30 3 ((M 30 3) + 1)) N).bind fun q14 => j_oi none (fun r14 =>
    some (some (.int (r14 - 1)), (S0, q14.2.1, q14.2.2))) q14.1
  else 
    some (some (.int 0), (S0, (j_w M 30 3 ((M 30 3) + 1)), N))) := (R_ev d kX0_run 400 19 _ _ _).trans rfl
set_option maxRecDepth 100000 in
theorem bX1_note_0 (d : Nat) (x1 : Int32) (x2 : Int32) (x3 : Int32) (x4 : Int32) (M : j_M) (N : j_N) : R d kX1_note 0 [.ref 22, .int x1, .int x2, .int x3, .int x4] [] (S0, M, N) =
  (if (M 22 4) < 40 then
    R d kX1_note 13 [.ref 22, .int x1, .int x2, .int x3, .int x4] [] (S0, M, N)
  else
    (C d 12 [.ref 22] S0 M N).bind fun q1 => j_ov none (
    R d kX1_note 13 [.ref 22, .int x1, .int x2, .int x3, .int x4] [] (S0, q1.2.1, q1.2.2)) q1.1) := (R_ev d kX1_note 400 0 _ _ _).trans rfl
set_option maxRecDepth 100000 in
theorem bX1_note_13 (d : Nat) (x1 : Int32) (x2 : Int32) (x3 : Int32) (x4 : Int32) (M : j_M) (N : j_N) : R d kX1_note 13 [.ref 22, .int x1, .int x2, .int x3, .int x4] [] (S0, M, N) =
  (bif j_in (M 22 4) 40 then
  bif j_in (M 22 4) 40 then
  bif j_in (M 22 4) 40 then
  bif j_in (M 22 4) 40 then
  some (none, (S0, (j_w (j_w (j_w (j_w (j_w (j_w M 23 ((M 22 4)).toNatClampNeg x1) 24 ((M 22 4)).toNatClampNeg x2) 25 ((M 22 4)).toNatClampNeg x3) 26 ((M 22 4)).toNatClampNeg x4) 22 4 ((M 22 4) + 1)) 22 5 ((M 22 4) + 1)), N)) else none else none else none else none) := (R_ev d kX1_note 400 13 _ _ _).trans rfl
set_option maxRecDepth 100000 in
theorem bX1_dropOldest_0 (d : Nat)  (M : j_M) (N : j_N) : R d kX1_dropOldest 0 [.ref 22] [] (S0, M, N) =
  (some (none, (S0, (j_w (j_row (j_row (j_row (j_row M 23 (va_cpy (M 23) (M 23) 1 0 39)) 24 (va_cpy ((j_row M 23 (va_cpy (M 23) (M 23) 1 0 39)) 24) ((j_row M 23 (va_cpy (M 23) (M 23) 1 0 39)) 24) 1 0 39)) 25 (va_cpy ((j_row (j_row M 23 (va_cpy (M 23) (M 23) 1 0 39)) 24 (va_cpy ((j_row M 23 (va_cpy (M 23) (M 23) 1 0 39)) 24) ((j_row M 23 (va_cpy (M 23) (M 23) 1 0 39)) 24) 1 0 39)) 25) ((j_row (j_row M 23 (va_cpy (M 23) (M 23) 1 0 39)) 24 (va_cpy ((j_row M 23 (va_cpy (M 23) (M 23) 1 0 39)) 24) ((j_row M 23 (va_cpy (M 23) (M 23) 1 0 39)) 24) 1 0 39)) 25) 1 0 39)) 26 (va_cpy ((j_row (j_row (j_row M 23 (va_cpy (M 23) (M 23) 1 0 39)) 24 (va_cpy ((j_row M 23 (va_cpy (M 23) (M 23) 1 0 39)) 24) ((j_row M 23 (va_cpy (M 23) (M 23) 1 0 39)) 24) 1 0 39)) 25 (va_cpy ((j_row (j_row M 23 (va_cpy (M 23) (M 23) 1 0 39)) 24 (va_cpy ((j_row M 23 (va_cpy (M 23) (M 23) 1 0 39)) 24) ((j_row M 23 (va_cpy (M 23) (M 23) 1 0 39)) 24) 1 0 39)) 25) ((j_row (j_row M 23 (va_cpy (M 23) (M 23) 1 0 39)) 24 (va_cpy ((j_row M 23 (va_cpy (M 23) (M 23) 1 0 39)) 24) ((j_row M 23 (va_cpy (M 23) (M 23) 1 0 39)) 24) 1 0 39)) 25) 1 0 39)) 26) ((j_row (j_row (j_row M 23 (va_cpy (M 23) (M 23) 1 0 39)) 24 (va_cpy ((j_row M 23 (va_cpy (M 23) (M 23) 1 0 39)) 24) ((j_row M 23 (va_cpy (M 23) (M 23) 1 0 39)) 24) 1 0 39)) 25 (va_cpy ((j_row (j_row M 23 (va_cpy (M 23) (M 23) 1 0 39)) 24 (va_cpy ((j_row M 23 (va_cpy (M 23) (M 23) 1 0 39)) 24) ((j_row M 23 (va_cpy (M 23) (M 23) 1 0 39)) 24) 1 0 39)) 25) ((j_row (j_row M 23 (va_cpy (M 23) (M 23) 1 0 39)) 24 (va_cpy ((j_row M 23 (va_cpy (M 23) (M 23) 1 0 39)) 24) ((j_row M 23 (va_cpy (M 23) (M 23) 1 0 39)) 24) 1 0 39)) 25) 1 0 39)) 26) 1 0 39)) 22 4 39), N))) := (R_ev d kX1_dropOldest 400 0 _ _ _).trans rfl
set_option maxRecDepth 100000 in
theorem bX1_takeBack_0 (d : Nat)  (M : j_M) (N : j_N) : R d kX1_takeBack 0 [.ref 22, .ref 1] [] (S0, M, N) =
  (if 0 < (M 22 4) then
    bif j_in ((M 22 4) - 1) 40 then
    bif j_in ((M 22 4) - 1) 40 then
    bif j_in ((M 22 4) - 1) 40 then
    (C d 20 [.ref 1, .int (M 23 (((M 22 4) - 1)).toNatClampNeg), .int (M 24 (((M 22 4) - 1)).toNatClampNeg), .int (M 25 (((M 22 4) - 1)).toNatClampNeg)] S0 (j_w M 22 4 ((M 22 4) - 1)) N).bind fun q1 => j_ov none (
    some (some (.int (q1.2.1 22 4)), (S0, q1.2.1, q1.2.2))) q1.1 else none else none else none
  else
    some (some (.int (-5)), (S0, M, N))) := (R_ev d kX1_takeBack 400 0 _ _ _).trans rfl
set_option maxRecDepth 100000 in
theorem bX1_doAgain_0 (d : Nat)  (M : j_M) (N : j_N) : R d kX1_doAgain 0 [.ref 22, .ref 1] [] (S0, M, N) =
  (if (M 22 4) < (M 22 5) then
    bif j_in (M 22 4) 40 then
    bif j_in (M 22 4) 40 then
    bif j_in (M 22 4) 40 then
    (C d 20 [.ref 1, .int (M 23 ((M 22 4)).toNatClampNeg), .int (M 24 ((M 22 4)).toNatClampNeg), .int (M 26 ((M 22 4)).toNatClampNeg)] S0 M N).bind fun q1 => j_ov none (
    some (some (.int ((q1.2.1 22 5) - ((q1.2.1 22 4) + 1))), (S0, (j_w q1.2.1 22 4 ((q1.2.1 22 4) + 1)), q1.2.2))) q1.1 else none else none else none
  else
    some (some (.int (-5)), (S0, M, N))) := (R_ev d kX1_doAgain 400 0 _ _ _).trans rfl
set_option maxRecDepth 100000 in
theorem bX2_has_0 (d : Nat) (x1 : Int32) (M : j_M) (N : j_N) : R d kX2_has 0 [.ref 1, .int x1] [] (S0, M, N) =
  (if x1 < 0 then
    some (some (.int 0), (S0, M, N))
  else
    if (M 1 6) ≤ x1 then
      some (some (.int 0), (S0, M, N))
    else
      some (some (.int 1), (S0, M, N))) := (R_ev d kX2_has 400 0 _ _ _).trans rfl
set_option maxRecDepth 100000 in
theorem bX2_welcome_0 (d : Nat) (x1 : Int32) (x2 : Int32) (M : j_M) (N : j_N) : R d kX2_welcome 0 [.ref 1, .int x1, .int x2] [] (S0, M, N) =
  (if 6 ≤ (M 1 6) then
    some (none, (S0, M, N))
  else
    bif j_in (M 1 6) 6 then
    bif j_in (M 1 6) 6 then
    bif j_in (M 1 6) 6 then
    some (none, (S0, (j_w (j_w (j_w (j_w M 2 ((M 1 6)).toNatClampNeg x1) 3 ((M 1 6)).toNatClampNeg x2) 6 ((M 1 6)).toNatClampNeg (-1)) 1 6 ((M 1 6) + 1)), N)) else none else none else none) := (R_ev d kX2_welcome 400 0 _ _ _).trans rfl
set_option maxRecDepth 100000 in
theorem bX2_allows_0 (d : Nat) (x1 : Int32) (x2 : Int32) (x3 : Int32) (M : j_M) (N : j_N) : R d kX2_allows 0 [.ref 1, .int x1, .int x2, .int x3] [] (S0, M, N) =
  (if x2 < 4 then
    (C d 16 [.ref 1, .int x1] S0 M N).bind fun q1 => j_oi none (fun r1 =>
    if r1 = 0 then
      some (some (.int 0), (S0, q1.2.1, q1.2.2))
    else
      R d kX2_allows 22 [.ref 1, .int x1, .int x2, .int x3] [] (S0, q1.2.1, q1.2.2)) q1.1
  else
    if x1 = 0 then
      R d kX2_allows 22 [.ref 1, .int x1, .int x2, .int x3] [] (S0, M, N)
    else
      some (some (.int 0), (S0, M, N))) := (R_ev d kX2_allows 400 0 _ _ _).trans rfl
set_option maxRecDepth 100000 in
theorem bX2_allows_22 (d : Nat) (x1 : Int32) (x2 : Int32) (x3 : Int32) (M : j_M) (N : j_N) : R d kX2_allows 22 [.ref 1, .int x1, .int x2, .int x3] [] (S0, M, N) =
  (if x2 = 0 then
    (C d 147 [.int x3, .int 0, .int 99] S0 M N).bind fun q1 => j_oi none (fun r1 =>
    bif decide (r1 = 0) || decide (r1 = 1) then some (some (.int r1), (S0, q1.2.1, q1.2.2)) else none) q1.1
  else if x2 = 1 then
    bif j_in x1 6 then
    (C d 147 [.int x3, .int 0, .int (M 2 (x1).toNatClampNeg)] S0 M N).bind fun q2 => j_oi none (fun r2 =>
    bif decide (r2 = 0) || decide (r2 = 1) then some (some (.int r2), (S0, q2.2.1, q2.2.2)) else none) q2.1 else none
  else if x2 = 2 then
    (C d 147 [.int x3, .int 0, .int 12] S0 M N).bind fun q3 => j_oi none (fun r3 =>
    bif decide (r3 = 0) || decide (r3 = 1) then some (some (.int r3), (S0, q3.2.1, q3.2.2)) else none) q3.1
  else if x2 = 3 then
    bif j_in x1 6 then
    (C d 147 [.int x3, .int 0, .int (M 2 (x1).toNatClampNeg)] S0 M N).bind fun q4 => j_oi none (fun r4 =>
    bif decide (r4 = 0) || decide (r4 = 1) then some (some (.int r4), (S0, q4.2.1, q4.2.2)) else none) q4.1 else none
  else if x2 = 4 then
    (C d 147 [.int x3, .int 0, .int 599] S0 M N).bind fun q5 => j_oi none (fun r5 =>
    bif decide (r5 = 0) || decide (r5 = 1) then some (some (.int r5), (S0, q5.2.1, q5.2.2)) else none) q5.1
  else if x2 = 5 then
    (C d 147 [.int x3, .int 0, .int 4] S0 M N).bind fun q6 => j_oi none (fun r6 =>
    bif decide (r6 = 0) || decide (r6 = 1) then some (some (.int r6), (S0, q6.2.1, q6.2.2)) else none) q6.1
  else if x2 = 6 then
    (C d 147 [.int x3, .int 1, .int 99] S0 M N).bind fun q7 => j_oi none (fun r7 =>
    bif decide (r7 = 0) || decide (r7 = 1) then some (some (.int r7), (S0, q7.2.1, q7.2.2)) else none) q7.1
  else 
    some (some (.int 0), (S0, M, N))) := (R_ev d kX2_allows 400 22 _ _ _).trans rfl
set_option maxRecDepth 100000 in
theorem bX2_told_0 (d : Nat) (x1 : Int32) (x2 : Int32) (M : j_M) (N : j_N) : R d kX2_told 0 [.ref 1, .int x1, .int x2] [] (S0, M, N) =
  (if x2 = 0 then
    bif j_in x1 6 then
    some (some (.int (M 2 (x1).toNatClampNeg)), (S0, M, N)) else none
  else if x2 = 1 then
    bif j_in x1 6 then
    some (some (.int (M 3 (x1).toNatClampNeg)), (S0, M, N)) else none
  else if x2 = 2 then
    bif j_in x1 6 then
    some (some (.int (M 4 (x1).toNatClampNeg)), (S0, M, N)) else none
  else if x2 = 3 then
    bif j_in x1 6 then
    some (some (.int (M 5 (x1).toNatClampNeg)), (S0, M, N)) else none
  else if x2 = 4 then
    some (some (.int (M 1 7)), (S0, M, N))
  else if x2 = 5 then
    some (some (.int (M 1 8)), (S0, M, N))
  else 
    some (some (.int (M 1 9)), (S0, M, N))) := (R_ev d kX2_told 400 0 _ _ _).trans rfl
set_option maxRecDepth 100000 in
theorem bX2_tell_0 (d : Nat) (x1 : Int32) (x2 : Int32) (x3 : Int32) (M : j_M) (N : j_N) : R d kX2_tell 0 [.ref 1, .int x1, .int x2, .int x3] [] (S0, M, N) =
  (if x2 = 0 then
    bif j_in x1 6 then
    some (none, (S0, (j_w M 2 (x1).toNatClampNeg x3), N)) else none
  else if x2 = 1 then
    bif j_in x1 6 then
    some (none, (S0, (j_w M 3 (x1).toNatClampNeg x3), N)) else none
  else if x2 = 2 then
    bif j_in x1 6 then
    some (none, (S0, (j_w M 4 (x1).toNatClampNeg x3), N)) else none
  else if x2 = 3 then
    bif j_in x1 6 then
    some (none, (S0, (j_w M 5 (x1).toNatClampNeg x3), N)) else none
  else if x2 = 4 then
    some (none, (S0, (j_w M 1 7 x3), N))
  else if x2 = 5 then
    some (none, (S0, (j_w M 1 8 x3), N))
  else 
    some (none, (S0, (j_w M 1 9 x3), N))) := (R_ev d kX2_tell 400 0 _ _ _).trans rfl
set_option maxRecDepth 100000 in
theorem bX3_lay_0 (d : Nat)  (M : j_M) (N : j_N) : R d kX3_lay 0 [.ref 8, .ref 1] [] (S0, M, N) =
  (bif (!(decide (0 < (0:Int32))) && !(decide (0 < (0:Int32))) && !(decide ((M 1 6) < (0:Int32))) && Nat.ble (0 + ((M 1 6)).toNatClampNeg) 6 && Nat.ble (0 + ((M 1 6)).toNatClampNeg) 7) && Nat.ble 0 8 then
  (C d 24 [.ref 8] S0 (j_row (j_w (j_w (j_w M 8 1 (M 1 6)) 8 2 (M 1 8)) 8 3 (M 1 7)) 9 (va_cpy ((j_w (j_w (j_w M 8 1 (M 1 6)) 8 2 (M 1 8)) 8 3 (M 1 7)) 3) ((j_w (j_w (j_w M 8 1 (M 1 6)) 8 2 (M 1 8)) 8 3 (M 1 7)) 9) 0 0 ((M 1 6)).toNatClampNeg)) N).bind fun q1 => j_ov none (
  some (none, (S0, q1.2.1, q1.2.2))) q1.1 else none) := (R_ev d kX3_lay 400 0 _ _ _).trans rfl
set_option maxRecDepth 100000 in
theorem bX3_join_0 (d : Nat) (x1 : Int32) (M : j_M) (N : j_N) : R d kX3_join 0 [.ref 8, .int x1] [] (S0, M, N) =
  (if 7 ≤ (M 8 1) then
    some (none, (S0, M, N))
  else
    bif j_in (M 8 1) 7 then
    (C d 24 [.ref 8] S0 (j_w (j_w M 9 ((M 8 1)).toNatClampNeg x1) 8 1 ((M 8 1) + 1)) N).bind fun q1 => j_ov none (
    some (none, (S0, q1.2.1, q1.2.2))) q1.1 else none) := (R_ev d kX3_join 400 0 _ _ _).trans rfl
set_option maxRecDepth 100000 in
theorem bX3_weigh_0 (d : Nat)  (M : j_M) (N : j_N) : R d kX3_weigh 0 [.ref 8, .null, .null] [] (S0, M, N) =
  (R d kX3_weigh 27 [.ref 8, .int 0, .null] [] (S0, (j_w (j_w (j_w (j_w (j_w M 8 4 0) 8 7 (-1)) 8 8 (-1)) 8 9 (-1)) 8 10 0), N)) := (R_ev d kX3_weigh 400 0 _ _ _).trans rfl
set_option maxRecDepth 100000 in
theorem bX3_weigh_27 (d : Nat) (x1 : Int32) (M : j_M) (N : j_N) : R d kX3_weigh 27 [.ref 8, .int x1, .null] [] (S0, M, N) =
  (if (M 8 1) ≤ x1 then
    (C d 25 [.ref 8, .int (M 8 3)] S0 M N).bind fun q1 => j_ov none (
    some (none, (S0, q1.2.1, q1.2.2))) q1.1
  else
    bif j_in x1 7 then
    if (M 8 9) < 0 then
      R d kX3_weigh 77 [.ref 8, .int x1, .int (M 9 (x1).toNatClampNeg)] [] (S0, (j_w (j_w M 8 4 ((M 8 4) + (M 9 (x1).toNatClampNeg))) 8 9 x1), N)
    else
      bif j_in (M 8 9) 7 then
      if (M 9 (x1).toNatClampNeg) ≤ (M 9 ((M 8 9)).toNatClampNeg) then
        R d kX3_weigh 77 [.ref 8, .int x1, .int (M 9 (x1).toNatClampNeg)] [] (S0, (j_w M 8 4 ((M 8 4) + (M 9 (x1).toNatClampNeg))), N)
      else
        R d kX3_weigh 77 [.ref 8, .int x1, .int (M 9 (x1).toNatClampNeg)] [] (S0, (j_w (j_w M 8 4 ((M 8 4) + (M 9 (x1).toNatClampNeg))) 8 9 x1), N) else none else none) := (R_ev d kX3_weigh 400 27 _ _ _).trans rfl
set_option maxRecDepth 100000 in
theorem bX3_weigh_77 (d : Nat) (x1 : Int32) (x2 : Int32) (M : j_M) (N : j_N) : R d kX3_weigh 77 [.ref 8, .int x1, .int x2] [] (S0, M, N) =
  (if (M 8 7) < 0 then
    R d kX3_weigh 27 [.ref 8, .int (x1 + 1), .null] [] (S0, (j_w (j_w (j_w M 8 8 (M 8 7)) 8 7 x1) 8 10 1), N)
  else
    bif j_in (M 8 7) 7 then
    if (M 9 ((M 8 7)).toNatClampNeg) ≤ x2 then
      bif j_in (M 8 7) 7 then
      if x2 = (M 9 ((M 8 7)).toNatClampNeg) then
        R d kX3_weigh 141 [.ref 8, .int x1, .int x2] [.int 1, .int (M 8 10), .ref 8] (S0, M, N)
      else
        R d kX3_weigh 141 [.ref 8, .int x1, .int x2] [.int 0, .int (M 8 10), .ref 8] (S0, M, N) else none
    else
      R d kX3_weigh 27 [.ref 8, .int (x1 + 1), .null] [] (S0, (j_w (j_w (j_w M 8 8 (M 8 7)) 8 7 x1) 8 10 1), N) else none) := (R_ev d kX3_weigh 400 77 _ _ _).trans rfl
set_option maxRecDepth 100000 in
theorem bX3_weigh_141 (d : Nat) (x1 : Int32) (x2 : Int32) (s1 : Int32) (s2 : Int32) (M : j_M) (N : j_N) : R d kX3_weigh 141 [.ref 8, .int x1, .int x2] [.int s2, .int s1, .ref 8] (S0, M, N) =
  (if (M 8 8) < 0 then
    R d kX3_weigh 27 [.ref 8, .int (x1 + 1), .null] [] (S0, (j_w (j_w M 8 10 (s1 + s2)) 8 8 x1), N)
  else
    bif j_in (M 8 8) 7 then
    if (M 9 ((M 8 8)).toNatClampNeg) ≤ x2 then
      R d kX3_weigh 27 [.ref 8, .int (x1 + 1), .null] [] (S0, (j_w (j_w M 8 10 (s1 + s2)) 8 8 (M 8 8)), N)
    else
      R d kX3_weigh 27 [.ref 8, .int (x1 + 1), .null] [] (S0, (j_w (j_w M 8 10 (s1 + s2)) 8 8 x1), N) else none) := (R_ev d kX3_weigh 400 141 _ _ _).trans rfl
set_option maxRecDepth 100000 in
theorem bX3_charge_0 (d : Nat) (x1 : Int32) (M : j_M) (N : j_N) : R d kX3_charge 0 [.ref 8, .int x1] [] (S0, M, N) =
  (some (none, (S0, (j_w (j_w (j_w M 8 3 x1) 8 5 (if (x1 - (M 8 4)) < (0 : Int32) then (0 : Int32) else (x1 - (M 8 4)))) 8 6 (if ((M 8 4) - x1) < (0 : Int32) then (0 : Int32) else ((M 8 4) - x1))), N))) := (R_ev d kX3_charge 400 0 _ _ _).trans rfl
set_option maxRecDepth 100000 in
theorem bX3_cost_0 (d : Nat) (x1 : Int32) (M : j_M) (N : j_N) : R d kX3_cost 0 [.ref 8, .int x1] [] (S0, M, N) =
  (bif j_in x1 7 then
  (C d 27 [.ref 8, .int x1] S0 M N).bind fun q1 => j_oi none (fun r1 =>
  (C d 30 [.ref 8, .int x1] S0 q1.2.1 q1.2.2).bind fun q2 => j_oi none (fun r2 =>
  some (some (.int (((M 9 (x1).toNatClampNeg) + r1) - r2)), (S0, q2.2.1, q2.2.2))) q2.1) q1.1 else none) := (R_ev d kX3_cost 400 0 _ _ _).trans rfl
set_option maxRecDepth 100000 in
theorem bX3_besides_0 (d : Nat) (x1 : Int32) (M : j_M) (N : j_N) : R d kX3_besides 0 [.ref 8, .int x1] [] (S0, M, N) =
  (if (M 8 2) = 0 then
    (C d 28 [.ref 8, .int x1] S0 M N).bind fun q1 => j_oi none (fun r1 =>
    some (some (.int r1), (S0, q1.2.1, q1.2.2))) q1.1
  else if (M 8 2) = 1 then
    if x1 = (M 8 7) then
      some (some (.int (M 8 5)), (S0, M, N))
    else
      some (some (.int 0), (S0, M, N))
  else if (M 8 2) = 2 then
    (C d 29 [.ref 8, .int x1] S0 M N).bind fun q2 => j_oi none (fun r2 =>
    some (some (.int r2), (S0, q2.2.1, q2.2.2))) q2.1
  else if (M 8 2) = 3 then
    if x1 = (M 8 7) then
      bif j_in x1 7 then
      some (some (.int ((M 8 5) + (M 9 (x1).toNatClampNeg))), (S0, M, N)) else none
    else
      some (some (.int 0), (S0, M, N))
  else 
    if x1 = (M 8 7) then
      some (some (.int (M 8 5)), (S0, M, N))
    else
      some (some (.int 0), (S0, M, N))) := (R_ev d kX3_besides 400 0 _ _ _).trans rfl
set_option maxRecDepth 100000 in
theorem bX3_partAmongAlike_0 (d : Nat) (x1 : Int32) (M : j_M) (N : j_N) : R d kX3_partAmongAlike 0 [.ref 8, .int x1, .null, .null] [] (S0, M, N) =
  (if (M 8 10) = 0 then
    some (some (.int 0), (S0, M, N))
  else
    bif j_in x1 7 then
    bif j_in (M 8 7) 7 then
    if (M 9 (x1).toNatClampNeg) = (M 9 ((M 8 7)).toNatClampNeg) then
      R d kX3_partAmongAlike 34 [.ref 8, .int x1, .int 0, .int (M 8 7)] [] (S0, M, N)
    else
      some (some (.int 0), (S0, M, N)) else none else none) := (R_ev d kX3_partAmongAlike 400 0 _ _ _).trans rfl
set_option maxRecDepth 100000 in
theorem bX3_partAmongAlike_34 (d : Nat) (x1 : Int32) (x2 : Int32) (x3 : Int32) (M : j_M) (N : j_N) : R d kX3_partAmongAlike 34 [.ref 8, .int x1, .int x2, .int x3] [] (S0, M, N) =
  (if x1 ≤ x3 then
    if (M 8 10) = 0 then none else
    if (M 8 10) = 0 then none else
    if ((M 8 5) - (M 8 5) / (M 8 10) * (M 8 10)) ≤ x2 then
      some (some (.int (((M 8 5) / (M 8 10)) + 0)), (S0, M, N))
    else
      some (some (.int (((M 8 5) / (M 8 10)) + 1)), (S0, M, N))
  else
    bif j_in x3 7 then
    bif j_in (M 8 7) 7 then
    if (M 9 (x3).toNatClampNeg) = (M 9 ((M 8 7)).toNatClampNeg) then
      R d kX3_partAmongAlike 34 [.ref 8, .int x1, .int (x2 + 1), .int (x3 + 1)] [] (S0, M, N)
    else
      R d kX3_partAmongAlike 34 [.ref 8, .int x1, .int (x2 + 0), .int (x3 + 1)] [] (S0, M, N) else none else none) := (R_ev d kX3_partAmongAlike 400 34 _ _ _).trans rfl
set_option maxRecDepth 100000 in
theorem bX3_partOfTwo_0 (d : Nat) (x1 : Int32) (M : j_M) (N : j_N) : R d kX3_partOfTwo 0 [.ref 8, .int x1, .null] [] (S0, M, N) =
  (if 0 ≤ (M 8 8) then
    if x1 = (M 8 7) then
      some (some (.int ((M 8 5) - ((M 8 5) / 2))), (S0, M, N))
    else
      if x1 = (M 8 8) then
        some (some (.int ((M 8 5) / 2)), (S0, M, N))
      else
        some (some (.int 0), (S0, M, N))
  else
    if x1 = (M 8 7) then
      some (some (.int ((M 8 5) - 0)), (S0, M, N))
    else
      if x1 = (M 8 8) then
        some (some (.int 0), (S0, M, N))
      else
        some (some (.int 0), (S0, M, N))) := (R_ev d kX3_partOfTwo 400 0 _ _ _).trans rfl
set_option maxRecDepth 100000 in
theorem bX3_givenBack_0 (d : Nat) (x1 : Int32) (M : j_M) (N : j_N) : R d kX3_givenBack 0 [.ref 8, .int x1] [] (S0, M, N) =
  (if (M 8 2) = 4 then
    if x1 = (M 8 9) then
      bif j_in x1 7 then
      some (some (.int (if (M 9 (x1).toNatClampNeg) < (M 8 6) then (M 9 (x1).toNatClampNeg) else (M 8 6))), (S0, M, N)) else none
    else
      some (some (.int 0), (S0, M, N))
  else
    some (some (.int 0), (S0, M, N))) := (R_ev d kX3_givenBack 400 0 _ _ _).trans rfl
set_option maxRecDepth 100000 in
theorem bX3_intoChest_0 (d : Nat)  (M : j_M) (N : j_N) : R d kX3_intoChest 0 [.ref 8] [] (S0, M, N) =
  (if (M 8 2) = 4 then
    if 0 ≤ (M 8 9) then
      (C d 30 [.ref 8, .int (M 8 9)] S0 M N).bind fun q1 => j_oi none (fun r1 =>
      some (some (.int ((M 8 6) - r1)), (S0, q1.2.1, q1.2.2))) q1.1
    else
      some (some (.int (M 8 6)), (S0, M, N))
  else
    if (M 8 2) = 3 then
      if (M 8 7) < 0 then
        some (some (.int (M 8 6)), (S0, M, N))
      else
        bif j_in (M 8 7) 7 then
        some (some (.int ((M 8 6) + (M 9 ((M 8 7)).toNatClampNeg))), (S0, M, N)) else none
    else
      some (some (.int (M 8 6)), (S0, M, N))) := (R_ev d kX3_intoChest 400 0 _ _ _).trans rfl
set_option maxRecDepth 100000 in
theorem bX4_add_0 (d : Nat) (x1 : Int32) (M : j_M) (N : j_N) : R d kX4_add 0 [.ref 16, .int x1] [] (S0, M, N) =
  (if (M 16 4) < 120 then
    bif j_in (M 16 4) 120 then
    some (some (.int ((M 16 4) + 1)), (S0, (j_w (j_w M 17 ((M 16 4)).toNatClampNeg x1) 16 4 ((M 16 4) + 1)), N)) else none
  else
    some (some (.int (-3)), (S0, M, N))) := (R_ev d kX4_add 400 0 _ _ _).trans rfl
set_option maxRecDepth 100000 in
theorem bX4_enact_0 (d : Nat)  (M : j_M) (N : j_N) : R d kX4_enact 0 [.ref 16] [] (S0, M, N) =
  ((C d 35 [.ref 16] S0 M N).bind fun q1 => j_ov none (
  if (q1.2.1 16 6) = (-1) then
    bif (!(decide (0 < (0:Int32))) && !(decide (0 < (0:Int32))) && !(decide ((q1.2.1 16 7) < (0:Int32))) && Nat.ble (0 + ((q1.2.1 16 7)).toNatClampNeg) 122 && Nat.ble (0 + ((q1.2.1 16 7)).toNatClampNeg) 122) && Nat.ble 0 8 then
    some (some (.int 1), (S0, (j_w (j_w (j_row (j_w q1.2.1 16 4 0) 19 (va_cpy ((j_w q1.2.1 16 4 0) 18) ((j_w q1.2.1 16 4 0) 19) 0 0 ((q1.2.1 16 7)).toNatClampNeg)) 16 8 (q1.2.1 16 7)) 16 9 1), q1.2.2)) else none
  else
    some (some (.int ((-100) - (q1.2.1 16 6))), (S0, (j_w q1.2.1 16 4 0), q1.2.2))) q1.1) := (R_ev d kX4_enact 400 0 _ _ _).trans rfl
set_option maxRecDepth 100000 in
theorem bX4_readLines_0 (d : Nat)  (M : j_M) (N : j_N) : R d kX4_readLines 0 [.ref 16, .null] [] (S0, M, N) =
  ((C d 36 [.ref 16] S0 (j_w (j_w (j_w M 16 5 0) 16 6 (-1)) 16 7 0) N).bind fun q1 => j_ov none (
  R d kX4_readLines 21 [.ref 16, .int 0] [] (S0, q1.2.1, q1.2.2)) q1.1) := (R_ev d kX4_readLines 400 0 _ _ _).trans rfl
set_option maxRecDepth 100000 in
theorem bX4_readLines_21 (d : Nat) (x1 : Int32) (M : j_M) (N : j_N) : R d kX4_readLines 21 [.ref 16, .int x1] [] (S0, M, N) =
  (if 120 ≤ x1 then
    if (M 16 4) ≤ (M 16 5) then
      some (none, (S0, M, N))
    else
      (C d 50 [.ref 16] S0 M N).bind fun q1 => j_ov none (
      some (none, (S0, q1.2.1, q1.2.2))) q1.1
  else
    (C d 49 [.ref 16, .int 59] S0 M N).bind fun q2 => j_oi none (fun r2 =>
    if r2 = 0 then
      if (q2.2.1 16 4) ≤ (q2.2.1 16 5) then
        some (none, (S0, q2.2.1, q2.2.2))
      else
        (C d 50 [.ref 16] S0 q2.2.1 q2.2.2).bind fun q3 => j_ov none (
        some (none, (S0, q3.2.1, q3.2.2))) q3.1
    else
      (C d 36 [.ref 16] S0 q2.2.1 q2.2.2).bind fun q4 => j_ov none (
      R d kX4_readLines 21 [.ref 16, .int (x1 + 1)] [] (S0, q4.2.1, q4.2.2)) q4.1) q2.1) := (R_ev d kX4_readLines 400 21 _ _ _).trans rfl
set_option maxRecDepth 100000 in
theorem bX4_readLine_0 (d : Nat)  (M : j_M) (N : j_N) : R d kX4_readLine 0 [.ref 16] [] (S0, M, N) =
  ((C d 37 [.ref 16, .int 0] S0 M N).bind fun q1 => j_ov none (
  (C d 49 [.ref 16, .int 63] S0 q1.2.1 q1.2.2).bind fun q2 => j_oi none (fun r2 =>
  if r2 = 0 then
    (C d 51 [.ref 16, .int (-19)] S0 q2.2.1 q2.2.2).bind fun q3 => j_ov none (
    some (none, (S0, q3.2.1, q3.2.2))) q3.1
  else
    (C d 51 [.ref 16, .int (-18)] S0 q2.2.1 q2.2.2).bind fun q4 => j_ov none (
    (C d 37 [.ref 16, .int 0] S0 q4.2.1 q4.2.2).bind fun q5 => j_ov none (
    (C d 51 [.ref 16, .int (-19)] S0 q5.2.1 q5.2.2).bind fun q6 => j_ov none (
    some (none, (S0, q6.2.1, q6.2.2))) q6.1) q5.1) q4.1) q2.1) q1.1) := (R_ev d kX4_readLine 400 0 _ _ _).trans rfl
set_option maxRecDepth 100000 in
theorem bX4_readEither_0 (d : Nat) (x1 : Int32) (M : j_M) (N : j_N) : R d kX4_readEither 0 [.ref 16, .int x1, .null] [] (S0, M, N) =
  ((C d 38 [.ref 16, .int x1] S0 M N).bind fun q1 => j_ov none (
  R d kX4_readEither 7 [.ref 16, .int x1, .int 0] [] (S0, q1.2.1, q1.2.2)) q1.1) := (R_ev d kX4_readEither 400 0 _ _ _).trans rfl
set_option maxRecDepth 100000 in
theorem bX4_readEither_7 (d : Nat) (x1 : Int32) (x2 : Int32) (M : j_M) (N : j_N) : R d kX4_readEither 7 [.ref 16, .int x1, .int x2] [] (S0, M, N) =
  (if 120 ≤ x2 then
    some (none, (S0, M, N))
  else
    (C d 49 [.ref 16, .int 124] S0 M N).bind fun q1 => j_oi none (fun r1 =>
    if r1 = 0 then
      some (none, (S0, q1.2.1, q1.2.2))
    else
      (C d 38 [.ref 16, .int x1] S0 q1.2.1 q1.2.2).bind fun q2 => j_ov none (
      (C d 51 [.ref 16, .int (-6)] S0 q2.2.1 q2.2.2).bind fun q3 => j_ov none (
      R d kX4_readEither 7 [.ref 16, .int x1, .int (x2 + 1)] [] (S0, q3.2.1, q3.2.2)) q3.1) q2.1) q1.1) := (R_ev d kX4_readEither 400 7 _ _ _).trans rfl
set_option maxRecDepth 100000 in
theorem bX4_readBoth_0 (d : Nat) (x1 : Int32) (M : j_M) (N : j_N) : R d kX4_readBoth 0 [.ref 16, .int x1, .null] [] (S0, M, N) =
  ((C d 39 [.ref 16, .int x1] S0 M N).bind fun q1 => j_ov none (
  R d kX4_readBoth 7 [.ref 16, .int x1, .int 0] [] (S0, q1.2.1, q1.2.2)) q1.1) := (R_ev d kX4_readBoth 400 0 _ _ _).trans rfl
set_option maxRecDepth 100000 in
theorem bX4_readBoth_7 (d : Nat) (x1 : Int32) (x2 : Int32) (M : j_M) (N : j_N) : R d kX4_readBoth 7 [.ref 16, .int x1, .int x2] [] (S0, M, N) =
  (if 120 ≤ x2 then
    some (none, (S0, M, N))
  else
    (C d 49 [.ref 16, .int 38] S0 M N).bind fun q1 => j_oi none (fun r1 =>
    if r1 = 0 then
      some (none, (S0, q1.2.1, q1.2.2))
    else
      (C d 39 [.ref 16, .int x1] S0 q1.2.1 q1.2.2).bind fun q2 => j_ov none (
      (C d 51 [.ref 16, .int (-7)] S0 q2.2.1 q2.2.2).bind fun q3 => j_ov none (
      R d kX4_readBoth 7 [.ref 16, .int x1, .int (x2 + 1)] [] (S0, q3.2.1, q3.2.2)) q3.1) q2.1) q1.1) := (R_ev d kX4_readBoth 400 7 _ _ _).trans rfl
set_option maxRecDepth 100000 in
theorem bX4_readCompared_0 (d : Nat) (x1 : Int32) (M : j_M) (N : j_N) : R d kX4_readCompared 0 [.ref 16, .int x1, .null] [] (S0, M, N) =
  ((C d 40 [.ref 16, .int x1] S0 M N).bind fun q1 => j_ov none (
  (C d 49 [.ref 16, .int 60] S0 q1.2.1 q1.2.2).bind fun q2 => j_oi none (fun r2 =>
  if r2 = 0 then
    (C d 49 [.ref 16, .int 61] S0 q2.2.1 q2.2.2).bind fun q3 => j_oi none (fun r3 =>
    if r3 = 0 then
      (C d 49 [.ref 16, .int 62] S0 q3.2.1 q3.2.2).bind fun q4 => j_oi none (fun r4 =>
      if r4 = 0 then
        some (none, (S0, q4.2.1, q4.2.2))
      else
        (C d 40 [.ref 16, .int x1] S0 q4.2.1 q4.2.2).bind fun q5 => j_ov none (
        (C d 51 [.ref 16, .int (-10)] S0 q5.2.1 q5.2.2).bind fun q6 => j_ov none (
        some (none, (S0, q6.2.1, q6.2.2))) q6.1) q5.1) q4.1
    else
      (C d 40 [.ref 16, .int x1] S0 q3.2.1 q3.2.2).bind fun q7 => j_ov none (
      (C d 51 [.ref 16, .int (-9)] S0 q7.2.1 q7.2.2).bind fun q8 => j_ov none (
      some (none, (S0, q8.2.1, q8.2.2))) q8.1) q7.1) q3.1
  else
    (C d 40 [.ref 16, .int x1] S0 q2.2.1 q2.2.2).bind fun q9 => j_ov none (
    (C d 51 [.ref 16, .int (-8)] S0 q9.2.1 q9.2.2).bind fun q10 => j_ov none (
    some (none, (S0, q10.2.1, q10.2.2))) q10.1) q9.1) q2.1) q1.1) := (R_ev d kX4_readCompared 400 0 _ _ _).trans rfl
set_option maxRecDepth 100000 in
theorem bX4_readSum_0 (d : Nat) (x1 : Int32) (M : j_M) (N : j_N) : R d kX4_readSum 0 [.ref 16, .int x1, .null, .null] [] (S0, M, N) =
  ((C d 42 [.ref 16, .int x1] S0 M N).bind fun q1 => j_ov none (
  (C d 41 [.ref 16] S0 q1.2.1 q1.2.2).bind fun q2 => j_oi none (fun r2 =>
  R d kX4_readSum 12 [.ref 16, .int x1, .int r2, .int 0] [] (S0, q2.2.1, q2.2.2)) q2.1) q1.1) := (R_ev d kX4_readSum 400 0 _ _ _).trans rfl
set_option maxRecDepth 100000 in
theorem bX4_readSum_12 (d : Nat) (x1 : Int32) (x2 : Int32) (x3 : Int32) (M : j_M) (N : j_N) : R d kX4_readSum 12 [.ref 16, .int x1, .int x2, .int x3] [] (S0, M, N) =
  (if 120 ≤ x3 then
    some (none, (S0, M, N))
  else
    if x2 = 0 then
      some (none, (S0, M, N))
    else
      (C d 42 [.ref 16, .int x1] S0 M N).bind fun q1 => j_ov none (
      (C d 51 [.ref 16, .int x2] S0 q1.2.1 q1.2.2).bind fun q2 => j_ov none (
      (C d 41 [.ref 16] S0 q2.2.1 q2.2.2).bind fun q3 => j_oi none (fun r3 =>
      R d kX4_readSum 12 [.ref 16, .int x1, .int r3, .int (x3 + 1)] [] (S0, q3.2.1, q3.2.2)) q3.1) q2.1) q1.1) := (R_ev d kX4_readSum 400 12 _ _ _).trans rfl
set_option maxRecDepth 100000 in
theorem bX4_takesSumSign_0 (d : Nat)  (M : j_M) (N : j_N) : R d kX4_takesSumSign 0 [.ref 16] [] (S0, M, N) =
  ((C d 49 [.ref 16, .int 43] S0 M N).bind fun q1 => j_oi none (fun r1 =>
  if r1 = 0 then
    (C d 49 [.ref 16, .int 45] S0 q1.2.1 q1.2.2).bind fun q2 => j_oi none (fun r2 =>
    if r2 = 0 then
      some (some (.int 0), (S0, q2.2.1, q2.2.2))
    else
      some (some (.int (-12)), (S0, q2.2.1, q2.2.2))) q2.1
  else
    some (some (.int (-11)), (S0, q1.2.1, q1.2.2))) q1.1) := (R_ev d kX4_takesSumSign 400 0 _ _ _).trans rfl
set_option maxRecDepth 100000 in
theorem bX4_readProduct_0 (d : Nat) (x1 : Int32) (M : j_M) (N : j_N) : R d kX4_readProduct 0 [.ref 16, .int x1, .null, .null] [] (S0, M, N) =
  ((C d 44 [.ref 16, .int x1] S0 M N).bind fun q1 => j_ov none (
  (C d 43 [.ref 16] S0 q1.2.1 q1.2.2).bind fun q2 => j_oi none (fun r2 =>
  R d kX4_readProduct 12 [.ref 16, .int x1, .int r2, .int 0] [] (S0, q2.2.1, q2.2.2)) q2.1) q1.1) := (R_ev d kX4_readProduct 400 0 _ _ _).trans rfl
set_option maxRecDepth 100000 in
theorem bX4_readProduct_12 (d : Nat) (x1 : Int32) (x2 : Int32) (x3 : Int32) (M : j_M) (N : j_N) : R d kX4_readProduct 12 [.ref 16, .int x1, .int x2, .int x3] [] (S0, M, N) =
  (if 120 ≤ x3 then
    some (none, (S0, M, N))
  else
    if x2 = 0 then
      some (none, (S0, M, N))
    else
      (C d 44 [.ref 16, .int x1] S0 M N).bind fun q1 => j_ov none (
      (C d 51 [.ref 16, .int x2] S0 q1.2.1 q1.2.2).bind fun q2 => j_ov none (
      (C d 43 [.ref 16] S0 q2.2.1 q2.2.2).bind fun q3 => j_oi none (fun r3 =>
      R d kX4_readProduct 12 [.ref 16, .int x1, .int r3, .int (x3 + 1)] [] (S0, q3.2.1, q3.2.2)) q3.1) q2.1) q1.1) := (R_ev d kX4_readProduct 400 12 _ _ _).trans rfl
set_option maxRecDepth 100000 in
theorem bX4_takesProductSign_0 (d : Nat)  (M : j_M) (N : j_N) : R d kX4_takesProductSign 0 [.ref 16] [] (S0, M, N) =
  ((C d 49 [.ref 16, .int 42] S0 M N).bind fun q1 => j_oi none (fun r1 =>
  if r1 = 0 then
    (C d 49 [.ref 16, .int 47] S0 q1.2.1 q1.2.2).bind fun q2 => j_oi none (fun r2 =>
    if r2 = 0 then
      (C d 49 [.ref 16, .int 37] S0 q2.2.1 q2.2.2).bind fun q3 => j_oi none (fun r3 =>
      if r3 = 0 then
        some (some (.int 0), (S0, q3.2.1, q3.2.2))
      else
        some (some (.int (-15)), (S0, q3.2.1, q3.2.2))) q3.1
    else
      some (some (.int (-14)), (S0, q2.2.1, q2.2.2))) q2.1
  else
    some (some (.int (-13)), (S0, q1.2.1, q1.2.2))) q1.1) := (R_ev d kX4_takesProductSign 400 0 _ _ _).trans rfl
set_option maxRecDepth 100000 in
theorem bX4_readOperand_0 (d : Nat) (x1 : Int32) (M : j_M) (N : j_N) : R d kX4_readOperand 0 [.ref 16, .int x1, .null, .null] [] (S0, M, N) =
  ((C d 46 [.ref 16] S0 M N).bind fun q1 => j_oi none (fun r1 =>
  (C d 48 [.int r1] S0 q1.2.1 q1.2.2).bind fun q2 => j_oi none (fun r2 =>
  (C d 47 [.int r1] S0 q2.2.1 q2.2.2).bind fun q3 => j_oi none (fun r3 =>
  if r3 = 0 then
    if r2 = 0 then
      if x1 < 6 then
        (C d 49 [.ref 16, .int 40] S0 q3.2.1 q3.2.2).bind fun q4 => j_oi none (fun r4 =>
        if r4 = 0 then
          (C d 49 [.ref 16, .int 33] S0 q4.2.1 q4.2.2).bind fun q5 => j_oi none (fun r5 =>
          if r5 = 0 then
            (C d 49 [.ref 16, .int 45] S0 q5.2.1 q5.2.2).bind fun q6 => j_oi none (fun r6 =>
            if r6 = 0 then
              (C d 50 [.ref 16] S0 q6.2.1 q6.2.2).bind fun q7 => j_ov none (
              some (none, (S0, q7.2.1, q7.2.2))) q7.1
            else
              (C d 44 [.ref 16, .int (x1 + 1)] S0 q6.2.1 q6.2.2).bind fun q8 => j_ov none (
              (C d 51 [.ref 16, .int (-17)] S0 q8.2.1 q8.2.2).bind fun q9 => j_ov none (
              some (none, (S0, q9.2.1, q9.2.2))) q9.1) q8.1) q6.1
          else
            (C d 44 [.ref 16, .int (x1 + 1)] S0 q5.2.1 q5.2.2).bind fun q10 => j_ov none (
            (C d 51 [.ref 16, .int (-16)] S0 q10.2.1 q10.2.2).bind fun q11 => j_ov none (
            some (none, (S0, q11.2.1, q11.2.2))) q11.1) q10.1) q5.1
        else
          (C d 37 [.ref 16, .int (x1 + 1)] S0 q4.2.1 q4.2.2).bind fun q12 => j_ov none (
          (C d 49 [.ref 16, .int 41] S0 q12.2.1 q12.2.2).bind fun q13 => j_oi none (fun r13 =>
          if r13 = 0 then
            (C d 50 [.ref 16] S0 q13.2.1 q13.2.2).bind fun q14 => j_ov none (
            some (none, (S0, q14.2.1, q14.2.2))) q14.1
          else
            some (none, (S0, q13.2.1, q13.2.2))) q13.1) q12.1) q4.1
      else
        (C d 50 [.ref 16] S0 q3.2.1 q3.2.2).bind fun q15 => j_ov none (
        some (none, (S0, q15.2.1, q15.2.2))) q15.1
    else
      (C d 51 [.ref 16, .int r2] S0 (j_w q3.2.1 16 5 ((q3.2.1 16 5) + 1)) q3.2.2).bind fun q16 => j_ov none (
      some (none, (S0, q16.2.1, q16.2.2))) q16.1
  else
    (C d 45 [.ref 16] S0 q3.2.1 q3.2.2).bind fun q17 => j_ov none (
    some (none, (S0, q17.2.1, q17.2.2))) q17.1) q3.1) q2.1) q1.1) := (R_ev d kX4_readOperand 400 0 _ _ _).trans rfl
set_option maxRecDepth 100000 in
theorem bX4_readNumber_0 (d : Nat)  (M : j_M) (N : j_N) : R d kX4_readNumber 0 [.ref 16, .null, .null] [] (S0, M, N) =
  (R d kX4_readNumber 4 [.ref 16, .int 0, .int 0] [] (S0, M, N)) := (R_ev d kX4_readNumber 400 0 _ _ _).trans rfl
set_option maxRecDepth 100000 in
theorem bX4_readNumber_4 (d : Nat) (x1 : Int32) (x2 : Int32) (M : j_M) (N : j_N) : R d kX4_readNumber 4 [.ref 16, .int x1, .int x2] [] (S0, M, N) =
  (if 4 ≤ x2 then
    (C d 51 [.ref 16, .int x1] S0 M N).bind fun q1 => j_ov none (
    some (none, (S0, q1.2.1, q1.2.2))) q1.1
  else
    (C d 46 [.ref 16] S0 M N).bind fun q2 => j_oi none (fun r2 =>
    (C d 47 [.int r2] S0 q2.2.1 q2.2.2).bind fun q3 => j_oi none (fun r3 =>
    if r3 = 0 then
      (C d 51 [.ref 16, .int x1] S0 q3.2.1 q3.2.2).bind fun q4 => j_ov none (
      some (none, (S0, q4.2.1, q4.2.2))) q4.1
    else
      (C d 46 [.ref 16] S0 q3.2.1 q3.2.2).bind fun q5 => j_oi none (fun r5 =>
      R d kX4_readNumber 4 [.ref 16, .int (((x1 * 10) + r5) - 48), .int (x2 + 1)] [] (S0, (j_w q5.2.1 16 5 ((q5.2.1 16 5) + 1)), q5.2.2)) q5.1) q3.1) q2.1) := (R_ev d kX4_readNumber 400 4 _ _ _).trans rfl
set_option maxRecDepth 100000 in
theorem bX4_letterHere_0 (d : Nat)  (M : j_M) (N : j_N) : R d kX4_letterHere 0 [.ref 16] [] (S0, M, N) =
  (if (M 16 6) = (-1) then
    if (M 16 5) < 0 then
      some (some (.int (-1)), (S0, M, N))
    else
      if (M 16 4) ≤ (M 16 5) then
        some (some (.int (-1)), (S0, M, N))
      else
        bif j_in (M 16 5) 120 then
        some (some (.int (M 17 ((M 16 5)).toNatClampNeg)), (S0, M, N)) else none
  else
    some (some (.int (-1)), (S0, M, N))) := (R_ev d kX4_letterHere 400 0 _ _ _).trans rfl
set_option maxRecDepth 100000 in
theorem bX4_isDigit_0 (d : Nat) (x0 : Int32) (M : j_M) (N : j_N) : R d kX4_isDigit 0 [.int x0] [] (S0, M, N) =
  (if x0 < 48 then
    some (some (.int 0), (S0, M, N))
  else
    if 57 < x0 then
      some (some (.int 0), (S0, M, N))
    else
      some (some (.int 1), (S0, M, N))) := (R_ev d kX4_isDigit 400 0 _ _ _).trans rfl
set_option maxRecDepth 100000 in
theorem bX4_nameOf_0 (d : Nat) (x0 : Int32) (M : j_M) (N : j_N) : R d kX4_nameOf 0 [.int x0] [] (S0, M, N) =
  (if x0 = 98 then
    some (some (.int (-1)), (S0, M, N))
  else if x0 = 107 then
    some (some (.int (-4)), (S0, M, N))
  else if x0 = 110 then
    some (some (.int (-3)), (S0, M, N))
  else if x0 = 112 then
    some (some (.int (-2)), (S0, M, N))
  else if x0 = 114 then
    some (some (.int (-5)), (S0, M, N))
  else 
    some (some (.int 0), (S0, M, N))) := (R_ev d kX4_nameOf 400 0 _ _ _).trans rfl
set_option maxRecDepth 100000 in
theorem bX4_takes_0 (d : Nat) (x1 : Int32) (M : j_M) (N : j_N) : R d kX4_takes 0 [.ref 16, .int x1] [] (S0, M, N) =
  ((C d 46 [.ref 16] S0 M N).bind fun q1 => j_oi none (fun r1 =>
  if r1 = x1 then
    some (some (.int 1), (S0, (j_w q1.2.1 16 5 ((q1.2.1 16 5) + 1)), q1.2.2))
  else
    some (some (.int 0), (S0, q1.2.1, q1.2.2))) q1.1) := (R_ev d kX4_takes 400 0 _ _ _).trans rfl
set_option maxRecDepth 100000 in
theorem bX4_fail_0 (d : Nat)  (M : j_M) (N : j_N) : R d kX4_fail 0 [.ref 16] [] (S0, M, N) =
  (if (M 16 6) = (-1) then
    some (none, (S0, (j_w M 16 6 (M 16 5)), N))
  else
    some (none, (S0, M, N))) := (R_ev d kX4_fail 400 0 _ _ _).trans rfl
set_option maxRecDepth 100000 in
theorem bX4_write_0 (d : Nat) (x1 : Int32) (M : j_M) (N : j_N) : R d kX4_write 0 [.ref 16, .int x1] [] (S0, M, N) =
  (if 122 ≤ (M 16 7) then
    some (none, (S0, M, N))
  else
    bif j_in (M 16 7) 122 then
    some (none, (S0, (j_w (j_w M 18 ((M 16 7)).toNatClampNeg x1) 16 7 ((M 16 7) + 1)), N)) else none) := (R_ev d kX4_write 400 0 _ _ _).trans rfl
set_option maxRecDepth 100000 in
theorem bX4_gift_0 (d : Nat) (x2 : Int32) (x3 : Int32) (M : j_M) (N : j_N) : R d kX4_gift 0 [.ref 16, .ref 1, .int x2, .int x3, .null] [] (S0, M, N) =
  (if (M 16 9) = 0 then
    (C d 53 [.int x3, .int (M 1 6)] S0 M N).bind fun q1 => j_oi none (fun r1 =>
    bif j_in x2 6 then
    some (some (.int (if (0 : Int32) < (if (q1.2.1 2 (x2).toNatClampNeg) < r1 then (q1.2.1 2 (x2).toNatClampNeg) else r1) then (if (q1.2.1 2 (x2).toNatClampNeg) < r1 then (q1.2.1 2 (x2).toNatClampNeg) else r1) else (0 : Int32))), (S0, q1.2.1, q1.2.2)) else none) q1.1
  else
    (C d 54 [.ref 16, .ref 1, .int x2, .int x3] S0 M N).bind fun q2 => j_oi none (fun r2 =>
    bif j_in x2 6 then
    some (some (.int (if (0 : Int32) < (if (q2.2.1 2 (x2).toNatClampNeg) < r2 then (q2.2.1 2 (x2).toNatClampNeg) else r2) then (if (q2.2.1 2 (x2).toNatClampNeg) < r2 then (q2.2.1 2 (x2).toNatClampNeg) else r2) else (0 : Int32))), (S0, q2.2.1, q2.2.2)) else none) q2.1) := (R_ev d kX4_gift 400 0 _ _ _).trans rfl
set_option maxRecDepth 100000 in
theorem bX4_shareOf_0 (d : Nat) (x0 : Int32) (x1 : Int32) (M : j_M) (N : j_N) : R d kX4_shareOf 0 [.int x0, .int x1] [] (S0, M, N) =
  (if x1 = 0 then
    some (some (.int 0), (S0, M, N))
  else
    if x1 = 0 then none else
    some (some (.int (x0 / x1)), (S0, M, N))) := (R_ev d kX4_shareOf 400 0 _ _ _).trans rfl
set_option maxRecDepth 100000 in
theorem bX4_workOut_0 (d : Nat) (x2 : Int32) (x3 : Int32) (M : j_M) (N : j_N) : R d kX4_workOut 0 [.ref 16, .ref 1, .int x2, .int x3, .null, .null, .null] [] (S0, M, N) =
  (R d kX4_workOut 11 [.ref 16, .ref 1, .int x2, .int x3, .int 1, .int 0, .null] [] (S0, (j_w M 16 10 0), N)) := (R_ev d kX4_workOut 400 0 _ _ _).trans rfl
set_option maxRecDepth 100000 in
theorem bX4_workOut_11 (d : Nat) (x2 : Int32) (x3 : Int32) (x4 : Int32) (x5 : Int32) (M : j_M) (N : j_N) : R d kX4_workOut 11 [.ref 16, .ref 1, .int x2, .int x3, .int x4, .int x5, .null] [] (S0, M, N) =
  (if (M 16 8) ≤ x5 then
    some (some (.int 0), (S0, M, N))
  else
    bif j_in x5 122 then
    if (M 19 (x5).toNatClampNeg) = (-19) then
      if x4 = 0 then
        R d kX4_workOut 46 [.ref 16, .ref 1, .int x2, .int x3, .int x4, .int x5, .int (M 19 (x5).toNatClampNeg)] [] (S0, M, N)
      else
        (C d 57 [.ref 16] S0 M N).bind fun q1 => j_oi none (fun r1 =>
        some (some (.int r1), (S0, q1.2.1, q1.2.2))) q1.1
    else
      R d kX4_workOut 46 [.ref 16, .ref 1, .int x2, .int x3, .int x4, .int x5, .int (M 19 (x5).toNatClampNeg)] [] (S0, M, N) else none) := (R_ev d kX4_workOut 400 11 _ _ _).trans rfl
set_option maxRecDepth 100000 in
theorem bX4_workOut_46 (d : Nat) (x2 : Int32) (x3 : Int32) (x4 : Int32) (x5 : Int32) (x6 : Int32) (M : j_M) (N : j_N) : R d kX4_workOut 46 [.ref 16, .ref 1, .int x2, .int x3, .int x4, .int x5, .int x6] [] (S0, M, N) =
  (if x6 = (-19) then
    R d kX4_workOut 11 [.ref 16, .ref 1, .int x2, .int x3, .int 1, .int (x5 + 1), .null] [] (S0, M, N)
  else
    if x4 = 0 then
      R d kX4_workOut 88 [.ref 16, .ref 1, .int x2, .int x3, .int x4, .int x5, .int x6] [] (S0, M, N)
    else
      if x6 = (-18) then
        (C d 57 [.ref 16] S0 M N).bind fun q1 => j_oi none (fun r1 =>
        if r1 = 0 then
          R d kX4_workOut 11 [.ref 16, .ref 1, .int x2, .int x3, .int 0, .int (x5 + 1), .null] [] (S0, q1.2.1, q1.2.2)
        else
          R d kX4_workOut 11 [.ref 16, .ref 1, .int x2, .int x3, .int 1, .int (x5 + 1), .null] [] (S0, q1.2.1, q1.2.2)) q1.1
      else
        R d kX4_workOut 88 [.ref 16, .ref 1, .int x2, .int x3, .int x4, .int x5, .int x6] [] (S0, M, N)) := (R_ev d kX4_workOut 400 46 _ _ _).trans rfl
set_option maxRecDepth 100000 in
theorem bX4_workOut_88 (d : Nat) (x2 : Int32) (x3 : Int32) (x4 : Int32) (x5 : Int32) (x6 : Int32) (M : j_M) (N : j_N) : R d kX4_workOut 88 [.ref 16, .ref 1, .int x2, .int x3, .int x4, .int x5, .int x6] [] (S0, M, N) =
  (if x4 = 0 then
    if x4 = 0 then
      R d kX4_workOut 11 [.ref 16, .ref 1, .int x2, .int x3, .int x4, .int (x5 + 1), .null] [] (S0, M, N)
    else
      (C d 55 [.ref 16, .int x6] S0 M N).bind fun q1 => j_ov none (
      R d kX4_workOut 11 [.ref 16, .ref 1, .int x2, .int x3, .int x4, .int (x5 + 1), .null] [] (S0, q1.2.1, q1.2.2)) q1.1
  else
    if x6 < (-5) then
      if x4 = 0 then
        R d kX4_workOut 11 [.ref 16, .ref 1, .int x2, .int x3, .int x4, .int (x5 + 1), .null] [] (S0, M, N)
      else
        (C d 55 [.ref 16, .int x6] S0 M N).bind fun q2 => j_ov none (
        R d kX4_workOut 11 [.ref 16, .ref 1, .int x2, .int x3, .int x4, .int (x5 + 1), .null] [] (S0, q2.2.1, q2.2.2)) q2.1
    else
      if x6 < 0 then
        (C d 58 [.int x6, .ref 1, .int x2, .int x3] S0 M N).bind fun q3 => j_oi none (fun r3 =>
        (C d 56 [.ref 16, .int r3] S0 q3.2.1 q3.2.2).bind fun q4 => j_ov none (
        R d kX4_workOut 11 [.ref 16, .ref 1, .int x2, .int x3, .int x4, .int (x5 + 1), .null] [] (S0, q4.2.1, q4.2.2)) q4.1) q3.1
      else
        (C d 56 [.ref 16, .int x6] S0 M N).bind fun q5 => j_ov none (
        R d kX4_workOut 11 [.ref 16, .ref 1, .int x2, .int x3, .int x4, .int (x5 + 1), .null] [] (S0, q5.2.1, q5.2.2)) q5.1) := (R_ev d kX4_workOut 400 88 _ _ _).trans rfl
set_option maxRecDepth 100000 in
theorem bX4_apply_0 (d : Nat) (x1 : Int32) (M : j_M) (N : j_N) : R d kX4_apply 0 [.ref 16, .int x1, .null, .null] [] (S0, M, N) =
  ((C d 57 [.ref 16] S0 M N).bind fun q1 => j_oi none (fun r1 =>
  if x1 = (-17) then
    (C d 56 [.ref 16, .int (-r1)] S0 q1.2.1 q1.2.2).bind fun q9 => j_ov none (
    some (none, (S0, q9.2.1, q9.2.2))) q9.1
  else
    if x1 = (-16) then
      if r1 = 0 then
        (C d 60 [.int 1] S0 q1.2.1 q1.2.2).bind fun q7 => j_oi none (fun r7 =>
        (C d 56 [.ref 16, .int r7] S0 q7.2.1 q7.2.2).bind fun q8 => j_ov none (
        some (none, (S0, q8.2.1, q8.2.2))) q8.1) q7.1
      else
        (C d 60 [.int 0] S0 q1.2.1 q1.2.2).bind fun q5 => j_oi none (fun r5 =>
        (C d 56 [.ref 16, .int r5] S0 q5.2.1 q5.2.2).bind fun q6 => j_ov none (
        some (none, (S0, q6.2.1, q6.2.2))) q6.1) q5.1
    else
      (C d 57 [.ref 16] S0 q1.2.1 q1.2.2).bind fun q2 => j_oi none (fun r2 =>
      (C d 59 [.int x1, .int r2, .int r1] S0 q2.2.1 q2.2.2).bind fun q3 => j_oi none (fun r3 =>
      (C d 56 [.ref 16, .int r3] S0 q3.2.1 q3.2.2).bind fun q4 => j_ov none (
      some (none, (S0, q4.2.1, q4.2.2))) q4.1) q3.1) q2.1) q1.1) := (R_ev d kX4_apply 400 0 _ _ _).trans rfl
set_option maxRecDepth 100000 in
theorem bX4_push_0 (d : Nat) (x1 : Int32) (M : j_M) (N : j_N) : R d kX4_push 0 [.ref 16, .int x1] [] (S0, M, N) =
  (if 122 ≤ (M 16 10) then
    some (none, (S0, M, N))
  else
    bif j_in (M 16 10) 122 then
    some (none, (S0, (j_w (j_w M 20 ((M 16 10)).toNatClampNeg x1) 16 10 ((M 16 10) + 1)), N)) else none) := (R_ev d kX4_push 400 0 _ _ _).trans rfl
set_option maxRecDepth 100000 in
theorem bX4_pop_0 (d : Nat)  (M : j_M) (N : j_N) : R d kX4_pop 0 [.ref 16] [] (S0, M, N) =
  (if 0 < (M 16 10) then
    bif j_in ((M 16 10) - 1) 122 then
    some (some (.int (M 20 (((M 16 10) - 1)).toNatClampNeg)), (S0, (j_w M 16 10 ((M 16 10) - 1)), N)) else none
  else
    some (some (.int 0), (S0, M, N))) := (R_ev d kX4_pop 400 0 _ _ _).trans rfl
set_option maxRecDepth 100000 in
theorem bX4_valueOf_0 (d : Nat) (x0 : Int32) (x2 : Int32) (x3 : Int32) (M : j_M) (N : j_N) : R d kX4_valueOf 0 [.int x0, .ref 1, .int x2, .int x3] [] (S0, M, N) =
  (if x0 = (-4) then
    some (some (.int (M 1 6)), (S0, M, N))
  else if x0 = (-3) then
    some (some (.int x2), (S0, M, N))
  else if x0 = (-2) then
    bif j_in x2 6 then
    some (some (.int (M 2 (x2).toNatClampNeg)), (S0, M, N)) else none
  else if x0 = (-1) then
    some (some (.int x3), (S0, M, N))
  else 
    some (some (.int (M 1 8)), (S0, M, N))) := (R_ev d kX4_valueOf 400 0 _ _ _).trans rfl
set_option maxRecDepth 100000 in
theorem bX4_joined_0 (d : Nat) (x0 : Int32) (x1 : Int32) (x2 : Int32) (M : j_M) (N : j_N) : R d kX4_joined 0 [.int x0, .int x1, .int x2] [] (S0, M, N) =
  (if x0 = (-14) then
    if x2 = 0 then
      some (some (.int 0), (S0, M, N))
    else
      if x2 = 0 then none else
      some (some (.int (x1 / x2)), (S0, M, N))
  else if x0 = (-13) then
    some (some (.int (x1 * x2)), (S0, M, N))
  else if x0 = (-12) then
    some (some (.int (x1 - x2)), (S0, M, N))
  else if x0 = (-11) then
    some (some (.int (x1 + x2)), (S0, M, N))
  else if x0 = (-10) then
    if x1 ≤ x2 then
      (C d 60 [.int 0] S0 M N).bind fun q1 => j_oi none (fun r1 =>
      some (some (.int r1), (S0, q1.2.1, q1.2.2))) q1.1
    else
      (C d 60 [.int 1] S0 M N).bind fun q2 => j_oi none (fun r2 =>
      some (some (.int r2), (S0, q2.2.1, q2.2.2))) q2.1
  else if x0 = (-9) then
    if x1 = x2 then
      (C d 60 [.int 1] S0 M N).bind fun q4 => j_oi none (fun r4 =>
      some (some (.int r4), (S0, q4.2.1, q4.2.2))) q4.1
    else
      (C d 60 [.int 0] S0 M N).bind fun q3 => j_oi none (fun r3 =>
      some (some (.int r3), (S0, q3.2.1, q3.2.2))) q3.1
  else if x0 = (-8) then
    if x2 ≤ x1 then
      (C d 60 [.int 0] S0 M N).bind fun q5 => j_oi none (fun r5 =>
      some (some (.int r5), (S0, q5.2.1, q5.2.2))) q5.1
    else
      (C d 60 [.int 1] S0 M N).bind fun q6 => j_oi none (fun r6 =>
      some (some (.int r6), (S0, q6.2.1, q6.2.2))) q6.1
  else if x0 = (-7) then
    if x1 = 0 then
      (C d 60 [.int 0] S0 M N).bind fun q7 => j_oi none (fun r7 =>
      some (some (.int r7), (S0, q7.2.1, q7.2.2))) q7.1
    else
      if x2 = 0 then
        (C d 60 [.int 0] S0 M N).bind fun q8 => j_oi none (fun r8 =>
        some (some (.int r8), (S0, q8.2.1, q8.2.2))) q8.1
      else
        (C d 60 [.int 1] S0 M N).bind fun q9 => j_oi none (fun r9 =>
        some (some (.int r9), (S0, q9.2.1, q9.2.2))) q9.1
  else if x0 = (-6) then
    if x1 = 0 then
      if x2 = 0 then
        (C d 60 [.int 0] S0 M N).bind fun q11 => j_oi none (fun r11 =>
        some (some (.int r11), (S0, q11.2.1, q11.2.2))) q11.1
      else
        (C d 60 [.int 1] S0 M N).bind fun q12 => j_oi none (fun r12 =>
        some (some (.int r12), (S0, q12.2.1, q12.2.2))) q12.1
    else
      (C d 60 [.int 1] S0 M N).bind fun q10 => j_oi none (fun r10 =>
      some (some (.int r10), (S0, q10.2.1, q10.2.2))) q10.1
  else 
    if x2 = 0 then
      some (some (.int 0), (S0, M, N))
    else
      if x2 = 0 then none else
      some (some (.int (x1 - x1 / x2 * x2)), (S0, M, N))) := (R_ev d kX4_joined 400 0 _ _ _).trans rfl
set_option maxRecDepth 100000 in
theorem bX4_truth_0 (d : Nat) (x0 : Int32) (M : j_M) (N : j_N) : R d kX4_truth 0 [.int x0] [] (S0, M, N) =
  (if x0 = 0 then
    some (some (.int 0), (S0, M, N))
  else
    some (some (.int 1), (S0, M, N))) := (R_ev d kX4_truth 400 0 _ _ _).trans rfl
set_option maxRecDepth 100000 in
theorem bX5_has_0 (d : Nat) (x1 : Int32) (M : j_M) (N : j_N) : R d kX5_has 0 [.ref 12, .int x1] [] (S0, M, N) =
  (if x1 < 0 then
    some (some (.int 0), (S0, M, N))
  else
    if (M 12 5) ≤ x1 then
      some (some (.int 0), (S0, M, N))
    else
      some (some (.int 1), (S0, M, N))) := (R_ev d kX5_has 400 0 _ _ _).trans rfl
set_option maxRecDepth 100000 in
theorem bX5_add_0 (d : Nat) (x1 : Int32) (M : j_M) (N : j_N) : R d kX5_add 0 [.ref 12, .int x1] [] (S0, M, N) =
  (if (M 12 5) < 3 then
    bif j_in (M 12 5) 3 then
    some (some (.int (((M 12 5) + 1) - 1)), (S0, (j_w (j_w M 13 ((M 12 5)).toNatClampNeg x1) 12 5 ((M 12 5) + 1)), N)) else none
  else
    some (some (.int (-3)), (S0, M, N))) := (R_ev d kX5_add 400 0 _ _ _).trans rfl
set_option maxRecDepth 100000 in
theorem bX5_enjoy_0 (d : Nat) (x1 : Int32) (x2 : Int32) (x3 : Int32) (M : j_M) (N : j_N) : R d kX5_enjoy 0 [.ref 12, .int x1, .int x2, .int x3, .null, .null] [] (S0, M, N) =
  (bif j_in ((x1 * 3) + x2) 18 then
  bif j_in ((x1 * 3) + x2) 18 then
  some (some (.int (M 14 (((x1 * 3) + x2)).toNatClampNeg)), (S0, (j_w M 14 (((x1 * 3) + x2)).toNatClampNeg x3), N)) else none else none) := (R_ev d kX5_enjoy 400 0 _ _ _).trans rfl
end
section
/-! ===== block equations (printed by wip/whole/genblk.py) ===== -/
set_option maxRecDepth 100000 in
theorem bX5_orderAll_0 (d : Nat)  (M : j_M) (N : j_N) : R d kX5_orderAll 0 [.ref 12, .null, .null] [] (S0, M, N) =
  ((C d 22 [.ref 8, .ref 1] S0 M N).bind fun q1 => j_ov none (
  R d kX5_orderAll 15 [.ref 12, .int 0, .int 0] [] (S0, q1.2.1, q1.2.2)) q1.1) := (R_ev d kX5_orderAll 400 0 _ _ _).trans rfl
set_option maxRecDepth 100000 in
theorem bX5_orderAll_15 (d : Nat) (x1 : Int32) (x2 : Int32) (M : j_M) (N : j_N) : R d kX5_orderAll 15 [.ref 12, .int x1, .int x2] [] (S0, M, N) =
  (if (M 1 6) ≤ x2 then
    some (some (.int x1), (S0, M, N))
  else
    (C d 66 [.ref 12, .int x2, .int x1] S0 M N).bind fun q1 => j_oi none (fun r1 =>
    bif j_in x2 6 then
    (C d 67 [.ref 12, .int (q1.2.1 15 (x2).toNatClampNeg)] S0 q1.2.1 q1.2.2).bind fun q2 => j_oi none (fun r2 =>
    R d kX5_orderAll 15 [.ref 12, .int (x1 + r2), .int (x2 + 1)] [] (S0, q2.2.1, q2.2.2)) q2.1 else none) q1.1) := (R_ev d kX5_orderAll 400 15 _ _ _).trans rfl
set_option maxRecDepth 100000 in
theorem bX5_playOut_0 (d : Nat) (x1 : Int32) (x2 : Int32) (M : j_M) (N : j_N) : R d kX5_playOut 0 [.ref 12, .int x1, .int x2, .null, .null, .null, .null, .null, .null] [] (S0, M, N) =
  (if (M 1 6) ≤ x1 then
    some (some (.int x2), (S0, M, N))
  else
    if x1 < 6 then
      (C d 66 [.ref 12, .int (x1 + 1), .int x2] S0 M N).bind fun q1 => j_oi none (fun r1 =>
      (C d 68 [.ref 12, .int x1, .int (-1), .int r1] S0 q1.2.1 q1.2.2).bind fun q2 => j_oi none (fun r2 =>
      R d kX5_playOut 44 [.ref 12, .int x1, .int x2, .int (-1), .int r1, .int r2, .int 0, .null, .null] [] (S0, q2.2.1, q2.2.2)) q2.1) q1.1
    else
      some (some (.int x2), (S0, M, N))) := (R_ev d kX5_playOut 400 0 _ _ _).trans rfl
set_option maxRecDepth 100000 in
theorem bX5_playOut_44 (d : Nat) (x1 : Int32) (x2 : Int32) (x3 : Int32) (x4 : Int32) (x5 : Int32) (x6 : Int32) (M : j_M) (N : j_N) : R d kX5_playOut 44 [.ref 12, .int x1, .int x2, .int x3, .int x4, .int x5, .int x6, .null, .null] [] (S0, M, N) =
  (if (M 12 5) ≤ x6 then
    bif j_in x1 6 then
    some (some (.int x4), (S0, (j_w M 15 (x1).toNatClampNeg x3), N)) else none
  else
    bif j_in x6 3 then
    (C d 66 [.ref 12, .int (x1 + 1), .int (x2 + (M 13 (x6).toNatClampNeg))] S0 M N).bind fun q1 => j_oi none (fun r1 =>
    (C d 68 [.ref 12, .int x1, .int x6, .int r1] S0 q1.2.1 q1.2.2).bind fun q2 => j_oi none (fun r2 =>
    if r2 ≤ x5 then
      R d kX5_playOut 44 [.ref 12, .int x1, .int x2, .int x3, .int x4, .int x5, .int (x6 + 1), .null, .null] [] (S0, q2.2.1, q2.2.2)
    else
      R d kX5_playOut 44 [.ref 12, .int x1, .int x2, .int x6, .int r1, .int r2, .int (x6 + 1), .null, .null] [] (S0, q2.2.1, q2.2.2)) q2.1) q1.1 else none) := (R_ev d kX5_playOut 400 44 _ _ _).trans rfl
set_option maxRecDepth 100000 in
theorem bX5_priceOf_0 (d : Nat) (x1 : Int32) (M : j_M) (N : j_N) : R d kX5_priceOf 0 [.ref 12, .int x1] [] (S0, M, N) =
  ((C d 62 [.ref 12, .int x1] S0 M N).bind fun q1 => j_oi none (fun r1 =>
  if r1 = 0 then
    some (some (.int 0), (S0, q1.2.1, q1.2.2))
  else
    bif j_in x1 3 then
    some (some (.int (q1.2.1 13 (x1).toNatClampNeg)), (S0, q1.2.1, q1.2.2)) else none) q1.1) := (R_ev d kX5_priceOf 400 0 _ _ _).trans rfl
set_option maxRecDepth 100000 in
theorem bX5_worth_0 (d : Nat) (x1 : Int32) (x2 : Int32) (x3 : Int32) (M : j_M) (N : j_N) : R d kX5_worth 0 [.ref 12, .int x1, .int x2, .int x3, .null] [] (S0, M, N) =
  ((C d 25 [.ref 8, .int x3] S0 M N).bind fun q1 => j_ov none (
  (C d 62 [.ref 12, .int x2] S0 q1.2.1 q1.2.2).bind fun q2 => j_oi none (fun r2 =>
  if r2 = 0 then
    (C d 26 [.ref 8, .int x1] S0 q2.2.1 q2.2.2).bind fun q3 => j_oi none (fun r3 =>
    some (some (.int (0 - r3)), (S0, q3.2.1, q3.2.2))) q3.1
  else
    bif j_in ((x1 * 3) + x2) 18 then
    (C d 26 [.ref 8, .int x1] S0 q2.2.1 q2.2.2).bind fun q4 => j_oi none (fun r4 =>
    some (some (.int ((q2.2.1 14 (((x1 * 3) + x2)).toNatClampNeg) - r4)), (S0, q4.2.1, q4.2.2))) q4.1 else none) q2.1) q1.1) := (R_ev d kX5_worth 400 0 _ _ _).trans rfl
set_option maxRecDepth 100000 in
theorem bX6_costBy_0 (d : Nat) (x1 : Int32) (x2 : Int32) (M : j_M) (N : j_N) : R d kX6_costBy 0 [.ref 10, .int x1, .int x2] [] (S0, M, N) =
  (bif j_in x1 7 then
  (C d 24 [.ref 8] S0 (j_w M 9 (x1).toNatClampNeg x2) N).bind fun q1 => j_ov none (
  (C d 26 [.ref 8, .int x1] S0 q1.2.1 q1.2.2).bind fun q2 => j_oi none (fun r2 =>
  some (some (.int r2), (S0, q2.2.1, q2.2.2))) q2.1) q1.1 else none) := (R_ev d kX6_costBy 400 0 _ _ _).trans rfl
set_option maxRecDepth 100000 in
theorem bX6_search_0 (d : Nat) (x1 : Int32) (M : j_M) (N : j_N) : R d kX6_search 0 [.ref 10, .int x1, .null, .null, .null, .null, .null] [] (S0, M, N) =
  (bif j_in x1 7 then
  (C d 74 [.ref 10, .int x1] S0 (j_w (j_w M 10 3 0) 10 4 1000000) N).bind fun q1 => j_oi none (fun r1 =>
  R d kX6_search 30 [.ref 10, .int x1, .int (M 9 (x1).toNatClampNeg), .int r1, .int 0, .null, .null] [] (S0, q1.2.1, q1.2.2)) q1.1 else none) := (R_ev d kX6_search 400 0 _ _ _).trans rfl
set_option maxRecDepth 100000 in
theorem bX6_search_30 (d : Nat) (x1 : Int32) (x2 : Int32) (x3 : Int32) (x4 : Int32) (M : j_M) (N : j_N) : R d kX6_search 30 [.ref 10, .int x1, .int x2, .int x3, .int x4, .null, .null] [] (S0, M, N) =
  (if x3 ≤ x4 then
    bif j_in x1 7 then
    some (none, (S0, (j_w M 9 (x1).toNatClampNeg x2), N)) else none
  else
    (C d 70 [.ref 10, .int x1, .int (x4 * (M 1 9))] S0 M N).bind fun q1 => j_oi none (fun r1 =>
    if (q1.2.1 10 4) ≤ r1 then
      R d kX6_search 30 [.ref 10, .int x1, .int x2, .int x3, .int (x4 + 1), .null, .null] [] (S0, q1.2.1, q1.2.2)
    else
      R d kX6_search 30 [.ref 10, .int x1, .int x2, .int x3, .int (x4 + 1), .null, .null] [] (S0, (j_w (j_w q1.2.1 10 3 (x4 * (M 1 9))) 10 4 r1), q1.2.2)) q1.1) := (R_ev d kX6_search 400 30 _ _ _).trans rfl
set_option maxRecDepth 100000 in
theorem bX6_wouldChange_0 (d : Nat) (x1 : Int32) (M : j_M) (N : j_N) : R d kX6_wouldChange 0 [.ref 10, .int x1, .null, .null, .null, .null, .null] [] (S0, M, N) =
  (bif j_in x1 7 then
  (C d 70 [.ref 10, .int x1, .int (M 9 (x1).toNatClampNeg)] S0 M N).bind fun q1 => j_oi none (fun r1 =>
  (C d 74 [.ref 10, .int x1] S0 q1.2.1 q1.2.2).bind fun q2 => j_oi none (fun r2 =>
  R d kX6_wouldChange 30 [.ref 10, .int x1, .int (M 9 (x1).toNatClampNeg), .int r1, .int 0, .int r2, .int 0] [] (S0, q2.2.1, q2.2.2)) q2.1) q1.1 else none) := (R_ev d kX6_wouldChange 400 0 _ _ _).trans rfl
set_option maxRecDepth 100000 in
theorem bX6_wouldChange_30 (d : Nat) (x1 : Int32) (x2 : Int32) (x3 : Int32) (x4 : Int32) (x5 : Int32) (x6 : Int32) (M : j_M) (N : j_N) : R d kX6_wouldChange 30 [.ref 10, .int x1, .int x2, .int x3, .int x4, .int x5, .int x6] [] (S0, M, N) =
  (if x5 ≤ x6 then
    bif j_in x1 7 then
    bif decide (x4 = 0) || decide (x4 = 1) then some (some (.int x4), (S0, (j_w M 9 (x1).toNatClampNeg x2), N)) else none else none
  else
    if x4 = 0 then
      (C d 70 [.ref 10, .int x1, .int (x6 * (M 1 9))] S0 M N).bind fun q1 => j_oi none (fun r1 =>
      if x3 ≤ r1 then
        R d kX6_wouldChange 30 [.ref 10, .int x1, .int x2, .int x3, .int 0, .int x5, .int (x6 + 1)] [] (S0, q1.2.1, q1.2.2)
      else
        R d kX6_wouldChange 30 [.ref 10, .int x1, .int x2, .int x3, .int 1, .int x5, .int (x6 + 1)] [] (S0, q1.2.1, q1.2.2)) q1.1
    else
      bif j_in x1 7 then
      bif decide (x4 = 0) || decide (x4 = 1) then some (some (.int x4), (S0, (j_w M 9 (x1).toNatClampNeg x2), N)) else none else none) := (R_ev d kX6_wouldChange 400 30 _ _ _).trans rfl
set_option maxRecDepth 100000 in
theorem bX6_firstRestless_0 (d : Nat)  (M : j_M) (N : j_N) : R d kX6_firstRestless 0 [.ref 10, .null] [] (S0, M, N) =
  (R d kX6_firstRestless 2 [.ref 10, .int 0] [] (S0, M, N)) := (R_ev d kX6_firstRestless 400 0 _ _ _).trans rfl
set_option maxRecDepth 100000 in
theorem bX6_firstRestless_2 (d : Nat) (x1 : Int32) (M : j_M) (N : j_N) : R d kX6_firstRestless 2 [.ref 10, .int x1] [] (S0, M, N) =
  (if (M 8 1) ≤ x1 then
    some (some (.int (-2)), (S0, M, N))
  else
    (C d 72 [.ref 10, .int x1] S0 M N).bind fun q1 => j_oi none (fun r1 =>
    if r1 = 0 then
      R d kX6_firstRestless 2 [.ref 10, .int (x1 + 1)] [] (S0, q1.2.1, q1.2.2)
    else
      some (some (.int x1), (S0, q1.2.1, q1.2.2))) q1.1) := (R_ev d kX6_firstRestless 400 2 _ _ _).trans rfl
set_option maxRecDepth 100000 in
theorem bX6_sumsOf_0 (d : Nat) (x1 : Int32) (M : j_M) (N : j_N) : R d kX6_sumsOf 0 [.ref 10, .int x1] [] (S0, M, N) =
  (if (M 1 9) ≤ 0 then
    some (some (.int 1), (S0, M, N))
  else
    bif j_in x1 6 then
    if (M 1 9) = 0 then none else
    some (some (.int (((M 2 (x1).toNatClampNeg) / (M 1 9)) + 1)), (S0, M, N)) else none) := (R_ev d kX6_sumsOf 400 0 _ _ _).trans rfl
set_option maxRecDepth 100000 in
theorem bX6_ways_0 (d : Nat)  (M : j_M) (N : j_N) : R d kX6_ways 0 [.ref 10, .null, .null, .null] [] (S0, M, N) =
  (R d kX6_ways 4 [.ref 10, .long 1, .null, .int 0] [] (S0, M, N)) := (R_ev d kX6_ways 400 0 _ _ _).trans rfl
set_option maxRecDepth 100000 in
theorem bX6_ways_4 (d : Nat) (y1 : Int64) (x3 : Int32) (M : j_M) (N : j_N) : R d kX6_ways 4 [.ref 10, .long y1, .null, .int x3] [] (S0, M, N) =
  (if (M 1 6) ≤ x3 then
    some (some (.long y1), (S0, M, N))
  else
    (C d 74 [.ref 10, .int x3] S0 M N).bind fun q1 => j_oi none (fun r1 =>
    R d kX6_ways 4 [.ref 10, .long (y1 * r1.toInt64), .null, .int (x3 + 1)] [] (S0, q1.2.1, q1.2.2)) q1.1) := (R_ev d kX6_ways 400 4 _ _ _).trans rfl
set_option maxRecDepth 100000 in
theorem bX6_fewWays_0 (d : Nat)  (M : j_M) (N : j_N) : R d kX6_fewWays 0 [.ref 10] [] (S0, M, N) =
  ((C d 75 [.ref 10] S0 M N).bind fun q1 => j_ol none (fun r1 =>
  if 0 < (lg_cmp r1 4096) then
    some (some (.int 0), (S0, q1.2.1, q1.2.2))
  else
    some (some (.int 1), (S0, q1.2.1, q1.2.2))) q1.1) := (R_ev d kX6_fewWays 400 0 _ _ _).trans rfl
set_option maxRecDepth 100000 in
theorem bX6_goThroughWays_0 (d : Nat)  (M : j_M) (N : j_N) : R d kX6_goThroughWays 0 [.ref 10, .null, .null, .null] [] (S0, M, N) =
  ((C d 22 [.ref 8, .ref 1] S0 M N).bind fun q1 => j_ov none (
  (C d 75 [.ref 10] S0 q1.2.1 q1.2.2).bind fun q2 => j_ol none (fun r2 =>
  R d kX6_goThroughWays 27 [.ref 10, .int 0, .int (if (4096 : Int64) < r2 then (4096 : Int64) else r2).toInt32, .int 0] [] (S0, q2.2.1, q2.2.2)) q2.1) q1.1) := (R_ev d kX6_goThroughWays 400 0 _ _ _).trans rfl
set_option maxRecDepth 100000 in
theorem bX6_goThroughWays_27 (d : Nat) (x1 : Int32) (x2 : Int32) (x3 : Int32) (M : j_M) (N : j_N) : R d kX6_goThroughWays 27 [.ref 10, .int x1, .int x2, .int x3] [] (S0, M, N) =
  (if x2 ≤ x3 then
    some (some (.int x1), (S0, M, N))
  else
    (C d 78 [.ref 10, .int x3] S0 M N).bind fun q1 => j_ov none (
    (C d 73 [.ref 10] S0 q1.2.1 q1.2.2).bind fun q2 => j_oi none (fun r2 =>
    if r2 = (-2) then
      if x1 = 0 then
        bif (!(decide (0 < (0:Int32))) && !(decide (0 < (0:Int32))) && !(decide ((q2.2.1 1 6) < (0:Int32))) && Nat.ble (0 + ((q2.2.1 1 6)).toNatClampNeg) 7 && Nat.ble (0 + ((q2.2.1 1 6)).toNatClampNeg) 6) && Nat.ble 0 8 then
        R d kX6_goThroughWays 27 [.ref 10, .int (x1 + 1), .int x2, .int (x3 + 1)] [] (S0, (j_row q2.2.1 11 (va_cpy (q2.2.1 9) (q2.2.1 11) 0 0 ((q2.2.1 1 6)).toNatClampNeg)), q2.2.2) else none
      else
        R d kX6_goThroughWays 27 [.ref 10, .int (x1 + 1), .int x2, .int (x3 + 1)] [] (S0, q2.2.1, q2.2.2)
    else
      R d kX6_goThroughWays 27 [.ref 10, .int x1, .int x2, .int (x3 + 1)] [] (S0, q2.2.1, q2.2.2)) q2.1) q1.1) := (R_ev d kX6_goThroughWays 400 27 _ _ _).trans rfl
set_option maxRecDepth 100000 in
theorem bX6_layWay_0 (d : Nat) (x1 : Int32) (M : j_M) (N : j_N) : R d kX6_layWay 0 [.ref 10, .int x1, .null, .null, .null] [] (S0, M, N) =
  (R d kX6_layWay 12 [.ref 10, .null, .int x1, .int ((M 1 6) - 1), .null] [] (S0, M, N)) := (R_ev d kX6_layWay 400 0 _ _ _).trans rfl
set_option maxRecDepth 100000 in
theorem bX6_layWay_12 (d : Nat) (x2 : Int32) (x3 : Int32) (M : j_M) (N : j_N) : R d kX6_layWay 12 [.ref 10, .null, .int x2, .int x3, .null] [] (S0, M, N) =
  (if x3 < 0 then
    some (none, (S0, M, N))
  else
    (C d 74 [.ref 10, .int x3] S0 M N).bind fun q1 => j_oi none (fun r1 =>
    if r1 ≤ 0 then
      R d kX6_layWay 12 [.ref 10, .null, .int x2, .int (x3 + (-1)), .null] [] (S0, q1.2.1, q1.2.2)
    else
      if r1 = 0 then none else
      bif j_in x3 7 then
      if r1 = 0 then none else
      R d kX6_layWay 12 [.ref 10, .null, .int (x2 / r1), .int (x3 + (-1)), .null] [] (S0, (j_w q1.2.1 9 (x3).toNatClampNeg ((x2 - x2 / r1 * r1) * (q1.2.1 1 9))), q1.2.2) else none) q1.1) := (R_ev d kX6_layWay 400 12 _ _ _).trans rfl
set_option maxRecDepth 100000 in
theorem bX6_takeTurns_0 (d : Nat)  (M : j_M) (N : j_N) : R d kX6_takeTurns 0 [.ref 10, .null, .null, .null, .null, .null] [] (S0, M, N) =
  ((C d 22 [.ref 8, .ref 1] S0 M N).bind fun q1 => j_ov none (
  R d kX6_takeTurns 20 [.ref 10, .int 0, .int 0, .int 0, .int 0, .null] [] (S0, q1.2.1, q1.2.2)) q1.1) := (R_ev d kX6_takeTurns 400 0 _ _ _).trans rfl
set_option maxRecDepth 100000 in
theorem bX6_takeTurns_20 (d : Nat) (x1 : Int32) (x2 : Int32) (x3 : Int32) (x4 : Int32) (M : j_M) (N : j_N) : R d kX6_takeTurns 20 [.ref 10, .int x1, .int x2, .int x3, .int x4, .null] [] (S0, M, N) =
  (if 1000 ≤ x4 then
    some (some (.int x1), (S0, M, N))
  else
    if (M 1 6) ≤ x2 then
      some (some (.int x1), (S0, M, N))
    else
      bif j_in x3 7 then
      (C d 70 [.ref 10, .int x3, .int (M 9 (x3).toNatClampNeg)] S0 M N).bind fun q1 => j_oi none (fun r1 =>
      (C d 71 [.ref 10, .int x3] S0 q1.2.1 q1.2.2).bind fun q2 => j_ov none (
      if (q2.2.1 10 4) < r1 then
        if x1 = 60 then
          some (some (.int (-2)), (S0, q2.2.1, q2.2.2))
        else
          bif j_in x3 7 then
          if (q2.2.1 1 6) ≤ (x3 + 1) then
            R d kX6_takeTurns 20 [.ref 10, .int (x1 + 1), .int 0, .int 0, .int (x4 + 1), .null] [] (S0, (j_w q2.2.1 9 (x3).toNatClampNeg (q2.2.1 10 3)), q2.2.2)
          else
            R d kX6_takeTurns 20 [.ref 10, .int (x1 + 1), .int 0, .int (x3 + 1), .int (x4 + 1), .null] [] (S0, (j_w q2.2.1 9 (x3).toNatClampNeg (q2.2.1 10 3)), q2.2.2) else none
      else
        if (q2.2.1 1 6) ≤ (x3 + 1) then
          R d kX6_takeTurns 20 [.ref 10, .int x1, .int (x2 + 1), .int 0, .int (x4 + 1), .null] [] (S0, q2.2.1, q2.2.2)
        else
          R d kX6_takeTurns 20 [.ref 10, .int x1, .int (x2 + 1), .int (x3 + 1), .int (x4 + 1), .null] [] (S0, q2.2.1, q2.2.2)) q2.1) q1.1 else none) := (R_ev d kX6_takeTurns 400 20 _ _ _).trans rfl
set_option maxRecDepth 100000 in
theorem bX6_settle_0 (d : Nat) (x1 : Int32) (x2 : Int32) (M : j_M) (N : j_N) : R d kX6_settle 0 [.ref 10, .int x1, .int x2, .null, .null, .null, .null, .null] [] (S0, M, N) =
  ((C d 22 [.ref 8, .ref 1] S0 M N).bind fun q1 => j_ov none (
  (C d 74 [.ref 10, .int x1] S0 (j_w q1.2.1 10 4 1000000) q1.2.2).bind fun q2 => j_oi none (fun r2 =>
  (C d 74 [.ref 10, .int x2] S0 q2.2.1 q2.2.2).bind fun q3 => j_oi none (fun r3 =>
  R d kX6_settle 33 [.ref 10, .int x1, .int x2, .int r2, .int r3, .int 0, .null, .null] [] (S0, q3.2.1, q3.2.2)) q3.1) q2.1) q1.1) := (R_ev d kX6_settle 400 0 _ _ _).trans rfl
set_option maxRecDepth 100000 in
theorem bX6_settle_33 (d : Nat) (x1 : Int32) (x2 : Int32) (x3 : Int32) (x4 : Int32) (x5 : Int32) (M : j_M) (N : j_N) : R d kX6_settle 33 [.ref 10, .int x1, .int x2, .int x3, .int x4, .int x5, .null, .null] [] (S0, M, N) =
  (if x3 ≤ x5 then
    bif j_in x1 7 then
    bif j_in x2 7 then
    (C d 24 [.ref 8] S0 (j_w (j_w M 9 (x1).toNatClampNeg (M 10 3)) 9 (x2).toNatClampNeg (M 10 5)) N).bind fun q1 => j_ov none (
    some (none, (S0, q1.2.1, q1.2.2))) q1.1 else none else none
  else
    bif j_in x1 7 then
    R d kX6_settle 61 [.ref 10, .int x1, .int x2, .int x3, .int x4, .int x5, .int 0, .null] [] (S0, (j_w M 9 (x1).toNatClampNeg (x5 * (M 1 9))), N) else none) := (R_ev d kX6_settle 400 33 _ _ _).trans rfl
set_option maxRecDepth 100000 in
theorem bX6_settle_61 (d : Nat) (x1 : Int32) (x2 : Int32) (x3 : Int32) (x4 : Int32) (x5 : Int32) (x6 : Int32) (M : j_M) (N : j_N) : R d kX6_settle 61 [.ref 10, .int x1, .int x2, .int x3, .int x4, .int x5, .int x6, .null] [] (S0, M, N) =
  (if x4 ≤ x6 then
    R d kX6_settle 33 [.ref 10, .int x1, .int x2, .int x3, .int x4, .int (x5 + 1), .null, .null] [] (S0, M, N)
  else
    (C d 70 [.ref 10, .int x2, .int (x6 * (M 1 9))] S0 M N).bind fun q1 => j_oi none (fun r1 =>
    (C d 26 [.ref 8, .int x1] S0 q1.2.1 q1.2.2).bind fun q2 => j_oi none (fun r2 =>
    if (q2.2.1 10 4) ≤ (r1 + r2) then
      R d kX6_settle 61 [.ref 10, .int x1, .int x2, .int x3, .int x4, .int x5, .int (x6 + 1), .null] [] (S0, q2.2.1, q2.2.2)
    else
      R d kX6_settle 61 [.ref 10, .int x1, .int x2, .int x3, .int x4, .int x5, .int (x6 + 1), .null] [] (S0, (j_w (j_w (j_w q2.2.1 10 4 (r1 + r2)) 10 3 (x5 * (q2.2.1 1 9))) 10 5 (x6 * (q2.2.1 1 9))), q2.2.2)) q2.1) q1.1) := (R_ev d kX6_settle 400 61 _ _ _).trans rfl
set_option maxRecDepth 100000 in
theorem bX6_victimOf_0 (d : Nat) (x1 : Int32) (x2 : Int32) (M : j_M) (N : j_N) : R d kX6_victimOf 0 [.ref 10, .int x1, .int x2, .null] [] (S0, M, N) =
  (R d kX6_victimOf 2 [.ref 10, .int x1, .int x2, .int 0] [] (S0, M, N)) := (R_ev d kX6_victimOf 400 0 _ _ _).trans rfl
set_option maxRecDepth 100000 in
theorem bX6_victimOf_2 (d : Nat) (x1 : Int32) (x2 : Int32) (x3 : Int32) (M : j_M) (N : j_N) : R d kX6_victimOf 2 [.ref 10, .int x1, .int x2, .int x3] [] (S0, M, N) =
  (if (M 8 1) ≤ x3 then
    some (some (.int (-2)), (S0, M, N))
  else
    if x3 = x1 then
      R d kX6_victimOf 2 [.ref 10, .int x1, .int x2, .int (x3 + 1)] [] (S0, M, N)
    else
      if x3 = x2 then
        R d kX6_victimOf 2 [.ref 10, .int x1, .int x2, .int (x3 + 1)] [] (S0, M, N)
      else
        (C d 27 [.ref 8, .int x3] S0 M N).bind fun q1 => j_oi none (fun r1 =>
        if r1 ≤ 0 then
          R d kX6_victimOf 2 [.ref 10, .int x1, .int x2, .int (x3 + 1)] [] (S0, q1.2.1, q1.2.2)
        else
          some (some (.int x3), (S0, q1.2.1, q1.2.2))) q1.1) := (R_ev d kX6_victimOf 400 2 _ _ _).trans rfl
set_option maxRecDepth 100000 in
theorem bX6_allWeights_0 (d : Nat)  (M : j_M) (N : j_N) : R d kX6_allWeights 0 [.ref 10, .null, .null, .null] [] (S0, M, N) =
  (R d kX6_allWeights 4 [.ref 10, .long 1, .null, .int 1] [] (S0, M, N)) := (R_ev d kX6_allWeights 400 0 _ _ _).trans rfl
set_option maxRecDepth 100000 in
theorem bX6_allWeights_4 (d : Nat) (y1 : Int64) (x3 : Int32) (M : j_M) (N : j_N) : R d kX6_allWeights 4 [.ref 10, .long y1, .null, .int x3] [] (S0, M, N) =
  (if (M 1 6) ≤ x3 then
    some (some (.long y1), (S0, M, N))
  else
    R d kX6_allWeights 4 [.ref 10, .long (y1 * 12), .null, .int (x3 + 1)] [] (S0, M, N)) := (R_ev d kX6_allWeights 400 4 _ _ _).trans rfl
set_option maxRecDepth 100000 in
theorem bX6_weighedCost_0 (d : Nat) (x1 : Int32) (x2 : Int32) (M : j_M) (N : j_N) : R d kX6_weighedCost 0 [.ref 10, .int x1, .int x2, .null, .null, .null, .null, .null] [] (S0, M, N) =
  ((C d 22 [.ref 8, .ref 1] S0 M N).bind fun q1 => j_ov none (
  R d kX6_weighedCost 16 [.ref 10, .int x1, .int x2, .long 0, .null, .int 0, .null, .null] [] (S0, q1.2.1, q1.2.2)) q1.1) := (R_ev d kX6_weighedCost 400 0 _ _ _).trans rfl
set_option maxRecDepth 100000 in
theorem bX6_weighedCost_16 (d : Nat) (x1 : Int32) (x2 : Int32) (y3 : Int64) (x5 : Int32) (M : j_M) (N : j_N) : R d kX6_weighedCost 16 [.ref 10, .int x1, .int x2, .long y3, .null, .int x5, .null, .null] [] (S0, M, N) =
  (if ((1 : Int32) <<< ((M 1 6) &&& 31)) ≤ x5 then
    some (some (.long y3), (S0, M, N))
  else
    if ((x5 >>> (x1 &&& 31)) &&& 1) = 0 then
      (C d 84 [.ref 10, .int x5, .int x1] S0 M N).bind fun q1 => j_ol none (fun r1 =>
      if (lg_cmp r1 0) = 0 then
        R d kX6_weighedCost 16 [.ref 10, .int x1, .int x2, .long (y3 + 0), .null, .int (x5 + 1), .null, .null] [] (S0, q1.2.1, q1.2.2)
      else
        (C d 70 [.ref 10, .int x1, .int x2] S0 q1.2.1 q1.2.2).bind fun q2 => j_oi none (fun r2 =>
        R d kX6_weighedCost 16 [.ref 10, .int x1, .int x2, .long (y3 + (r1 * r2.toInt64)), .null, .int (x5 + 1), .null, .null] [] (S0, q2.2.1, q2.2.2)) q2.1) q1.1
    else
      R d kX6_weighedCost 16 [.ref 10, .int x1, .int x2, .long y3, .null, .int (x5 + 1), .null, .null] [] (S0, M, N)) := (R_ev d kX6_weighedCost 400 16 _ _ _).trans rfl
set_option maxRecDepth 100000 in
theorem bX6_layByChance_0 (d : Nat) (x1 : Int32) (x2 : Int32) (M : j_M) (N : j_N) : R d kX6_layByChance 0 [.ref 10, .int x1, .int x2, .null, .null, .null, .null] [] (S0, M, N) =
  (R d kX6_layByChance 5 [.ref 10, .int x1, .int x2, .long 1, .null, .int 0, .null] [] (S0, M, N)) := (R_ev d kX6_layByChance 400 0 _ _ _).trans rfl
set_option maxRecDepth 100000 in
theorem bX6_layByChance_5 (d : Nat) (x1 : Int32) (x2 : Int32) (y3 : Int64) (x5 : Int32) (M : j_M) (N : j_N) : R d kX6_layByChance 5 [.ref 10, .int x1, .int x2, .long y3, .null, .int x5, .null] [] (S0, M, N) =
  (if (M 1 6) ≤ x5 then
    some (some (.long y3), (S0, M, N))
  else
    if (lg_cmp y3 0) = 0 then
      some (some (.long y3), (S0, M, N))
    else
      if x5 = x2 then
        R d kX6_layByChance 5 [.ref 10, .int x1, .int x2, .long y3, .null, .int (x5 + 1), .null] [] (S0, M, N)
      else
        if ((x1 >>> (x5 &&& 31)) &&& 1) = 1 then
          bif j_in x5 6 then
          R d kX6_layByChance 83 [.ref 10, .int x1, .int x2, .long y3, .null, .int x5, .int 1] [.int (M 5 (x5).toNatClampNeg), .int x5, .ref 9] (S0, M, N) else none
        else
          bif j_in x5 6 then
          R d kX6_layByChance 83 [.ref 10, .int x1, .int x2, .long y3, .null, .int x5, .int 0] [.int (M 3 (x5).toNatClampNeg), .int x5, .ref 9] (S0, M, N) else none) := (R_ev d kX6_layByChance 400 5 _ _ _).trans rfl
set_option maxRecDepth 100000 in
theorem bX6_layByChance_83 (d : Nat) (x1 : Int32) (x2 : Int32) (y3 : Int64) (x5 : Int32) (x6 : Int32) (s1 : Int32) (s2 : Int32) (M : j_M) (N : j_N) : R d kX6_layByChance 83 [.ref 10, .int x1, .int x2, .long y3, .null, .int x5, .int x6] [.int s2, .int s1, .ref 9] (S0, M, N) =
  (bif j_in s1 7 then
  if x6 = 0 then
    bif j_in x5 6 then
    R d kX6_layByChance 5 [.ref 10, .int x1, .int x2, .long (y3 * (12 - (M 4 (x5).toNatClampNeg)).toInt64), .null, .int (x5 + 1), .null] [] (S0, (j_w M 9 (s1).toNatClampNeg s2), N) else none
  else
    bif j_in x5 6 then
    R d kX6_layByChance 5 [.ref 10, .int x1, .int x2, .long (y3 * (M 4 (x5).toNatClampNeg).toInt64), .null, .int (x5 + 1), .null] [] (S0, (j_w M 9 (s1).toNatClampNeg s2), N) else none else none) := (R_ev d kX6_layByChance 400 83 _ _ _).trans rfl
set_option maxRecDepth 100000 in
theorem bX6_sumOfLeastMean_0 (d : Nat) (x1 : Int32) (M : j_M) (N : j_N) : R d kX6_sumOfLeastMean 0 [.ref 10, .int x1, .null, .null, .null, .null, .null, .null, .null] [] (S0, M, N) =
  ((C d 83 [.ref 10, .int x1, .int 0] S0 M N).bind fun q1 => j_ol none (fun r1 =>
  (C d 74 [.ref 10, .int x1] S0 q1.2.1 q1.2.2).bind fun q2 => j_oi none (fun r2 =>
  R d kX6_sumOfLeastMean 19 [.ref 10, .int x1, .int 0, .long r1, .null, .int r2, .int 1, .null, .null] [] (S0, q2.2.1, q2.2.2)) q2.1) q1.1) := (R_ev d kX6_sumOfLeastMean 400 0 _ _ _).trans rfl
set_option maxRecDepth 100000 in
theorem bX6_sumOfLeastMean_19 (d : Nat) (x1 : Int32) (x2 : Int32) (y3 : Int64) (x5 : Int32) (x6 : Int32) (M : j_M) (N : j_N) : R d kX6_sumOfLeastMean 19 [.ref 10, .int x1, .int x2, .long y3, .null, .int x5, .int x6, .null, .null] [] (S0, M, N) =
  (if x5 ≤ x6 then
    some (some (.int x2), (S0, M, N))
  else
    (C d 83 [.ref 10, .int x1, .int (x6 * (M 1 9))] S0 M N).bind fun q1 => j_ol none (fun r1 =>
    if 0 ≤ (lg_cmp r1 y3) then
      R d kX6_sumOfLeastMean 19 [.ref 10, .int x1, .int x2, .long y3, .null, .int x5, .int (x6 + 1), .null, .null] [] (S0, q1.2.1, q1.2.2)
    else
      R d kX6_sumOfLeastMean 19 [.ref 10, .int x1, .int (x6 * (q1.2.1 1 9)), .long r1, .null, .int x5, .int (x6 + 1), .null, .null] [] (S0, q1.2.1, q1.2.2)) q1.1) := (R_ev d kX6_sumOfLeastMean 400 19 _ _ _).trans rfl
set_option maxRecDepth 100000 in
theorem bX7_pass_0 (d : Nat)  (M : j_M) (N : j_N) : R d kX7_pass 0 [.ref 21, .null, .null, .null] [] (S0, M, N) =
  ((C d 22 [.ref 8, .ref 1] S0 M N).bind fun q1 => j_ov none (
  R d kX7_pass 15 [.ref 21, .int 0, .int 0, .null] [] (S0, q1.2.1, q1.2.2)) q1.1) := (R_ev d kX7_pass 400 0 _ _ _).trans rfl
set_option maxRecDepth 100000 in
theorem bX7_pass_15 (d : Nat) (x1 : Int32) (x2 : Int32) (M : j_M) (N : j_N) : R d kX7_pass 15 [.ref 21, .int x1, .int x2, .null] [] (S0, M, N) =
  (if (M 1 6) ≤ x2 then
    (C d 31 [.ref 8] S0 M N).bind fun q1 => j_oi none (fun r1 =>
    some (some (.int x1), (S0, (j_w (j_w q1.2.1 1 10 ((M 1 10) + r1)) 1 11 ((q1.2.1 1 11) + 1)), q1.2.2))) q1.1
  else
    (C d 26 [.ref 8, .int x2] S0 M N).bind fun q2 => j_oi none (fun r2 =>
    bif j_in x2 6 then
    bif j_in x2 6 then
    R d kX7_pass 15 [.ref 21, .int (x1 + r2), .int (x2 + 1), .null] [] (S0, (j_w q2.2.1 7 (x2).toNatClampNeg ((q2.2.1 7 (x2).toNatClampNeg) + r2)), q2.2.2) else none else none) q2.1) := (R_ev d kX7_pass 400 15 _ _ _).trans rfl
set_option maxRecDepth 100000 in
theorem bX7_draw_0 (d : Nat) (x1 : Int32) (x2 : Int32) (x3 : Int32) (M : j_M) (N : j_N) : R d kX7_draw 0 [.ref 21, .int x1, .int x2, .int x3, .null, .null, .null, .null] [] (S0, M, N) =
  ((C d 22 [.ref 8, .ref 1] S0 M N).bind fun q1 => j_ov none (
  R d kX7_draw 27 [.ref 21, .null, .int x2, .int x3, .int x1, .int 0, .null, .null] [] (S0, (j_w (j_w q1.2.1 21 2 0) 21 3 0), q1.2.2)) q1.1) := (R_ev d kX7_draw 400 0 _ _ _).trans rfl
set_option maxRecDepth 100000 in
theorem bX7_draw_27 (d : Nat) (x2 : Int32) (x3 : Int32) (x4 : Int32) (x5 : Int32) (M : j_M) (N : j_N) : R d kX7_draw 27 [.ref 21, .null, .int x2, .int x3, .int x4, .int x5, .null, .null] [] (S0, M, N) =
  (if x2 ≤ x5 then
    some (none, (S0, M, N))
  else
    R d kX7_draw 36 [.ref 21, .null, .int x2, .int x3, .int x4, .int x5, .int 0, .null] [] (S0, M, N)) := (R_ev d kX7_draw 400 27 _ _ _).trans rfl
set_option maxRecDepth 100000 in
theorem bX7_draw_36 (d : Nat) (x2 : Int32) (x3 : Int32) (x4 : Int32) (x5 : Int32) (x6 : Int32) (M : j_M) (N : j_N) : R d kX7_draw 36 [.ref 21, .null, .int x2, .int x3, .int x4, .int x5, .int x6, .null] [] (S0, M, N) =
  (if (M 1 6) ≤ x6 then
    (C d 24 [.ref 8] S0 M N).bind fun q1 => j_ov none (
    (C d 27 [.ref 8, .int x3] S0 q1.2.1 q1.2.2).bind fun q2 => j_oi none (fun r2 =>
    if r2 ≤ 0 then
      (C d 26 [.ref 8, .int x3] S0 (j_w q2.2.1 21 2 ((q1.2.1 21 2) + 0)) q2.2.2).bind fun q3 => j_oi none (fun r3 =>
      R d kX7_draw 27 [.ref 21, .null, .int x2, .int x3, .int x4, .int (x5 + 1), .null, .null] [] (S0, (j_w q3.2.1 21 3 ((q2.2.1 21 3) + r3)), q3.2.2)) q3.1
    else
      (C d 26 [.ref 8, .int x3] S0 (j_w q2.2.1 21 2 ((q1.2.1 21 2) + 1)) q2.2.2).bind fun q4 => j_oi none (fun r4 =>
      R d kX7_draw 27 [.ref 21, .null, .int x2, .int x3, .int x4, .int (x5 + 1), .null, .null] [] (S0, (j_w q4.2.1 21 3 ((q2.2.1 21 3) + r4)), q4.2.2)) q4.1) q2.1) q1.1
  else
    R d kX7_draw 52 [.ref 21, .null, .int x2, .int x3, .null, .int x5, .int x6, .null] [.int 1103515245, .int x4] (S0, M, N)) := (R_ev d kX7_draw 400 36 _ _ _).trans rfl
set_option maxRecDepth 100000 in
theorem bX7_draw_52 (d : Nat) (x2 : Int32) (x3 : Int32) (x5 : Int32) (x6 : Int32) (s0 : Int32) (s1 : Int32) (M : j_M) (N : j_N) : R d kX7_draw 52 [.ref 21, .null, .int x2, .int x3, .null, .int x5, .int x6, .null] [.int s1, .int s0] (S0, M, N) =
  (R d kX7_draw 57 [.ref 21, .null, .int x2, .int x3, .null, .int x5, .int x6, .null] [.int ((s0 * s1) + 12345)] (S0, M, N)) := (R_ev d kX7_draw 400 52 _ _ _).trans rfl
set_option maxRecDepth 100000 in
theorem bX7_draw_57 (d : Nat) (x2 : Int32) (x3 : Int32) (x5 : Int32) (x6 : Int32) (s0 : Int32) (M : j_M) (N : j_N) : R d kX7_draw 57 [.ref 21, .null, .int x2, .int x3, .null, .int x5, .int x6, .null] [.int s0] (S0, M, N) =
  (bif j_in x6 6 then
  if (M 4 (x6).toNatClampNeg) ≤ (((s0).toUInt32 >>> ((8 : Int32).toUInt32 &&& Int32.toUInt32 31)).toInt32 - ((s0).toUInt32 >>> ((8 : Int32).toUInt32 &&& Int32.toUInt32 31)).toInt32 / 12 * 12) then
    bif j_in x6 6 then
    bif j_in x6 7 then
    R d kX7_draw 36 [.ref 21, .null, .int x2, .int x3, .int s0, .int x5, .int (x6 + 1), .null] [] (S0, (j_w M 9 (x6).toNatClampNeg (M 3 (x6).toNatClampNeg)), N) else none else none
  else
    bif j_in x6 6 then
    bif j_in x6 7 then
    R d kX7_draw 36 [.ref 21, .null, .int x2, .int x3, .int s0, .int x5, .int (x6 + 1), .null] [] (S0, (j_w M 9 (x6).toNatClampNeg (M 5 (x6).toNatClampNeg)), N) else none else none else none) := (R_ev d kX7_draw 400 57 _ _ _).trans rfl
set_option maxRecDepth 100000 in
theorem bX7_firstWrong_0 (d : Nat) (a1 : Nat) (x2 : Int32) (M : j_M) (N : j_N) : R d kX7_firstWrong 0 [.ref 21, .ref a1, .int x2, .null] [] (S0, M, N) =
  ((C d 22 [.ref 8, .ref 1] S0 M N).bind fun q1 => j_ov none (
  R d kX7_firstWrong 21 [.ref 21, .ref a1, .null, .int 0] [] (S0, (j_w q1.2.1 8 2 x2), q1.2.2)) q1.1) := (R_ev d kX7_firstWrong 400 0 _ _ _).trans rfl
set_option maxRecDepth 100000 in
theorem bX7_firstWrong_21 (d : Nat) (a1 : Nat) (x3 : Int32) (M : j_M) (N : j_N) : R d kX7_firstWrong 21 [.ref 21, .ref a1, .null, .int x3] [] (S0, M, N) =
  (if (M 1 6) ≤ x3 then
    some (some (.int (-2)), (S0, M, N))
  else
    bif Nat.beq (j_at S0 a1).1 12 then
    if (M a1 2) ≤ x3 then
      some (some (.int (-2)), (S0, M, N))
    else
      bif Nat.beq (j_at S0 a1).1 12 && Nat.ble 0 8 then (C d 104 [.ref a1, .int x3] S0 M N).bind fun q1 => j_ol none (fun r1 =>
      (C d 26 [.ref 8, .int x3] S0 q1.2.1 q1.2.2).bind fun q2 => j_oi none (fun r2 =>
      if (lg_cmp r1 r2.toInt64) = 0 then
        R d kX7_firstWrong 21 [.ref 21, .ref a1, .null, .int (x3 + 1)] [] (S0, q2.2.1, q2.2.2)
      else
        some (some (.int x3), (S0, q2.2.1, q2.2.2))) q2.1) q1.1 else none else none) := (R_ev d kX7_firstWrong 400 21 _ _ _).trans rfl
set_option maxRecDepth 100000 in
theorem bX7_rulesThatFit_0 (d : Nat) (a1 : Nat) (M : j_M) (N : j_N) : R d kX7_rulesThatFit 0 [.ref 21, .ref a1, .null, .null] [] (S0, M, N) =
  (R d kX7_rulesThatFit 4 [.ref 21, .ref a1, .int 0, .int 0] [] (S0, M, N)) := (R_ev d kX7_rulesThatFit 400 0 _ _ _).trans rfl
set_option maxRecDepth 100000 in
theorem bX7_rulesThatFit_4 (d : Nat) (a1 : Nat) (x2 : Int32) (x3 : Int32) (M : j_M) (N : j_N) : R d kX7_rulesThatFit 4 [.ref 21, .ref a1, .int x2, .int x3] [] (S0, M, N) =
  (if 5 ≤ x3 then
    some (some (.int x2), (S0, M, N))
  else
    (C d 89 [.ref 21, .ref a1, .int x3] S0 M N).bind fun q1 => j_oi none (fun r1 =>
    if r1 = (-2) then
      R d kX7_rulesThatFit 4 [.ref 21, .ref a1, .int (x2 ||| ((1 : Int32) <<< (x3 &&& 31))), .int (x3 + 1)] [] (S0, q1.2.1, q1.2.2)
    else
      R d kX7_rulesThatFit 4 [.ref 21, .ref a1, .int (x2 ||| 0), .int (x3 + 1)] [] (S0, q1.2.1, q1.2.2)) q1.1) := (R_ev d kX7_rulesThatFit 400 4 _ _ _).trans rfl
set_option maxRecDepth 100000 in
theorem bX7_weighRules_0 (d : Nat)  (M : j_M) (N : j_N) : R d kX7_weighRules 0 [.ref 21, .null, .null] [] (S0, M, N) =
  ((C d 22 [.ref 8, .ref 1] S0 M N).bind fun q1 => j_ov none (
  R d kX7_weighRules 13 [.ref 21, .int 0, .null] [] (S0, q1.2.1, q1.2.2)) q1.1) := (R_ev d kX7_weighRules 400 0 _ _ _).trans rfl
set_option maxRecDepth 100000 in
theorem bX7_weighRules_13 (d : Nat) (x1 : Int32) (M : j_M) (N : j_N) : R d kX7_weighRules 13 [.ref 21, .int x1, .null] [] (S0, M, N) =
  (if 5 ≤ x1 then
    some (none, (S0, M, N))
  else
    (C d 92 [.ref 21] S0 (j_w M 8 2 x1) N).bind fun q1 => j_oi none (fun r1 =>
    if x1 = 0 then
      R d kX7_weighRules 13 [.ref 21, .int (x1 + 1), .null] [] (S0, (j_w (j_w q1.2.1 21 4 x1) 21 5 r1), q1.2.2)
    else
      if (q1.2.1 21 5) ≤ r1 then
        R d kX7_weighRules 13 [.ref 21, .int (x1 + 1), .null] [] (S0, q1.2.1, q1.2.2)
      else
        R d kX7_weighRules 13 [.ref 21, .int (x1 + 1), .null] [] (S0, (j_w (j_w q1.2.1 21 4 x1) 21 5 r1), q1.2.2)) q1.1) := (R_ev d kX7_weighRules 400 13 _ _ _).trans rfl
set_option maxRecDepth 100000 in
theorem bX7_greatestCost_0 (d : Nat)  (M : j_M) (N : j_N) : R d kX7_greatestCost 0 [.ref 21, .null, .null] [] (S0, M, N) =
  (R d kX7_greatestCost 4 [.ref 21, .int 0, .int 0] [] (S0, M, N)) := (R_ev d kX7_greatestCost 400 0 _ _ _).trans rfl
set_option maxRecDepth 100000 in
theorem bX7_greatestCost_4 (d : Nat) (x1 : Int32) (x2 : Int32) (M : j_M) (N : j_N) : R d kX7_greatestCost 4 [.ref 21, .int x1, .int x2] [] (S0, M, N) =
  (if (M 1 6) ≤ x2 then
    some (some (.int x1), (S0, M, N))
  else
    (C d 26 [.ref 8, .int x2] S0 M N).bind fun q1 => j_oi none (fun r1 =>
    R d kX7_greatestCost 4 [.ref 21, .int (if x1 < r1 then r1 else x1), .int (x2 + 1)] [] (S0, q1.2.1, q1.2.2)) q1.1) := (R_ev d kX7_greatestCost 400 4 _ _ _).trans rfl
set_option maxRecDepth 100000 in
theorem bX8_take_0 (d : Nat)  (M : j_M) (N : j_N) : R d kX8_take 0 [.ref 27, .ref 1] [] (S0, M, N) =
  (bif (!(decide (0 < (0:Int32))) && !(decide (0 < (0:Int32))) && !(decide ((M 1 6) < (0:Int32))) && Nat.ble (0 + ((M 1 6)).toNatClampNeg) 6 && Nat.ble (0 + ((M 1 6)).toNatClampNeg) 6) && Nat.ble 0 8 then
  bif (!(decide (0 < (0:Int32))) && !(decide (0 < (0:Int32))) && !(decide ((M 1 6) < (0:Int32))) && Nat.ble (0 + ((M 1 6)).toNatClampNeg) 6 && Nat.ble (0 + ((M 1 6)).toNatClampNeg) 6) && Nat.ble 0 8 then
  some (none, (S0, (j_row (j_row (j_w (j_w (j_w (j_w M 27 5 1) 27 2 (M 1 6)) 27 3 (M 1 11)) 27 4 (M 1 10)) 28 (va_cpy ((j_w (j_w (j_w (j_w M 27 5 1) 27 2 (M 1 6)) 27 3 (M 1 11)) 27 4 (M 1 10)) 3) ((j_w (j_w (j_w (j_w M 27 5 1) 27 2 (M 1 6)) 27 3 (M 1 11)) 27 4 (M 1 10)) 28) 0 0 ((M 1 6)).toNatClampNeg)) 29 (va_cpy ((j_row (j_w (j_w (j_w (j_w M 27 5 1) 27 2 (M 1 6)) 27 3 (M 1 11)) 27 4 (M 1 10)) 28 (va_cpy ((j_w (j_w (j_w (j_w M 27 5 1) 27 2 (M 1 6)) 27 3 (M 1 11)) 27 4 (M 1 10)) 3) ((j_w (j_w (j_w (j_w M 27 5 1) 27 2 (M 1 6)) 27 3 (M 1 11)) 27 4 (M 1 10)) 28) 0 0 ((M 1 6)).toNatClampNeg)) 7) ((j_row (j_w (j_w (j_w (j_w M 27 5 1) 27 2 (M 1 6)) 27 3 (M 1 11)) 27 4 (M 1 10)) 28 (va_cpy ((j_w (j_w (j_w (j_w M 27 5 1) 27 2 (M 1 6)) 27 3 (M 1 11)) 27 4 (M 1 10)) 3) ((j_w (j_w (j_w (j_w M 27 5 1) 27 2 (M 1 6)) 27 3 (M 1 11)) 27 4 (M 1 10)) 28) 0 0 ((M 1 6)).toNatClampNeg)) 29) 0 0 ((M 1 6)).toNatClampNeg)), N)) else none else none) := (R_ev d kX8_take 400 0 _ _ _).trans rfl
set_option maxRecDepth 100000 in
theorem bX8_layBack_0 (d : Nat)  (M : j_M) (N : j_N) : R d kX8_layBack 0 [.ref 27, .ref 1] [] (S0, M, N) =
  ((C d 246 [.ref 7, .int 0] S0 (j_w (j_w M 1 11 (M 27 3)) 1 10 (M 27 4)) N).bind fun q1 => j_ov none (
  bif (!(decide (0 < (0:Int32))) && !(decide (0 < (0:Int32))) && !(decide ((q1.2.1 27 2) < (0:Int32))) && Nat.ble (0 + ((q1.2.1 27 2)).toNatClampNeg) 6 && Nat.ble (0 + ((q1.2.1 27 2)).toNatClampNeg) 6) && Nat.ble 0 8 then
  bif (!(decide (0 < (0:Int32))) && !(decide (0 < (0:Int32))) && !(decide ((q1.2.1 27 2) < (0:Int32))) && Nat.ble (0 + ((q1.2.1 27 2)).toNatClampNeg) 6 && Nat.ble (0 + ((q1.2.1 27 2)).toNatClampNeg) 6) && Nat.ble 0 8 then
  some (none, (S0, (j_row (j_row q1.2.1 3 (va_cpy (q1.2.1 28) (q1.2.1 3) 0 0 ((q1.2.1 27 2)).toNatClampNeg)) 7 (va_cpy ((j_row q1.2.1 3 (va_cpy (q1.2.1 28) (q1.2.1 3) 0 0 ((q1.2.1 27 2)).toNatClampNeg)) 29) ((j_row q1.2.1 3 (va_cpy (q1.2.1 28) (q1.2.1 3) 0 0 ((q1.2.1 27 2)).toNatClampNeg)) 7) 0 0 ((q1.2.1 27 2)).toNatClampNeg)), q1.2.2)) else none else none) q1.1) := (R_ev d kX8_layBack 400 0 _ _ _).trans rfl
set_option maxRecDepth 100000 in
theorem bX9_holdsNothing_0 (d : Nat) (a0 : Nat) (M : j_M) (N : j_N) : R d kX9_holdsNothing 0 [.ref a0] [] (S0, M, N) =
  (bif Nat.beq (j_at S0 a0).1 12 then
  if (M a0 4) = 0 then
    some (some (.int 1), (S0, M, N))
  else
    some (some (.int 0), (S0, M, N)) else none) := (R_ev d kX9_holdsNothing 400 0 _ _ _).trans rfl
set_option maxRecDepth 100000 in
theorem bX9_isRow_0 (d : Nat) (a0 : Nat) (M : j_M) (N : j_N) : R d kX9_isRow 0 [.ref a0] [] (S0, M, N) =
  (bif Nat.beq (j_at S0 a0).1 12 then
  if (M a0 4) = 2 then
    some (some (.int 1), (S0, M, N))
  else
    some (some (.int 0), (S0, M, N)) else none) := (R_ev d kX9_isRow 400 0 _ _ _).trans rfl
set_option maxRecDepth 100000 in
theorem bX9_isRowOf_0 (d : Nat) (a0 : Nat) (x1 : Int32) (M : j_M) (N : j_N) : R d kX9_isRowOf 0 [.ref a0, .int x1] [] (S0, M, N) =
  (bif Nat.beq (j_at S0 a0).1 12 then
  if (M a0 4) = 2 then
    bif Nat.beq (j_at S0 a0).1 12 then
    if (M a0 1) = x1 then
      some (some (.int 1), (S0, M, N))
    else
      some (some (.int 0), (S0, M, N)) else none
  else
    some (some (.int 0), (S0, M, N)) else none) := (R_ev d kX9_isRowOf 400 0 _ _ _).trans rfl
set_option maxRecDepth 100000 in
theorem bX9_holdHat_0 (d : Nat) (a0 : Nat) (x1 : Int32) (M : j_M) (N : j_N) : R d kX9_holdHat 0 [.ref a0, .int x1] [] (S0, M, N) =
  (if 0 ≤ x1 then
    bif Nat.beq (j_at S0 a0).1 12 then
    bif Nat.beq (j_at S0 a0).1 12 then
    bif Nat.beq (j_at S0 a0).1 12 then
    some (none, (S0, (j_w (j_w (j_w M a0 4 1) a0 3 x1) a0 2 0), N)) else none else none else none
  else
    bif Nat.beq (j_at S0 a0).1 12 then
    bif Nat.beq (j_at S0 a0).1 12 then
    bif Nat.beq (j_at S0 a0).1 12 then
    some (none, (S0, (j_w (j_w (j_w M a0 4 0) a0 3 x1) a0 2 0), N)) else none else none else none) := (R_ev d kX9_holdHat 400 0 _ _ _).trans rfl
set_option maxRecDepth 100000 in
theorem bX9_holdRow_0 (d : Nat) (a0 : Nat) (x1 : Int32) (x2 : Int32) (M : j_M) (N : j_N) : R d kX9_holdRow 0 [.ref a0, .int x1, .int x2] [] (S0, M, N) =
  (bif Nat.beq (j_at S0 a0).1 12 then
  bif Nat.beq (j_at S0 a0).1 12 then
  bif Nat.beq (j_at S0 a0).1 12 then
  bif Nat.beq (j_at S0 a0).1 12 then (bif (j_nth (j_at S0 a0).2.2 0).isSome then
  (C d 245 [.ref ((j_nth (j_at S0 a0).2.2 0).getD 0), .long 0] S0 (j_w (j_w (j_w M a0 4 2) a0 1 x1) a0 2 x2) N).bind fun q1 => j_ov none (
  some (none, (S0, q1.2.1, q1.2.2))) q1.1 else none) else none else none else none else none) := (R_ev d kX9_holdRow 400 0 _ _ _).trans rfl
set_option maxRecDepth 100000 in
theorem bX9_hasPlaces_0 (d : Nat) (a0 : Nat) (x1 : Int32) (x2 : Int32) (M : j_M) (N : j_N) : R d kX9_hasPlaces 0 [.ref a0, .int x1, .int x2] [] (S0, M, N) =
  (if x1 < 0 then
    some (some (.int 0), (S0, M, N))
  else
    if x2 < 0 then
      some (some (.int 0), (S0, M, N))
    else
      bif Nat.beq (j_at S0 a0).1 12 then
      if 0 < (lg_cmp (x1.toInt64 + x2.toInt64) (M a0 2).toInt64) then
        some (some (.int 0), (S0, M, N))
      else
        some (some (.int 1), (S0, M, N)) else none) := (R_ev d kX9_hasPlaces 400 0 _ _ _).trans rfl
set_option maxRecDepth 100000 in
theorem bX9_refusalAt_0 (d : Nat) (a0 : Nat) (x1 : Int32) (M : j_M) (N : j_N) : R d kX9_refusalAt 0 [.ref a0, .int x1] [] (S0, M, N) =
  (bif Nat.beq (j_at S0 a0).1 12 then
  if (M a0 4) = 0 then
    some (some (.int (-11)), (S0, M, N))
  else
    bif Nat.beq (j_at S0 a0).1 12 then
    if (M a0 4) = 2 then
      bif Nat.beq (j_at S0 a0).1 12 && Nat.ble 0 8 then (C d 102 [.ref a0, .int x1, .int 1] S0 M N).bind fun q1 => j_oi none (fun r1 =>
      if r1 = 0 then
        some (some (.int (-13)), (S0, q1.2.1, q1.2.2))
      else
        some (some (.int 0), (S0, q1.2.1, q1.2.2))) q1.1 else none
    else
      some (some (.int (-12)), (S0, M, N)) else none else none) := (R_ev d kX9_refusalAt 400 0 _ _ _).trans rfl
set_option maxRecDepth 100000 in
theorem bX9_get_0 (d : Nat) (a0 : Nat) (x1 : Int32) (M : j_M) (N : j_N) : R d kX9_get 0 [.ref a0, .int x1] [] (S0, M, N) =
  (bif Nat.beq (j_at S0 a0).1 12 && Nat.ble 0 8 then (C d 102 [.ref a0, .int x1, .int 1] S0 M N).bind fun q1 => j_oi none (fun r1 =>
  if r1 = 0 then
    some (some (.long 0), (S0, q1.2.1, q1.2.2))
  else
    bif Nat.beq (j_at S0 a0).1 12 then (bif (j_nth (j_at S0 a0).2.2 0).isSome then
    bif Nat.beq (j_at S0 ((j_nth (j_at S0 a0).2.2 0).getD 0)).1 1 && j_in x1 (j_at S0 ((j_nth (j_at S0 a0).2.2 0).getD 0)).2.1 then
    some (some (.long (q1.2.2 ((j_nth (j_at S0 a0).2.2 0).getD 0) (x1).toNatClampNeg)), (S0, q1.2.1, q1.2.2)) else none else none) else none) q1.1 else none) := (R_ev d kX9_get 400 0 _ _ _).trans rfl
set_option maxRecDepth 100000 in
theorem bX9_set_0 (d : Nat) (a0 : Nat) (x1 : Int32) (y2 : Int64) (M : j_M) (N : j_N) : R d kX9_set 0 [.ref a0, .int x1, .long y2, .null] [] (S0, M, N) =
  (bif Nat.beq (j_at S0 a0).1 12 && Nat.ble 0 8 then (C d 102 [.ref a0, .int x1, .int 1] S0 M N).bind fun q1 => j_oi none (fun r1 =>
  if r1 = 0 then
    some (none, (S0, q1.2.1, q1.2.2))
  else
    bif Nat.beq (j_at S0 a0).1 12 then (bif (j_nth (j_at S0 a0).2.2 0).isSome then
    bif Nat.beq (j_at S0 a0).1 12 && Nat.ble 2 8 then (C d 106 [.ref a0, .long y2] S0 q1.2.1 q1.2.2).bind fun q2 => j_ol none (fun r2 =>
    bif Nat.beq (j_at S0 ((j_nth (j_at S0 a0).2.2 0).getD 0)).1 1 && j_in x1 (j_at S0 ((j_nth (j_at S0 a0).2.2 0).getD 0)).2.1 then
    some (none, (S0, q2.2.1, (j_wl q2.2.2 ((j_nth (j_at S0 a0).2.2 0).getD 0) (x1).toNatClampNeg r2))) else none) q2.1 else none else none) else none) q1.1 else none) := (R_ev d kX9_set 400 0 _ _ _).trans rfl
set_option maxRecDepth 100000 in
theorem bX9_lowestBits_0 (d : Nat) (a0 : Nat) (y1 : Int64) (M : j_M) (N : j_N) : R d kX9_lowestBits 0 [.ref a0, .long y1, .null] [] (S0, M, N) =
  (bif Nat.beq (j_at S0 a0).1 12 then
  if (M a0 1) = 0 then
    some (some (.long y1.toInt32.toInt8.toInt32.toInt64), (S0, M, N))
  else if (M a0 1) = 1 then
    some (some (.long y1.toInt32.toInt16.toInt32.toInt64), (S0, M, N))
  else if (M a0 1) = 2 then
    some (some (.long y1.toInt32.toInt64), (S0, M, N))
  else if (M a0 1) = 3 then
    some (some (.long y1), (S0, M, N))
  else 
    if (lg_cmp y1 0) = 0 then
      some (some (.long 0), (S0, M, N))
    else
      some (some (.long 1), (S0, M, N)) else none) := (R_ev d kX9_lowestBits 400 0 _ _ _).trans rfl
end
section
/-! ===== block equations (printed by wip/whole/genblk.py) ===== -/
set_option maxRecDepth 100000 in
theorem bX10_guest_0 (d : Nat) (x1 : Int32) (M : j_M) (N : j_N) : R d kX10_guest 0 [.ref 0, .int x1] [] (S0, M, N) =
  ((C d 147 [.int x1, .int 0, .int 99] S0 M N).bind fun q1 => j_oi none (fun r1 =>
  if r1 = 0 then
    some (some (.int (-1)), (S0, q1.2.1, q1.2.2))
  else
    if (q1.2.1 1 6) < 6 then
      (C d 17 [.ref 1, .int x1, .int 0] S0 q1.2.1 q1.2.2).bind fun q2 => j_ov none (
      some (some (.int ((q2.2.1 1 6) - 1)), (S0, q2.2.1, q2.2.2))) q2.1
    else
      some (some (.int (-3)), (S0, q1.2.1, q1.2.2))) q1.1) := (R_ev d kX10_guest 400 0 _ _ _).trans rfl
set_option maxRecDepth 100000 in
theorem bX10_guests_0 (d : Nat) (x1 : Int32) (x2 : Int32) (x3 : Int32) (M : j_M) (N : j_N) : R d kX10_guests 0 [.ref 0, .int x1, .int x2, .int x3, .null, .null] [] (S0, M, N) =
  ((C d 148 [.int x1] S0 M N).bind fun q1 => j_oi none (fun r1 =>
  if r1 = 0 then
    some (some (.int (-1)), (S0, q1.2.1, q1.2.2))
  else
    (C d 147 [.int x3, .int 1, .int 6] S0 q1.2.1 q1.2.2).bind fun q2 => j_oi none (fun r2 =>
    if r2 = 0 then
      some (some (.int (-1)), (S0, q2.2.1, q2.2.2))
    else
      bif j_in x1 6 && (j_nth (j_at S0 33).2.2 (x1).toNatClampNeg).isSome then
      bif Nat.beq (j_at S0 ((j_nth (j_at S0 33).2.2 (x1).toNatClampNeg).getD 0)).1 12 && Nat.ble 0 8 then (C d 97 [.ref ((j_nth (j_at S0 33).2.2 (x1).toNatClampNeg).getD 0)] S0 q2.2.1 q2.2.2).bind fun q3 => j_oi none (fun r3 =>
      if r3 = 0 then
        bif Nat.beq (j_at S0 ((j_nth (j_at S0 33).2.2 (x1).toNatClampNeg).getD 0)).1 12 && Nat.ble 0 8 then (C d 99 [.ref ((j_nth (j_at S0 33).2.2 (x1).toNatClampNeg).getD 0), .int 0] S0 q3.2.1 q3.2.2).bind fun q4 => j_oi none (fun r4 =>
        if r4 = 0 then
          some (some (.int (-12)), (S0, q4.2.1, q4.2.2))
        else
          R d kX10_guests 52 [.ref 0, .null, .int x2, .int x3, .ref ((j_nth (j_at S0 33).2.2 (x1).toNatClampNeg).getD 0), .int 0] [] (S0, q4.2.1, q4.2.2)) q4.1 else none
      else
        some (some (.int 0), (S0, q3.2.1, q3.2.2))) q3.1 else none else none) q2.1) q1.1) := (R_ev d kX10_guests 400 0 _ _ _).trans rfl
set_option maxRecDepth 100000 in
theorem bX10_guests_52 (d : Nat) (x2 : Int32) (x3 : Int32) (a4 : Nat) (x5 : Int32) (M : j_M) (N : j_N) : R d kX10_guests 52 [.ref 0, .null, .int x2, .int x3, .ref a4, .int x5] [] (S0, M, N) =
  (if x3 ≤ x5 then
    some (some (.int x5), (S0, M, N))
  else
    (C d 149 [.ref 0, .ref a4, .long (x2.toInt64 + (2 * x5.toInt64))] S0 M N).bind fun q1 => j_oi none (fun r1 =>
    if r1 = 0 then
      some (some (.int x5), (S0, q1.2.1, q1.2.2))
    else
      R d kX10_guests 52 [.ref 0, .null, .int x2, .int x3, .ref a4, .int (x5 + 1)] [] (S0, q1.2.1, q1.2.2)) q1.1) := (R_ev d kX10_guests 400 52 _ _ _).trans rfl
set_option maxRecDepth 100000 in
theorem bX10_mend_0 (d : Nat) (x1 : Int32) (x2 : Int32) (x3 : Int32) (M : j_M) (N : j_N) : R d kX10_mend 0 [.ref 0, .int x1, .int x2, .int x3, .null] [] (S0, M, N) =
  ((C d 18 [.ref 1, .int x1, .int x2, .int x3] S0 M N).bind fun q1 => j_oi none (fun r1 =>
  if r1 = 0 then
    some (some (.int (-1)), (S0, q1.2.1, q1.2.2))
  else
    (C d 19 [.ref 1, .int x1, .int x2] S0 q1.2.1 q1.2.2).bind fun q2 => j_oi none (fun r2 =>
    if r2 = x3 then
      some (some (.int r2), (S0, q2.2.1, q2.2.2))
    else
      (C d 20 [.ref 1, .int x1, .int x2, .int x3] S0 q2.2.1 q2.2.2).bind fun q3 => j_ov none (
      (C d 11 [.ref 22, .int x1, .int x2, .int r2, .int x3] S0 q3.2.1 q3.2.2).bind fun q4 => j_ov none (
      some (some (.int r2), (S0, q4.2.1, q4.2.2))) q4.1) q3.1) q2.1) q1.1) := (R_ev d kX10_mend 400 0 _ _ _).trans rfl
set_option maxRecDepth 100000 in
theorem bX10_of_0 (d : Nat) (x1 : Int32) (x2 : Int32) (M : j_M) (N : j_N) : R d kX10_of 0 [.ref 0, .int x1, .int x2] [] (S0, M, N) =
  (if x2 < 10 then
    (C d 16 [.ref 1, .int x1] S0 M N).bind fun q1 => j_oi none (fun r1 =>
    if r1 = 0 then
      some (some (.int (-2000000000)), (S0, q1.2.1, q1.2.2))
    else
      (C d 150 [.ref 0, .int x1, .int x2] S0 q1.2.1 q1.2.2).bind fun q2 => j_oi none (fun r2 =>
      some (some (.int r2), (S0, q2.2.1, q2.2.2))) q2.1) q1.1
  else
    if x1 = 0 then
      (C d 151 [.ref 0, .int x2] S0 M N).bind fun q3 => j_oi none (fun r3 =>
      some (some (.int r3), (S0, q3.2.1, q3.2.2))) q3.1
    else
      some (some (.int (-2000000000)), (S0, M, N))) := (R_ev d kX10_of 400 0 _ _ _).trans rfl
set_option maxRecDepth 100000 in
theorem bX10_think_0 (d : Nat) (x1 : Int32) (x2 : Int32) (M : j_M) (N : j_N) : R d kX10_think 0 [.ref 0, .int x1, .int x2, .null] [] (S0, M, N) =
  ((C d 16 [.ref 1, .int x1] S0 M N).bind fun q1 => j_oi none (fun r1 =>
  if r1 = 0 then
    some (some (.int (-2000000000)), (S0, q1.2.1, q1.2.2))
  else
    (C d 147 [.int x2, .int (-1), .int 599] S0 q1.2.1 q1.2.2).bind fun q2 => j_oi none (fun r2 =>
    if r2 = 0 then
      some (some (.int (-2000000000)), (S0, q2.2.1, q2.2.2))
    else
      bif j_in x1 6 then
      bif j_in x1 6 then
      some (some (.int (q2.2.1 6 (x1).toNatClampNeg)), (S0, (j_w q2.2.1 6 (x1).toNatClampNeg x2), q2.2.2)) else none else none) q2.1) q1.1) := (R_ev d kX10_think 400 0 _ _ _).trans rfl
set_option maxRecDepth 100000 in
theorem bX10_feed_0 (d : Nat) (x1 : Int32) (M : j_M) (N : j_N) : R d kX10_feed 0 [.ref 0, .int x1] [] (S0, M, N) =
  ((C d 147 [.int x1, .int 0, .int 255] S0 M N).bind fun q1 => j_oi none (fun r1 =>
  if r1 = 0 then
    some (some (.int (-1)), (S0, q1.2.1, q1.2.2))
  else
    (C d 33 [.ref 16, .int x1] S0 q1.2.1 q1.2.2).bind fun q2 => j_oi none (fun r2 =>
    some (some (.int r2), (S0, q2.2.1, q2.2.2))) q2.1) q1.1) := (R_ev d kX10_feed 400 0 _ _ _).trans rfl
set_option maxRecDepth 100000 in
theorem bX10_law_0 (d : Nat)  (M : j_M) (N : j_N) : R d kX10_law 0 [.ref 0] [] (S0, M, N) =
  ((C d 34 [.ref 16] S0 M N).bind fun q1 => j_oi none (fun r1 =>
  some (some (.int r1), (S0, q1.2.1, q1.2.2))) q1.1) := (R_ev d kX10_law 400 0 _ _ _).trans rfl
set_option maxRecDepth 100000 in
theorem bX10_putIn_0 (d : Nat) (x1 : Int32) (x2 : Int32) (M : j_M) (N : j_N) : R d kX10_putIn 0 [.ref 0, .int x1, .int x2] [] (S0, M, N) =
  ((C d 16 [.ref 1, .int x1] S0 M N).bind fun q1 => j_oi none (fun r1 =>
  if r1 = 0 then
    some (some (.int (-2000000000)), (S0, q1.2.1, q1.2.2))
  else
    (C d 147 [.int x2, .int 0, .int 1] S0 q1.2.1 q1.2.2).bind fun q2 => j_oi none (fun r2 =>
    if r2 = 0 then
      some (some (.int (-2000000000)), (S0, q2.2.1, q2.2.2))
    else
      (C d 22 [.ref 8, .ref 1] S0 q2.2.1 q2.2.2).bind fun q3 => j_ov none (
      (C d 71 [.ref 10, .int x1] S0 q3.2.1 q3.2.2).bind fun q4 => j_ov none (
      if x2 = 0 then
        some (some (.int (q4.2.1 10 3)), (S0, q4.2.1, q4.2.2))
      else
        some (some (.int (q4.2.1 10 4)), (S0, q4.2.1, q4.2.2))) q4.1) q3.1) q2.1) q1.1) := (R_ev d kX10_putIn 400 0 _ _ _).trans rfl
set_option maxRecDepth 100000 in
theorem bX10_mean_0 (d : Nat) (x1 : Int32) (x2 : Int32) (x3 : Int32) (M : j_M) (N : j_N) : R d kX10_mean 0 [.ref 0, .int x1, .int x2, .int x3] [] (S0, M, N) =
  ((C d 16 [.ref 1, .int x1] S0 M N).bind fun q1 => j_oi none (fun r1 =>
  if r1 = 0 then
    some (some (.long (-9223372036854775808)), (S0, q1.2.1, q1.2.2))
  else
    bif j_in x1 6 then
    (C d 147 [.int x2, .int 0, .int (q1.2.1 2 (x1).toNatClampNeg)] S0 q1.2.1 q1.2.2).bind fun q2 => j_oi none (fun r2 =>
    if r2 = 0 then
      some (some (.long (-9223372036854775808)), (S0, q2.2.1, q2.2.2))
    else
      (C d 147 [.int x3, .int 0, .int 1] S0 q2.2.1 q2.2.2).bind fun q3 => j_oi none (fun r3 =>
      if r3 = 0 then
        some (some (.long (-9223372036854775808)), (S0, q3.2.1, q3.2.2))
      else
        (C d 83 [.ref 10, .int x1, .int x2] S0 q3.2.1 q3.2.2).bind fun q4 => j_ol none (fun r4 =>
        (C d 82 [.ref 10] S0 q4.2.1 q4.2.2).bind fun q5 => j_ol none (fun r5 =>
        (C d 154 [.long r4, .long r5, .int x3] S0 q5.2.1 q5.2.2).bind fun q6 => j_ol none (fun r6 =>
        some (some (.long r6), (S0, q6.2.1, q6.2.2))) q6.1) q5.1) q4.1) q3.1) q2.1 else none) q1.1) := (R_ev d kX10_mean 400 0 _ _ _).trans rfl
set_option maxRecDepth 100000 in
theorem bX10_bestMean_0 (d : Nat) (x1 : Int32) (M : j_M) (N : j_N) : R d kX10_bestMean 0 [.ref 0, .int x1] [] (S0, M, N) =
  ((C d 16 [.ref 1, .int x1] S0 M N).bind fun q1 => j_oi none (fun r1 =>
  if r1 = 0 then
    some (some (.int (-1)), (S0, q1.2.1, q1.2.2))
  else
    (C d 85 [.ref 10, .int x1] S0 q1.2.1 q1.2.2).bind fun q2 => j_oi none (fun r2 =>
    some (some (.int r2), (S0, q2.2.1, q2.2.2))) q2.1) q1.1) := (R_ev d kX10_bestMean 400 0 _ _ _).trans rfl
set_option maxRecDepth 100000 in
theorem bX10_rest_0 (d : Nat) (x1 : Int32) (M : j_M) (N : j_N) : R d kX10_rest 0 [.ref 0, .int x1, .null] [] (S0, M, N) =
  ((C d 147 [.int x1, .int 0, .int 1] S0 M N).bind fun q1 => j_oi none (fun r1 =>
  if r1 = 0 then
    some (some (.int (-1)), (S0, q1.2.1, q1.2.2))
  else
    (C d 22 [.ref 8, .ref 1] S0 q1.2.1 q1.2.2).bind fun q2 => j_ov none (
    (C d 73 [.ref 10] S0 q2.2.1 q2.2.2).bind fun q3 => j_oi none (fun r3 =>
    if x1 = 1 then
      some (some (.int r3), (S0, q3.2.1, q3.2.2))
    else
      if r3 = (-2) then
        some (some (.int 1), (S0, q3.2.1, q3.2.2))
      else
        some (some (.int 0), (S0, q3.2.1, q3.2.2))) q3.1) q2.1) q1.1) := (R_ev d kX10_rest 400 0 _ _ _).trans rfl
set_option maxRecDepth 100000 in
theorem bX10_rests_0 (d : Nat) (x1 : Int32) (M : j_M) (N : j_N) : R d kX10_rests 0 [.ref 0, .int x1, .null] [] (S0, M, N) =
  (if x1 = (-1) then
    (C d 76 [.ref 10] S0 M N).bind fun q1 => j_oi none (fun r1 =>
    if r1 = 0 then
      some (some (.int (-5)), (S0, q1.2.1, q1.2.2))
    else
      (C d 77 [.ref 10] S0 q1.2.1 q1.2.2).bind fun q2 => j_oi none (fun r2 =>
      if x1 = (-1) then
        some (some (.int r2), (S0, q2.2.1, q2.2.2))
      else
        if r2 = 0 then
          some (some (.int (-2)), (S0, q2.2.1, q2.2.2))
        else
          bif j_in x1 6 then
          some (some (.int (q2.2.1 11 (x1).toNatClampNeg)), (S0, q2.2.1, q2.2.2)) else none) q2.1) q1.1
  else
    (C d 16 [.ref 1, .int x1] S0 M N).bind fun q3 => j_oi none (fun r3 =>
    if r3 = 0 then
      some (some (.int (-1)), (S0, q3.2.1, q3.2.2))
    else
      (C d 76 [.ref 10] S0 q3.2.1 q3.2.2).bind fun q4 => j_oi none (fun r4 =>
      if r4 = 0 then
        some (some (.int (-5)), (S0, q4.2.1, q4.2.2))
      else
        (C d 77 [.ref 10] S0 q4.2.1 q4.2.2).bind fun q5 => j_oi none (fun r5 =>
        if x1 = (-1) then
          some (some (.int r5), (S0, q5.2.1, q5.2.2))
        else
          if r5 = 0 then
            some (some (.int (-2)), (S0, q5.2.1, q5.2.2))
          else
            bif j_in x1 6 then
            some (some (.int (q5.2.1 11 (x1).toNatClampNeg)), (S0, q5.2.1, q5.2.2)) else none) q5.1) q4.1) q3.1) := (R_ev d kX10_rests 400 0 _ _ _).trans rfl
set_option maxRecDepth 100000 in
theorem bX10_turns_0 (d : Nat) (x1 : Int32) (M : j_M) (N : j_N) : R d kX10_turns 0 [.ref 0, .int x1, .null] [] (S0, M, N) =
  (if x1 = (-1) then
    (C d 79 [.ref 10] S0 M N).bind fun q1 => j_oi none (fun r1 =>
    if x1 = (-1) then
      some (some (.int r1), (S0, q1.2.1, q1.2.2))
    else
      bif j_in x1 7 then
      some (some (.int (q1.2.1 9 (x1).toNatClampNeg)), (S0, q1.2.1, q1.2.2)) else none) q1.1
  else
    (C d 16 [.ref 1, .int x1] S0 M N).bind fun q2 => j_oi none (fun r2 =>
    if r2 = 0 then
      some (some (.int (-1)), (S0, q2.2.1, q2.2.2))
    else
      (C d 79 [.ref 10] S0 q2.2.1 q2.2.2).bind fun q3 => j_oi none (fun r3 =>
      if x1 = (-1) then
        some (some (.int r3), (S0, q3.2.1, q3.2.2))
      else
        bif j_in x1 7 then
        some (some (.int (q3.2.1 9 (x1).toNatClampNeg)), (S0, q3.2.1, q3.2.2)) else none) q3.1) q2.1) := (R_ev d kX10_turns 400 0 _ _ _).trans rfl
set_option maxRecDepth 100000 in
theorem bX10_agree_0 (d : Nat) (x1 : Int32) (x2 : Int32) (M : j_M) (N : j_N) : R d kX10_agree 0 [.ref 0, .int x1, .int x2, .null, .null] [] (S0, M, N) =
  ((C d 16 [.ref 1, .int (x1 / 10)] S0 M N).bind fun q1 => j_oi none (fun r1 =>
  if r1 = 0 then
    some (some (.int (-2000000000)), (S0, q1.2.1, q1.2.2))
  else
    (C d 16 [.ref 1, .int (x1 - x1 / 10 * 10)] S0 q1.2.1 q1.2.2).bind fun q2 => j_oi none (fun r2 =>
    if r2 = 0 then
      some (some (.int (-2000000000)), (S0, q2.2.1, q2.2.2))
    else
      if (x1 / 10) < (x1 - x1 / 10 * 10) then
        (C d 147 [.int x2, .int 0, .int 3] S0 q2.2.1 q2.2.2).bind fun q3 => j_oi none (fun r3 =>
        if r3 = 0 then
          some (some (.int (-2000000000)), (S0, q3.2.1, q3.2.2))
        else
          (C d 80 [.ref 10, .int (x1 / 10), .int (x1 - x1 / 10 * 10)] S0 q3.2.1 q3.2.2).bind fun q4 => j_ov none (
          if x2 = 0 then
            some (some (.int (q4.2.1 10 4)), (S0, q4.2.1, q4.2.2))
          else if x2 = 1 then
            some (some (.int (q4.2.1 10 3)), (S0, q4.2.1, q4.2.2))
          else if x2 = 2 then
            some (some (.int (q4.2.1 10 5)), (S0, q4.2.1, q4.2.2))
          else 
            (C d 81 [.ref 10, .int (x1 / 10), .int (x1 - x1 / 10 * 10)] S0 q4.2.1 q4.2.2).bind fun q5 => j_oi none (fun r5 =>
            some (some (.int r5), (S0, q5.2.1, q5.2.2))) q5.1) q4.1) q3.1
      else
        some (some (.int (-2000000000)), (S0, q2.2.1, q2.2.2))) q2.1) q1.1) := (R_ev d kX10_agree 400 0 _ _ _).trans rfl
set_option maxRecDepth 100000 in
theorem bX10_dish_0 (d : Nat) (x1 : Int32) (M : j_M) (N : j_N) : R d kX10_dish 0 [.ref 0, .int x1] [] (S0, M, N) =
  ((C d 147 [.int x1, .int 0, .int 99] S0 M N).bind fun q1 => j_oi none (fun r1 =>
  if r1 = 0 then
    some (some (.int (-1)), (S0, q1.2.1, q1.2.2))
  else
    (C d 63 [.ref 12, .int x1] S0 q1.2.1 q1.2.2).bind fun q2 => j_oi none (fun r2 =>
    some (some (.int r2), (S0, q2.2.1, q2.2.2))) q2.1) q1.1) := (R_ev d kX10_dish 400 0 _ _ _).trans rfl
set_option maxRecDepth 100000 in
theorem bX10_joy_0 (d : Nat) (x1 : Int32) (x2 : Int32) (M : j_M) (N : j_N) : R d kX10_joy 0 [.ref 0, .int x1, .int x2, .null, .null] [] (S0, M, N) =
  ((C d 16 [.ref 1, .int (x1 / 10)] S0 M N).bind fun q1 => j_oi none (fun r1 =>
  if r1 = 0 then
    some (some (.int (-1)), (S0, q1.2.1, q1.2.2))
  else
    (C d 62 [.ref 12, .int (x1 - x1 / 10 * 10)] S0 q1.2.1 q1.2.2).bind fun q2 => j_oi none (fun r2 =>
    if r2 = 0 then
      some (some (.int (-1)), (S0, q2.2.1, q2.2.2))
    else
      (C d 147 [.int x2, .int 0, .int 99] S0 q2.2.1 q2.2.2).bind fun q3 => j_oi none (fun r3 =>
      if r3 = 0 then
        some (some (.int (-1)), (S0, q3.2.1, q3.2.2))
      else
        (C d 64 [.ref 12, .int (x1 / 10), .int (x1 - x1 / 10 * 10), .int x2] S0 q3.2.1 q3.2.2).bind fun q4 => j_oi none (fun r4 =>
        some (some (.int r4), (S0, q4.2.1, q4.2.2))) q4.1) q3.1) q2.1) q1.1) := (R_ev d kX10_joy 400 0 _ _ _).trans rfl
set_option maxRecDepth 100000 in
theorem bX10_ordered_0 (d : Nat) (x1 : Int32) (x2 : Int32) (M : j_M) (N : j_N) : R d kX10_ordered 0 [.ref 0, .int x1, .int x2, .null] [] (S0, M, N) =
  ((C d 16 [.ref 1, .int x1] S0 M N).bind fun q1 => j_oi none (fun r1 =>
  if r1 = 0 then
    some (some (.int (-2000000000)), (S0, q1.2.1, q1.2.2))
  else
    (C d 147 [.int x2, .int 0, .int 2] S0 q1.2.1 q1.2.2).bind fun q2 => j_oi none (fun r2 =>
    if r2 = 0 then
      some (some (.int (-2000000000)), (S0, q2.2.1, q2.2.2))
    else
      if x2 = 2 then
        if x1 = 0 then
          R d kX10_ordered 32 [.ref 0, .int x1, .int x2, .null] [] (S0, q2.2.1, q2.2.2)
        else
          some (some (.int (-2000000000)), (S0, q2.2.1, q2.2.2))
      else
        R d kX10_ordered 32 [.ref 0, .int x1, .int x2, .null] [] (S0, q2.2.1, q2.2.2)) q2.1) q1.1) := (R_ev d kX10_ordered 400 0 _ _ _).trans rfl
set_option maxRecDepth 100000 in
theorem bX10_ordered_32 (d : Nat) (x1 : Int32) (x2 : Int32) (M : j_M) (N : j_N) : R d kX10_ordered 32 [.ref 0, .int x1, .int x2, .null] [] (S0, M, N) =
  ((C d 65 [.ref 12] S0 M N).bind fun q1 => j_oi none (fun r1 =>
  if x2 = 0 then
    bif j_in x1 6 then
    if 0 ≤ (q1.2.1 15 (x1).toNatClampNeg) then
      bif j_in x1 6 then
      some (some (.int (q1.2.1 15 (x1).toNatClampNeg)), (S0, q1.2.1, q1.2.2)) else none
    else
      some (some (.int (-2)), (S0, q1.2.1, q1.2.2)) else none
  else if x2 = 1 then
    bif j_in x1 6 then
    (C d 68 [.ref 12, .int x1, .int (q1.2.1 15 (x1).toNatClampNeg), .int r1] S0 q1.2.1 q1.2.2).bind fun q2 => j_oi none (fun r2 =>
    some (some (.int r2), (S0, q2.2.1, q2.2.2))) q2.1 else none
  else 
    some (some (.int r1), (S0, q1.2.1, q1.2.2))) q1.1) := (R_ev d kX10_ordered 400 32 _ _ _).trans rfl
set_option maxRecDepth 100000 in
theorem bX10_thought_0 (d : Nat) (x1 : Int32) (x2 : Int32) (x3 : Int32) (M : j_M) (N : j_N) : R d kX10_thought 0 [.ref 0, .int x1, .int x2, .int x3, .null, .null] [] (S0, M, N) =
  ((C d 16 [.ref 1, .int x1] S0 M N).bind fun q1 => j_oi none (fun r1 =>
  if r1 = 0 then
    some (some (.int (-1)), (S0, q1.2.1, q1.2.2))
  else
    (C d 147 [.int x2, .int 0, .int 99] S0 q1.2.1 q1.2.2).bind fun q2 => j_oi none (fun r2 =>
    if r2 = 0 then
      some (some (.int (-1)), (S0, q2.2.1, q2.2.2))
    else
      (C d 147 [.int x3, .int 0, .int 1] S0 q2.2.1 q2.2.2).bind fun q3 => j_oi none (fun r3 =>
      if r3 = 0 then
        some (some (.int (-1)), (S0, q3.2.1, q3.2.2))
      else
        R d kX10_thought 35 [.ref 0, .int x1, .int x2, .int x3, .int 0, .null] [] (S0, q3.2.1, q3.2.2)) q3.1) q2.1) q1.1) := (R_ev d kX10_thought 400 0 _ _ _).trans rfl
set_option maxRecDepth 100000 in
theorem bX10_thought_35 (d : Nat) (x1 : Int32) (x2 : Int32) (x3 : Int32) (x4 : Int32) (M : j_M) (N : j_N) : R d kX10_thought 35 [.ref 0, .int x1, .int x2, .int x3, .int x4, .null] [] (S0, M, N) =
  (if 599 < x4 then
    some (some (.int (-2)), (S0, M, N))
  else
    if x3 = 0 then
      (C d 52 [.ref 16, .ref 1, .int x1, .int x4] S0 M N).bind fun q2 => j_oi none (fun r2 =>
      if r2 = x2 then
        some (some (.int x4), (S0, q2.2.1, q2.2.2))
      else
        R d kX10_thought 35 [.ref 0, .int x1, .int x2, .int x3, .int (x4 + 1), .null] [] (S0, q2.2.1, q2.2.2)) q2.1
    else
      (C d 52 [.ref 16, .ref 1, .int x1, .int (599 - x4)] S0 M N).bind fun q1 => j_oi none (fun r1 =>
      if r1 = x2 then
        some (some (.int (599 - x4)), (S0, q1.2.1, q1.2.2))
      else
        R d kX10_thought 35 [.ref 0, .int x1, .int x2, .int x3, .int (x4 + 1), .null] [] (S0, q1.2.1, q1.2.2)) q1.1) := (R_ev d kX10_thought 400 35 _ _ _).trans rfl
set_option maxRecDepth 100000 in
theorem bX10_given_0 (d : Nat) (x1 : Int32) (M : j_M) (N : j_N) : R d kX10_given 0 [.ref 0, .int x1, .null, .null] [] (S0, M, N) =
  (if x1 = (-1) then
    R d kX10_given 30 [.ref 0, .null, .int 0, .int 0] [] (S0, M, N)
  else
    (C d 16 [.ref 1, .int x1] S0 M N).bind fun q1 => j_oi none (fun r1 =>
    if r1 = 0 then
      some (some (.int (-1)), (S0, q1.2.1, q1.2.2))
    else
      (C d 152 [.ref 0, .int x1] S0 q1.2.1 q1.2.2).bind fun q2 => j_oi none (fun r2 =>
      some (some (.int r2), (S0, q2.2.1, q2.2.2))) q2.1) q1.1) := (R_ev d kX10_given 400 0 _ _ _).trans rfl
set_option maxRecDepth 100000 in
theorem bX10_given_30 (d : Nat) (x2 : Int32) (x3 : Int32) (M : j_M) (N : j_N) : R d kX10_given 30 [.ref 0, .null, .int x2, .int x3] [] (S0, M, N) =
  (if (M 1 6) ≤ x3 then
    some (some (.int x2), (S0, M, N))
  else
    (C d 152 [.ref 0, .int x3] S0 M N).bind fun q1 => j_oi none (fun r1 =>
    R d kX10_given 30 [.ref 0, .null, .int (x2 + r1), .int (x3 + 1)] [] (S0, q1.2.1, q1.2.2)) q1.1) := (R_ev d kX10_given 400 30 _ _ _).trans rfl
set_option maxRecDepth 100000 in
theorem bX10_stranger_0 (d : Nat) (x1 : Int32) (x2 : Int32) (x3 : Int32) (M : j_M) (N : j_N) : R d kX10_stranger 0 [.ref 0, .int x1, .int x2, .int x3, .null, .null, .null, .null, .null] [] (S0, M, N) =
  ((C d 16 [.ref 1, .int x1] S0 M N).bind fun q1 => j_oi none (fun r1 =>
  if r1 = 0 then
    some (some (.long (-9223372036854775808)), (S0, q1.2.1, q1.2.2))
  else
    (C d 147 [.int x2, .int 0, .int 1299] S0 q1.2.1 q1.2.2).bind fun q2 => j_oi none (fun r2 =>
    if r2 = 0 then
      some (some (.long (-9223372036854775808)), (S0, q2.2.1, q2.2.2))
    else
      (C d 147 [.int x3, .int 0, .int 1] S0 q2.2.1 q2.2.2).bind fun q3 => j_oi none (fun r3 =>
      if r3 = 0 then
        some (some (.long (-9223372036854775808)), (S0, q3.2.1, q3.2.2))
      else
        (C d 22 [.ref 8, .ref 1] S0 q3.2.1 q3.2.2).bind fun q4 => j_ov none (
        (C d 26 [.ref 8, .int x1] S0 q4.2.1 q4.2.2).bind fun q5 => j_oi none (fun r5 =>
        (C d 23 [.ref 8, .int (x2 - x2 / 100 * 100)] S0 q5.2.1 q5.2.2).bind fun q6 => j_ov none (
        (C d 26 [.ref 8, .int x1] S0 q6.2.1 q6.2.2).bind fun q7 => j_oi none (fun r7 =>
        (C d 154 [.long (((x2 / 100).toInt64 * r7.toInt64) + ((12 - (x2 / 100)).toInt64 * r5.toInt64)), .long 12, .int x3] S0 q7.2.1 q7.2.2).bind fun q8 => j_ol none (fun r8 =>
        some (some (.long r8), (S0, q8.2.1, q8.2.2))) q8.1) q7.1) q6.1) q5.1) q4.1) q3.1) q2.1) q1.1) := (R_ev d kX10_stranger 400 0 _ _ _).trans rfl
set_option maxRecDepth 100000 in
theorem bX10_night_0 (d : Nat)  (M : j_M) (N : j_N) : R d kX10_night 0 [.ref 0] [] (S0, M, N) =
  (if (M 1 6) = 0 then
    some (some (.int (-5)), (S0, M, N))
  else
    (C d 87 [.ref 21] S0 M N).bind fun q1 => j_oi none (fun r1 =>
    some (some (.int r1), (S0, q1.2.1, q1.2.2))) q1.1) := (R_ev d kX10_night 400 0 _ _ _).trans rfl
set_option maxRecDepth 100000 in
theorem bX10_drawn_0 (d : Nat) (x1 : Int32) (x2 : Int32) (x3 : Int32) (x4 : Int32) (M : j_M) (N : j_N) : R d kX10_drawn 0 [.ref 0, .int x1, .int x2, .int x3, .int x4] [] (S0, M, N) =
  ((C d 147 [.int x2, .int 1, .int 50] S0 M N).bind fun q1 => j_oi none (fun r1 =>
  if r1 = 0 then
    some (some (.int (-2000000000)), (S0, q1.2.1, q1.2.2))
  else
    (C d 16 [.ref 1, .int x3] S0 q1.2.1 q1.2.2).bind fun q2 => j_oi none (fun r2 =>
    if r2 = 0 then
      some (some (.int (-2000000000)), (S0, q2.2.1, q2.2.2))
    else
      (C d 147 [.int x4, .int 0, .int 1] S0 q2.2.1 q2.2.2).bind fun q3 => j_oi none (fun r3 =>
      if r3 = 0 then
        some (some (.int (-2000000000)), (S0, q3.2.1, q3.2.2))
      else
        (C d 88 [.ref 21, .int x1, .int x2, .int x3] S0 q3.2.1 q3.2.2).bind fun q4 => j_ov none (
        if x4 = 0 then
          some (some (.int (q4.2.1 21 2)), (S0, q4.2.1, q4.2.2))
        else
          some (some (.int (q4.2.1 21 3)), (S0, q4.2.1, q4.2.2))) q4.1) q3.1) q2.1) q1.1) := (R_ev d kX10_drawn 400 0 _ _ _).trans rfl
set_option maxRecDepth 100000 in
theorem bX10_judge_0 (d : Nat) (x1 : Int32) (M : j_M) (N : j_N) : R d kX10_judge 0 [.ref 0, .int x1, .null] [] (S0, M, N) =
  ((C d 153 [.ref 0, .int x1] S0 M N).bind fun q1 => j_oi none (fun r1 =>
  if r1 = 0 then
    bif j_in x1 6 && (j_nth (j_at S0 33).2.2 (x1).toNatClampNeg).isSome then
    (C d 89 [.ref 21, .ref ((j_nth (j_at S0 33).2.2 (x1).toNatClampNeg).getD 0), .int (q1.2.1 1 8)] S0 q1.2.1 q1.2.2).bind fun q2 => j_oi none (fun r2 =>
    some (some (.int r2), (S0, q2.2.1, q2.2.2))) q2.1 else none
  else
    some (some (.int r1), (S0, q1.2.1, q1.2.2))) q1.1) := (R_ev d kX10_judge 400 0 _ _ _).trans rfl
set_option maxRecDepth 100000 in
theorem bX10_fits_0 (d : Nat) (x1 : Int32) (M : j_M) (N : j_N) : R d kX10_fits 0 [.ref 0, .int x1, .null] [] (S0, M, N) =
  ((C d 153 [.ref 0, .int x1] S0 M N).bind fun q1 => j_oi none (fun r1 =>
  if r1 = 0 then
    bif j_in x1 6 && (j_nth (j_at S0 33).2.2 (x1).toNatClampNeg).isSome then
    (C d 90 [.ref 21, .ref ((j_nth (j_at S0 33).2.2 (x1).toNatClampNeg).getD 0)] S0 q1.2.1 q1.2.2).bind fun q2 => j_oi none (fun r2 =>
    some (some (.int r2), (S0, q2.2.1, q2.2.2))) q2.1 else none
  else
    some (some (.int r1), (S0, q1.2.1, q1.2.2))) q1.1) := (R_ev d kX10_fits 400 0 _ _ _).trans rfl
set_option maxRecDepth 100000 in
theorem bX10_fair_0 (d : Nat) (x1 : Int32) (M : j_M) (N : j_N) : R d kX10_fair 0 [.ref 0, .int x1] [] (S0, M, N) =
  ((C d 147 [.int x1, .int 0, .int 1] S0 M N).bind fun q1 => j_oi none (fun r1 =>
  if r1 = 0 then
    some (some (.int (-2000000000)), (S0, q1.2.1, q1.2.2))
  else
    if (q1.2.1 1 6) = 0 then
      some (some (.int (-5)), (S0, q1.2.1, q1.2.2))
    else
      (C d 91 [.ref 21] S0 q1.2.1 q1.2.2).bind fun q2 => j_ov none (
      if x1 = 0 then
        some (some (.int (q2.2.1 21 4)), (S0, q2.2.1, q2.2.2))
      else
        some (some (.int (q2.2.1 21 5)), (S0, q2.2.1, q2.2.2))) q2.1) q1.1) := (R_ev d kX10_fair 400 0 _ _ _).trans rfl
set_option maxRecDepth 100000 in
theorem bX10_image_0 (d : Nat)  (M : j_M) (N : j_N) : R d kX10_image 0 [.ref 0] [] (S0, M, N) =
  ((C d 94 [.ref 27, .ref 1] S0 M N).bind fun q1 => j_ov none (
  some (some (.int (q1.2.1 1 11)), (S0, q1.2.1, q1.2.2))) q1.1) := (R_ev d kX10_image 400 0 _ _ _).trans rfl
set_option maxRecDepth 100000 in
theorem bX10_back_0 (d : Nat)  (M : j_M) (N : j_N) : R d kX10_back 0 [.ref 0] [] (S0, M, N) =
  (if (M 27 5) = 0 then
    some (some (.int (-5)), (S0, M, N))
  else
    (C d 95 [.ref 27, .ref 1] S0 M N).bind fun q1 => j_ov none (
    some (some (.int (q1.2.1 1 11)), (S0, q1.2.1, q1.2.2))) q1.1) := (R_ev d kX10_back 400 0 _ _ _).trans rfl
set_option maxRecDepth 100000 in
theorem bX10_undo_0 (d : Nat)  (M : j_M) (N : j_N) : R d kX10_undo 0 [.ref 0] [] (S0, M, N) =
  ((C d 13 [.ref 22, .ref 1] S0 M N).bind fun q1 => j_oi none (fun r1 =>
  some (some (.int r1), (S0, q1.2.1, q1.2.2))) q1.1) := (R_ev d kX10_undo 400 0 _ _ _).trans rfl
set_option maxRecDepth 100000 in
theorem bX10_redo_0 (d : Nat)  (M : j_M) (N : j_N) : R d kX10_redo 0 [.ref 0] [] (S0, M, N) =
  ((C d 14 [.ref 22, .ref 1] S0 M N).bind fun q1 => j_oi none (fun r1 =>
  some (some (.int r1), (S0, q1.2.1, q1.2.2))) q1.1) := (R_ev d kX10_redo 400 0 _ _ _).trans rfl
set_option maxRecDepth 100000 in
theorem bX10_body_0 (d : Nat) (x1 : Int32) (M : j_M) (N : j_N) : R d kX10_body 0 [.ref 0, .int x1] [] (S0, M, N) =
  ((C d 147 [.int x1, .int 0, .int 7] S0 M N).bind fun q1 => j_oi none (fun r1 =>
  if r1 = 0 then
    some (some (.int (-1)), (S0, q1.2.1, q1.2.2))
  else
    (C d 3 [.ref 30, .int x1] S0 q1.2.1 q1.2.2).bind fun q2 => j_oi none (fun r2 =>
    some (some (.int r2), (S0, q2.2.1, q2.2.2))) q2.1) q1.1) := (R_ev d kX10_body 400 0 _ _ _).trans rfl
set_option maxRecDepth 100000 in
theorem bX10_act_0 (d : Nat) (x1 : Int32) (x2 : Int32) (x3 : Int32) (M : j_M) (N : j_N) : R d kX10_act 0 [.ref 0, .int x1, .int x2, .int x3] [] (S0, M, N) =
  ((C d 6 [.ref 30, .int x1, .int x2, .int x3] S0 M N).bind fun q1 => j_oi none (fun r1 =>
  some (some (.int r1), (S0, q1.2.1, q1.2.2))) q1.1) := (R_ev d kX10_act 400 0 _ _ _).trans rfl
set_option maxRecDepth 100000 in
theorem bX10_trace_0 (d : Nat) (x1 : Int32) (M : j_M) (N : j_N) : R d kX10_trace 0 [.ref 0, .int x1] [] (S0, M, N) =
  ((C d 5 [.ref 30, .int x1] S0 M N).bind fun q1 => j_oi none (fun r1 =>
  some (some (.int r1), (S0, q1.2.1, q1.2.2))) q1.1) := (R_ev d kX10_trace 400 0 _ _ _).trans rfl
set_option maxRecDepth 100000 in
theorem bX10_keep_0 (d : Nat) (x1 : Int32) (x2 : Int32) (M : j_M) (N : j_N) : R d kX10_keep 0 [.ref 0, .int x1, .int x2] [] (S0, M, N) =
  ((C d 148 [.int x1] S0 M N).bind fun q1 => j_oi none (fun r1 =>
  if r1 = 0 then
    some (some (.int (-1)), (S0, q1.2.1, q1.2.2))
  else
    if x2 = (-1) then
      bif j_in x1 6 && (j_nth (j_at S0 33).2.2 (x1).toNatClampNeg).isSome then
      bif Nat.beq (j_at S0 ((j_nth (j_at S0 33).2.2 (x1).toNatClampNeg).getD 0)).1 12 && Nat.ble 0 8 then (C d 100 [.ref ((j_nth (j_at S0 33).2.2 (x1).toNatClampNeg).getD 0), .int x2] S0 q1.2.1 q1.2.2).bind fun q2 => j_ov none (
      some (some (.int 1), (S0, q2.2.1, q2.2.2))) q2.1 else none else none
    else
      (C d 1 [.ref 30, .int x2] S0 q1.2.1 q1.2.2).bind fun q3 => j_oi none (fun r3 =>
      if r3 = 0 then
        some (some (.int (-1)), (S0, q3.2.1, q3.2.2))
      else
        bif j_in x1 6 && (j_nth (j_at S0 33).2.2 (x1).toNatClampNeg).isSome then
        bif Nat.beq (j_at S0 ((j_nth (j_at S0 33).2.2 (x1).toNatClampNeg).getD 0)).1 12 && Nat.ble 0 8 then (C d 100 [.ref ((j_nth (j_at S0 33).2.2 (x1).toNatClampNeg).getD 0), .int x2] S0 q3.2.1 q3.2.2).bind fun q4 => j_ov none (
        some (some (.int 1), (S0, q4.2.1, q4.2.2))) q4.1 else none else none) q3.1) q1.1) := (R_ev d kX10_keep 400 0 _ _ _).trans rfl
set_option maxRecDepth 100000 in
theorem bX10_row_0 (d : Nat) (x1 : Int32) (x2 : Int32) (x3 : Int32) (M : j_M) (N : j_N) : R d kX10_row 0 [.ref 0, .int x1, .int x2, .int x3] [] (S0, M, N) =
  ((C d 148 [.int x1] S0 M N).bind fun q1 => j_oi none (fun r1 =>
  if r1 = 0 then
    some (some (.int (-1)), (S0, q1.2.1, q1.2.2))
  else
    (C d 147 [.int x2, .int 0, .int 4] S0 q1.2.1 q1.2.2).bind fun q2 => j_oi none (fun r2 =>
    if r2 = 0 then
      some (some (.int (-1)), (S0, q2.2.1, q2.2.2))
    else
      if x3 ≤ 60 then
        if 0 ≤ x3 then
          bif j_in x1 6 && (j_nth (j_at S0 33).2.2 (x1).toNatClampNeg).isSome then
          bif Nat.beq (j_at S0 ((j_nth (j_at S0 33).2.2 (x1).toNatClampNeg).getD 0)).1 12 && Nat.ble 0 8 then (C d 101 [.ref ((j_nth (j_at S0 33).2.2 (x1).toNatClampNeg).getD 0), .int x2, .int x3] S0 q2.2.1 q2.2.2).bind fun q3 => j_ov none (
          some (some (.int 1), (S0, q3.2.1, q3.2.2))) q3.1 else none else none
        else
          some (some (.int (-14)), (S0, q2.2.1, q2.2.2))
      else
        some (some (.int (-1)), (S0, q2.2.1, q2.2.2))) q2.1) q1.1) := (R_ev d kX10_row 400 0 _ _ _).trans rfl
set_option maxRecDepth 100000 in
theorem bX10_put_0 (d : Nat) (x1 : Int32) (x2 : Int32) (y3 : Int64) (M : j_M) (N : j_N) : R d kX10_put 0 [.ref 0, .int x1, .int x2, .long y3, .null, .null] [] (S0, M, N) =
  ((C d 148 [.int x1] S0 M N).bind fun q1 => j_oi none (fun r1 =>
  if r1 = 0 then
    some (some (.int (-1)), (S0, q1.2.1, q1.2.2))
  else
    bif j_in x1 6 && (j_nth (j_at S0 33).2.2 (x1).toNatClampNeg).isSome then
    bif Nat.beq (j_at S0 ((j_nth (j_at S0 33).2.2 (x1).toNatClampNeg).getD 0)).1 12 && Nat.ble 0 8 then (C d 103 [.ref ((j_nth (j_at S0 33).2.2 (x1).toNatClampNeg).getD 0), .int x2] S0 q1.2.1 q1.2.2).bind fun q2 => j_oi none (fun r2 =>
    if r2 = 0 then
      bif j_in x1 6 && (j_nth (j_at S0 33).2.2 (x1).toNatClampNeg).isSome then
      bif Nat.beq (j_at S0 ((j_nth (j_at S0 33).2.2 (x1).toNatClampNeg).getD 0)).1 12 && Nat.ble 0 8 then (C d 105 [.ref ((j_nth (j_at S0 33).2.2 (x1).toNatClampNeg).getD 0), .int x2, .long y3] S0 q2.2.1 q2.2.2).bind fun q3 => j_ov none (
      some (some (.int 1), (S0, q3.2.1, q3.2.2))) q3.1 else none else none
    else
      some (some (.int r2), (S0, q2.2.1, q2.2.2))) q2.1 else none else none) q1.1) := (R_ev d kX10_put 400 0 _ _ _).trans rfl
set_option maxRecDepth 100000 in
theorem bX10_element_0 (d : Nat) (x1 : Int32) (x2 : Int32) (M : j_M) (N : j_N) : R d kX10_element 0 [.ref 0, .int x1, .int x2] [] (S0, M, N) =
  ((C d 148 [.int x1] S0 M N).bind fun q1 => j_oi none (fun r1 =>
  if r1 = 0 then
    some (some (.long (-9223372036854775808)), (S0, q1.2.1, q1.2.2))
  else
    bif j_in x1 6 && (j_nth (j_at S0 33).2.2 (x1).toNatClampNeg).isSome then
    bif Nat.beq (j_at S0 ((j_nth (j_at S0 33).2.2 (x1).toNatClampNeg).getD 0)).1 12 && Nat.ble 0 8 then (C d 103 [.ref ((j_nth (j_at S0 33).2.2 (x1).toNatClampNeg).getD 0), .int x2] S0 q1.2.1 q1.2.2).bind fun q2 => j_oi none (fun r2 =>
    if r2 = 0 then
      bif j_in x1 6 && (j_nth (j_at S0 33).2.2 (x1).toNatClampNeg).isSome then
      bif Nat.beq (j_at S0 ((j_nth (j_at S0 33).2.2 (x1).toNatClampNeg).getD 0)).1 12 && Nat.ble 0 8 then (C d 104 [.ref ((j_nth (j_at S0 33).2.2 (x1).toNatClampNeg).getD 0), .int x2] S0 q2.2.1 q2.2.2).bind fun q3 => j_ol none (fun r3 =>
      some (some (.long r3), (S0, q3.2.1, q3.2.2))) q3.1 else none else none
    else
      some (some (.long (-9223372036854775808)), (S0, q2.2.1, q2.2.2))) q2.1 else none else none) q1.1) := (R_ev d kX10_element 400 0 _ _ _).trans rfl
set_option maxRecDepth 100000 in
theorem bX10_shift_0 (d : Nat) (x1 : Int32) (x2 : Int32) (x3 : Int32) (x4 : Int32) (x5 : Int32) (M : j_M) (N : j_N) : R d kX10_shift 0 [.ref 0, .int x1, .int x2, .int x3, .int x4, .int x5, .null, .null] [] (S0, M, N) =
  ((C d 148 [.int x1] S0 M N).bind fun q1 => j_oi none (fun r1 =>
  if r1 = 0 then
    some (some (.int (-1)), (S0, q1.2.1, q1.2.2))
  else
    (C d 148 [.int x3] S0 q1.2.1 q1.2.2).bind fun q2 => j_oi none (fun r2 =>
    if r2 = 0 then
      some (some (.int (-1)), (S0, q2.2.1, q2.2.2))
    else
      bif j_in x1 6 && (j_nth (j_at S0 33).2.2 (x1).toNatClampNeg).isSome then
      bif j_in x3 6 && (j_nth (j_at S0 33).2.2 (x3).toNatClampNeg).isSome then
      bif Nat.beq (j_at S0 ((j_nth (j_at S0 33).2.2 (x1).toNatClampNeg).getD 0)).1 12 && Nat.ble 0 8 then (C d 97 [.ref ((j_nth (j_at S0 33).2.2 (x1).toNatClampNeg).getD 0)] S0 q2.2.1 q2.2.2).bind fun q3 => j_oi none (fun r3 =>
      if r3 = 0 then
        bif Nat.beq (j_at S0 ((j_nth (j_at S0 33).2.2 (x3).toNatClampNeg).getD 0)).1 12 && Nat.ble 0 8 then (C d 97 [.ref ((j_nth (j_at S0 33).2.2 (x3).toNatClampNeg).getD 0)] S0 q3.2.1 q3.2.2).bind fun q4 => j_oi none (fun r4 =>
        if r4 = 0 then
          bif Nat.beq (j_at S0 ((j_nth (j_at S0 33).2.2 (x1).toNatClampNeg).getD 0)).1 12 && Nat.ble 0 8 then (C d 98 [.ref ((j_nth (j_at S0 33).2.2 (x1).toNatClampNeg).getD 0)] S0 q4.2.1 q4.2.2).bind fun q5 => j_oi none (fun r5 =>
          if r5 = 0 then
            some (some (.int (-12)), (S0, q5.2.1, q5.2.2))
          else
            bif Nat.beq (j_at S0 ((j_nth (j_at S0 33).2.2 (x1).toNatClampNeg).getD 0)).1 12 then
            bif Nat.beq (j_at S0 ((j_nth (j_at S0 33).2.2 (x3).toNatClampNeg).getD 0)).1 12 && Nat.ble 0 8 then (C d 99 [.ref ((j_nth (j_at S0 33).2.2 (x3).toNatClampNeg).getD 0), .int (q5.2.1 ((j_nth (j_at S0 33).2.2 (x1).toNatClampNeg).getD 0) 1)] S0 q5.2.1 q5.2.2).bind fun q6 => j_oi none (fun r6 =>
            if r6 = 0 then
              some (some (.int (-12)), (S0, q6.2.1, q6.2.2))
            else
              bif Nat.beq (j_at S0 ((j_nth (j_at S0 33).2.2 (x1).toNatClampNeg).getD 0)).1 12 && Nat.ble 0 8 then (C d 102 [.ref ((j_nth (j_at S0 33).2.2 (x1).toNatClampNeg).getD 0), .int x2, .int x5] S0 q6.2.1 q6.2.2).bind fun q7 => j_oi none (fun r7 =>
              if r7 = 0 then
                some (some (.int (-13)), (S0, q7.2.1, q7.2.2))
              else
                bif Nat.beq (j_at S0 ((j_nth (j_at S0 33).2.2 (x3).toNatClampNeg).getD 0)).1 12 && Nat.ble 0 8 then (C d 102 [.ref ((j_nth (j_at S0 33).2.2 (x3).toNatClampNeg).getD 0), .int x4, .int x5] S0 q7.2.1 q7.2.2).bind fun q8 => j_oi none (fun r8 =>
                if r8 = 0 then
                  some (some (.int (-13)), (S0, q8.2.1, q8.2.2))
                else
                  bif Nat.beq (j_at S0 ((j_nth (j_at S0 33).2.2 (x1).toNatClampNeg).getD 0)).1 12 then (bif (j_nth (j_at S0 ((j_nth (j_at S0 33).2.2 (x1).toNatClampNeg).getD 0)).2.2 0).isSome then
                  bif Nat.beq (j_at S0 ((j_nth (j_at S0 33).2.2 (x3).toNatClampNeg).getD 0)).1 12 then (bif (j_nth (j_at S0 ((j_nth (j_at S0 33).2.2 (x3).toNatClampNeg).getD 0)).2.2 0).isSome then
                  bif (!(decide (x2 < (0:Int32))) && !(decide (x4 < (0:Int32))) && !(decide (x5 < (0:Int32))) && Nat.ble ((x2).toNatClampNeg + (x5).toNatClampNeg) (j_at S0 ((j_nth (j_at S0 ((j_nth (j_at S0 33).2.2 (x1).toNatClampNeg).getD 0)).2.2 0).getD 0)).2.1 && Nat.ble ((x4).toNatClampNeg + (x5).toNatClampNeg) (j_at S0 ((j_nth (j_at S0 ((j_nth (j_at S0 33).2.2 (x3).toNatClampNeg).getD 0)).2.2 0).getD 0)).2.1) && Nat.ble 0 8 then
                  (bif Nat.beq (j_at S0 ((j_nth (j_at S0 ((j_nth (j_at S0 33).2.2 (x1).toNatClampNeg).getD 0)).2.2 0).getD 0)).1 0 && Nat.beq (j_at S0 ((j_nth (j_at S0 ((j_nth (j_at S0 33).2.2 (x3).toNatClampNeg).getD 0)).2.2 0).getD 0)).1 0 then some (some (.int x5), (S0, (j_row q8.2.1 ((j_nth (j_at S0 ((j_nth (j_at S0 33).2.2 (x3).toNatClampNeg).getD 0)).2.2 0).getD 0) (va_cpy (q8.2.1 ((j_nth (j_at S0 ((j_nth (j_at S0 33).2.2 (x1).toNatClampNeg).getD 0)).2.2 0).getD 0)) (q8.2.1 ((j_nth (j_at S0 ((j_nth (j_at S0 33).2.2 (x3).toNatClampNeg).getD 0)).2.2 0).getD 0)) (x2).toNatClampNeg (x4).toNatClampNeg (x5).toNatClampNeg)), q8.2.2)) else bif Nat.beq (j_at S0 ((j_nth (j_at S0 ((j_nth (j_at S0 33).2.2 (x1).toNatClampNeg).getD 0)).2.2 0).getD 0)).1 1 && Nat.beq (j_at S0 ((j_nth (j_at S0 ((j_nth (j_at S0 33).2.2 (x3).toNatClampNeg).getD 0)).2.2 0).getD 0)).1 1 then some (some (.int x5), (S0, q8.2.1, (j_rowl q8.2.2 ((j_nth (j_at S0 ((j_nth (j_at S0 33).2.2 (x3).toNatClampNeg).getD 0)).2.2 0).getD 0) (va_cpy (q8.2.2 ((j_nth (j_at S0 ((j_nth (j_at S0 33).2.2 (x1).toNatClampNeg).getD 0)).2.2 0).getD 0)) (q8.2.2 ((j_nth (j_at S0 ((j_nth (j_at S0 33).2.2 (x3).toNatClampNeg).getD 0)).2.2 0).getD 0)) (x2).toNatClampNeg (x4).toNatClampNeg (x5).toNatClampNeg)))) else none) else none else none) else none else none) else none) q8.1 else none) q7.1 else none) q6.1 else none else none) q5.1 else none
        else
          some (some (.int (-11)), (S0, q4.2.1, q4.2.2))) q4.1 else none
      else
        some (some (.int (-11)), (S0, q3.2.1, q3.2.2))) q3.1 else none else none else none) q2.1) q1.1) := (R_ev d kX10_shift 400 0 _ _ _).trans rfl
set_option maxRecDepth 100000 in
theorem bX10_taken_0 (d : Nat) (x1 : Int32) (x2 : Int32) (M : j_M) (N : j_N) : R d kX10_taken 0 [.ref 0, .int x1, .int x2, .null, .null] [] (S0, M, N) =
  ((C d 148 [.int x1] S0 M N).bind fun q1 => j_oi none (fun r1 =>
  if r1 = 0 then
    some (some (.int (-1)), (S0, q1.2.1, q1.2.2))
  else
    (C d 147 [.int x2, .int 0, .int 7] S0 q1.2.1 q1.2.2).bind fun q2 => j_oi none (fun r2 =>
    if r2 = 0 then
      some (some (.int (-1)), (S0, q2.2.1, q2.2.2))
    else
      bif j_in x1 6 && (j_nth (j_at S0 33).2.2 (x1).toNatClampNeg).isSome then
      bif Nat.beq (j_at S0 ((j_nth (j_at S0 33).2.2 (x1).toNatClampNeg).getD 0)).1 12 && Nat.ble 0 8 then (C d 97 [.ref ((j_nth (j_at S0 33).2.2 (x1).toNatClampNeg).getD 0)] S0 q2.2.1 q2.2.2).bind fun q3 => j_oi none (fun r3 =>
      if r3 = 0 then
        bif Nat.beq (j_at S0 ((j_nth (j_at S0 33).2.2 (x1).toNatClampNeg).getD 0)).1 12 && Nat.ble 0 8 then (C d 98 [.ref ((j_nth (j_at S0 33).2.2 (x1).toNatClampNeg).getD 0)] S0 q3.2.1 q3.2.2).bind fun q4 => j_oi none (fun r4 =>
        if r4 = 0 then
          bif Nat.beq (j_at S0 ((j_nth (j_at S0 33).2.2 (x1).toNatClampNeg).getD 0)).1 12 then
          (C d 2 [.ref 30, .int (q4.2.1 ((j_nth (j_at S0 33).2.2 (x1).toNatClampNeg).getD 0) 3)] S0 q4.2.1 q4.2.2).bind fun q5 => j_oi none (fun r5 =>
          (C d 4 [.int r5, .int x2] S0 q5.2.1 q5.2.2).bind fun q6 => j_oi none (fun r6 =>
          if r6 = 0 then
            some (some (.int (-12)), (S0, q6.2.1, q6.2.2))
          else
            some (some (.int r5), (S0, q6.2.1, q6.2.2))) q6.1) q5.1 else none
        else
          some (some (.int (-12)), (S0, q4.2.1, q4.2.2))) q4.1 else none
      else
        some (some (.int (-11)), (S0, q3.2.1, q3.2.2))) q3.1 else none else none) q2.1) q1.1) := (R_ev d kX10_taken 400 0 _ _ _).trans rfl
set_option maxRecDepth 100000 in
theorem bX10_count_0 (d : Nat) (x1 : Int32) (M : j_M) (N : j_N) : R d kX10_count 0 [.ref 0, .int x1] [] (S0, M, N) =
  (if x1 = 0 then
    some (some (.int (M 1 6)), (S0, M, N))
  else if x1 = 1 then
    some (some (.int (M 12 5)), (S0, M, N))
  else if x1 = 2 then
    some (some (.int (M 16 4)), (S0, M, N))
  else if x1 = 3 then
    some (some (.int (M 22 4)), (S0, M, N))
  else if x1 = 4 then
    some (some (.int (M 30 2)), (S0, M, N))
  else if x1 = 5 then
    some (some (.int (M 30 3)), (S0, M, N))
  else 
    some (some (.int (-1)), (S0, M, N))) := (R_ev d kX10_count 400 0 _ _ _).trans rfl
set_option maxRecDepth 100000 in
theorem bX10_within_0 (d : Nat) (x0 : Int32) (x1 : Int32) (x2 : Int32) (M : j_M) (N : j_N) : R d kX10_within 0 [.int x0, .int x1, .int x2] [] (S0, M, N) =
  (if x0 < x1 then
    some (some (.int 0), (S0, M, N))
  else
    if x2 < x0 then
      some (some (.int 0), (S0, M, N))
    else
      some (some (.int 1), (S0, M, N))) := (R_ev d kX10_within 400 0 _ _ _).trans rfl
set_option maxRecDepth 100000 in
theorem bX10_isShelf_0 (d : Nat) (x0 : Int32) (M : j_M) (N : j_N) : R d kX10_isShelf 0 [.int x0] [] (S0, M, N) =
  ((C d 147 [.int x0, .int 0, .int 5] S0 M N).bind fun q1 => j_oi none (fun r1 =>
  bif decide (r1 = 0) || decide (r1 = 1) then some (some (.int r1), (S0, q1.2.1, q1.2.2)) else none) q1.1) := (R_ev d kX10_isShelf 400 0 _ _ _).trans rfl
set_option maxRecDepth 100000 in
theorem bX10_comesFrom_0 (d : Nat) (a1 : Nat) (y2 : Int64) (M : j_M) (N : j_N) : R d kX10_comesFrom 0 [.ref 0, .ref a1, .long y2, .null, .null, .null] [] (S0, M, N) =
  (if 6 ≤ (M 1 6) then
    some (some (.int 0), (S0, M, N))
  else
    if (lg_cmp y2 0) < 0 then
      some (some (.int 0), (S0, M, N))
    else
      bif Nat.beq (j_at S0 a1).1 12 then
      if (lg_cmp (y2 + 1) (M a1 2).toInt64) < 0 then
        bif Nat.beq (j_at S0 a1).1 12 && Nat.ble 0 8 then (C d 104 [.ref a1, .int y2.toInt32] S0 M N).bind fun q1 => j_ol none (fun r1 =>
        bif Nat.beq (j_at S0 a1).1 12 && Nat.ble 0 8 then (C d 104 [.ref a1, .int (y2.toInt32 + 1)] S0 q1.2.1 q1.2.2).bind fun q2 => j_ol none (fun r2 =>
        (C d 147 [.int r1.toInt32, .int 0, .int 99] S0 q2.2.1 q2.2.2).bind fun q3 => j_oi none (fun r3 =>
        if r3 = 0 then
          some (some (.int 0), (S0, q3.2.1, q3.2.2))
        else
          (C d 147 [.int r2.toInt32, .int 0, .int r1.toInt32] S0 q3.2.1 q3.2.2).bind fun q4 => j_oi none (fun r4 =>
          if r4 = 0 then
            some (some (.int 0), (S0, q4.2.1, q4.2.2))
          else
            (C d 17 [.ref 1, .int r1.toInt32, .int r2.toInt32] S0 q4.2.1 q4.2.2).bind fun q5 => j_ov none (
            some (some (.int 1), (S0, q5.2.1, q5.2.2))) q5.1) q4.1) q3.1) q2.1 else none) q1.1 else none
      else
        some (some (.int 0), (S0, M, N)) else none) := (R_ev d kX10_comesFrom 400 0 _ _ _).trans rfl
set_option maxRecDepth 100000 in
theorem bX10_ofOne_0 (d : Nat) (x1 : Int32) (x2 : Int32) (M : j_M) (N : j_N) : R d kX10_ofOne 0 [.ref 0, .int x1, .int x2] [] (S0, M, N) =
  (if x2 = 0 then
    bif j_in x1 6 then
    some (some (.int (M 2 (x1).toNatClampNeg)), (S0, M, N)) else none
  else if x2 = 1 then
    bif j_in x1 6 then
    some (some (.int (M 3 (x1).toNatClampNeg)), (S0, M, N)) else none
  else if x2 = 2 then
    bif j_in x1 6 then
    some (some (.int (M 4 (x1).toNatClampNeg)), (S0, M, N)) else none
  else if x2 = 3 then
    bif j_in x1 6 then
    some (some (.int (M 5 (x1).toNatClampNeg)), (S0, M, N)) else none
  else if x2 = 4 then
    (C d 22 [.ref 8, .ref 1] S0 M N).bind fun q1 => j_ov none (
    (C d 26 [.ref 8, .int x1] S0 q1.2.1 q1.2.2).bind fun q2 => j_oi none (fun r2 =>
    some (some (.int r2), (S0, q2.2.1, q2.2.2))) q2.1) q1.1
  else if x2 = 5 then
    bif j_in x1 6 then
    some (some (.int (M 7 (x1).toNatClampNeg)), (S0, M, N)) else none
  else if x2 = 6 then
    bif j_in x1 6 then
    some (some (.int (M 6 (x1).toNatClampNeg)), (S0, M, N)) else none
  else 
    some (some (.int (-2000000000)), (S0, M, N))) := (R_ev d kX10_ofOne 400 0 _ _ _).trans rfl
set_option maxRecDepth 100000 in
theorem bX10_ofTheTable_0 (d : Nat) (x1 : Int32) (M : j_M) (N : j_N) : R d kX10_ofTheTable 0 [.ref 0, .int x1] [] (S0, M, N) =
  ((C d 22 [.ref 8, .ref 1] S0 M N).bind fun q1 => j_ov none (
  if x1 = 10 then
    some (some (.int (q1.2.1 1 7)), (S0, q1.2.1, q1.2.2))
  else if x1 = 11 then
    some (some (.int (q1.2.1 1 8)), (S0, q1.2.1, q1.2.2))
  else if x1 = 12 then
    some (some (.int (q1.2.1 1 9)), (S0, q1.2.1, q1.2.2))
  else if x1 = 13 then
    some (some (.int (q1.2.1 8 4)), (S0, q1.2.1, q1.2.2))
  else if x1 = 14 then
    some (some (.int (q1.2.1 8 5)), (S0, q1.2.1, q1.2.2))
  else if x1 = 15 then
    some (some (.int (q1.2.1 8 6)), (S0, q1.2.1, q1.2.2))
  else if x1 = 16 then
    some (some (.int (q1.2.1 1 10)), (S0, q1.2.1, q1.2.2))
  else if x1 = 17 then
    some (some (.int (q1.2.1 1 11)), (S0, q1.2.1, q1.2.2))
  else 
    some (some (.int (-2000000000)), (S0, q1.2.1, q1.2.2))) q1.1) := (R_ev d kX10_ofTheTable 400 0 _ _ _).trans rfl
set_option maxRecDepth 100000 in
theorem bX10_givenBy_0 (d : Nat) (x1 : Int32) (M : j_M) (N : j_N) : R d kX10_givenBy 0 [.ref 0, .int x1, .null] [] (S0, M, N) =
  (bif j_in x1 6 then
  if (M 6 (x1).toNatClampNeg) = (-1) then
    (C d 52 [.ref 16, .ref 1, .int x1, .int (M 1 7)] S0 M N).bind fun q2 => j_oi none (fun r2 =>
    some (some (.int r2), (S0, q2.2.1, q2.2.2))) q2.1
  else
    (C d 52 [.ref 16, .ref 1, .int x1, .int (M 6 (x1).toNatClampNeg)] S0 M N).bind fun q1 => j_oi none (fun r1 =>
    some (some (.int r1), (S0, q1.2.1, q1.2.2))) q1.1 else none) := (R_ev d kX10_givenBy 400 0 _ _ _).trans rfl
set_option maxRecDepth 100000 in
theorem bX10_refusalOfTold_0 (d : Nat) (x1 : Int32) (M : j_M) (N : j_N) : R d kX10_refusalOfTold 0 [.ref 0, .int x1] [] (S0, M, N) =
  ((C d 148 [.int x1] S0 M N).bind fun q1 => j_oi none (fun r1 =>
  if r1 = 0 then
    some (some (.int (-1)), (S0, q1.2.1, q1.2.2))
  else
    bif j_in x1 6 && (j_nth (j_at S0 33).2.2 (x1).toNatClampNeg).isSome then
    bif Nat.beq (j_at S0 ((j_nth (j_at S0 33).2.2 (x1).toNatClampNeg).getD 0)).1 12 && Nat.ble 0 8 then (C d 97 [.ref ((j_nth (j_at S0 33).2.2 (x1).toNatClampNeg).getD 0)] S0 q1.2.1 q1.2.2).bind fun q2 => j_oi none (fun r2 =>
    if r2 = 0 then
      bif j_in x1 6 && (j_nth (j_at S0 33).2.2 (x1).toNatClampNeg).isSome then
      bif Nat.beq (j_at S0 ((j_nth (j_at S0 33).2.2 (x1).toNatClampNeg).getD 0)).1 12 && Nat.ble 0 8 then (C d 99 [.ref ((j_nth (j_at S0 33).2.2 (x1).toNatClampNeg).getD 0), .int 1] S0 q2.2.1 q2.2.2).bind fun q3 => j_oi none (fun r3 =>
      if r3 = 0 then
        some (some (.int (-12)), (S0, q3.2.1, q3.2.2))
      else
        some (some (.int 0), (S0, q3.2.1, q3.2.2))) q3.1 else none else none
    else
      some (some (.int (-11)), (S0, q2.2.1, q2.2.2))) q2.1 else none else none) q1.1) := (R_ev d kX10_refusalOfTold 400 0 _ _ _).trans rfl
set_option maxRecDepth 100000 in
theorem bX10_fraction_0 (d : Nat) (y0 : Int64) (y2 : Int64) (x4 : Int32) (M : j_M) (N : j_N) : R d kX10_fraction 0 [.long y0, .null, .long y2, .null, .int x4, .null, .null, .null, .null, .null, .null, .null] [] (S0, M, N) =
  (R d kX10_fraction 9 [.long y0, .null, .long y2, .null, .int x4, .long y0, .null, .long y2, .null, .int 0, .null, .null] [] (S0, M, N)) := (R_ev d kX10_fraction 400 0 _ _ _).trans rfl
set_option maxRecDepth 100000 in
theorem bX10_fraction_9 (d : Nat) (y0 : Int64) (y2 : Int64) (x4 : Int32) (y5 : Int64) (y7 : Int64) (x9 : Int32) (M : j_M) (N : j_N) : R d kX10_fraction 9 [.long y0, .null, .long y2, .null, .int x4, .long y5, .null, .long y7, .null, .int x9, .null, .null] [] (S0, M, N) =
  (if 200 ≤ x9 then
    R d kX10_fraction 45 [.long y0, .null, .long y2, .null, .int x4, .long y5, .null, .null, .null, .null, .null, .null] [] (S0, M, N)
  else
    if (lg_cmp y7 0) = 0 then
      R d kX10_fraction 45 [.long y0, .null, .long y2, .null, .int x4, .long y5, .null, .null, .null, .null, .null, .null] [] (S0, M, N)
    else
      if y7 = 0 then none else
      R d kX10_fraction 9 [.long y0, .null, .long y2, .null, .int x4, .long y7, .null, .long (y5 - y5 / y7 * y7), .null, .int (x9 + 1), .null, .null] [] (S0, M, N)) := (R_ev d kX10_fraction 400 9 _ _ _).trans rfl
set_option maxRecDepth 100000 in
theorem bX10_fraction_45 (d : Nat) (y0 : Int64) (y2 : Int64) (x4 : Int32) (y5 : Int64) (M : j_M) (N : j_N) : R d kX10_fraction 45 [.long y0, .null, .long y2, .null, .int x4, .long y5, .null, .null, .null, .null, .null, .null] [] (S0, M, N) =
  (if x4 = 0 then
    if (lg_cmp y5 0) = 0 then
      some (some (.long y0), (S0, M, N))
    else
      if y5 = 0 then none else
      some (some (.long (y0 / y5)), (S0, M, N))
  else
    if (lg_cmp y5 0) = 0 then
      some (some (.long y2), (S0, M, N))
    else
      if y5 = 0 then none else
      some (some (.long (y2 / y5)), (S0, M, N))) := (R_ev d kX10_fraction 400 45 _ _ _).trans rfl
end
section
/-! ===== block equations (printed by wip/whole/genblk.py) ===== -/
set_option maxRecDepth 100000 in
theorem bX11_within_0 (d : Nat) (y0 : Int64) (y2 : Int64) (y4 : Int64) (M : j_M) (N : j_N) : R d kX11_within 0 [.long y0, .null, .long y2, .null, .long y4, .null] [] (S0, M, N) =
  (if (lg_cmp y0 y2) < 0 then
    some (some (.int 0), (S0, M, N))
  else
    if 0 < (lg_cmp y0 y4) then
      some (some (.int 0), (S0, M, N))
    else
      some (some (.int 1), (S0, M, N))) := (R_ev d kX11_within 400 0 _ _ _).trans rfl
set_option maxRecDepth 100000 in
theorem bX11_becomes_0 (d : Nat) (x1 : Int32) (x2 : Int32) (M : j_M) (N : j_N) : R d kX11_becomes 0 [.ref 46, .int x1, .int x2, .null, .null] [] (S0, M, N) =
  (bif j_in x1 27 then
  if (M 47 (x1).toNatClampNeg) = x2 then
    some (some (.int (M 47 (x1).toNatClampNeg)), (S0, M, N))
  else
    if (M 46 5) = 40 then
      R d kX11_becomes 26 [.ref 46, .int x1, .int x2, .int (M 47 (x1).toNatClampNeg), .int 1] [] (S0, M, N)
    else
      R d kX11_becomes 97 [.ref 46, .int x1, .int x2, .int (M 47 (x1).toNatClampNeg), .null] [] (S0, M, N) else none) := (R_ev d kX11_becomes 400 0 _ _ _).trans rfl
set_option maxRecDepth 100000 in
theorem bX11_becomes_97 (d : Nat) (x1 : Int32) (x2 : Int32) (x3 : Int32) (M : j_M) (N : j_N) : R d kX11_becomes 97 [.ref 46, .int x1, .int x2, .int x3, .null] [] (S0, M, N) =
  (bif j_in (M 46 5) 40 then
  bif j_in (M 46 5) 40 then
  bif j_in (M 46 5) 40 then
  bif j_in x1 27 then
  some (some (.int x3), (S0, (j_w (j_w (j_w (j_w (j_w (j_w M 48 ((M 46 5)).toNatClampNeg x1) 49 ((M 46 5)).toNatClampNeg x3) 50 ((M 46 5)).toNatClampNeg x2) 46 5 ((M 46 5) + 1)) 46 4 ((M 46 5) + 1)) 47 (x1).toNatClampNeg x2), N)) else none else none else none else none) := (R_ev d kX11_becomes 400 97 _ _ _).trans rfl
set_option maxRecDepth 100000 in
theorem bX11_becomes_26 (d : Nat) (x1 : Int32) (x2 : Int32) (x3 : Int32) (x4 : Int32) (M : j_M) (N : j_N) : R d kX11_becomes 26 [.ref 46, .int x1, .int x2, .int x3, .int x4] [] (S0, M, N) =
  (if 40 ≤ x4 then
    R d kX11_becomes 97 [.ref 46, .int x1, .int x2, .int x3, .null] [] (S0, (j_w M 46 5 ((M 46 5) - 1)), N)
  else
    bif j_in x4 40 then
    bif j_in (x4 - 1) 40 then
    bif j_in x4 40 then
    bif j_in (x4 - 1) 40 then
    bif j_in x4 40 then
    bif j_in (x4 - 1) 40 then
    R d kX11_becomes 26 [.ref 46, .int x1, .int x2, .int x3, .int (x4 + 1)] [] (S0, (j_w (j_w (j_w M 48 ((x4 - 1)).toNatClampNeg (M 48 (x4).toNatClampNeg)) 49 ((x4 - 1)).toNatClampNeg (M 49 (x4).toNatClampNeg)) 50 ((x4 - 1)).toNatClampNeg (M 50 (x4).toNatClampNeg)), N) else none else none else none else none else none else none) := (R_ev d kX11_becomes 400 26 _ _ _).trans rfl
set_option maxRecDepth 100000 in
theorem bX11_undo_0 (d : Nat)  (M : j_M) (N : j_N) : R d kX11_undo 0 [.ref 46] [] (S0, M, N) =
  (if (M 46 5) = 0 then
    some (some (.int (-5)), (S0, M, N))
  else
    bif j_in ((M 46 5) - 1) 40 then
    bif j_in ((M 46 5) - 1) 40 then
    bif j_in (M 48 (((M 46 5) - 1)).toNatClampNeg) 27 then
    some (some (.int ((M 46 5) - 1)), (S0, (j_w (j_w M 46 5 ((M 46 5) - 1)) 47 ((M 48 (((M 46 5) - 1)).toNatClampNeg)).toNatClampNeg (M 49 (((M 46 5) - 1)).toNatClampNeg)), N)) else none else none else none) := (R_ev d kX11_undo 400 0 _ _ _).trans rfl
set_option maxRecDepth 100000 in
theorem bX11_redo_0 (d : Nat)  (M : j_M) (N : j_N) : R d kX11_redo 0 [.ref 46] [] (S0, M, N) =
  (if (M 46 5) = (M 46 4) then
    some (some (.int (-5)), (S0, M, N))
  else
    bif j_in (M 46 5) 40 then
    bif j_in (M 46 5) 40 then
    bif j_in (M 48 ((M 46 5)).toNatClampNeg) 27 then
    some (some (.int ((M 46 4) - ((M 46 5) + 1))), (S0, (j_w (j_w M 47 ((M 48 ((M 46 5)).toNatClampNeg)).toNatClampNeg (M 50 ((M 46 5)).toNatClampNeg)) 46 5 ((M 46 5) + 1)), N)) else none else none else none) := (R_ev d kX11_redo 400 0 _ _ _).trans rfl
set_option maxRecDepth 100000 in
theorem bX11_isGuest_0 (d : Nat) (x1 : Int32) (M : j_M) (N : j_N) : R d kX11_isGuest 0 [.ref 46, .int x1] [] (S0, M, N) =
  ((C d 155 [.long x1.toInt64, .long 0, .long ((M 46 6) - 1).toInt64] S0 M N).bind fun q1 => j_oi none (fun r1 =>
  bif decide (r1 = 0) || decide (r1 = 1) then some (some (.int r1), (S0, q1.2.1, q1.2.2)) else none) q1.1) := (R_ev d kX11_isGuest 400 0 _ _ _).trans rfl
set_option maxRecDepth 100000 in
theorem bX11_guest_0 (d : Nat) (x1 : Int32) (M : j_M) (N : j_N) : R d kX11_guest 0 [.ref 46, .int x1] [] (S0, M, N) =
  ((C d 155 [.long x1.toInt64, .long 0, .long 99] S0 M N).bind fun q1 => j_oi none (fun r1 =>
  if r1 = 0 then
    some (some (.int (-1)), (S0, q1.2.1, q1.2.2))
  else
    if (q1.2.1 46 6) = 6 then
      some (some (.int (-3)), (S0, q1.2.1, q1.2.2))
    else
      bif j_in (q1.2.1 46 6) 27 then
      some (some (.int (((q1.2.1 46 6) + 1) - 1)), (S0, (j_w (j_w q1.2.1 47 ((q1.2.1 46 6)).toNatClampNeg x1) 46 6 ((q1.2.1 46 6) + 1)), q1.2.2)) else none) q1.1) := (R_ev d kX11_guest 400 0 _ _ _).trans rfl
set_option maxRecDepth 100000 in
theorem bX11_guests_0 (d : Nat) (x1 : Int32) (x2 : Int32) (x3 : Int32) (M : j_M) (N : j_N) : R d kX11_guests 0 [.ref 46, .int x1, .int x2, .int x3, .null, .null, .null] [] (S0, M, N) =
  ((C d 235 [.int x1] S0 M N).bind fun q1 => j_oi none (fun r1 =>
  if r1 = 0 then
    some (some (.int (-1)), (S0, q1.2.1, q1.2.2))
  else
    (C d 155 [.long x3.toInt64, .long 1, .long 6] S0 q1.2.1 q1.2.2).bind fun q2 => j_oi none (fun r2 =>
    if r2 = 0 then
      some (some (.int (-1)), (S0, q2.2.1, q2.2.2))
    else
      bif j_in x1 6 then
      if (q2.2.1 66 (x1).toNatClampNeg) < 0 then
        bif j_in x1 6 then
        if (q2.2.1 66 (x1).toNatClampNeg) = 50 then
          if x2 < 0 then
            R d kX11_guests 69 [.ref 46, .int x1, .int x2, .int x3, .int 0, .int 0, .null] [] (S0, q2.2.1, q2.2.2)
          else
            R d kX11_guests 69 [.ref 46, .int x1, .int x2, .int x3, .int 0, .int 1, .null] [] (S0, q2.2.1, q2.2.2)
        else
          R d kX11_guests 69 [.ref 46, .int x1, .int x2, .int x3, .int 0, .int 0, .null] [] (S0, q2.2.1, q2.2.2) else none
      else
        bif j_in x1 6 then
        if (q2.2.1 66 (x1).toNatClampNeg) = 50 then
          bif j_in x1 6 then
          if (q2.2.1 66 (x1).toNatClampNeg) = 50 then
            if x2 < 0 then
              R d kX11_guests 69 [.ref 46, .int x1, .int x2, .int x3, .int 0, .int 0, .null] [] (S0, q2.2.1, q2.2.2)
            else
              R d kX11_guests 69 [.ref 46, .int x1, .int x2, .int x3, .int 0, .int 1, .null] [] (S0, q2.2.1, q2.2.2)
          else
            R d kX11_guests 69 [.ref 46, .int x1, .int x2, .int x3, .int 0, .int 0, .null] [] (S0, q2.2.1, q2.2.2) else none
        else
          some (some (.int (-12)), (S0, q2.2.1, q2.2.2)) else none else none) q2.1) q1.1) := (R_ev d kX11_guests 400 0 _ _ _).trans rfl
set_option maxRecDepth 100000 in
theorem bX11_guests_69 (d : Nat) (x1 : Int32) (x2 : Int32) (x3 : Int32) (x4 : Int32) (x5 : Int32) (M : j_M) (N : j_N) : R d kX11_guests 69 [.ref 46, .int x1, .int x2, .int x3, .int x4, .int x5, .null] [] (S0, M, N) =
  (if x5 = 0 then
    some (some (.int x4), (S0, M, N))
  else
    if x3 ≤ x4 then
      some (some (.int x4), (S0, M, N))
    else
      bif j_in x1 6 then
      if (((M 67 (x1).toNatClampNeg) - 2) - (2 * x4)) < x2 then
        R d kX11_guests 111 [.ref 46, .int x1, .int x2, .int x3, .int x4, .null, .null] [.int 0] (S0, M, N)
      else
        if 6 ≤ (M 46 6) then
          R d kX11_guests 111 [.ref 46, .int x1, .int x2, .int x3, .int x4, .null, .null] [.int 0] (S0, M, N)
        else
          R d kX11_guests 111 [.ref 46, .int x1, .int x2, .int x3, .int x4, .null, .null] [.int 1] (S0, M, N) else none) := (R_ev d kX11_guests 400 69 _ _ _).trans rfl
set_option maxRecDepth 100000 in
theorem bX11_guests_111 (d : Nat) (x1 : Int32) (x2 : Int32) (x3 : Int32) (x4 : Int32) (s0 : Int32) (M : j_M) (N : j_N) : R d kX11_guests 111 [.ref 46, .int x1, .int x2, .int x3, .int x4, .null, .null] [.int s0] (S0, M, N) =
  (if s0 = 0 then
    R d kX11_guests 176 [.ref 46, .int x1, .int x2, .int x3, .int x4, .null, .int (((60 * x1) + x2) + (2 * x4))] [.int 0] (S0, M, N)
  else
    bif j_in (((60 * x1) + x2) + (2 * x4)) 360 then
    (C d 155 [.long (N 68 ((((60 * x1) + x2) + (2 * x4))).toNatClampNeg), .long 0, .long 99] S0 M N).bind fun q1 => j_oi none (fun r1 =>
    if r1 = 0 then
      R d kX11_guests 176 [.ref 46, .int x1, .int x2, .int x3, .int x4, .null, .int (((60 * x1) + x2) + (2 * x4))] [.int 0] (S0, q1.2.1, q1.2.2)
    else
      bif j_in ((((60 * x1) + x2) + (2 * x4)) + 1) 360 then
      bif j_in (((60 * x1) + x2) + (2 * x4)) 360 then
      (C d 155 [.long (q1.2.2 68 (((((60 * x1) + x2) + (2 * x4)) + 1)).toNatClampNeg), .long 0, .long (q1.2.2 68 ((((60 * x1) + x2) + (2 * x4))).toNatClampNeg)] S0 q1.2.1 q1.2.2).bind fun q2 => j_oi none (fun r2 =>
      if r2 = 0 then
        R d kX11_guests 176 [.ref 46, .int x1, .int x2, .int x3, .int x4, .null, .int (((60 * x1) + x2) + (2 * x4))] [.int 0] (S0, q2.2.1, q2.2.2)
      else
        R d kX11_guests 176 [.ref 46, .int x1, .int x2, .int x3, .int x4, .null, .int (((60 * x1) + x2) + (2 * x4))] [.int 1] (S0, q2.2.1, q2.2.2)) q2.1 else none else none) q1.1 else none) := (R_ev d kX11_guests 400 111 _ _ _).trans rfl
set_option maxRecDepth 100000 in
theorem bX11_guests_176 (d : Nat) (x1 : Int32) (x2 : Int32) (x3 : Int32) (x4 : Int32) (x6 : Int32) (s0 : Int32) (M : j_M) (N : j_N) : R d kX11_guests 176 [.ref 46, .int x1, .int x2, .int x3, .int x4, .null, .int x6] [.int s0] (S0, M, N) =
  (if s0 = 0 then
    R d kX11_guests 69 [.ref 46, .int x1, .int x2, .int x3, .int x4, .int s0, .null] [] (S0, M, N)
  else
    bif j_in x6 360 then
    bif j_in (M 46 6) 27 then
    bif j_in (x6 + 1) 360 then
    bif j_in (6 + (M 46 6)) 27 then
    R d kX11_guests 69 [.ref 46, .int x1, .int x2, .int x3, .int (x4 + 1), .int s0, .null] [] (S0, (j_w (j_w (j_w M 47 ((M 46 6)).toNatClampNeg (N 68 (x6).toNatClampNeg).toInt32) 47 ((6 + (M 46 6))).toNatClampNeg (N 68 ((x6 + 1)).toNatClampNeg).toInt32) 46 6 ((M 46 6) + 1)), N) else none else none else none else none) := (R_ev d kX11_guests 400 176 _ _ _).trans rfl
set_option maxRecDepth 100000 in
theorem bX11_mend_0 (d : Nat) (x1 : Int32) (x2 : Int32) (x3 : Int32) (M : j_M) (N : j_N) : R d kX11_mend 0 [.ref 46, .int x1, .int x2, .int x3] [] (S0, M, N) =
  (if x2 = 0 then
    (C d 160 [.ref 46, .int x1] S0 M N).bind fun q1 => j_oi none (fun r1 =>
    if r1 = 0 then
      some (some (.int (-1)), (S0, q1.2.1, q1.2.2))
    else
      (C d 155 [.long x3.toInt64, .long 0, .long 99] S0 q1.2.1 q1.2.2).bind fun q2 => j_oi none (fun r2 =>
      if r2 = 0 then
        some (some (.int (-1)), (S0, q2.2.1, q2.2.2))
      else
        (C d 157 [.ref 46, .int x1, .int x3] S0 q2.2.1 q2.2.2).bind fun q3 => j_oi none (fun r3 =>
        some (some (.int r3), (S0, q3.2.1, q3.2.2))) q3.1) q2.1) q1.1
  else if x2 = 1 then
    (C d 160 [.ref 46, .int x1] S0 M N).bind fun q4 => j_oi none (fun r4 =>
    if r4 = 0 then
      some (some (.int (-1)), (S0, q4.2.1, q4.2.2))
    else
      bif j_in x1 27 then
      (C d 155 [.long x3.toInt64, .long 0, .long (q4.2.1 47 (x1).toNatClampNeg).toInt64] S0 q4.2.1 q4.2.2).bind fun q5 => j_oi none (fun r5 =>
      if r5 = 0 then
        some (some (.int (-1)), (S0, q5.2.1, q5.2.2))
      else
        (C d 157 [.ref 46, .int ((6 * x2) + x1), .int x3] S0 q5.2.1 q5.2.2).bind fun q6 => j_oi none (fun r6 =>
        some (some (.int r6), (S0, q6.2.1, q6.2.2))) q6.1) q5.1 else none) q4.1
  else if x2 = 2 then
    (C d 160 [.ref 46, .int x1] S0 M N).bind fun q7 => j_oi none (fun r7 =>
    if r7 = 0 then
      some (some (.int (-1)), (S0, q7.2.1, q7.2.2))
    else
      (C d 155 [.long x3.toInt64, .long 0, .long 12] S0 q7.2.1 q7.2.2).bind fun q8 => j_oi none (fun r8 =>
      if r8 = 0 then
        some (some (.int (-1)), (S0, q8.2.1, q8.2.2))
      else
        (C d 157 [.ref 46, .int (12 + x1), .int x3] S0 q8.2.1 q8.2.2).bind fun q9 => j_oi none (fun r9 =>
        some (some (.int r9), (S0, q9.2.1, q9.2.2))) q9.1) q8.1) q7.1
  else if x2 = 3 then
    (C d 160 [.ref 46, .int x1] S0 M N).bind fun q10 => j_oi none (fun r10 =>
    if r10 = 0 then
      some (some (.int (-1)), (S0, q10.2.1, q10.2.2))
    else
      bif j_in x1 27 then
      (C d 155 [.long x3.toInt64, .long 0, .long (q10.2.1 47 (x1).toNatClampNeg).toInt64] S0 q10.2.1 q10.2.2).bind fun q11 => j_oi none (fun r11 =>
      if r11 = 0 then
        some (some (.int (-1)), (S0, q11.2.1, q11.2.2))
      else
        (C d 157 [.ref 46, .int ((6 * x2) + x1), .int x3] S0 q11.2.1 q11.2.2).bind fun q12 => j_oi none (fun r12 =>
        some (some (.int r12), (S0, q12.2.1, q12.2.2))) q12.1) q11.1 else none) q10.1
  else if x2 = 4 then
    if x1 = 0 then
      (C d 155 [.long x3.toInt64, .long 0, .long 599] S0 M N).bind fun q13 => j_oi none (fun r13 =>
      if r13 = 0 then
        some (some (.int (-1)), (S0, q13.2.1, q13.2.2))
      else
        (C d 157 [.ref 46, .int 24, .int x3] S0 q13.2.1 q13.2.2).bind fun q14 => j_oi none (fun r14 =>
        some (some (.int r14), (S0, q14.2.1, q14.2.2))) q14.1) q13.1
    else
      some (some (.int (-1)), (S0, M, N))
  else if x2 = 5 then
    if x1 = 0 then
      (C d 155 [.long x3.toInt64, .long 0, .long 4] S0 M N).bind fun q15 => j_oi none (fun r15 =>
      if r15 = 0 then
        some (some (.int (-1)), (S0, q15.2.1, q15.2.2))
      else
        (C d 157 [.ref 46, .int 25, .int x3] S0 q15.2.1 q15.2.2).bind fun q16 => j_oi none (fun r16 =>
        some (some (.int r16), (S0, q16.2.1, q16.2.2))) q16.1) q15.1
    else
      some (some (.int (-1)), (S0, M, N))
  else if x2 = 6 then
    if x1 = 0 then
      (C d 155 [.long x3.toInt64, .long 1, .long 99] S0 M N).bind fun q17 => j_oi none (fun r17 =>
      if r17 = 0 then
        some (some (.int (-1)), (S0, q17.2.1, q17.2.2))
      else
        (C d 157 [.ref 46, .int 26, .int x3] S0 q17.2.1 q17.2.2).bind fun q18 => j_oi none (fun r18 =>
        some (some (.int r18), (S0, q18.2.1, q18.2.2))) q18.1) q17.1
    else
      some (some (.int (-1)), (S0, M, N))
  else 
    some (some (.int (-1)), (S0, M, N))) := (R_ev d kX11_mend 400 0 _ _ _).trans rfl
set_option maxRecDepth 100000 in
theorem bX11_ofGuest_0 (d : Nat) (x1 : Int32) (x2 : Int32) (M : j_M) (N : j_N) : R d kX11_ofGuest 0 [.ref 46, .int x1, .int x2] [] (S0, M, N) =
  (if x2 = 4 then
    (C d 175 [.ref 46, .int x1] S0 M N).bind fun q1 => j_oi none (fun r1 =>
    some (some (.int r1), (S0, q1.2.1, q1.2.2))) q1.1
  else if x2 = 5 then
    bif j_in x1 6 then
    some (some (.int (M 52 (x1).toNatClampNeg)), (S0, M, N)) else none
  else if x2 = 6 then
    bif j_in x1 6 then
    some (some (.int (M 51 (x1).toNatClampNeg)), (S0, M, N)) else none
  else 
    bif j_in ((6 * x2) + x1) 27 then
    some (some (.int (M 47 (((6 * x2) + x1)).toNatClampNeg)), (S0, M, N)) else none) := (R_ev d kX11_ofGuest 400 0 _ _ _).trans rfl
set_option maxRecDepth 100000 in
theorem bX11_of_0 (d : Nat) (x1 : Int32) (x2 : Int32) (M : j_M) (N : j_N) : R d kX11_of 0 [.ref 46, .int x1, .int x2, .null, .null] [] (S0, M, N) =
  ((C d 155 [.long x2.toInt64, .long 0, .long 6] S0 M N).bind fun q1 => j_oi none (fun r1 =>
  if r1 = 0 then
    if x1 = 0 then
      R d kX11_of 44 [.ref 46, .null, .int x2, .int 0, .int 0] [] (S0, q1.2.1, q1.2.2)
    else
      some (some (.int (-2000000000)), (S0, q1.2.1, q1.2.2))
  else
    (C d 160 [.ref 46, .int x1] S0 q1.2.1 q1.2.2).bind fun q2 => j_oi none (fun r2 =>
    if r2 = 0 then
      some (some (.int (-2000000000)), (S0, q2.2.1, q2.2.2))
    else
      (C d 164 [.ref 46, .int x1, .int x2] S0 q2.2.1 q2.2.2).bind fun q3 => j_oi none (fun r3 =>
      some (some (.int r3), (S0, q3.2.1, q3.2.2))) q3.1) q2.1) q1.1) := (R_ev d kX11_of 400 0 _ _ _).trans rfl
set_option maxRecDepth 100000 in
theorem bX11_of_44 (d : Nat) (x2 : Int32) (x3 : Int32) (x4 : Int32) (M : j_M) (N : j_N) : R d kX11_of 44 [.ref 46, .null, .int x2, .int x3, .int x4] [] (S0, M, N) =
  (if (M 46 6) ≤ x4 then
    if x2 = 10 then
      bif j_in ((24 + x2) - 10) 27 then
      some (some (.int (M 47 (((24 + x2) - 10)).toNatClampNeg)), (S0, M, N)) else none
    else if x2 = 11 then
      bif j_in ((24 + x2) - 10) 27 then
      some (some (.int (M 47 (((24 + x2) - 10)).toNatClampNeg)), (S0, M, N)) else none
    else if x2 = 12 then
      bif j_in ((24 + x2) - 10) 27 then
      some (some (.int (M 47 (((24 + x2) - 10)).toNatClampNeg)), (S0, M, N)) else none
    else if x2 = 13 then
      some (some (.int x3), (S0, M, N))
    else if x2 = 14 then
      if ((M 47 24) - x3) ≤ 0 then
        some (some (.int 0), (S0, M, N))
      else
        some (some (.int ((M 47 24) - x3)), (S0, M, N))
    else if x2 = 15 then
      if 0 ≤ ((M 47 24) - x3) then
        some (some (.int 0), (S0, M, N))
      else
        some (some (.int (-((M 47 24) - x3))), (S0, M, N))
    else if x2 = 16 then
      some (some (.int (M 46 10)), (S0, M, N))
    else if x2 = 17 then
      some (some (.int (M 46 9)), (S0, M, N))
    else 
      some (some (.int (-2000000000)), (S0, M, N))
  else
    bif j_in (6 + x4) 27 then
    R d kX11_of 44 [.ref 46, .null, .int x2, .int (x3 + (M 47 ((6 + x4)).toNatClampNeg)), .int (x4 + 1)] [] (S0, M, N) else none) := (R_ev d kX11_of 400 44 _ _ _).trans rfl
set_option maxRecDepth 100000 in
theorem bX11_think_0 (d : Nat) (x1 : Int32) (x2 : Int32) (M : j_M) (N : j_N) : R d kX11_think 0 [.ref 46, .int x1, .int x2, .null] [] (S0, M, N) =
  ((C d 160 [.ref 46, .int x1] S0 M N).bind fun q1 => j_oi none (fun r1 =>
  if r1 = 0 then
    some (some (.int (-2000000000)), (S0, q1.2.1, q1.2.2))
  else
    (C d 155 [.long x2.toInt64, .long (-1), .long 599] S0 q1.2.1 q1.2.2).bind fun q2 => j_oi none (fun r2 =>
    if r2 = 0 then
      some (some (.int (-2000000000)), (S0, q2.2.1, q2.2.2))
    else
      bif j_in x1 6 then
      bif j_in x1 6 then
      some (some (.int (q2.2.1 51 (x1).toNatClampNeg)), (S0, (j_w q2.2.1 51 (x1).toNatClampNeg x2), q2.2.2)) else none else none) q2.1) q1.1) := (R_ev d kX11_think 400 0 _ _ _).trans rfl
set_option maxRecDepth 100000 in
theorem bX11_laysOut_0 (d : Nat)  (M : j_M) (N : j_N) : R d kX11_laysOut 0 [.ref 46, .null] [] (S0, M, N) =
  (R d kX11_laysOut 10 [.ref 46, .int 0] [] (S0, (j_w M 46 12 (M 46 6)), N)) := (R_ev d kX11_laysOut 400 0 _ _ _).trans rfl
set_option maxRecDepth 100000 in
theorem bX11_laysOut_10 (d : Nat) (x1 : Int32) (M : j_M) (N : j_N) : R d kX11_laysOut 10 [.ref 46, .int x1] [] (S0, M, N) =
  (if (M 46 6) ≤ x1 then
    some (none, (S0, M, N))
  else
    bif j_in (6 + x1) 27 then
    bif j_in x1 7 then
    R d kX11_laysOut 10 [.ref 46, .int (x1 + 1)] [] (S0, (j_w M 53 (x1).toNatClampNeg (M 47 ((6 + x1)).toNatClampNeg)), N) else none else none) := (R_ev d kX11_laysOut 400 10 _ _ _).trans rfl
set_option maxRecDepth 100000 in
theorem bX11_leastBut_0 (d : Nat) (x1 : Int32) (M : j_M) (N : j_N) : R d kX11_leastBut 0 [.ref 46, .int x1, .null, .null] [] (S0, M, N) =
  (R d kX11_leastBut 4 [.ref 46, .int x1, .int (-1), .int 0] [] (S0, M, N)) := (R_ev d kX11_leastBut 400 0 _ _ _).trans rfl
set_option maxRecDepth 100000 in
theorem bX11_leastBut_4 (d : Nat) (x1 : Int32) (x2 : Int32) (x3 : Int32) (M : j_M) (N : j_N) : R d kX11_leastBut 4 [.ref 46, .int x1, .int x2, .int x3] [] (S0, M, N) =
  (if (M 46 12) ≤ x3 then
    some (some (.int x2), (S0, M, N))
  else
    if x3 = x1 then
      R d kX11_leastBut 4 [.ref 46, .int x1, .int x2, .int (x3 + 1)] [] (S0, M, N)
    else
      if x2 < 0 then
        R d kX11_leastBut 4 [.ref 46, .int x1, .int x3, .int (x3 + 1)] [] (S0, M, N)
      else
        bif j_in x3 7 then
        bif j_in x2 7 then
        if (M 53 (x2).toNatClampNeg) ≤ (M 53 (x3).toNatClampNeg) then
          R d kX11_leastBut 4 [.ref 46, .int x1, .int x2, .int (x3 + 1)] [] (S0, M, N)
        else
          R d kX11_leastBut 4 [.ref 46, .int x1, .int x3, .int (x3 + 1)] [] (S0, M, N) else none else none) := (R_ev d kX11_leastBut 400 4 _ _ _).trans rfl
set_option maxRecDepth 100000 in
theorem bX11_alikePay_0 (d : Nat) (x1 : Int32) (M : j_M) (N : j_N) : R d kX11_alikePay 0 [.ref 46, .int x1, .null, .null, .null, .null] [] (S0, M, N) =
  ((C d 168 [.ref 46, .int (-1)] S0 M N).bind fun q1 => j_oi none (fun r1 =>
  bif j_in r1 7 then
  R d kX11_alikePay 16 [.ref 46, .int x1, .int (q1.2.1 53 (r1).toNatClampNeg), .int 0, .int 0, .null] [] (S0, q1.2.1, q1.2.2) else none) q1.1) := (R_ev d kX11_alikePay 400 0 _ _ _).trans rfl
set_option maxRecDepth 100000 in
theorem bX11_alikePay_16 (d : Nat) (x1 : Int32) (x2 : Int32) (x3 : Int32) (x4 : Int32) (M : j_M) (N : j_N) : R d kX11_alikePay 16 [.ref 46, .int x1, .int x2, .int x3, .int x4, .null] [] (S0, M, N) =
  (if (M 46 12) ≤ x4 then
    if x3 = 0 then none else
    R d kX11_alikePay 58 [.ref 46, .int x1, .int x2, .int x3, .int (x1 - x1 / x3 * x3), .int 0] [] (S0, M, N)
  else
    bif j_in x4 7 then
    if (M 53 (x4).toNatClampNeg) = x2 then
      R d kX11_alikePay 16 [.ref 46, .int x1, .int x2, .int (x3 + 1), .int (x4 + 1), .null] [] (S0, M, N)
    else
      R d kX11_alikePay 16 [.ref 46, .int x1, .int x2, .int (x3 + 0), .int (x4 + 1), .null] [] (S0, M, N) else none) := (R_ev d kX11_alikePay 400 16 _ _ _).trans rfl
set_option maxRecDepth 100000 in
theorem bX11_alikePay_58 (d : Nat) (x1 : Int32) (x2 : Int32) (x3 : Int32) (x4 : Int32) (x5 : Int32) (M : j_M) (N : j_N) : R d kX11_alikePay 58 [.ref 46, .int x1, .int x2, .int x3, .int x4, .int x5] [] (S0, M, N) =
  (if (M 46 12) ≤ x5 then
    some (none, (S0, M, N))
  else
    bif j_in x5 7 then
    if (M 53 (x5).toNatClampNeg) = x2 then
      if x3 = 0 then none else
      if x4 ≤ 0 then
        bif j_in x5 7 then
        R d kX11_alikePay 58 [.ref 46, .int x1, .int x2, .int x3, .int (x4 + (-1)), .int (x5 + 1)] [] (S0, (j_w M 54 (x5).toNatClampNeg ((x1 / x3) + 0)), N) else none
      else
        bif j_in x5 7 then
        R d kX11_alikePay 58 [.ref 46, .int x1, .int x2, .int x3, .int (x4 + (-1)), .int (x5 + 1)] [] (S0, (j_w M 54 (x5).toNatClampNeg ((x1 / x3) + 1)), N) else none
    else
      R d kX11_alikePay 58 [.ref 46, .int x1, .int x2, .int x3, .int x4, .int (x5 + 1)] [] (S0, M, N) else none) := (R_ev d kX11_alikePay 400 58 _ _ _).trans rfl
set_option maxRecDepth 100000 in
theorem bX11_twoPay_0 (d : Nat) (x1 : Int32) (M : j_M) (N : j_N) : R d kX11_twoPay 0 [.ref 46, .int x1, .null, .null] [] (S0, M, N) =
  ((C d 168 [.ref 46, .int (-1)] S0 M N).bind fun q1 => j_oi none (fun r1 =>
  (C d 168 [.ref 46, .int r1] S0 q1.2.1 q1.2.2).bind fun q2 => j_oi none (fun r2 =>
  if 0 ≤ r2 then
    bif j_in r1 7 then
    if r2 < 0 then
      some (none, (S0, (j_w q2.2.1 54 (r1).toNatClampNeg (x1 - (x1 / 2))), q2.2.2))
    else
      bif j_in r2 7 then
      some (none, (S0, (j_w (j_w q2.2.1 54 (r1).toNatClampNeg (x1 - (x1 / 2))) 54 (r2).toNatClampNeg (x1 / 2)), q2.2.2)) else none else none
  else
    bif j_in r1 7 then
    if r2 < 0 then
      some (none, (S0, (j_w q2.2.1 54 (r1).toNatClampNeg x1), q2.2.2))
    else
      bif j_in r2 7 then
      some (none, (S0, (j_w (j_w q2.2.1 54 (r1).toNatClampNeg x1) 54 (r2).toNatClampNeg (x1 / 2)), q2.2.2)) else none else none) q2.1) q1.1) := (R_ev d kX11_twoPay 400 0 _ _ _).trans rfl
set_option maxRecDepth 100000 in
theorem bX11_givesBack_0 (d : Nat) (x1 : Int32) (M : j_M) (N : j_N) : R d kX11_givesBack 0 [.ref 46, .int x1, .null, .null] [] (S0, M, N) =
  (R d kX11_givesBack 4 [.ref 46, .int x1, .int 0, .int 1] [] (S0, M, N)) := (R_ev d kX11_givesBack 400 0 _ _ _).trans rfl
set_option maxRecDepth 100000 in
theorem bX11_givesBack_4 (d : Nat) (x1 : Int32) (x2 : Int32) (x3 : Int32) (M : j_M) (N : j_N) : R d kX11_givesBack 4 [.ref 46, .int x1, .int x2, .int x3] [] (S0, M, N) =
  (if (M 46 12) ≤ x3 then
    bif j_in x2 7 then
    if (M 53 (x2).toNatClampNeg) ≤ x1 then
      bif j_in x2 7 then
      bif j_in x2 7 then
      bif j_in x2 7 then
      some (none, (S0, (j_w (j_w M 55 (x2).toNatClampNeg (M 53 (x2).toNatClampNeg)) 46 15 (x1 - ((j_w M 55 (x2).toNatClampNeg (M 53 (x2).toNatClampNeg)) 55 (x2).toNatClampNeg))), N)) else none else none else none
    else
      bif j_in x2 7 then
      bif j_in x2 7 then
      some (none, (S0, (j_w (j_w M 55 (x2).toNatClampNeg x1) 46 15 (x1 - ((j_w M 55 (x2).toNatClampNeg x1) 55 (x2).toNatClampNeg))), N)) else none else none else none
  else
    bif j_in x3 7 then
    bif j_in x2 7 then
    if (M 53 (x3).toNatClampNeg) ≤ (M 53 (x2).toNatClampNeg) then
      R d kX11_givesBack 4 [.ref 46, .int x1, .int x2, .int (x3 + 1)] [] (S0, M, N)
    else
      R d kX11_givesBack 4 [.ref 46, .int x1, .int x3, .int (x3 + 1)] [] (S0, M, N) else none else none) := (R_ev d kX11_givesBack 400 4 _ _ _).trans rfl
set_option maxRecDepth 100000 in
theorem bX11_nightBy_0 (d : Nat) (x1 : Int32) (x2 : Int32) (M : j_M) (N : j_N) : R d kX11_nightBy 0 [.ref 46, .int x1, .int x2, .null, .null, .null, .null] [] (S0, M, N) =
  (R d kX11_nightBy 5 [.ref 46, .int x1, .int x2, .int 0, .int 0, .null, .null] [] (S0, M, N)) := (R_ev d kX11_nightBy 400 0 _ _ _).trans rfl
set_option maxRecDepth 100000 in
theorem bX11_nightBy_5 (d : Nat) (x1 : Int32) (x2 : Int32) (x3 : Int32) (x4 : Int32) (M : j_M) (N : j_N) : R d kX11_nightBy 5 [.ref 46, .int x1, .int x2, .int x3, .int x4, .null, .null] [] (S0, M, N) =
  (if (M 46 12) ≤ x4 then
    if x1 ≤ x3 then
      if x3 ≤ x1 then
        R d kX11_nightBy 72 [.ref 46, .null, .int x2, .null, .int 0, .null, .null] [.int 0] (S0, M, N)
      else
        R d kX11_nightBy 72 [.ref 46, .null, .int x2, .null, .int 0, .null, .null] [.int (x3 - x1)] (S0, M, N)
    else
      if x3 ≤ x1 then
        R d kX11_nightBy 72 [.ref 46, .null, .int x2, .null, .int (x1 - x3), .null, .null] [.int 0] (S0, M, N)
      else
        R d kX11_nightBy 72 [.ref 46, .null, .int x2, .null, .int (x1 - x3), .null, .null] [.int (x3 - x1)] (S0, M, N)
  else
    bif j_in x4 7 then
    bif j_in x4 7 then
    bif j_in x4 7 then
    R d kX11_nightBy 5 [.ref 46, .int x1, .int x2, .int (x3 + (M 53 (x4).toNatClampNeg)), .int (x4 + 1), .null, .null] [] (S0, (j_w (j_w M 54 (x4).toNatClampNeg 0) 55 (x4).toNatClampNeg 0), N) else none else none else none) := (R_ev d kX11_nightBy 400 5 _ _ _).trans rfl
set_option maxRecDepth 100000 in
theorem bX11_nightBy_72 (d : Nat) (x2 : Int32) (x4 : Int32) (s0 : Int32) (M : j_M) (N : j_N) : R d kX11_nightBy 72 [.ref 46, .null, .int x2, .null, .int x4, .null, .null] [.int s0] (S0, M, N) =
  (if (M 46 12) = 0 then
    some (none, (S0, (j_w M 46 15 s0), N))
  else
    (C d 168 [.ref 46, .int (-1)] S0 (j_w M 46 15 s0) N).bind fun q1 => j_oi none (fun r1 =>
    if x2 = 0 then
      (C d 169 [.ref 46, .int x4] S0 q1.2.1 q1.2.2).bind fun q4 => j_ov none (
      if x2 = 4 then
        (C d 171 [.ref 46, .int s0] S0 q4.2.1 q4.2.2).bind fun q5 => j_ov none (
        some (none, (S0, q5.2.1, q5.2.2))) q5.1
      else
        some (none, (S0, q4.2.1, q4.2.2))) q4.1
    else
      if x2 = 2 then
        (C d 170 [.ref 46, .int x4] S0 q1.2.1 q1.2.2).bind fun q2 => j_ov none (
        if x2 = 4 then
          (C d 171 [.ref 46, .int s0] S0 q2.2.1 q2.2.2).bind fun q3 => j_ov none (
          some (none, (S0, q3.2.1, q3.2.2))) q3.1
        else
          some (none, (S0, q2.2.1, q2.2.2))) q2.1
      else
        if x2 = 3 then
          bif j_in r1 7 then
          R d kX11_nightBy 146 [.ref 46, .null, .int x2, .null, .null, .int s0, .int r1] [.int (q1.2.1 53 (r1).toNatClampNeg), .int x4, .int r1, .ref 54] (S0, q1.2.1, q1.2.2) else none
        else
          R d kX11_nightBy 146 [.ref 46, .null, .int x2, .null, .null, .int s0, .int r1] [.int 0, .int x4, .int r1, .ref 54] (S0, q1.2.1, q1.2.2)) q1.1) := (R_ev d kX11_nightBy 400 72 _ _ _).trans rfl
set_option maxRecDepth 100000 in
theorem bX11_nightBy_146 (d : Nat) (x2 : Int32) (x5 : Int32) (x6 : Int32) (s1 : Int32) (s2 : Int32) (s3 : Int32) (M : j_M) (N : j_N) : R d kX11_nightBy 146 [.ref 46, .null, .int x2, .null, .null, .int x5, .int x6] [.int s3, .int s2, .int s1, .ref 54] (S0, M, N) =
  (bif j_in s1 7 then
  if x2 = 3 then
    bif j_in x6 7 then
    if x2 = 4 then
      (C d 171 [.ref 46, .int x5] S0 (j_w (j_w M 54 (s1).toNatClampNeg (s2 + s3)) 46 15 ((M 46 15) + (M 53 (x6).toNatClampNeg))) N).bind fun q2 => j_ov none (
      some (none, (S0, q2.2.1, q2.2.2))) q2.1
    else
      some (none, (S0, (j_w (j_w M 54 (s1).toNatClampNeg (s2 + s3)) 46 15 ((M 46 15) + (M 53 (x6).toNatClampNeg))), N)) else none
  else
    if x2 = 4 then
      (C d 171 [.ref 46, .int x5] S0 (j_w (j_w M 54 (s1).toNatClampNeg (s2 + s3)) 46 15 ((M 46 15) + 0)) N).bind fun q1 => j_ov none (
      some (none, (S0, q1.2.1, q1.2.2))) q1.1
    else
      some (none, (S0, (j_w (j_w M 54 (s1).toNatClampNeg (s2 + s3)) 46 15 ((M 46 15) + 0)), N)) else none) := (R_ev d kX11_nightBy 400 146 _ _ _).trans rfl
set_option maxRecDepth 100000 in
theorem bX11_nightAsIs_0 (d : Nat)  (M : j_M) (N : j_N) : R d kX11_nightAsIs 0 [.ref 46] [] (S0, M, N) =
  ((C d 172 [.ref 46, .int (M 47 24), .int (M 47 25)] S0 M N).bind fun q1 => j_ov none (
  some (none, (S0, q1.2.1, q1.2.2))) q1.1) := (R_ev d kX11_nightAsIs 400 0 _ _ _).trans rfl
set_option maxRecDepth 100000 in
theorem bX11_costIn_0 (d : Nat) (x1 : Int32) (M : j_M) (N : j_N) : R d kX11_costIn 0 [.ref 46, .int x1] [] (S0, M, N) =
  (bif j_in x1 7 then
  bif j_in x1 7 then
  bif j_in x1 7 then
  some (some (.int (((M 53 (x1).toNatClampNeg) + (M 54 (x1).toNatClampNeg)) - (M 55 (x1).toNatClampNeg))), (S0, M, N)) else none else none else none) := (R_ev d kX11_costIn 400 0 _ _ _).trans rfl
set_option maxRecDepth 100000 in
theorem bX11_costNow_0 (d : Nat) (x1 : Int32) (M : j_M) (N : j_N) : R d kX11_costNow 0 [.ref 46, .int x1] [] (S0, M, N) =
  ((C d 167 [.ref 46] S0 M N).bind fun q1 => j_ov none (
  (C d 173 [.ref 46] S0 q1.2.1 q1.2.2).bind fun q2 => j_ov none (
  (C d 174 [.ref 46, .int x1] S0 q2.2.1 q2.2.2).bind fun q3 => j_oi none (fun r3 =>
  some (some (.int r3), (S0, q3.2.1, q3.2.2))) q3.1) q2.1) q1.1) := (R_ev d kX11_costNow 400 0 _ _ _).trans rfl
end
section
/-! ===== block equations (printed by wip/whole/genblk.py) ===== -/
set_option maxRecDepth 100000 in
theorem bX11_costBy_0 (d : Nat) (x1 : Int32) (x2 : Int32) (M : j_M) (N : j_N) : R d kX11_costBy 0 [.ref 46, .int x1, .int x2, .null, .null] [] (S0, M, N) =
  (bif j_in x1 7 then
  bif j_in x1 7 then
  (C d 173 [.ref 46] S0 (j_w M 53 (x1).toNatClampNeg x2) N).bind fun q1 => j_ov none (
  (C d 174 [.ref 46, .int x1] S0 q1.2.1 q1.2.2).bind fun q2 => j_oi none (fun r2 =>
  bif j_in x1 7 then
  some (some (.int r2), (S0, (j_w q2.2.1 53 (x1).toNatClampNeg (M 53 (x1).toNatClampNeg)), q2.2.2)) else none) q2.1) q1.1 else none else none) := (R_ev d kX11_costBy 400 0 _ _ _).trans rfl
set_option maxRecDepth 100000 in
theorem bX11_leastCost_0 (d : Nat) (x1 : Int32) (M : j_M) (N : j_N) : R d kX11_leastCost 0 [.ref 46, .int x1, .null, .null, .null] [] (S0, M, N) =
  (R d kX11_leastCost 4 [.ref 46, .int x1, .int (-1), .int 0, .null] [] (S0, M, N)) := (R_ev d kX11_leastCost 400 0 _ _ _).trans rfl
set_option maxRecDepth 100000 in
theorem bX11_leastCost_4 (d : Nat) (x1 : Int32) (x2 : Int32) (x3 : Int32) (M : j_M) (N : j_N) : R d kX11_leastCost 4 [.ref 46, .int x1, .int x2, .int x3, .null] [] (S0, M, N) =
  (bif j_in x1 27 then
  if (M 47 (x1).toNatClampNeg) < x3 then
    some (some (.int x2), (S0, M, N))
  else
    (C d 176 [.ref 46, .int x1, .int x3] S0 M N).bind fun q1 => j_oi none (fun r1 =>
    if x2 < 0 then
      R d kX11_leastCost 4 [.ref 46, .int x1, .int r1, .int (x3 + (q1.2.1 47 26)), .null] [] (S0, (j_w q1.2.1 46 16 x3), q1.2.2)
    else
      if x2 ≤ r1 then
        R d kX11_leastCost 4 [.ref 46, .int x1, .int x2, .int (x3 + (q1.2.1 47 26)), .null] [] (S0, q1.2.1, q1.2.2)
      else
        R d kX11_leastCost 4 [.ref 46, .int x1, .int r1, .int (x3 + (q1.2.1 47 26)), .null] [] (S0, (j_w q1.2.1 46 16 x3), q1.2.2)) q1.1 else none) := (R_ev d kX11_leastCost 400 4 _ _ _).trans rfl
set_option maxRecDepth 100000 in
theorem bX11_putIn_0 (d : Nat) (x1 : Int32) (x2 : Int32) (M : j_M) (N : j_N) : R d kX11_putIn 0 [.ref 46, .int x1, .int x2, .null] [] (S0, M, N) =
  ((C d 160 [.ref 46, .int x1] S0 M N).bind fun q1 => j_oi none (fun r1 =>
  if r1 = 0 then
    some (some (.int (-2000000000)), (S0, q1.2.1, q1.2.2))
  else
    (C d 155 [.long x2.toInt64, .long 0, .long 1] S0 q1.2.1 q1.2.2).bind fun q2 => j_oi none (fun r2 =>
    if r2 = 0 then
      some (some (.int (-2000000000)), (S0, q2.2.1, q2.2.2))
    else
      (C d 167 [.ref 46] S0 q2.2.1 q2.2.2).bind fun q3 => j_ov none (
      (C d 177 [.ref 46, .int x1] S0 q3.2.1 q3.2.2).bind fun q4 => j_oi none (fun r4 =>
      if x2 = 0 then
        some (some (.int (q4.2.1 46 16)), (S0, q4.2.1, q4.2.2))
      else
        some (some (.int r4), (S0, q4.2.1, q4.2.2))) q4.1) q3.1) q2.1) q1.1) := (R_ev d kX11_putIn 400 0 _ _ _).trans rfl
set_option maxRecDepth 100000 in
theorem bX11_common_0 (d : Nat) (y0 : Int64) (y2 : Int64) (M : j_M) (N : j_N) : R d kX11_common 0 [.long y0, .null, .long y2, .null, .null, .null, .null, .null, .null, .null] [] (S0, M, N) =
  (R d kX11_common 6 [.null, .null, .null, .null, .long y0, .null, .long y2, .null, .null, .null] [] (S0, M, N)) := (R_ev d kX11_common 400 0 _ _ _).trans rfl
set_option maxRecDepth 100000 in
theorem bX11_common_6 (d : Nat) (y4 : Int64) (y6 : Int64) (M : j_M) (N : j_N) : R d kX11_common 6 [.null, .null, .null, .null, .long y4, .null, .long y6, .null, .null, .null] [] (S0, M, N) =
  (if (lg_cmp y6 0) = 0 then
    some (some (.long y4), (S0, M, N))
  else
    if y6 = 0 then none else
    R d kX11_common 6 [.null, .null, .null, .null, .long y6, .null, .long (y4 - y4 / y6 * y6), .null, .null, .null] [] (S0, M, N)) := (R_ev d kX11_common 400 6 _ _ _).trans rfl
set_option maxRecDepth 100000 in
theorem bX11_partOf_0 (d : Nat) (y0 : Int64) (y2 : Int64) (x4 : Int32) (M : j_M) (N : j_N) : R d kX11_partOf 0 [.long y0, .null, .long y2, .null, .int x4, .null, .null] [] (S0, M, N) =
  (if (lg_cmp y0 0) = 0 then
    some (some (.long x4.toInt64), (S0, M, N))
  else
    (C d 179 [.long y0, .long y2] S0 M N).bind fun q1 => j_ol none (fun r1 =>
    if x4 = 0 then
      if r1 = 0 then none else
      some (some (.long (y0 / r1)), (S0, q1.2.1, q1.2.2))
    else
      if r1 = 0 then none else
      some (some (.long (y2 / r1)), (S0, q1.2.1, q1.2.2))) q1.1) := (R_ev d kX11_partOf 400 0 _ _ _).trans rfl
set_option maxRecDepth 100000 in
theorem bX11_meanOf_0 (d : Nat) (x1 : Int32) (x2 : Int32) (M : j_M) (N : j_N) : R d kX11_meanOf 0 [.ref 46, .int x1, .int x2, .null, .null, .null, .null, .null, .null, .null] [] (S0, M, N) =
  (R d kX11_meanOf 5 [.ref 46, .int x1, .int x2, .long 0, .null, .int 0, .null, .null, .null, .null] [] (S0, M, N)) := (R_ev d kX11_meanOf 400 0 _ _ _).trans rfl
set_option maxRecDepth 100000 in
theorem bX11_meanOf_5 (d : Nat) (x1 : Int32) (x2 : Int32) (y3 : Int64) (x5 : Int32) (M : j_M) (N : j_N) : R d kX11_meanOf 5 [.ref 46, .int x1, .int x2, .long y3, .null, .int x5, .null, .null, .null, .null] [] (S0, M, N) =
  (if ((1 : Int32) <<< ((M 46 6) &&& 31)) ≤ x5 then
    some (some (.long y3), (S0, M, N))
  else
    if ((x5 >>> (x1 &&& 31)) &&& 1) = 1 then
      R d kX11_meanOf 5 [.ref 46, .int x1, .int x2, .long y3, .null, .int (x5 + 1), .null, .null, .null, .null] [] (S0, M, N)
    else
      (C d 167 [.ref 46] S0 M N).bind fun q1 => j_ov none (
      R d kX11_meanOf 39 [.ref 46, .int x1, .int x2, .long y3, .null, .int x5, .long 1, .null, .int 0, .null] [] (S0, q1.2.1, q1.2.2)) q1.1) := (R_ev d kX11_meanOf 400 5 _ _ _).trans rfl
set_option maxRecDepth 100000 in
theorem bX11_meanOf_39 (d : Nat) (x1 : Int32) (x2 : Int32) (y3 : Int64) (x5 : Int32) (y6 : Int64) (x8 : Int32) (M : j_M) (N : j_N) : R d kX11_meanOf 39 [.ref 46, .int x1, .int x2, .long y3, .null, .int x5, .long y6, .null, .int x8, .null] [] (S0, M, N) =
  (if (M 46 6) ≤ x8 then
    if (lg_cmp y6 0) = 0 then
      R d kX11_meanOf 5 [.ref 46, .int x1, .int x2, .long (y3 + 0), .null, .int (x5 + 1), .null, .null, .null, .null] [] (S0, M, N)
    else
      (C d 176 [.ref 46, .int x1, .int x2] S0 M N).bind fun q1 => j_oi none (fun r1 =>
      R d kX11_meanOf 5 [.ref 46, .int x1, .int x2, .long (y3 + (y6 * r1.toInt64)), .null, .int (x5 + 1), .null, .null, .null, .null] [] (S0, q1.2.1, q1.2.2)) q1.1
  else
    if ((x5 >>> (x8 &&& 31)) &&& 1) = 1 then
      bif j_in (18 + x8) 27 then
      R d kX11_meanOf 97 [.ref 46, .int x1, .int x2, .long y3, .null, .int x5, .long y6, .null, .int x8, .int 1] [.int (M 47 ((18 + x8)).toNatClampNeg), .int x8, .ref 53] (S0, M, N) else none
    else
      bif j_in x8 7 then
      R d kX11_meanOf 97 [.ref 46, .int x1, .int x2, .long y3, .null, .int x5, .long y6, .null, .int x8, .int 0] [.int (M 53 (x8).toNatClampNeg), .int x8, .ref 53] (S0, M, N) else none) := (R_ev d kX11_meanOf 400 39 _ _ _).trans rfl
set_option maxRecDepth 100000 in
theorem bX11_meanOf_97 (d : Nat) (x1 : Int32) (x2 : Int32) (y3 : Int64) (x5 : Int32) (y6 : Int64) (x8 : Int32) (x9 : Int32) (s1 : Int32) (s2 : Int32) (M : j_M) (N : j_N) : R d kX11_meanOf 97 [.ref 46, .int x1, .int x2, .long y3, .null, .int x5, .long y6, .null, .int x8, .int x9] [.int s2, .int s1, .ref 53] (S0, M, N) =
  (bif j_in s1 7 then
  if x8 = x1 then
    R d kX11_meanOf 39 [.ref 46, .int x1, .int x2, .long y3, .null, .int x5, .long (y6 * 1), .null, .int (x8 + 1), .null] [] (S0, (j_w M 53 (s1).toNatClampNeg s2), N)
  else
    if x9 = 0 then
      bif j_in (12 + x8) 27 then
      R d kX11_meanOf 39 [.ref 46, .int x1, .int x2, .long y3, .null, .int x5, .long (y6 * (12 - (M 47 ((12 + x8)).toNatClampNeg)).toInt64), .null, .int (x8 + 1), .null] [] (S0, (j_w M 53 (s1).toNatClampNeg s2), N) else none
    else
      bif j_in (12 + x8) 27 then
      R d kX11_meanOf 39 [.ref 46, .int x1, .int x2, .long y3, .null, .int x5, .long (y6 * (M 47 ((12 + x8)).toNatClampNeg).toInt64), .null, .int (x8 + 1), .null] [] (S0, (j_w M 53 (s1).toNatClampNeg s2), N) else none else none) := (R_ev d kX11_meanOf 400 97 _ _ _).trans rfl
set_option maxRecDepth 100000 in
theorem bX11_wholeOf_0 (d : Nat)  (M : j_M) (N : j_N) : R d kX11_wholeOf 0 [.ref 46, .null, .null, .null] [] (S0, M, N) =
  (R d kX11_wholeOf 4 [.ref 46, .long 1, .null, .int 1] [] (S0, M, N)) := (R_ev d kX11_wholeOf 400 0 _ _ _).trans rfl
set_option maxRecDepth 100000 in
theorem bX11_wholeOf_4 (d : Nat) (y1 : Int64) (x3 : Int32) (M : j_M) (N : j_N) : R d kX11_wholeOf 4 [.ref 46, .long y1, .null, .int x3] [] (S0, M, N) =
  (if (M 46 6) ≤ x3 then
    some (some (.long y1), (S0, M, N))
  else
    R d kX11_wholeOf 4 [.ref 46, .long (y1 * 12), .null, .int (x3 + 1)] [] (S0, M, N)) := (R_ev d kX11_wholeOf 400 4 _ _ _).trans rfl
set_option maxRecDepth 100000 in
theorem bX11_mean_0 (d : Nat) (x1 : Int32) (x2 : Int32) (x3 : Int32) (M : j_M) (N : j_N) : R d kX11_mean 0 [.ref 46, .int x1, .int x2, .int x3] [] (S0, M, N) =
  ((C d 160 [.ref 46, .int x1] S0 M N).bind fun q1 => j_oi none (fun r1 =>
  if r1 = 0 then
    some (some (.long (-9223372036854775808)), (S0, q1.2.1, q1.2.2))
  else
    bif j_in x1 27 then
    (C d 155 [.long x2.toInt64, .long 0, .long (q1.2.1 47 (x1).toNatClampNeg).toInt64] S0 q1.2.1 q1.2.2).bind fun q2 => j_oi none (fun r2 =>
    if r2 = 0 then
      some (some (.long (-9223372036854775808)), (S0, q2.2.1, q2.2.2))
    else
      (C d 155 [.long x3.toInt64, .long 0, .long 1] S0 q2.2.1 q2.2.2).bind fun q3 => j_oi none (fun r3 =>
      if r3 = 0 then
        some (some (.long (-9223372036854775808)), (S0, q3.2.1, q3.2.2))
      else
        (C d 181 [.ref 46, .int x1, .int x2] S0 q3.2.1 q3.2.2).bind fun q4 => j_ol none (fun r4 =>
        (C d 182 [.ref 46] S0 q4.2.1 q4.2.2).bind fun q5 => j_ol none (fun r5 =>
        (C d 180 [.long r4, .long r5, .int x3] S0 q5.2.1 q5.2.2).bind fun q6 => j_ol none (fun r6 =>
        some (some (.long r6), (S0, q6.2.1, q6.2.2))) q6.1) q5.1) q4.1) q3.1) q2.1 else none) q1.1) := (R_ev d kX11_mean 400 0 _ _ _).trans rfl
set_option maxRecDepth 100000 in
theorem bX11_bestMean_0 (d : Nat) (x1 : Int32) (M : j_M) (N : j_N) : R d kX11_bestMean 0 [.ref 46, .int x1, .null, .null, .null, .null, .null, .null] [] (S0, M, N) =
  ((C d 160 [.ref 46, .int x1] S0 M N).bind fun q1 => j_oi none (fun r1 =>
  if r1 = 0 then
    some (some (.int (-1)), (S0, q1.2.1, q1.2.2))
  else
    (C d 181 [.ref 46, .int x1, .int 0] S0 q1.2.1 q1.2.2).bind fun q2 => j_ol none (fun r2 =>
    R d kX11_bestMean 28 [.ref 46, .int x1, .int 0, .long r2, .null, .int (q2.2.1 47 26), .null, .null] [] (S0, q2.2.1, q2.2.2)) q2.1) q1.1) := (R_ev d kX11_bestMean 400 0 _ _ _).trans rfl
set_option maxRecDepth 100000 in
theorem bX11_bestMean_28 (d : Nat) (x1 : Int32) (x2 : Int32) (y3 : Int64) (x5 : Int32) (M : j_M) (N : j_N) : R d kX11_bestMean 28 [.ref 46, .int x1, .int x2, .long y3, .null, .int x5, .null, .null] [] (S0, M, N) =
  (bif j_in x1 27 then
  if (M 47 (x1).toNatClampNeg) < x5 then
    some (some (.int x2), (S0, M, N))
  else
    (C d 181 [.ref 46, .int x1, .int x5] S0 M N).bind fun q1 => j_ol none (fun r1 =>
    if 0 ≤ (lg_cmp r1 y3) then
      if 0 ≤ (lg_cmp r1 y3) then
        R d kX11_bestMean 28 [.ref 46, .int x1, .int x2, .long y3, .null, .int (x5 + (q1.2.1 47 26)), .null, .null] [] (S0, q1.2.1, q1.2.2)
      else
        R d kX11_bestMean 28 [.ref 46, .int x1, .int x2, .long r1, .null, .int (x5 + (q1.2.1 47 26)), .null, .null] [] (S0, q1.2.1, q1.2.2)
    else
      if 0 ≤ (lg_cmp r1 y3) then
        R d kX11_bestMean 28 [.ref 46, .int x1, .int x5, .long y3, .null, .int (x5 + (q1.2.1 47 26)), .null, .null] [] (S0, q1.2.1, q1.2.2)
      else
        R d kX11_bestMean 28 [.ref 46, .int x1, .int x5, .long r1, .null, .int (x5 + (q1.2.1 47 26)), .null, .null] [] (S0, q1.2.1, q1.2.2)) q1.1 else none) := (R_ev d kX11_bestMean 400 28 _ _ _).trans rfl
set_option maxRecDepth 100000 in
theorem bX11_wouldChange_0 (d : Nat) (x1 : Int32) (M : j_M) (N : j_N) : R d kX11_wouldChange 0 [.ref 46, .int x1] [] (S0, M, N) =
  ((C d 177 [.ref 46, .int x1] S0 M N).bind fun q1 => j_oi none (fun r1 =>
  bif j_in x1 7 then
  (C d 176 [.ref 46, .int x1, .int (q1.2.1 53 (x1).toNatClampNeg)] S0 q1.2.1 q1.2.2).bind fun q2 => j_oi none (fun r2 =>
  if r2 ≤ r1 then
    some (some (.int 0), (S0, q2.2.1, q2.2.2))
  else
    some (some (.int 1), (S0, q2.2.1, q2.2.2))) q2.1 else none) q1.1) := (R_ev d kX11_wouldChange 400 0 _ _ _).trans rfl
set_option maxRecDepth 100000 in
theorem bX11_firstWho_0 (d : Nat)  (M : j_M) (N : j_N) : R d kX11_firstWho 0 [.ref 46, .null] [] (S0, M, N) =
  (R d kX11_firstWho 2 [.ref 46, .int 0] [] (S0, M, N)) := (R_ev d kX11_firstWho 400 0 _ _ _).trans rfl
set_option maxRecDepth 100000 in
theorem bX11_firstWho_2 (d : Nat) (x1 : Int32) (M : j_M) (N : j_N) : R d kX11_firstWho 2 [.ref 46, .int x1] [] (S0, M, N) =
  (if (M 46 6) ≤ x1 then
    some (some (.int (-2)), (S0, M, N))
  else
    (C d 185 [.ref 46, .int x1] S0 M N).bind fun q1 => j_oi none (fun r1 =>
    if r1 = 0 then
      R d kX11_firstWho 2 [.ref 46, .int (x1 + 1)] [] (S0, q1.2.1, q1.2.2)
    else
      some (some (.int x1), (S0, q1.2.1, q1.2.2))) q1.1) := (R_ev d kX11_firstWho 400 2 _ _ _).trans rfl
set_option maxRecDepth 100000 in
theorem bX11_rest_0 (d : Nat) (x1 : Int32) (M : j_M) (N : j_N) : R d kX11_rest 0 [.ref 46, .int x1, .null] [] (S0, M, N) =
  ((C d 155 [.long x1.toInt64, .long 0, .long 1] S0 M N).bind fun q1 => j_oi none (fun r1 =>
  if r1 = 0 then
    some (some (.int (-1)), (S0, q1.2.1, q1.2.2))
  else
    (C d 167 [.ref 46] S0 q1.2.1 q1.2.2).bind fun q2 => j_ov none (
    (C d 186 [.ref 46] S0 q2.2.1 q2.2.2).bind fun q3 => j_oi none (fun r3 =>
    if x1 = 1 then
      some (some (.int r3), (S0, q3.2.1, q3.2.2))
    else
      if 0 ≤ r3 then
        some (some (.int 0), (S0, q3.2.1, q3.2.2))
      else
        some (some (.int 1), (S0, q3.2.1, q3.2.2))) q3.1) q2.1) q1.1) := (R_ev d kX11_rest 400 0 _ _ _).trans rfl
set_option maxRecDepth 100000 in
theorem bX11_sumsOf_0 (d : Nat) (x1 : Int32) (M : j_M) (N : j_N) : R d kX11_sumsOf 0 [.ref 46, .int x1] [] (S0, M, N) =
  (bif j_in x1 27 then
  if (M 47 26) = 0 then none else
  some (some (.int (((M 47 (x1).toNatClampNeg) / (M 47 26)) + 1)), (S0, M, N)) else none) := (R_ev d kX11_sumsOf 400 0 _ _ _).trans rfl
set_option maxRecDepth 100000 in
theorem bX11_rests_0 (d : Nat) (x1 : Int32) (M : j_M) (N : j_N) : R d kX11_rests 0 [.ref 46, .int x1, .null, .null, .null, .null, .null, .null] [] (S0, M, N) =
  (if x1 = (-1) then
    R d kX11_rests 19 [.ref 46, .int x1, .int 1, .int 0, .null, .null, .null, .null] [] (S0, M, N)
  else
    (C d 160 [.ref 46, .int x1] S0 M N).bind fun q1 => j_oi none (fun r1 =>
    if r1 = 0 then
      some (some (.int (-1)), (S0, q1.2.1, q1.2.2))
    else
      R d kX11_rests 19 [.ref 46, .int x1, .int 1, .int 0, .null, .null, .null, .null] [] (S0, q1.2.1, q1.2.2)) q1.1) := (R_ev d kX11_rests 400 0 _ _ _).trans rfl
set_option maxRecDepth 100000 in
theorem bX11_rests_19 (d : Nat) (x1 : Int32) (x2 : Int32) (x3 : Int32) (M : j_M) (N : j_N) : R d kX11_rests 19 [.ref 46, .int x1, .int x2, .int x3, .null, .null, .null, .null] [] (S0, M, N) =
  (if (M 46 6) ≤ x3 then
    R d kX11_rests 68 [.ref 46, .int x1, .int x2, .int 0, .int (-2), .int 0, .null, .null] [] (S0, (j_w M 46 12 (M 46 6)), N)
  else
    (C d 188 [.ref 46, .int x3] S0 M N).bind fun q1 => j_oi none (fun r1 =>
    if (x2 * r1) ≤ 4096 then
      R d kX11_rests 19 [.ref 46, .int x1, .int (x2 * r1), .int (x3 + 1), .null, .null, .null, .null] [] (S0, q1.2.1, q1.2.2)
    else
      some (some (.int (-5)), (S0, q1.2.1, q1.2.2))) q1.1) := (R_ev d kX11_rests 400 19 _ _ _).trans rfl
set_option maxRecDepth 100000 in
theorem bX11_rests_68 (d : Nat) (x1 : Int32) (x2 : Int32) (x3 : Int32) (x4 : Int32) (x5 : Int32) (M : j_M) (N : j_N) : R d kX11_rests 68 [.ref 46, .int x1, .int x2, .int x3, .int x4, .int x5, .null, .null] [] (S0, M, N) =
  (if x2 ≤ x5 then
    if 0 ≤ x1 then
      some (some (.int x4), (S0, M, N))
    else
      some (some (.int x3), (S0, M, N))
  else
    R d kX11_rests 86 [.ref 46, .int x1, .int x2, .int x3, .int x4, .int x5, .int x5, .int ((M 46 6) - 1)] [] (S0, M, N)) := (R_ev d kX11_rests 400 68 _ _ _).trans rfl
set_option maxRecDepth 100000 in
theorem bX11_rests_86 (d : Nat) (x1 : Int32) (x2 : Int32) (x3 : Int32) (x4 : Int32) (x5 : Int32) (x6 : Int32) (x7 : Int32) (M : j_M) (N : j_N) : R d kX11_rests 86 [.ref 46, .int x1, .int x2, .int x3, .int x4, .int x5, .int x6, .int x7] [] (S0, M, N) =
  (if x7 < 0 then
    (C d 186 [.ref 46] S0 M N).bind fun q1 => j_oi none (fun r1 =>
    if 0 ≤ r1 then
      R d kX11_rests 68 [.ref 46, .int x1, .int x2, .int x3, .int x4, .int (x5 + 1), .null, .null] [] (S0, q1.2.1, q1.2.2)
    else
      if x3 = 0 then
        if x1 < 0 then
          R d kX11_rests 68 [.ref 46, .int x1, .int x2, .int (x3 + 1), .int x4, .int (x5 + 1), .null, .null] [] (S0, q1.2.1, q1.2.2)
        else
          bif j_in x1 7 then
          R d kX11_rests 68 [.ref 46, .int x1, .int x2, .int (x3 + 1), .int (q1.2.1 53 (x1).toNatClampNeg), .int (x5 + 1), .null, .null] [] (S0, q1.2.1, q1.2.2) else none
      else
        R d kX11_rests 68 [.ref 46, .int x1, .int x2, .int (x3 + 1), .int x4, .int (x5 + 1), .null, .null] [] (S0, q1.2.1, q1.2.2)) q1.1
  else
    (C d 188 [.ref 46, .int x7] S0 M N).bind fun q2 => j_oi none (fun r2 =>
    if r2 = 0 then none else
    bif j_in x7 7 then
    (C d 188 [.ref 46, .int x7] S0 (j_w q2.2.1 53 (x7).toNatClampNeg ((x6 - x6 / r2 * r2) * (q2.2.1 47 26))) q2.2.2).bind fun q3 => j_oi none (fun r3 =>
    if r3 = 0 then none else
    R d kX11_rests 86 [.ref 46, .int x1, .int x2, .int x3, .int x4, .int x5, .int (x6 / r3), .int (x7 + (-1))] [] (S0, q3.2.1, q3.2.2)) q3.1 else none) q2.1) := (R_ev d kX11_rests 400 86 _ _ _).trans rfl
set_option maxRecDepth 100000 in
theorem bX11_turns_0 (d : Nat) (x1 : Int32) (M : j_M) (N : j_N) : R d kX11_turns 0 [.ref 46, .int x1, .null, .null, .null, .null] [] (S0, M, N) =
  (if x1 = (-1) then
    (C d 167 [.ref 46] S0 M N).bind fun q1 => j_ov none (
    R d kX11_turns 26 [.ref 46, .int x1, .int 0, .int 0, .int 0, .null] [] (S0, q1.2.1, q1.2.2)) q1.1
  else
    (C d 160 [.ref 46, .int x1] S0 M N).bind fun q2 => j_oi none (fun r2 =>
    if r2 = 0 then
      some (some (.int (-1)), (S0, q2.2.1, q2.2.2))
    else
      (C d 167 [.ref 46] S0 q2.2.1 q2.2.2).bind fun q3 => j_ov none (
      R d kX11_turns 26 [.ref 46, .int x1, .int 0, .int 0, .int 0, .null] [] (S0, q3.2.1, q3.2.2)) q3.1) q2.1) := (R_ev d kX11_turns 400 0 _ _ _).trans rfl
set_option maxRecDepth 100000 in
theorem bX11_turns_26 (d : Nat) (x1 : Int32) (x2 : Int32) (x3 : Int32) (x4 : Int32) (M : j_M) (N : j_N) : R d kX11_turns 26 [.ref 46, .int x1, .int x2, .int x3, .int x4, .null] [] (S0, M, N) =
  (if (M 46 6) ≤ x3 then
    if 0 ≤ x1 then
      bif j_in x1 7 then
      some (some (.int (M 53 (x1).toNatClampNeg)), (S0, M, N)) else none
    else
      some (some (.int x2), (S0, M, N))
  else
    (C d 185 [.ref 46, .int x4] S0 M N).bind fun q1 => j_oi none (fun r1 =>
    if r1 = 0 then
      if (q1.2.1 46 6) = 0 then none else
      R d kX11_turns 26 [.ref 46, .int x1, .int x2, .int (x3 + 1), .int ((x4 + 1) - (x4 + 1) / (q1.2.1 46 6) * (q1.2.1 46 6)), .null] [] (S0, q1.2.1, q1.2.2)
    else
      if x2 = 60 then
        if 0 ≤ x1 then
          bif j_in x1 7 then
          some (some (.int (q1.2.1 53 (x1).toNatClampNeg)), (S0, q1.2.1, q1.2.2)) else none
        else
          some (some (.int (-2)), (S0, q1.2.1, q1.2.2))
      else
        (C d 177 [.ref 46, .int x4] S0 q1.2.1 q1.2.2).bind fun q2 => j_oi none (fun r2 =>
        bif j_in x4 7 then
        if (q2.2.1 46 6) = 0 then none else
        R d kX11_turns 26 [.ref 46, .int x1, .int (x2 + 1), .int (0 + 1), .int ((x4 + 1) - (x4 + 1) / (q2.2.1 46 6) * (q2.2.1 46 6)), .null] [] (S0, (j_w q2.2.1 53 (x4).toNatClampNeg (q2.2.1 46 16)), q2.2.2) else none) q2.1) q1.1) := (R_ev d kX11_turns 400 26 _ _ _).trans rfl
set_option maxRecDepth 100000 in
theorem bX11_agree_0 (d : Nat) (x1 : Int32) (x2 : Int32) (M : j_M) (N : j_N) : R d kX11_agree 0 [.ref 46, .int x1, .int x2, .null, .null, .null, .null, .null, .null, .null, .null] [] (S0, M, N) =
  (if x1 < 0 then
    some (some (.int (-2000000000)), (S0, M, N))
  else
    (C d 160 [.ref 46, .int (x1 / 10)] S0 M N).bind fun q1 => j_oi none (fun r1 =>
    if r1 = 0 then
      some (some (.int (-2000000000)), (S0, q1.2.1, q1.2.2))
    else
      (C d 160 [.ref 46, .int (x1 - x1 / 10 * 10)] S0 q1.2.1 q1.2.2).bind fun q2 => j_oi none (fun r2 =>
      if r2 = 0 then
        some (some (.int (-2000000000)), (S0, q2.2.1, q2.2.2))
      else
        if (x1 - x1 / 10 * 10) ≤ (x1 / 10) then
          some (some (.int (-2000000000)), (S0, q2.2.1, q2.2.2))
        else
          (C d 155 [.long x2.toInt64, .long 0, .long 3] S0 q2.2.1 q2.2.2).bind fun q3 => j_oi none (fun r3 =>
          if r3 = 0 then
            some (some (.int (-2000000000)), (S0, q3.2.1, q3.2.2))
          else
            (C d 167 [.ref 46] S0 q3.2.1 q3.2.2).bind fun q4 => j_ov none (
            R d kX11_agree 79 [.ref 46, .null, .int x2, .int (x1 / 10), .int (x1 - x1 / 10 * 10), .int (-1), .int 0, .int 0, .int 0, .null, .null] [] (S0, q4.2.1, q4.2.2)) q4.1) q3.1) q2.1) q1.1) := (R_ev d kX11_agree 400 0 _ _ _).trans rfl
set_option maxRecDepth 100000 in
theorem bX11_agree_79 (d : Nat) (x2 : Int32) (x3 : Int32) (x4 : Int32) (x5 : Int32) (x6 : Int32) (x7 : Int32) (x8 : Int32) (M : j_M) (N : j_N) : R d kX11_agree 79 [.ref 46, .null, .int x2, .int x3, .int x4, .int x5, .int x6, .int x7, .int x8, .null, .null] [] (S0, M, N) =
  (bif j_in x3 27 then
  if (M 47 (x3).toNatClampNeg) < x8 then
    if 3 ≤ x2 then
      bif j_in x3 7 then
      bif j_in x4 7 then
      (C d 173 [.ref 46] S0 (j_w (j_w M 53 (x3).toNatClampNeg x6) 53 (x4).toNatClampNeg x7) N).bind fun q1 => j_ov none (
      R d kX11_agree 245 [.ref 46, .null, .null, .int x3, .int x4, .null, .null, .null, .int 0, .null, .null] [] (S0, q1.2.1, q1.2.2)) q1.1 else none else none
    else
      if x2 = 0 then
        some (some (.int x5), (S0, M, N))
      else
        if x2 = 1 then
          some (some (.int x6), (S0, M, N))
        else
          some (some (.int x7), (S0, M, N))
  else
    R d kX11_agree 93 [.ref 46, .null, .int x2, .int x3, .int x4, .int x5, .int x6, .int x7, .int x8, .int 0, .null] [] (S0, M, N) else none) := (R_ev d kX11_agree 400 79 _ _ _).trans rfl
set_option maxRecDepth 100000 in
theorem bX11_agree_245 (d : Nat) (x3 : Int32) (x4 : Int32) (x8 : Int32) (M : j_M) (N : j_N) : R d kX11_agree 245 [.ref 46, .null, .null, .int x3, .int x4, .null, .null, .null, .int x8, .null, .null] [] (S0, M, N) =
  (if (M 46 6) ≤ x8 then
    some (some (.int (-2)), (S0, M, N))
  else
    if x8 = x3 then
      R d kX11_agree 245 [.ref 46, .null, .null, .int x3, .int x4, .null, .null, .null, .int (x8 + 1), .null, .null] [] (S0, M, N)
    else
      if x8 = x4 then
        R d kX11_agree 245 [.ref 46, .null, .null, .int x3, .int x4, .null, .null, .null, .int (x8 + 1), .null, .null] [] (S0, M, N)
      else
        bif j_in x8 7 then
        if (M 54 (x8).toNatClampNeg) ≤ 0 then
          R d kX11_agree 245 [.ref 46, .null, .null, .int x3, .int x4, .null, .null, .null, .int (x8 + 1), .null, .null] [] (S0, M, N)
        else
          some (some (.int x8), (S0, M, N)) else none) := (R_ev d kX11_agree 400 245 _ _ _).trans rfl
set_option maxRecDepth 100000 in
theorem bX11_agree_93 (d : Nat) (x2 : Int32) (x3 : Int32) (x4 : Int32) (x5 : Int32) (x6 : Int32) (x7 : Int32) (x8 : Int32) (x9 : Int32) (M : j_M) (N : j_N) : R d kX11_agree 93 [.ref 46, .null, .int x2, .int x3, .int x4, .int x5, .int x6, .int x7, .int x8, .int x9, .null] [] (S0, M, N) =
  (bif j_in x4 27 then
  if (M 47 (x4).toNatClampNeg) < x9 then
    R d kX11_agree 79 [.ref 46, .null, .int x2, .int x3, .int x4, .int x5, .int x6, .int x7, .int (x8 + (M 47 26)), .null, .null] [] (S0, M, N)
  else
    bif j_in x3 7 then
    bif j_in x4 7 then
    (C d 173 [.ref 46] S0 (j_w (j_w M 53 (x3).toNatClampNeg x8) 53 (x4).toNatClampNeg x9) N).bind fun q1 => j_ov none (
    (C d 174 [.ref 46, .int x3] S0 q1.2.1 q1.2.2).bind fun q2 => j_oi none (fun r2 =>
    (C d 174 [.ref 46, .int x4] S0 q2.2.1 q2.2.2).bind fun q3 => j_oi none (fun r3 =>
    if x5 < 0 then
      R d kX11_agree 93 [.ref 46, .null, .int x2, .int x3, .int x4, .int (r2 + r3), .int x8, .int x9, .int x8, .int (x9 + (q3.2.1 47 26)), .null] [] (S0, q3.2.1, q3.2.2)
    else
      if x5 ≤ (r2 + r3) then
        R d kX11_agree 93 [.ref 46, .null, .int x2, .int x3, .int x4, .int x5, .int x6, .int x7, .int x8, .int (x9 + (q3.2.1 47 26)), .null] [] (S0, q3.2.1, q3.2.2)
      else
        R d kX11_agree 93 [.ref 46, .null, .int x2, .int x3, .int x4, .int (r2 + r3), .int x8, .int x9, .int x8, .int (x9 + (q3.2.1 47 26)), .null] [] (S0, q3.2.1, q3.2.2)) q3.1) q2.1) q1.1 else none else none else none) := (R_ev d kX11_agree 400 93 _ _ _).trans rfl
set_option maxRecDepth 100000 in
theorem bX11_dish_0 (d : Nat) (x1 : Int32) (M : j_M) (N : j_N) : R d kX11_dish 0 [.ref 46, .int x1] [] (S0, M, N) =
  ((C d 155 [.long x1.toInt64, .long 0, .long 99] S0 M N).bind fun q1 => j_oi none (fun r1 =>
  if r1 = 0 then
    some (some (.int (-1)), (S0, q1.2.1, q1.2.2))
  else
    if (q1.2.1 46 17) = 3 then
      some (some (.int (-3)), (S0, q1.2.1, q1.2.2))
    else
      bif j_in (q1.2.1 46 17) 3 then
      some (some (.int (((q1.2.1 46 17) + 1) - 1)), (S0, (j_w (j_w q1.2.1 56 ((q1.2.1 46 17)).toNatClampNeg x1) 46 17 ((q1.2.1 46 17) + 1)), q1.2.2)) else none) q1.1) := (R_ev d kX11_dish 400 0 _ _ _).trans rfl
set_option maxRecDepth 100000 in
theorem bX11_joy_0 (d : Nat) (x1 : Int32) (x2 : Int32) (M : j_M) (N : j_N) : R d kX11_joy 0 [.ref 46, .int x1, .int x2, .null, .null] [] (S0, M, N) =
  (if x1 < 0 then
    some (some (.int (-1)), (S0, M, N))
  else
    (C d 160 [.ref 46, .int (x1 / 10)] S0 M N).bind fun q1 => j_oi none (fun r1 =>
    if r1 = 0 then
      some (some (.int (-1)), (S0, q1.2.1, q1.2.2))
    else
      (C d 155 [.long (x1 - x1 / 10 * 10).toInt64, .long 0, .long ((q1.2.1 46 17) - 1).toInt64] S0 q1.2.1 q1.2.2).bind fun q2 => j_oi none (fun r2 =>
      if r2 = 0 then
        some (some (.int (-1)), (S0, q2.2.1, q2.2.2))
      else
        (C d 155 [.long x2.toInt64, .long 0, .long 99] S0 q2.2.1 q2.2.2).bind fun q3 => j_oi none (fun r3 =>
        if r3 = 0 then
          some (some (.int (-1)), (S0, q3.2.1, q3.2.2))
        else
          bif j_in ((3 * (x1 / 10)) + (x1 - x1 / 10 * 10)) 18 then
          bif j_in ((3 * (x1 / 10)) + (x1 - x1 / 10 * 10)) 18 then
          some (some (.int (q3.2.1 57 (((3 * (x1 / 10)) + (x1 - x1 / 10 * 10))).toNatClampNeg)), (S0, (j_w q3.2.1 57 (((3 * (x1 / 10)) + (x1 - x1 / 10 * 10))).toNatClampNeg x2), q3.2.2)) else none else none) q3.1) q2.1) q1.1) := (R_ev d kX11_joy 400 0 _ _ _).trans rfl
set_option maxRecDepth 100000 in
theorem bX11_joyOf_0 (d : Nat) (x1 : Int32) (x2 : Int32) (M : j_M) (N : j_N) : R d kX11_joyOf 0 [.ref 46, .int x1, .int x2] [] (S0, M, N) =
  (if 0 ≤ x2 then
    bif j_in ((3 * x1) + x2) 18 then
    some (some (.int (M 57 (((3 * x1) + x2)).toNatClampNeg)), (S0, M, N)) else none
  else
    some (some (.int 0), (S0, M, N))) := (R_ev d kX11_joyOf 400 0 _ _ _).trans rfl
set_option maxRecDepth 100000 in
theorem bX11_billFrom_0 (d : Nat) (x1 : Int32) (x2 : Int32) (M : j_M) (N : j_N) : R d kX11_billFrom 0 [.ref 46, .int x1, .int x2, .null, .null, .null, .null, .null] [] (S0, M, N) =
  (if x1 = (M 46 6) then
    some (some (.int x2), (S0, M, N))
  else
    R d kX11_billFrom 19 [.ref 46, .int x1, .int x2, .int (-2), .int 0, .int (-1), .null, .null] [] (S0, M, N)) := (R_ev d kX11_billFrom 400 0 _ _ _).trans rfl
set_option maxRecDepth 100000 in
theorem bX11_billFrom_19 (d : Nat) (x1 : Int32) (x2 : Int32) (x3 : Int32) (x4 : Int32) (x5 : Int32) (M : j_M) (N : j_N) : R d kX11_billFrom 19 [.ref 46, .int x1, .int x2, .int x3, .int x4, .int x5, .null, .null] [] (S0, M, N) =
  (if (M 46 17) ≤ x5 then
    if 0 ≤ x3 then
      bif j_in x3 3 then
      (C d 195 [.ref 46, .int (x1 + 1), .int (x2 + (M 56 (x3).toNatClampNeg))] S0 M N).bind fun q1 => j_oi none (fun r1 =>
      bif j_in x1 6 then
      some (some (.int r1), (S0, (j_w q1.2.1 58 (x1).toNatClampNeg x3), q1.2.2)) else none) q1.1 else none
    else
      (C d 195 [.ref 46, .int (x1 + 1), .int (x2 + 0)] S0 M N).bind fun q2 => j_oi none (fun r2 =>
      bif j_in x1 6 then
      some (some (.int r2), (S0, (j_w q2.2.1 58 (x1).toNatClampNeg x3), q2.2.2)) else none) q2.1
  else
    if 0 ≤ x5 then
      bif j_in x5 3 then
      R d kX11_billFrom 49 [.ref 46, .int x1, .int x2, .int x3, .int x4, .int x5, .null, .null] [.int (M 56 (x5).toNatClampNeg), .int x2, .int (x1 + 1), .ref 46] (S0, M, N) else none
    else
      R d kX11_billFrom 49 [.ref 46, .int x1, .int x2, .int x3, .int x4, .int x5, .null, .null] [.int 0, .int x2, .int (x1 + 1), .ref 46] (S0, M, N)) := (R_ev d kX11_billFrom 400 19 _ _ _).trans rfl
set_option maxRecDepth 100000 in
theorem bX11_billFrom_49 (d : Nat) (x1 : Int32) (x2 : Int32) (x3 : Int32) (x4 : Int32) (x5 : Int32) (s1 : Int32) (s2 : Int32) (s3 : Int32) (M : j_M) (N : j_N) : R d kX11_billFrom 49 [.ref 46, .int x1, .int x2, .int x3, .int x4, .int x5, .null, .null] [.int s3, .int s2, .int s1, .ref 46] (S0, M, N) =
  ((C d 195 [.ref 46, .int s1, .int (s2 + s3)] S0 M N).bind fun q1 => j_oi none (fun r1 =>
  (C d 172 [.ref 46, .int r1, .int (q1.2.1 47 25)] S0 q1.2.1 q1.2.2).bind fun q2 => j_ov none (
  (C d 194 [.ref 46, .int x1, .int x5] S0 q2.2.1 q2.2.2).bind fun q3 => j_oi none (fun r3 =>
  (C d 174 [.ref 46, .int x1] S0 q3.2.1 q3.2.2).bind fun q4 => j_oi none (fun r4 =>
  if x3 = (-2) then
    R d kX11_billFrom 19 [.ref 46, .int x1, .int x2, .int x5, .int (r3 - r4), .int (x5 + 1), .null, .null] [] (S0, q4.2.1, q4.2.2)
  else
    if (r3 - r4) ≤ x4 then
      R d kX11_billFrom 19 [.ref 46, .int x1, .int x2, .int x3, .int x4, .int (x5 + 1), .null, .null] [] (S0, q4.2.1, q4.2.2)
    else
      R d kX11_billFrom 19 [.ref 46, .int x1, .int x2, .int x5, .int (r3 - r4), .int (x5 + 1), .null, .null] [] (S0, q4.2.1, q4.2.2)) q4.1) q3.1) q2.1) q1.1) := (R_ev d kX11_billFrom 400 49 _ _ _).trans rfl
set_option maxRecDepth 100000 in
theorem bX11_ordered_0 (d : Nat) (x1 : Int32) (x2 : Int32) (M : j_M) (N : j_N) : R d kX11_ordered 0 [.ref 46, .int x1, .int x2, .null] [] (S0, M, N) =
  ((C d 160 [.ref 46, .int x1] S0 M N).bind fun q1 => j_oi none (fun r1 =>
  if r1 = 0 then
    some (some (.int (-2000000000)), (S0, q1.2.1, q1.2.2))
  else
    (C d 155 [.long x2.toInt64, .long 0, .long 2] S0 q1.2.1 q1.2.2).bind fun q2 => j_oi none (fun r2 =>
    if r2 = 0 then
      some (some (.int (-2000000000)), (S0, q2.2.1, q2.2.2))
    else
      if x2 = 2 then
        if x1 = 0 then
          R d kX11_ordered 32 [.ref 46, .int x1, .int x2, .null] [] (S0, q2.2.1, q2.2.2)
        else
          some (some (.int (-2000000000)), (S0, q2.2.1, q2.2.2))
      else
        R d kX11_ordered 32 [.ref 46, .int x1, .int x2, .null] [] (S0, q2.2.1, q2.2.2)) q2.1) q1.1) := (R_ev d kX11_ordered 400 0 _ _ _).trans rfl
set_option maxRecDepth 100000 in
theorem bX11_ordered_32 (d : Nat) (x1 : Int32) (x2 : Int32) (M : j_M) (N : j_N) : R d kX11_ordered 32 [.ref 46, .int x1, .int x2, .null] [] (S0, M, N) =
  ((C d 167 [.ref 46] S0 M N).bind fun q1 => j_ov none (
  (C d 195 [.ref 46, .int 0, .int 0] S0 q1.2.1 q1.2.2).bind fun q2 => j_oi none (fun r2 =>
  if x2 = 1 then
    (C d 172 [.ref 46, .int r2, .int (q2.2.1 47 25)] S0 q2.2.1 q2.2.2).bind fun q3 => j_ov none (
    bif j_in x1 6 then
    (C d 194 [.ref 46, .int x1, .int (q3.2.1 58 (x1).toNatClampNeg)] S0 q3.2.1 q3.2.2).bind fun q4 => j_oi none (fun r4 =>
    (C d 174 [.ref 46, .int x1] S0 q4.2.1 q4.2.2).bind fun q5 => j_oi none (fun r5 =>
    some (some (.int (r4 - r5)), (S0, q5.2.1, q5.2.2))) q5.1) q4.1 else none) q3.1
  else
    if x2 = 2 then
      some (some (.int r2), (S0, q2.2.1, q2.2.2))
    else
      bif j_in x1 6 then
      if 0 ≤ (q2.2.1 58 (x1).toNatClampNeg) then
        bif j_in x1 6 then
        some (some (.int (q2.2.1 58 (x1).toNatClampNeg)), (S0, q2.2.1, q2.2.2)) else none
      else
        some (some (.int (-2)), (S0, q2.2.1, q2.2.2)) else none) q2.1) q1.1) := (R_ev d kX11_ordered 400 32 _ _ _).trans rfl
end
section
/-! ===== block equations (printed by wip/whole/genblk.py) ===== -/
set_option maxRecDepth 100000 in
theorem bX11_feed_0 (d : Nat) (x1 : Int32) (M : j_M) (N : j_N) : R d kX11_feed 0 [.ref 46, .int x1] [] (S0, M, N) =
  ((C d 155 [.long x1.toInt64, .long 0, .long 255] S0 M N).bind fun q1 => j_oi none (fun r1 =>
  if r1 = 0 then
    some (some (.int (-1)), (S0, q1.2.1, q1.2.2))
  else
    if (q1.2.1 46 22) = 120 then
      some (some (.int (-3)), (S0, q1.2.1, q1.2.2))
    else
      bif j_in (q1.2.1 46 22) 120 then
      some (some (.int ((q1.2.1 46 22) + 1)), (S0, (j_w (j_w q1.2.1 59 ((q1.2.1 46 22)).toNatClampNeg x1) 46 22 ((q1.2.1 46 22) + 1)), q1.2.2)) else none) q1.1) := (R_ev d kX11_feed 400 0 _ _ _).trans rfl
set_option maxRecDepth 100000 in
theorem bX11_byteAt_0 (d : Nat)  (M : j_M) (N : j_N) : R d kX11_byteAt 0 [.ref 46] [] (S0, M, N) =
  (if (M 46 27) ≤ (M 46 26) then
    some (some (.int 0), (S0, M, N))
  else
    if 0 ≤ (M 46 25) then
      bif j_in ((M 46 25) + (M 46 26)) 120 then
      some (some (.int (M 60 (((M 46 25) + (M 46 26))).toNatClampNeg)), (S0, M, N)) else none
    else
      bif j_in (M 46 26) 120 then
      some (some (.int (M 59 ((M 46 26)).toNatClampNeg)), (S0, M, N)) else none) := (R_ev d kX11_byteAt 400 0 _ _ _).trans rfl
set_option maxRecDepth 100000 in
theorem bX11_wrong_0 (d : Nat)  (M : j_M) (N : j_N) : R d kX11_wrong 0 [.ref 46] [] (S0, M, N) =
  (if 0 ≤ (M 46 28) then
    some (some (.int 0), (S0, (j_w M 46 28 (M 46 28)), N))
  else
    some (some (.int 0), (S0, (j_w M 46 28 (M 46 26)), N))) := (R_ev d kX11_wrong 400 0 _ _ _).trans rfl
set_option maxRecDepth 100000 in
theorem bX11_takes_0 (d : Nat) (x1 : Int32) (M : j_M) (N : j_N) : R d kX11_takes 0 [.ref 46, .int x1] [] (S0, M, N) =
  (if 0 ≤ (M 46 28) then
    some (some (.int 0), (S0, M, N))
  else
    (C d 198 [.ref 46] S0 M N).bind fun q1 => j_oi none (fun r1 =>
    if r1 = x1 then
      some (some (.int 1), (S0, (j_w q1.2.1 46 26 ((q1.2.1 46 26) + 1)), q1.2.2))
    else
      some (some (.int 0), (S0, q1.2.1, q1.2.2))) q1.1) := (R_ev d kX11_takes 400 0 _ _ _).trans rfl
set_option maxRecDepth 100000 in
theorem bX11_either_0 (d : Nat)  (M : j_M) (N : j_N) : R d kX11_either 0 [.ref 46, .null, .null] [] (S0, M, N) =
  ((C d 202 [.ref 46] S0 M N).bind fun q1 => j_oi none (fun r1 =>
  R d kX11_either 5 [.ref 46, .int r1, .null] [] (S0, q1.2.1, q1.2.2)) q1.1) := (R_ev d kX11_either 400 0 _ _ _).trans rfl
set_option maxRecDepth 100000 in
theorem bX11_either_5 (d : Nat) (x1 : Int32) (M : j_M) (N : j_N) : R d kX11_either 5 [.ref 46, .int x1, .null] [] (S0, M, N) =
  ((C d 200 [.ref 46, .int 124] S0 M N).bind fun q1 => j_oi none (fun r1 =>
  if r1 = 0 then
    some (some (.int x1), (S0, q1.2.1, q1.2.2))
  else
    (C d 202 [.ref 46] S0 q1.2.1 q1.2.2).bind fun q2 => j_oi none (fun r2 =>
    if x1 = 0 then
      if r2 = 0 then
        R d kX11_either 5 [.ref 46, .int 0, .null] [] (S0, q2.2.1, q2.2.2)
      else
        R d kX11_either 5 [.ref 46, .int 1, .null] [] (S0, q2.2.1, q2.2.2)
    else
      R d kX11_either 5 [.ref 46, .int 1, .null] [] (S0, q2.2.1, q2.2.2)) q2.1) q1.1) := (R_ev d kX11_either 400 5 _ _ _).trans rfl
set_option maxRecDepth 100000 in
theorem bX11_both_0 (d : Nat)  (M : j_M) (N : j_N) : R d kX11_both 0 [.ref 46, .null, .null] [] (S0, M, N) =
  ((C d 203 [.ref 46] S0 M N).bind fun q1 => j_oi none (fun r1 =>
  R d kX11_both 5 [.ref 46, .int r1, .null] [] (S0, q1.2.1, q1.2.2)) q1.1) := (R_ev d kX11_both 400 0 _ _ _).trans rfl
set_option maxRecDepth 100000 in
theorem bX11_both_5 (d : Nat) (x1 : Int32) (M : j_M) (N : j_N) : R d kX11_both 5 [.ref 46, .int x1, .null] [] (S0, M, N) =
  ((C d 200 [.ref 46, .int 38] S0 M N).bind fun q1 => j_oi none (fun r1 =>
  if r1 = 0 then
    some (some (.int x1), (S0, q1.2.1, q1.2.2))
  else
    (C d 203 [.ref 46] S0 q1.2.1 q1.2.2).bind fun q2 => j_oi none (fun r2 =>
    if x1 = 0 then
      R d kX11_both 5 [.ref 46, .int 0, .null] [] (S0, q2.2.1, q2.2.2)
    else
      if r2 = 0 then
        R d kX11_both 5 [.ref 46, .int 0, .null] [] (S0, q2.2.1, q2.2.2)
      else
        R d kX11_both 5 [.ref 46, .int 1, .null] [] (S0, q2.2.1, q2.2.2)) q2.1) q1.1) := (R_ev d kX11_both 400 5 _ _ _).trans rfl
set_option maxRecDepth 100000 in
theorem bX11_compared_0 (d : Nat)  (M : j_M) (N : j_N) : R d kX11_compared 0 [.ref 46, .null, .null, .null] [] (S0, M, N) =
  ((C d 204 [.ref 46] S0 M N).bind fun q1 => j_oi none (fun r1 =>
  (C d 198 [.ref 46] S0 q1.2.1 q1.2.2).bind fun q2 => j_oi none (fun r2 =>
  if 0 ≤ (q2.2.1 46 28) then
    some (some (.int r1), (S0, q2.2.1, q2.2.2))
  else
    if r2 = 60 then
      R d kX11_compared 37 [.ref 46, .int r1, .int r2, .null] [] (S0, q2.2.1, q2.2.2)
    else
      if r2 = 61 then
        R d kX11_compared 37 [.ref 46, .int r1, .int r2, .null] [] (S0, q2.2.1, q2.2.2)
      else
        if r2 = 62 then
          R d kX11_compared 37 [.ref 46, .int r1, .int r2, .null] [] (S0, q2.2.1, q2.2.2)
        else
          some (some (.int r1), (S0, q2.2.1, q2.2.2))) q2.1) q1.1) := (R_ev d kX11_compared 400 0 _ _ _).trans rfl
set_option maxRecDepth 100000 in
theorem bX11_compared_37 (d : Nat) (x1 : Int32) (x2 : Int32) (M : j_M) (N : j_N) : R d kX11_compared 37 [.ref 46, .int x1, .int x2, .null] [] (S0, M, N) =
  ((C d 204 [.ref 46] S0 (j_w M 46 26 ((M 46 26) + 1)) N).bind fun q1 => j_oi none (fun r1 =>
  if x2 = 60 then
    if r1 ≤ x1 then
      some (some (.int 0), (S0, q1.2.1, q1.2.2))
    else
      some (some (.int 1), (S0, q1.2.1, q1.2.2))
  else
    if x2 = 61 then
      if x1 = r1 then
        some (some (.int 1), (S0, q1.2.1, q1.2.2))
      else
        some (some (.int 0), (S0, q1.2.1, q1.2.2))
    else
      if x1 ≤ r1 then
        some (some (.int 0), (S0, q1.2.1, q1.2.2))
      else
        some (some (.int 1), (S0, q1.2.1, q1.2.2))) q1.1) := (R_ev d kX11_compared 400 37 _ _ _).trans rfl
set_option maxRecDepth 100000 in
theorem bX11_sums_0 (d : Nat)  (M : j_M) (N : j_N) : R d kX11_sums 0 [.ref 46, .null, .null, .null] [] (S0, M, N) =
  ((C d 205 [.ref 46] S0 M N).bind fun q1 => j_oi none (fun r1 =>
  R d kX11_sums 5 [.ref 46, .int r1, .null, .null] [] (S0, q1.2.1, q1.2.2)) q1.1) := (R_ev d kX11_sums 400 0 _ _ _).trans rfl
set_option maxRecDepth 100000 in
theorem bX11_sums_5 (d : Nat) (x1 : Int32) (M : j_M) (N : j_N) : R d kX11_sums 5 [.ref 46, .int x1, .null, .null] [] (S0, M, N) =
  (if 0 ≤ (M 46 28) then
    some (some (.int x1), (S0, M, N))
  else
    (C d 198 [.ref 46] S0 M N).bind fun q1 => j_oi none (fun r1 =>
    if r1 = 43 then
      R d kX11_sums 30 [.ref 46, .int x1, .null, .null] [] (S0, q1.2.1, q1.2.2)
    else
      (C d 198 [.ref 46] S0 q1.2.1 q1.2.2).bind fun q2 => j_oi none (fun r2 =>
      if r2 = 45 then
        R d kX11_sums 30 [.ref 46, .int x1, .null, .null] [] (S0, q2.2.1, q2.2.2)
      else
        some (some (.int x1), (S0, q2.2.1, q2.2.2))) q2.1) q1.1) := (R_ev d kX11_sums 400 5 _ _ _).trans rfl
set_option maxRecDepth 100000 in
theorem bX11_sums_30 (d : Nat) (x1 : Int32) (M : j_M) (N : j_N) : R d kX11_sums 30 [.ref 46, .int x1, .null, .null] [] (S0, M, N) =
  ((C d 198 [.ref 46] S0 M N).bind fun q1 => j_oi none (fun r1 =>
  if r1 = 43 then
    (C d 205 [.ref 46] S0 (j_w q1.2.1 46 26 ((q1.2.1 46 26) + 1)) q1.2.2).bind fun q3 => j_oi none (fun r3 =>
    R d kX11_sums 5 [.ref 46, .int (x1 + r3), .null, .null] [] (S0, q3.2.1, q3.2.2)) q3.1
  else
    (C d 205 [.ref 46] S0 (j_w q1.2.1 46 26 ((q1.2.1 46 26) + 1)) q1.2.2).bind fun q2 => j_oi none (fun r2 =>
    R d kX11_sums 5 [.ref 46, .int (x1 - r2), .null, .null] [] (S0, q2.2.1, q2.2.2)) q2.1) q1.1) := (R_ev d kX11_sums 400 30 _ _ _).trans rfl
set_option maxRecDepth 100000 in
theorem bX11_product_0 (d : Nat)  (M : j_M) (N : j_N) : R d kX11_product 0 [.ref 46, .null, .null, .null] [] (S0, M, N) =
  ((C d 207 [.ref 46] S0 M N).bind fun q1 => j_oi none (fun r1 =>
  (C d 198 [.ref 46] S0 q1.2.1 q1.2.2).bind fun q2 => j_oi none (fun r2 =>
  R d kX11_product 10 [.ref 46, .int r1, .int r2, .null] [] (S0, q2.2.1, q2.2.2)) q2.1) q1.1) := (R_ev d kX11_product 400 0 _ _ _).trans rfl
set_option maxRecDepth 100000 in
theorem bX11_product_10 (d : Nat) (x1 : Int32) (x2 : Int32) (M : j_M) (N : j_N) : R d kX11_product 10 [.ref 46, .int x1, .int x2, .null] [] (S0, M, N) =
  (if 0 ≤ (M 46 28) then
    some (some (.int x1), (S0, M, N))
  else
    if x2 = 42 then
      R d kX11_product 35 [.ref 46, .int x1, .int x2, .null] [] (S0, M, N)
    else
      if x2 = 47 then
        R d kX11_product 35 [.ref 46, .int x1, .int x2, .null] [] (S0, M, N)
      else
        if x2 = 37 then
          R d kX11_product 35 [.ref 46, .int x1, .int x2, .null] [] (S0, M, N)
        else
          some (some (.int x1), (S0, M, N))) := (R_ev d kX11_product 400 10 _ _ _).trans rfl
set_option maxRecDepth 100000 in
theorem bX11_product_35 (d : Nat) (x1 : Int32) (x2 : Int32) (M : j_M) (N : j_N) : R d kX11_product 35 [.ref 46, .int x1, .int x2, .null] [] (S0, M, N) =
  ((C d 207 [.ref 46] S0 (j_w M 46 26 ((M 46 26) + 1)) N).bind fun q1 => j_oi none (fun r1 =>
  if x2 = 42 then
    (C d 198 [.ref 46] S0 q1.2.1 q1.2.2).bind fun q5 => j_oi none (fun r5 =>
    R d kX11_product 10 [.ref 46, .int (x1 * r1), .int r5, .null] [] (S0, q5.2.1, q5.2.2)) q5.1
  else
    if r1 = 0 then
      (C d 198 [.ref 46] S0 q1.2.1 q1.2.2).bind fun q4 => j_oi none (fun r4 =>
      R d kX11_product 10 [.ref 46, .int 0, .int r4, .null] [] (S0, q4.2.1, q4.2.2)) q4.1
    else
      if x2 = 47 then
        if r1 = 0 then none else
        (C d 198 [.ref 46] S0 q1.2.1 q1.2.2).bind fun q3 => j_oi none (fun r3 =>
        R d kX11_product 10 [.ref 46, .int (x1 / r1), .int r3, .null] [] (S0, q3.2.1, q3.2.2)) q3.1
      else
        if r1 = 0 then none else
        (C d 198 [.ref 46] S0 q1.2.1 q1.2.2).bind fun q2 => j_oi none (fun r2 =>
        R d kX11_product 10 [.ref 46, .int (x1 - x1 / r1 * r1), .int r2, .null] [] (S0, q2.2.1, q2.2.2)) q2.1) q1.1) := (R_ev d kX11_product 400 35 _ _ _).trans rfl
set_option maxRecDepth 100000 in
theorem bX11_nameOf_0 (d : Nat) (x0 : Int32) (M : j_M) (N : j_N) : R d kX11_nameOf 0 [.int x0] [] (S0, M, N) =
  (if x0 = 98 then
    some (some (.int 0), (S0, M, N))
  else if x0 = 107 then
    some (some (.int 3), (S0, M, N))
  else if x0 = 110 then
    some (some (.int 2), (S0, M, N))
  else if x0 = 112 then
    some (some (.int 1), (S0, M, N))
  else if x0 = 114 then
    some (some (.int 4), (S0, M, N))
  else 
    some (some (.int (-1)), (S0, M, N))) := (R_ev d kX11_nameOf 400 0 _ _ _).trans rfl
set_option maxRecDepth 100000 in
theorem bX11_one_0 (d : Nat)  (M : j_M) (N : j_N) : R d kX11_one 0 [.ref 46, .null, .null, .null, .null] [] (S0, M, N) =
  (if (M 46 28) < 0 then
    (C d 198 [.ref 46] S0 M N).bind fun q1 => j_oi none (fun r1 =>
    if r1 = 33 then
      R d kX11_one 32 [.ref 46, .int r1, .null, .null, .null] [] (S0, q1.2.1, q1.2.2)
    else
      if r1 = 45 then
        R d kX11_one 32 [.ref 46, .int r1, .null, .null, .null] [] (S0, q1.2.1, q1.2.2)
      else
        if r1 = 40 then
          R d kX11_one 32 [.ref 46, .int r1, .null, .null, .null] [] (S0, q1.2.1, q1.2.2)
        else
          (C d 206 [.int r1] S0 q1.2.1 q1.2.2).bind fun q2 => j_oi none (fun r2 =>
          if r2 < 0 then
            R d kX11_one 176 [.ref 46, .null, .null, .int 0, .int 0] [] (S0, q2.2.1, q2.2.2)
          else
            bif j_in r2 5 then
            some (some (.int (q2.2.1 61 (r2).toNatClampNeg)), (S0, (j_w q2.2.1 46 26 ((q2.2.1 46 26) + 1)), q2.2.2)) else none) q2.1) q1.1
  else
    some (some (.int 0), (S0, M, N))) := (R_ev d kX11_one 400 0 _ _ _).trans rfl
set_option maxRecDepth 100000 in
theorem bX11_one_32 (d : Nat) (x1 : Int32) (M : j_M) (N : j_N) : R d kX11_one 32 [.ref 46, .int x1, .null, .null, .null] [] (S0, M, N) =
  (if (M 46 29) = 6 then
    (C d 199 [.ref 46] S0 M N).bind fun q3 => j_oi none (fun r3 =>
    some (some (.int r3), (S0, q3.2.1, q3.2.2))) q3.1
  else
    if x1 = 40 then
      (C d 201 [.ref 46] S0 (j_w (j_w M 46 29 ((M 46 29) + 1)) 46 26 ((M 46 26) + 1)) N).bind fun q2 => j_oi none (fun r2 =>
      R d kX11_one 83 [.ref 46, .int x1, .null, .null, .null] [.int r2] (S0, q2.2.1, q2.2.2)) q2.1
    else
      (C d 207 [.ref 46] S0 (j_w (j_w M 46 29 ((M 46 29) + 1)) 46 26 ((M 46 26) + 1)) N).bind fun q1 => j_oi none (fun r1 =>
      R d kX11_one 83 [.ref 46, .int x1, .null, .null, .null] [.int r1] (S0, q1.2.1, q1.2.2)) q1.1) := (R_ev d kX11_one 400 32 _ _ _).trans rfl
set_option maxRecDepth 100000 in
theorem bX11_one_176 (d : Nat) (x3 : Int32) (x4 : Int32) (M : j_M) (N : j_N) : R d kX11_one 176 [.ref 46, .null, .null, .int x3, .int x4] [] (S0, M, N) =
  (if 4 ≤ x4 then
    if x4 = 0 then
      (C d 199 [.ref 46] S0 M N).bind fun q1 => j_oi none (fun r1 =>
      some (some (.int r1), (S0, q1.2.1, q1.2.2))) q1.1
    else
      some (some (.int x3), (S0, M, N))
  else
    (C d 198 [.ref 46] S0 M N).bind fun q2 => j_oi none (fun r2 =>
    if r2 < 48 then
      if x4 = 0 then
        (C d 199 [.ref 46] S0 q2.2.1 q2.2.2).bind fun q3 => j_oi none (fun r3 =>
        some (some (.int r3), (S0, q3.2.1, q3.2.2))) q3.1
      else
        some (some (.int x3), (S0, q2.2.1, q2.2.2))
    else
      (C d 198 [.ref 46] S0 q2.2.1 q2.2.2).bind fun q4 => j_oi none (fun r4 =>
      if 57 < r4 then
        if x4 = 0 then
          (C d 199 [.ref 46] S0 q4.2.1 q4.2.2).bind fun q5 => j_oi none (fun r5 =>
          some (some (.int r5), (S0, q5.2.1, q5.2.2))) q5.1
        else
          some (some (.int x3), (S0, q4.2.1, q4.2.2))
      else
        (C d 198 [.ref 46] S0 q4.2.1 q4.2.2).bind fun q6 => j_oi none (fun r6 =>
        R d kX11_one 176 [.ref 46, .null, .null, .int (((10 * x3) + r6) - 48), .int (x4 + 1)] [] (S0, (j_w q6.2.1 46 26 ((q6.2.1 46 26) + 1)), q6.2.2)) q6.1) q4.1) q2.1) := (R_ev d kX11_one 400 176 _ _ _).trans rfl
set_option maxRecDepth 100000 in
theorem bX11_one_83 (d : Nat) (x1 : Int32) (s0 : Int32) (M : j_M) (N : j_N) : R d kX11_one 83 [.ref 46, .int x1, .null, .null, .null] [.int s0] (S0, M, N) =
  (if x1 = 40 then
    (C d 200 [.ref 46, .int 41] S0 M N).bind fun q1 => j_oi none (fun r1 =>
    if r1 = 0 then
      (C d 199 [.ref 46] S0 q1.2.1 q1.2.2).bind fun q2 => j_oi none (fun r2 =>
      some (some (.int r2), (S0, q2.2.1, q2.2.2))) q2.1
    else
      if x1 = 40 then
        some (some (.int s0), (S0, (j_w q1.2.1 46 29 ((q1.2.1 46 29) - 1)), q1.2.2))
      else
        if x1 = 45 then
          some (some (.int (-s0)), (S0, (j_w q1.2.1 46 29 ((q1.2.1 46 29) - 1)), q1.2.2))
        else
          if s0 = 0 then
            some (some (.int 1), (S0, (j_w q1.2.1 46 29 ((q1.2.1 46 29) - 1)), q1.2.2))
          else
            some (some (.int 0), (S0, (j_w q1.2.1 46 29 ((q1.2.1 46 29) - 1)), q1.2.2))) q1.1
  else
    if x1 = 40 then
      some (some (.int s0), (S0, (j_w M 46 29 ((M 46 29) - 1)), N))
    else
      if x1 = 45 then
        some (some (.int (-s0)), (S0, (j_w M 46 29 ((M 46 29) - 1)), N))
      else
        if s0 = 0 then
          some (some (.int 1), (S0, (j_w M 46 29 ((M 46 29) - 1)), N))
        else
          some (some (.int 0), (S0, (j_w M 46 29 ((M 46 29) - 1)), N))) := (R_ev d kX11_one 400 83 _ _ _).trans rfl
set_option maxRecDepth 100000 in
theorem bX11_workOut_0 (d : Nat) (x1 : Int32) (x2 : Int32) (M : j_M) (N : j_N) : R d kX11_workOut 0 [.ref 46, .int x1, .int x2, .null, .null, .null, .null, .null] [] (S0, M, N) =
  (R d kX11_workOut 33 [.ref 46, .null, .null, .int 0, .int 0, .int 1, .null, .null] [] (S0, (j_w (j_w (j_w (j_w (j_w M 46 25 x1) 46 26 0) 46 27 x2) 46 28 (-1)) 46 29 0), N)) := (R_ev d kX11_workOut 400 0 _ _ _).trans rfl
set_option maxRecDepth 100000 in
theorem bX11_workOut_33 (d : Nat) (x3 : Int32) (x4 : Int32) (x5 : Int32) (M : j_M) (N : j_N) : R d kX11_workOut 33 [.ref 46, .null, .null, .int x3, .int x4, .int x5, .null, .null] [] (S0, M, N) =
  (if x5 = 0 then
    if 0 ≤ (M 46 28) then
      some (some (.int x4), (S0, M, N))
    else
      if (M 46 27) ≤ (M 46 26) then
        some (some (.int x4), (S0, M, N))
      else
        (C d 199 [.ref 46] S0 M N).bind fun q1 => j_oi none (fun r1 =>
        some (some (.int r1), (S0, q1.2.1, q1.2.2))) q1.1
  else
    (C d 201 [.ref 46] S0 M N).bind fun q2 => j_oi none (fun r2 =>
    (C d 200 [.ref 46, .int 63] S0 q2.2.1 q2.2.2).bind fun q3 => j_oi none (fun r3 =>
    if r3 = 0 then
      R d kX11_workOut 74 [.ref 46, .null, .null, .int x3, .int x4, .null, .int r2, .int 1] [] (S0, q3.2.1, q3.2.2)
    else
      if r2 = 0 then
        (C d 201 [.ref 46] S0 q3.2.1 q3.2.2).bind fun q4 => j_oi none (fun r4 =>
        R d kX11_workOut 74 [.ref 46, .null, .null, .int x3, .int x4, .null, .int r4, .int 0] [] (S0, q4.2.1, q4.2.2)) q4.1
      else
        (C d 201 [.ref 46] S0 q3.2.1 q3.2.2).bind fun q5 => j_oi none (fun r5 =>
        R d kX11_workOut 74 [.ref 46, .null, .null, .int x3, .int x4, .null, .int r5, .int 1] [] (S0, q5.2.1, q5.2.2)) q5.1) q3.1) q2.1) := (R_ev d kX11_workOut 400 33 _ _ _).trans rfl
set_option maxRecDepth 100000 in
theorem bX11_workOut_74 (d : Nat) (x3 : Int32) (x4 : Int32) (x6 : Int32) (x7 : Int32) (M : j_M) (N : j_N) : R d kX11_workOut 74 [.ref 46, .null, .null, .int x3, .int x4, .null, .int x6, .int x7] [] (S0, M, N) =
  (if 0 ≤ (M 46 28) then
    (C d 200 [.ref 46, .int 59] S0 M N).bind fun q1 => j_oi none (fun r1 =>
    R d kX11_workOut 33 [.ref 46, .null, .null, .int x3, .int x4, .int r1, .null, .null] [] (S0, q1.2.1, q1.2.2)) q1.1
  else
    if x7 = 0 then
      (C d 200 [.ref 46, .int 59] S0 M N).bind fun q2 => j_oi none (fun r2 =>
      R d kX11_workOut 33 [.ref 46, .null, .null, .int x3, .int x4, .int r2, .null, .null] [] (S0, q2.2.1, q2.2.2)) q2.1
    else
      if x3 = 0 then
        (C d 200 [.ref 46, .int 59] S0 M N).bind fun q4 => j_oi none (fun r4 =>
        R d kX11_workOut 33 [.ref 46, .null, .null, .int 1, .int x6, .int r4, .null, .null] [] (S0, q4.2.1, q4.2.2)) q4.1
      else
        (C d 200 [.ref 46, .int 59] S0 M N).bind fun q3 => j_oi none (fun r3 =>
        R d kX11_workOut 33 [.ref 46, .null, .null, .int x3, .int x4, .int r3, .null, .null] [] (S0, q3.2.1, q3.2.2)) q3.1) := (R_ev d kX11_workOut 400 74 _ _ _).trans rfl
set_option maxRecDepth 100000 in
theorem bX11_law_0 (d : Nat)  (M : j_M) (N : j_N) : R d kX11_law 0 [.ref 46, .null, .null, .null] [] (S0, M, N) =
  ((C d 208 [.ref 46, .int (-1), .int (M 46 22)] S0 M N).bind fun q1 => j_oi none (fun r1 =>
  if (q1.2.1 46 28) < 0 then
    R d kX11_law 37 [.ref 46, .null, .int (q1.2.1 46 22), .int 0] [] (S0, (j_w q1.2.1 46 22 0), q1.2.2)
  else
    some (some (.int ((-100) - (q1.2.1 46 28))), (S0, (j_w q1.2.1 46 22 0), q1.2.2))) q1.1) := (R_ev d kX11_law 400 0 _ _ _).trans rfl
set_option maxRecDepth 100000 in
theorem bX11_law_37 (d : Nat) (x2 : Int32) (x3 : Int32) (M : j_M) (N : j_N) : R d kX11_law 37 [.ref 46, .null, .int x2, .int x3] [] (S0, M, N) =
  (if x2 ≤ x3 then
    some (some (.int 1), (S0, (j_w M 46 24 x2), N))
  else
    bif j_in x3 120 then
    bif j_in x3 120 then
    R d kX11_law 37 [.ref 46, .null, .int x2, .int (x3 + 1)] [] (S0, (j_w M 60 (x3).toNatClampNeg (M 59 (x3).toNatClampNeg)), N) else none else none) := (R_ev d kX11_law 400 37 _ _ _).trans rfl
set_option maxRecDepth 100000 in
theorem bX11_wouldGive_0 (d : Nat) (x1 : Int32) (x2 : Int32) (M : j_M) (N : j_N) : R d kX11_wouldGive 0 [.ref 46, .int x1, .int x2, .null] [] (S0, M, N) =
  (if (M 46 6) = 0 then none else
  if (M 46 24) < 0 then
    if 0 ≤ (x2 / (M 46 6)) then
      bif j_in x1 27 then
      if (x2 / (M 46 6)) ≤ (M 47 (x1).toNatClampNeg) then
        some (some (.int (x2 / (M 46 6))), (S0, M, N))
      else
        bif j_in x1 27 then
        some (some (.int (M 47 (x1).toNatClampNeg)), (S0, M, N)) else none else none
    else
      some (some (.int 0), (S0, M, N))
  else
    bif j_in x1 27 then
    (C d 208 [.ref 46, .int 0, .int (M 46 24)] S0 (j_w (j_w (j_w (j_w (j_w M 61 0 x2) 61 1 (M 47 (x1).toNatClampNeg)) 61 2 x1) 61 3 (M 46 6)) 61 4 (M 47 25)) N).bind fun q1 => j_oi none (fun r1 =>
    if 0 ≤ r1 then
      bif j_in x1 27 then
      if r1 ≤ (q1.2.1 47 (x1).toNatClampNeg) then
        some (some (.int r1), (S0, q1.2.1, q1.2.2))
      else
        bif j_in x1 27 then
        some (some (.int (q1.2.1 47 (x1).toNatClampNeg)), (S0, q1.2.1, q1.2.2)) else none else none
    else
      some (some (.int 0), (S0, q1.2.1, q1.2.2))) q1.1 else none) := (R_ev d kX11_wouldGive 400 0 _ _ _).trans rfl
set_option maxRecDepth 100000 in
theorem bX11_thought_0 (d : Nat) (x1 : Int32) (x2 : Int32) (x3 : Int32) (M : j_M) (N : j_N) : R d kX11_thought 0 [.ref 46, .int x1, .int x2, .int x3, .null, .null, .null] [] (S0, M, N) =
  ((C d 160 [.ref 46, .int x1] S0 M N).bind fun q1 => j_oi none (fun r1 =>
  if r1 = 0 then
    some (some (.int (-1)), (S0, q1.2.1, q1.2.2))
  else
    (C d 155 [.long x2.toInt64, .long 0, .long 99] S0 q1.2.1 q1.2.2).bind fun q2 => j_oi none (fun r2 =>
    if r2 = 0 then
      some (some (.int (-1)), (S0, q2.2.1, q2.2.2))
    else
      (C d 155 [.long x3.toInt64, .long 0, .long 1] S0 q2.2.1 q2.2.2).bind fun q3 => j_oi none (fun r3 =>
      if r3 = 0 then
        some (some (.int (-1)), (S0, q3.2.1, q3.2.2))
      else
        R d kX11_thought 43 [.ref 46, .int x1, .int x2, .int x3, .int (-2), .int (-2), .int 0] [] (S0, q3.2.1, q3.2.2)) q3.1) q2.1) q1.1) := (R_ev d kX11_thought 400 0 _ _ _).trans rfl
set_option maxRecDepth 100000 in
theorem bX11_thought_43 (d : Nat) (x1 : Int32) (x2 : Int32) (x3 : Int32) (x4 : Int32) (x5 : Int32) (x6 : Int32) (M : j_M) (N : j_N) : R d kX11_thought 43 [.ref 46, .int x1, .int x2, .int x3, .int x4, .int x5, .int x6] [] (S0, M, N) =
  (if 599 < x6 then
    if x3 = 0 then
      some (some (.int x4), (S0, M, N))
    else
      some (some (.int x5), (S0, M, N))
  else
    (C d 210 [.ref 46, .int x1, .int x6] S0 M N).bind fun q1 => j_oi none (fun r1 =>
    if r1 = x2 then
      if 0 ≤ x4 then
        R d kX11_thought 43 [.ref 46, .int x1, .int x2, .int x3, .int x4, .int x6, .int (x6 + 1)] [] (S0, q1.2.1, q1.2.2)
      else
        R d kX11_thought 43 [.ref 46, .int x1, .int x2, .int x3, .int x6, .int x6, .int (x6 + 1)] [] (S0, q1.2.1, q1.2.2)
    else
      R d kX11_thought 43 [.ref 46, .int x1, .int x2, .int x3, .int x4, .int x5, .int (x6 + 1)] [] (S0, q1.2.1, q1.2.2)) q1.1) := (R_ev d kX11_thought 400 43 _ _ _).trans rfl
set_option maxRecDepth 100000 in
theorem bX11_givenBy_0 (d : Nat) (x1 : Int32) (M : j_M) (N : j_N) : R d kX11_givenBy 0 [.ref 46, .int x1] [] (S0, M, N) =
  (bif j_in x1 6 then
  if 0 ≤ (M 51 (x1).toNatClampNeg) then
    bif j_in x1 6 then
    (C d 210 [.ref 46, .int x1, .int (M 51 (x1).toNatClampNeg)] S0 M N).bind fun q1 => j_oi none (fun r1 =>
    some (some (.int r1), (S0, q1.2.1, q1.2.2))) q1.1 else none
  else
    (C d 210 [.ref 46, .int x1, .int (M 47 24)] S0 M N).bind fun q2 => j_oi none (fun r2 =>
    some (some (.int r2), (S0, q2.2.1, q2.2.2))) q2.1 else none) := (R_ev d kX11_givenBy 400 0 _ _ _).trans rfl
set_option maxRecDepth 100000 in
theorem bX11_given_0 (d : Nat) (x1 : Int32) (M : j_M) (N : j_N) : R d kX11_given 0 [.ref 46, .int x1, .null, .null] [] (S0, M, N) =
  (if x1 = (-1) then
    if x1 < 0 then
      R d kX11_given 29 [.ref 46, .null, .int 0, .int 0] [] (S0, M, N)
    else
      (C d 212 [.ref 46, .int x1] S0 M N).bind fun q1 => j_oi none (fun r1 =>
      some (some (.int r1), (S0, q1.2.1, q1.2.2))) q1.1
  else
    (C d 160 [.ref 46, .int x1] S0 M N).bind fun q2 => j_oi none (fun r2 =>
    if r2 = 0 then
      some (some (.int (-1)), (S0, q2.2.1, q2.2.2))
    else
      if x1 < 0 then
        R d kX11_given 29 [.ref 46, .null, .int 0, .int 0] [] (S0, q2.2.1, q2.2.2)
      else
        (C d 212 [.ref 46, .int x1] S0 q2.2.1 q2.2.2).bind fun q3 => j_oi none (fun r3 =>
        some (some (.int r3), (S0, q3.2.1, q3.2.2))) q3.1) q2.1) := (R_ev d kX11_given 400 0 _ _ _).trans rfl
set_option maxRecDepth 100000 in
theorem bX11_given_29 (d : Nat) (x2 : Int32) (x3 : Int32) (M : j_M) (N : j_N) : R d kX11_given 29 [.ref 46, .null, .int x2, .int x3] [] (S0, M, N) =
  (if (M 46 6) ≤ x3 then
    some (some (.int x2), (S0, M, N))
  else
    (C d 212 [.ref 46, .int x3] S0 M N).bind fun q1 => j_oi none (fun r1 =>
    R d kX11_given 29 [.ref 46, .null, .int (x2 + r1), .int (x3 + 1)] [] (S0, q1.2.1, q1.2.2)) q1.1) := (R_ev d kX11_given 400 29 _ _ _).trans rfl
end
section
/-! ===== block equations (printed by wip/whole/genblk.py) ===== -/
set_option maxRecDepth 100000 in
theorem bX11_stranger_0 (d : Nat) (x1 : Int32) (x2 : Int32) (x3 : Int32) (M : j_M) (N : j_N) : R d kX11_stranger 0 [.ref 46, .int x1, .int x2, .int x3, .null, .null, .null] [] (S0, M, N) =
  ((C d 160 [.ref 46, .int x1] S0 M N).bind fun q1 => j_oi none (fun r1 =>
  if r1 = 0 then
    some (some (.long (-9223372036854775808)), (S0, q1.2.1, q1.2.2))
  else
    if x2 < 0 then
      some (some (.long (-9223372036854775808)), (S0, q1.2.1, q1.2.2))
    else
      if 12 < (x2 / 100) then
        some (some (.long (-9223372036854775808)), (S0, q1.2.1, q1.2.2))
      else
        (C d 155 [.long x3.toInt64, .long 0, .long 1] S0 q1.2.1 q1.2.2).bind fun q2 => j_oi none (fun r2 =>
        if r2 = 0 then
          some (some (.long (-9223372036854775808)), (S0, q2.2.1, q2.2.2))
        else
          (C d 167 [.ref 46] S0 q2.2.1 q2.2.2).bind fun q3 => j_ov none (
          (C d 173 [.ref 46] S0 q3.2.1 q3.2.2).bind fun q4 => j_ov none (
          (C d 174 [.ref 46, .int x1] S0 q4.2.1 q4.2.2).bind fun q5 => j_oi none (fun r5 =>
          bif j_in (q5.2.1 46 6) 7 then
          (C d 173 [.ref 46] S0 (j_w (j_w q5.2.1 53 ((q5.2.1 46 6)).toNatClampNeg (x2 - x2 / 100 * 100)) 46 12 ((q5.2.1 46 6) + 1)) q5.2.2).bind fun q6 => j_ov none (
          (C d 174 [.ref 46, .int x1] S0 q6.2.1 q6.2.2).bind fun q7 => j_oi none (fun r7 =>
          (C d 180 [.long (((x2 / 100) * r7).toInt64 + ((12 - (x2 / 100)).toInt64 * r5.toInt64)), .long 12, .int x3] S0 q7.2.1 q7.2.2).bind fun q8 => j_ol none (fun r8 =>
          some (some (.long r8), (S0, q8.2.1, q8.2.2))) q8.1) q7.1) q6.1 else none) q5.1) q4.1) q3.1) q2.1) q1.1) := (R_ev d kX11_stranger 400 0 _ _ _).trans rfl
set_option maxRecDepth 100000 in
theorem bX11_night_0 (d : Nat)  (M : j_M) (N : j_N) : R d kX11_night 0 [.ref 46, .null, .null] [] (S0, M, N) =
  (if (M 46 6) = 0 then
    some (some (.int (-5)), (S0, M, N))
  else
    (C d 167 [.ref 46] S0 M N).bind fun q1 => j_ov none (
    (C d 173 [.ref 46] S0 q1.2.1 q1.2.2).bind fun q2 => j_ov none (
    R d kX11_night 22 [.ref 46, .int 0, .int 0] [] (S0, q2.2.1, q2.2.2)) q2.1) q1.1) := (R_ev d kX11_night 400 0 _ _ _).trans rfl
set_option maxRecDepth 100000 in
theorem bX11_night_22 (d : Nat) (x1 : Int32) (x2 : Int32) (M : j_M) (N : j_N) : R d kX11_night 22 [.ref 46, .int x1, .int x2] [] (S0, M, N) =
  (if (M 46 6) ≤ x2 then
    some (some (.int x1), (S0, (j_w (j_w M 46 9 ((M 46 9) + 1)) 46 10 ((M 46 10) + (M 46 15))), N))
  else
    (C d 174 [.ref 46, .int x2] S0 M N).bind fun q1 => j_oi none (fun r1 =>
    bif j_in x2 6 then
    (C d 174 [.ref 46, .int x2] S0 q1.2.1 q1.2.2).bind fun q2 => j_oi none (fun r2 =>
    bif j_in x2 6 then
    R d kX11_night 22 [.ref 46, .int (x1 + r1), .int (x2 + 1)] [] (S0, (j_w q2.2.1 52 (x2).toNatClampNeg ((q1.2.1 52 (x2).toNatClampNeg) + r2)), q2.2.2) else none) q2.1 else none) q1.1) := (R_ev d kX11_night 400 22 _ _ _).trans rfl
set_option maxRecDepth 100000 in
theorem bX11_drawn_0 (d : Nat) (x1 : Int32) (x2 : Int32) (x3 : Int32) (x4 : Int32) (M : j_M) (N : j_N) : R d kX11_drawn 0 [.ref 46, .int x1, .int x2, .int x3, .int x4, .null, .null, .null, .null, .null] [] (S0, M, N) =
  ((C d 155 [.long x2.toInt64, .long 1, .long 50] S0 M N).bind fun q1 => j_oi none (fun r1 =>
  if r1 = 0 then
    some (some (.int (-2000000000)), (S0, q1.2.1, q1.2.2))
  else
    (C d 160 [.ref 46, .int x3] S0 q1.2.1 q1.2.2).bind fun q2 => j_oi none (fun r2 =>
    if r2 = 0 then
      some (some (.int (-2000000000)), (S0, q2.2.1, q2.2.2))
    else
      (C d 155 [.long x4.toInt64, .long 0, .long 1] S0 q2.2.1 q2.2.2).bind fun q3 => j_oi none (fun r3 =>
      if r3 = 0 then
        some (some (.int (-2000000000)), (S0, q3.2.1, q3.2.2))
      else
        R d kX11_drawn 46 [.ref 46, .null, .int x2, .int x3, .int x4, .int x1, .int 0, .int 0, .int 0, .null] [] (S0, q3.2.1, q3.2.2)) q3.1) q2.1) q1.1) := (R_ev d kX11_drawn 400 0 _ _ _).trans rfl
set_option maxRecDepth 100000 in
theorem bX11_drawn_46 (d : Nat) (x2 : Int32) (x3 : Int32) (x4 : Int32) (x5 : Int32) (x6 : Int32) (x7 : Int32) (x8 : Int32) (M : j_M) (N : j_N) : R d kX11_drawn 46 [.ref 46, .null, .int x2, .int x3, .int x4, .int x5, .int x6, .int x7, .int x8, .null] [] (S0, M, N) =
  (if x2 ≤ x8 then
    if x4 = 0 then
      some (some (.int x6), (S0, M, N))
    else
      some (some (.int x7), (S0, M, N))
  else
    (C d 167 [.ref 46] S0 M N).bind fun q1 => j_ov none (
    R d kX11_drawn 59 [.ref 46, .null, .int x2, .int x3, .int x4, .int x5, .int x6, .int x7, .int x8, .int 0] [] (S0, q1.2.1, q1.2.2)) q1.1) := (R_ev d kX11_drawn 400 46 _ _ _).trans rfl
set_option maxRecDepth 100000 in
theorem bX11_drawn_59 (d : Nat) (x2 : Int32) (x3 : Int32) (x4 : Int32) (x5 : Int32) (x6 : Int32) (x7 : Int32) (x8 : Int32) (x9 : Int32) (M : j_M) (N : j_N) : R d kX11_drawn 59 [.ref 46, .null, .int x2, .int x3, .int x4, .int x5, .int x6, .int x7, .int x8, .int x9] [] (S0, M, N) =
  (if (M 46 6) ≤ x9 then
    (C d 173 [.ref 46] S0 M N).bind fun q1 => j_ov none (
    bif j_in x3 7 then
    if (q1.2.1 54 (x3).toNatClampNeg) ≤ 0 then
      (C d 174 [.ref 46, .int x3] S0 q1.2.1 q1.2.2).bind fun q2 => j_oi none (fun r2 =>
      R d kX11_drawn 46 [.ref 46, .null, .int x2, .int x3, .int x4, .int x5, .int (x6 + 0), .int (x7 + r2), .int (x8 + 1), .null] [] (S0, q2.2.1, q2.2.2)) q2.1
    else
      (C d 174 [.ref 46, .int x3] S0 q1.2.1 q1.2.2).bind fun q3 => j_oi none (fun r3 =>
      R d kX11_drawn 46 [.ref 46, .null, .int x2, .int x3, .int x4, .int x5, .int (x6 + 1), .int (x7 + r3), .int (x8 + 1), .null] [] (S0, q3.2.1, q3.2.2)) q3.1 else none) q1.1
  else
    R d kX11_drawn 73 [.ref 46, .null, .int x2, .int x3, .int x4, .null, .int x6, .int x7, .int x8, .int x9] [.int 1103515245, .int x5] (S0, M, N)) := (R_ev d kX11_drawn 400 59 _ _ _).trans rfl
set_option maxRecDepth 100000 in
theorem bX11_drawn_73 (d : Nat) (x2 : Int32) (x3 : Int32) (x4 : Int32) (x6 : Int32) (x7 : Int32) (x8 : Int32) (x9 : Int32) (s0 : Int32) (s1 : Int32) (M : j_M) (N : j_N) : R d kX11_drawn 73 [.ref 46, .null, .int x2, .int x3, .int x4, .null, .int x6, .int x7, .int x8, .int x9] [.int s1, .int s0] (S0, M, N) =
  (R d kX11_drawn 78 [.ref 46, .null, .int x2, .int x3, .int x4, .null, .int x6, .int x7, .int x8, .int x9] [.int ((s0 * s1) + 12345)] (S0, M, N)) := (R_ev d kX11_drawn 400 73 _ _ _).trans rfl
set_option maxRecDepth 100000 in
theorem bX11_drawn_78 (d : Nat) (x2 : Int32) (x3 : Int32) (x4 : Int32) (x6 : Int32) (x7 : Int32) (x8 : Int32) (x9 : Int32) (s0 : Int32) (M : j_M) (N : j_N) : R d kX11_drawn 78 [.ref 46, .null, .int x2, .int x3, .int x4, .null, .int x6, .int x7, .int x8, .int x9] [.int s0] (S0, M, N) =
  (bif j_in (12 + x9) 27 then
  if (M 47 ((12 + x9)).toNatClampNeg) ≤ (((s0).toUInt32 >>> ((8 : Int32).toUInt32 &&& Int32.toUInt32 31)).toInt32 - ((s0).toUInt32 >>> ((8 : Int32).toUInt32 &&& Int32.toUInt32 31)).toInt32 / 12 * 12) then
    bif j_in x9 7 then
    bif j_in x9 7 then
    R d kX11_drawn 59 [.ref 46, .null, .int x2, .int x3, .int x4, .int s0, .int x6, .int x7, .int x8, .int (x9 + 1)] [] (S0, (j_w M 53 (x9).toNatClampNeg (M 53 (x9).toNatClampNeg)), N) else none else none
  else
    bif j_in (18 + x9) 27 then
    bif j_in x9 7 then
    R d kX11_drawn 59 [.ref 46, .null, .int x2, .int x3, .int x4, .int s0, .int x6, .int x7, .int x8, .int (x9 + 1)] [] (S0, (j_w M 53 (x9).toNatClampNeg (M 47 ((18 + x9)).toNatClampNeg)), N) else none else none else none) := (R_ev d kX11_drawn 400 78 _ _ _).trans rfl
set_option maxRecDepth 100000 in
theorem bX11_hatIs_0 (d : Nat) (x1 : Int32) (M : j_M) (N : j_N) : R d kX11_hatIs 0 [.ref 46, .int x1] [] (S0, M, N) =
  ((C d 235 [.int x1] S0 M N).bind fun q1 => j_oi none (fun r1 =>
  if r1 = 0 then
    some (some (.int (-1)), (S0, q1.2.1, q1.2.2))
  else
    bif j_in x1 6 then
    if 0 ≤ (q1.2.1 66 (x1).toNatClampNeg) then
      bif j_in x1 6 then
      if (q1.2.1 66 (x1).toNatClampNeg) = 51 then
        some (some (.int 1), (S0, q1.2.1, q1.2.2))
      else
        some (some (.int (-12)), (S0, q1.2.1, q1.2.2)) else none
    else
      some (some (.int (-11)), (S0, q1.2.1, q1.2.2)) else none) q1.1) := (R_ev d kX11_hatIs 400 0 _ _ _).trans rfl
set_option maxRecDepth 100000 in
theorem bX11_firstFalse_0 (d : Nat) (x1 : Int32) (x2 : Int32) (M : j_M) (N : j_N) : R d kX11_firstFalse 0 [.ref 46, .int x1, .int x2, .null] [] (S0, M, N) =
  ((C d 167 [.ref 46] S0 M N).bind fun q1 => j_ov none (
  (C d 172 [.ref 46, .int (q1.2.1 47 24), .int x2] S0 q1.2.1 q1.2.2).bind fun q2 => j_ov none (
  R d kX11_firstFalse 18 [.ref 46, .int x1, .null, .int 0] [] (S0, q2.2.1, q2.2.2)) q2.1) q1.1) := (R_ev d kX11_firstFalse 400 0 _ _ _).trans rfl
set_option maxRecDepth 100000 in
theorem bX11_firstFalse_18 (d : Nat) (x1 : Int32) (x3 : Int32) (M : j_M) (N : j_N) : R d kX11_firstFalse 18 [.ref 46, .int x1, .null, .int x3] [] (S0, M, N) =
  (if (M 46 6) ≤ x3 then
    some (some (.int (-2)), (S0, M, N))
  else
    bif j_in x1 6 then
    if (M 67 (x1).toNatClampNeg) ≤ x3 then
      some (some (.int (-2)), (S0, M, N))
    else
      bif j_in ((60 * x1) + x3) 360 then
      (C d 174 [.ref 46, .int x3] S0 M N).bind fun q1 => j_oi none (fun r1 =>
      if (lg_cmp (N 68 (((60 * x1) + x3)).toNatClampNeg) r1.toInt64) = 0 then
        R d kX11_firstFalse 18 [.ref 46, .int x1, .null, .int (x3 + 1)] [] (S0, q1.2.1, q1.2.2)
      else
        some (some (.int x3), (S0, q1.2.1, q1.2.2))) q1.1 else none else none) := (R_ev d kX11_firstFalse 400 18 _ _ _).trans rfl
set_option maxRecDepth 100000 in
theorem bX11_judge_0 (d : Nat) (x1 : Int32) (M : j_M) (N : j_N) : R d kX11_judge 0 [.ref 46, .int x1] [] (S0, M, N) =
  ((C d 217 [.ref 46, .int x1] S0 M N).bind fun q1 => j_oi none (fun r1 =>
  if 0 ≤ r1 then
    (C d 218 [.ref 46, .int x1, .int (q1.2.1 47 25)] S0 q1.2.1 q1.2.2).bind fun q2 => j_oi none (fun r2 =>
    some (some (.int r2), (S0, q2.2.1, q2.2.2))) q2.1
  else
    (C d 217 [.ref 46, .int x1] S0 q1.2.1 q1.2.2).bind fun q3 => j_oi none (fun r3 =>
    some (some (.int r3), (S0, q3.2.1, q3.2.2))) q3.1) q1.1) := (R_ev d kX11_judge 400 0 _ _ _).trans rfl
set_option maxRecDepth 100000 in
theorem bX11_fits_0 (d : Nat) (x1 : Int32) (M : j_M) (N : j_N) : R d kX11_fits 0 [.ref 46, .int x1, .null, .null] [] (S0, M, N) =
  ((C d 217 [.ref 46, .int x1] S0 M N).bind fun q1 => j_oi none (fun r1 =>
  if 0 ≤ r1 then
    R d kX11_fits 18 [.ref 46, .int x1, .int 0, .int 0] [] (S0, q1.2.1, q1.2.2)
  else
    (C d 217 [.ref 46, .int x1] S0 q1.2.1 q1.2.2).bind fun q2 => j_oi none (fun r2 =>
    some (some (.int r2), (S0, q2.2.1, q2.2.2))) q2.1) q1.1) := (R_ev d kX11_fits 400 0 _ _ _).trans rfl
set_option maxRecDepth 100000 in
theorem bX11_fits_18 (d : Nat) (x1 : Int32) (x2 : Int32) (x3 : Int32) (M : j_M) (N : j_N) : R d kX11_fits 18 [.ref 46, .int x1, .int x2, .int x3] [] (S0, M, N) =
  (if 5 ≤ x3 then
    some (some (.int x2), (S0, M, N))
  else
    (C d 218 [.ref 46, .int x1, .int x3] S0 M N).bind fun q1 => j_oi none (fun r1 =>
    if r1 = (-2) then
      R d kX11_fits 18 [.ref 46, .int x1, .int (x2 ||| ((1 : Int32) <<< (x3 &&& 31))), .int (x3 + 1)] [] (S0, q1.2.1, q1.2.2)
    else
      R d kX11_fits 18 [.ref 46, .int x1, .int (x2 ||| 0), .int (x3 + 1)] [] (S0, q1.2.1, q1.2.2)) q1.1) := (R_ev d kX11_fits 400 18 _ _ _).trans rfl
set_option maxRecDepth 100000 in
theorem bX11_fair_0 (d : Nat) (x1 : Int32) (M : j_M) (N : j_N) : R d kX11_fair 0 [.ref 46, .int x1, .null, .null, .null, .null, .null] [] (S0, M, N) =
  ((C d 155 [.long x1.toInt64, .long 0, .long 1] S0 M N).bind fun q1 => j_oi none (fun r1 =>
  if r1 = 0 then
    some (some (.int (-2000000000)), (S0, q1.2.1, q1.2.2))
  else
    if (q1.2.1 46 6) = 0 then
      some (some (.int (-5)), (S0, q1.2.1, q1.2.2))
    else
      (C d 167 [.ref 46] S0 q1.2.1 q1.2.2).bind fun q2 => j_ov none (
      R d kX11_fair 34 [.ref 46, .int x1, .int (-1), .int 0, .int 0, .null, .null] [] (S0, q2.2.1, q2.2.2)) q2.1) q1.1) := (R_ev d kX11_fair 400 0 _ _ _).trans rfl
set_option maxRecDepth 100000 in
theorem bX11_fair_34 (d : Nat) (x1 : Int32) (x2 : Int32) (x3 : Int32) (x4 : Int32) (M : j_M) (N : j_N) : R d kX11_fair 34 [.ref 46, .int x1, .int x2, .int x3, .int x4, .null, .null] [] (S0, M, N) =
  (if 5 ≤ x4 then
    if x1 = 0 then
      some (some (.int x2), (S0, M, N))
    else
      some (some (.int x3), (S0, M, N))
  else
    (C d 172 [.ref 46, .int (M 47 24), .int x4] S0 M N).bind fun q1 => j_ov none (
    R d kX11_fair 59 [.ref 46, .int x1, .int x2, .int x3, .int x4, .int 0, .int 0] [] (S0, q1.2.1, q1.2.2)) q1.1) := (R_ev d kX11_fair 400 34 _ _ _).trans rfl
set_option maxRecDepth 100000 in
theorem bX11_fair_59 (d : Nat) (x1 : Int32) (x2 : Int32) (x3 : Int32) (x4 : Int32) (x5 : Int32) (x6 : Int32) (M : j_M) (N : j_N) : R d kX11_fair 59 [.ref 46, .int x1, .int x2, .int x3, .int x4, .int x5, .int x6] [] (S0, M, N) =
  (if (M 46 6) ≤ x6 then
    if x2 < 0 then
      R d kX11_fair 34 [.ref 46, .int x1, .int x4, .int x5, .int (x4 + 1), .null, .null] [] (S0, M, N)
    else
      if x3 ≤ x5 then
        R d kX11_fair 34 [.ref 46, .int x1, .int x2, .int x3, .int (x4 + 1), .null, .null] [] (S0, M, N)
      else
        R d kX11_fair 34 [.ref 46, .int x1, .int x4, .int x5, .int (x4 + 1), .null, .null] [] (S0, M, N)
  else
    (C d 174 [.ref 46, .int x6] S0 M N).bind fun q1 => j_oi none (fun r1 =>
    if r1 ≤ x5 then
      R d kX11_fair 59 [.ref 46, .int x1, .int x2, .int x3, .int x4, .int x5, .int (x6 + 1)] [] (S0, q1.2.1, q1.2.2)
    else
      (C d 174 [.ref 46, .int x6] S0 q1.2.1 q1.2.2).bind fun q2 => j_oi none (fun r2 =>
      R d kX11_fair 59 [.ref 46, .int x1, .int x2, .int x3, .int x4, .int r2, .int (x6 + 1)] [] (S0, q2.2.1, q2.2.2)) q2.1) q1.1) := (R_ev d kX11_fair 400 59 _ _ _).trans rfl
set_option maxRecDepth 100000 in
theorem bX11_image_0 (d : Nat)  (M : j_M) (N : j_N) : R d kX11_image 0 [.ref 46, .null] [] (S0, M, N) =
  (R d kX11_image 31 [.ref 46, .int 0] [] (S0, (j_w (j_w (j_w (j_w M 46 31 1) 46 32 (M 46 6)) 46 33 (M 46 9)) 46 34 (M 46 10)), N)) := (R_ev d kX11_image 400 0 _ _ _).trans rfl
set_option maxRecDepth 100000 in
theorem bX11_image_31 (d : Nat) (x1 : Int32) (M : j_M) (N : j_N) : R d kX11_image 31 [.ref 46, .int x1] [] (S0, M, N) =
  (if 6 ≤ x1 then
    some (some (.int (M 46 9)), (S0, M, N))
  else
    bif j_in (6 + x1) 27 then
    bif j_in x1 6 then
    bif j_in x1 6 then
    bif j_in x1 6 then
    R d kX11_image 31 [.ref 46, .int (x1 + 1)] [] (S0, (j_w (j_w M 62 (x1).toNatClampNeg (M 47 ((6 + x1)).toNatClampNeg)) 63 (x1).toNatClampNeg (M 52 (x1).toNatClampNeg)), N) else none else none else none else none) := (R_ev d kX11_image 400 31 _ _ _).trans rfl
set_option maxRecDepth 100000 in
theorem bX11_back_0 (d : Nat)  (M : j_M) (N : j_N) : R d kX11_back 0 [.ref 46, .null] [] (S0, M, N) =
  (if (M 46 31) = 0 then
    some (some (.int (-5)), (S0, M, N))
  else
    R d kX11_back 28 [.ref 46, .int 0] [] (S0, (j_w (j_w M 46 9 (M 46 33)) 46 10 (M 46 34)), N)) := (R_ev d kX11_back 400 0 _ _ _).trans rfl
set_option maxRecDepth 100000 in
theorem bX11_back_28 (d : Nat) (x1 : Int32) (M : j_M) (N : j_N) : R d kX11_back 28 [.ref 46, .int x1] [] (S0, M, N) =
  (if (M 46 6) ≤ x1 then
    some (some (.int (M 46 9)), (S0, M, N))
  else
    if (M 46 32) ≤ x1 then
      bif j_in (6 + x1) 27 then
      bif j_in (6 + x1) 27 then
      if (M 46 32) ≤ x1 then
        bif j_in x1 6 then
        R d kX11_back 28 [.ref 46, .int (x1 + 1)] [] (S0, (j_w (j_w M 47 ((6 + x1)).toNatClampNeg (M 47 ((6 + x1)).toNatClampNeg)) 52 (x1).toNatClampNeg 0), N) else none
      else
        bif j_in x1 6 then
        bif j_in x1 6 then
        R d kX11_back 28 [.ref 46, .int (x1 + 1)] [] (S0, (j_w (j_w M 47 ((6 + x1)).toNatClampNeg (M 47 ((6 + x1)).toNatClampNeg)) 52 (x1).toNatClampNeg (M 63 (x1).toNatClampNeg)), N) else none else none else none else none
    else
      bif j_in x1 6 then
      bif j_in (6 + x1) 27 then
      if (M 46 32) ≤ x1 then
        bif j_in x1 6 then
        R d kX11_back 28 [.ref 46, .int (x1 + 1)] [] (S0, (j_w (j_w M 47 ((6 + x1)).toNatClampNeg (M 62 (x1).toNatClampNeg)) 52 (x1).toNatClampNeg 0), N) else none
      else
        bif j_in x1 6 then
        bif j_in x1 6 then
        R d kX11_back 28 [.ref 46, .int (x1 + 1)] [] (S0, (j_w (j_w M 47 ((6 + x1)).toNatClampNeg (M 62 (x1).toNatClampNeg)) 52 (x1).toNatClampNeg (M 63 (x1).toNatClampNeg)), N) else none else none else none else none) := (R_ev d kX11_back 400 28 _ _ _).trans rfl
set_option maxRecDepth 100000 in
theorem bX11_isBody_0 (d : Nat) (x1 : Int32) (M : j_M) (N : j_N) : R d kX11_isBody 0 [.ref 46, .int x1] [] (S0, M, N) =
  ((C d 155 [.long x1.toInt64, .long 0, .long ((M 46 37) - 1).toInt64] S0 M N).bind fun q1 => j_oi none (fun r1 =>
  bif decide (r1 = 0) || decide (r1 = 1) then some (some (.int r1), (S0, q1.2.1, q1.2.2)) else none) q1.1) := (R_ev d kX11_isBody 400 0 _ _ _).trans rfl
set_option maxRecDepth 100000 in
theorem bX11_kindOf_0 (d : Nat) (x1 : Int32) (M : j_M) (N : j_N) : R d kX11_kindOf 0 [.ref 46, .int x1] [] (S0, M, N) =
  (bif j_in x1 50 then
  some (some (.int (M 64 (x1).toNatClampNeg)), (S0, M, N)) else none) := (R_ev d kX11_kindOf 400 0 _ _ _).trans rfl
set_option maxRecDepth 100000 in
theorem bX11_body_0 (d : Nat) (x1 : Int32) (M : j_M) (N : j_N) : R d kX11_body 0 [.ref 46, .int x1] [] (S0, M, N) =
  ((C d 155 [.long x1.toInt64, .long 0, .long 7] S0 M N).bind fun q1 => j_oi none (fun r1 =>
  if r1 = 0 then
    some (some (.int (-1)), (S0, q1.2.1, q1.2.2))
  else
    if (q1.2.1 46 37) = 50 then
      some (some (.int (-3)), (S0, q1.2.1, q1.2.2))
    else
      bif j_in (q1.2.1 46 37) 50 then
      some (some (.int (((q1.2.1 46 37) + 1) - 1)), (S0, (j_w (j_w q1.2.1 64 ((q1.2.1 46 37)).toNatClampNeg x1) 46 37 ((q1.2.1 46 37) + 1)), q1.2.2)) else none) q1.1) := (R_ev d kX11_body 400 0 _ _ _).trans rfl
set_option maxRecDepth 100000 in
theorem bX11_above_0 (d : Nat) (x0 : Int32) (M : j_M) (N : j_N) : R d kX11_above 0 [.int x0] [] (S0, M, N) =
  (if x0 = 3 then
    some (some (.int 2), (S0, M, N))
  else
    if x0 = 4 then
      some (some (.int 1), (S0, M, N))
    else
      if x0 = 5 then
        some (some (.int 3), (S0, M, N))
      else
        if x0 = 7 then
          some (some (.int 4), (S0, M, N))
        else
          some (some (.int 0), (S0, M, N))) := (R_ev d kX11_above 400 0 _ _ _).trans rfl
set_option maxRecDepth 100000 in
theorem bX11_begins_0 (d : Nat) (x1 : Int32) (M : j_M) (N : j_N) : R d kX11_begins 0 [.ref 46, .int x1] [] (S0, M, N) =
  (if 24 ≤ (M 46 40) then
    some (none, (S0, (j_w M 46 40 ((M 46 40) + 1)), N))
  else
    bif j_in (M 46 40) 24 then
    some (none, (S0, (j_w (j_w M 65 ((M 46 40)).toNatClampNeg x1) 46 40 ((M 46 40) + 1)), N)) else none) := (R_ev d kX11_begins 400 0 _ _ _).trans rfl
set_option maxRecDepth 100000 in
theorem bX11_givesAs_0 (d : Nat) (x1 : Int32) (x2 : Int32) (M : j_M) (N : j_N) : R d kX11_givesAs 0 [.ref 46, .int x1, .int x2] [] (S0, M, N) =
  (if x1 = 1 then
    (C d 228 [.ref 46, .int 20] S0 M N).bind fun q1 => j_ov none (
    (C d 229 [.ref 46, .int 0, .int x2] S0 q1.2.1 q1.2.2).bind fun q2 => j_oi none (fun r2 =>
    some (some (.int (r2 + 3)), (S0, q2.2.1, q2.2.2))) q2.1) q1.1
  else
    if x1 = 4 then
      (C d 228 [.ref 46, .int 20] S0 M N).bind fun q3 => j_ov none (
      (C d 229 [.ref 46, .int 0, .int x2] S0 q3.2.1 q3.2.2).bind fun q4 => j_oi none (fun r4 =>
      some (some (.int (r4 + 3)), (S0, q4.2.1, q4.2.2))) q4.1) q3.1
    else
      if x1 = 7 then
        (C d 228 [.ref 46, .int 20] S0 M N).bind fun q8 => j_ov none (
        (C d 229 [.ref 46, .int 0, .int x2] S0 q8.2.1 q8.2.2).bind fun q9 => j_oi none (fun r9 =>
        some (some (.int (r9 + 3)), (S0, q9.2.1, q9.2.2))) q9.1) q8.1
      else
        if x1 = 6 then
          (C d 228 [.ref 46, .int 70] S0 M N).bind fun q6 => j_ov none (
          (C d 229 [.ref 46, .int 0, .int x2] S0 q6.2.1 q6.2.2).bind fun q7 => j_oi none (fun r7 =>
          some (some (.int (r7 * 2)), (S0, q7.2.1, q7.2.2))) q7.1) q6.1
        else
          (C d 228 [.ref 46, .int 1] S0 M N).bind fun q5 => j_ov none (
          some (some (.int (x2 + (q5.2.1 46 42))), (S0, q5.2.1, q5.2.2))) q5.1) := (R_ev d kX11_givesAs 400 0 _ _ _).trans rfl
set_option maxRecDepth 100000 in
theorem bX11_owesAs_0 (d : Nat) (x1 : Int32) (x2 : Int32) (M : j_M) (N : j_N) : R d kX11_owesAs 0 [.ref 46, .int x1, .int x2, .null] [] (S0, M, N) =
  (if x1 = 3 then
    (C d 228 [.ref 46, .int 41] S0 M N).bind fun q1 => j_ov none (
    (C d 230 [.ref 46, .int 2, .int (x2 + 1)] S0 q1.2.1 q1.2.2).bind fun q2 => j_oi none (fun r2 =>
    some (some (.int r2), (S0, q2.2.1, q2.2.2))) q2.1) q1.1
  else
    if x1 = 5 then
      (C d 228 [.ref 46, .int 41] S0 M N).bind fun q10 => j_ov none (
      (C d 230 [.ref 46, .int 2, .int (x2 + 1)] S0 q10.2.1 q10.2.2).bind fun q11 => j_oi none (fun r11 =>
      some (some (.int r11), (S0, q11.2.1, q11.2.2))) q11.1) q10.1
    else
      if x1 = 2 then
        (C d 228 [.ref 46, .int 30] S0 M N).bind fun q8 => j_ov none (
        (C d 230 [.ref 46, .int 0, .int x2] S0 q8.2.1 q8.2.2).bind fun q9 => j_oi none (fun r9 =>
        some (some (.int (-r9)), (S0, q9.2.1, q9.2.2))) q9.1) q8.1
      else
        if x1 = 7 then
          (C d 228 [.ref 46, .int 80] S0 M N).bind fun q5 => j_ov none (
          (C d 230 [.ref 46, .int 4, .int x2] S0 q5.2.1 q5.2.2).bind fun q6 => j_oi none (fun r6 =>
          (C d 231 [.ref 46, .int (q6.2.1 46 41), .int 2] S0 q6.2.1 q6.2.2).bind fun q7 => j_oi none (fun r7 =>
          some (some (.int (r6 + r7)), (S0, q7.2.1, q7.2.2))) q7.1) q6.1) q5.1
        else
          (C d 228 [.ref 46, .int 10] S0 M N).bind fun q3 => j_ov none (
          (C d 229 [.ref 46, .int (q3.2.1 46 41), .int x2] S0 q3.2.1 q3.2.2).bind fun q4 => j_oi none (fun r4 =>
          some (some (.int (r4 * 2)), (S0, q4.2.1, q4.2.2))) q4.1) q3.1) := (R_ev d kX11_owesAs 400 0 _ _ _).trans rfl
set_option maxRecDepth 100000 in
theorem bX11_lacksAs_0 (d : Nat) (x1 : Int32) (x2 : Int32) (M : j_M) (N : j_N) : R d kX11_lacksAs 0 [.ref 46, .int x1, .int x2, .null] [] (S0, M, N) =
  (if x1 = 3 then
    (C d 228 [.ref 46, .int 40] S0 M N).bind fun q1 => j_ov none (
    (C d 231 [.ref 46, .int 2, .int x2] S0 q1.2.1 q1.2.2).bind fun q2 => j_oi none (fun r2 =>
    some (some (.int (r2 * 3)), (S0, q2.2.1, q2.2.2))) q2.1) q1.1
  else
    if x1 = 5 then
      (C d 228 [.ref 46, .int 40] S0 M N).bind fun q10 => j_ov none (
      (C d 231 [.ref 46, .int 2, .int x2] S0 q10.2.1 q10.2.2).bind fun q11 => j_oi none (fun r11 =>
      some (some (.int (r11 * 3)), (S0, q11.2.1, q11.2.2))) q11.1) q10.1
    else
      if x1 = 4 then
        (C d 228 [.ref 46, .int 50] S0 M N).bind fun q3 => j_ov none (
        (C d 231 [.ref 46, .int 1, .int x2] S0 q3.2.1 q3.2.2).bind fun q4 => j_oi none (fun r4 =>
        (C d 229 [.ref 46, .int (q4.2.1 46 41), .int 2] S0 q4.2.1 q4.2.2).bind fun q5 => j_oi none (fun r5 =>
        some (some (.int (r4 - r5)), (S0, q5.2.1, q5.2.2))) q5.1) q4.1) q3.1
      else
        if x1 = 7 then
          (C d 228 [.ref 46, .int 50] S0 M N).bind fun q7 => j_ov none (
          (C d 231 [.ref 46, .int 1, .int x2] S0 q7.2.1 q7.2.2).bind fun q8 => j_oi none (fun r8 =>
          (C d 229 [.ref 46, .int (q8.2.1 46 41), .int 2] S0 q8.2.1 q8.2.2).bind fun q9 => j_oi none (fun r9 =>
          some (some (.int (r8 - r9)), (S0, q9.2.1, q9.2.2))) q9.1) q8.1) q7.1
        else
          (C d 228 [.ref 46, .int 11] S0 M N).bind fun q6 => j_ov none (
          some (some (.int (x2 ^^^ (q6.2.1 46 42))), (S0, q6.2.1, q6.2.2))) q6.1) := (R_ev d kX11_lacksAs 400 0 _ _ _).trans rfl
set_option maxRecDepth 100000 in
theorem bX11_tellsAs_0 (d : Nat) (x1 : Int32) (x2 : Int32) (M : j_M) (N : j_N) : R d kX11_tellsAs 0 [.ref 46, .int x1, .int x2, .null] [] (S0, M, N) =
  (if x1 = 5 then
    (C d 228 [.ref 46, .int 60] S0 M N).bind fun q6 => j_ov none (
    (C d 232 [.ref 46, .int 3, .int x2] S0 q6.2.1 q6.2.2).bind fun q7 => j_oi none (fun r7 =>
    some (some (.int (r7 ^^^ 5)), (S0, q7.2.1, q7.2.2))) q7.1) q6.1
  else
    if x1 = 7 then
      (C d 228 [.ref 46, .int 81] S0 M N).bind fun q4 => j_ov none (
      (C d 232 [.ref 46, .int 4, .int x2] S0 q4.2.1 q4.2.2).bind fun q5 => j_oi none (fun r5 =>
      some (some (.int (r5 - 1)), (S0, q5.2.1, q5.2.2))) q5.1) q4.1
    else
      (C d 228 [.ref 46, .int 2] S0 M N).bind fun q1 => j_ov none (
      (C d 230 [.ref 46, .int (q1.2.1 46 41), .int x2] S0 q1.2.1 q1.2.2).bind fun q2 => j_oi none (fun r2 =>
      (C d 231 [.ref 46, .int (q2.2.1 46 41), .int 1] S0 q2.2.1 q2.2.2).bind fun q3 => j_oi none (fun r3 =>
      some (some (.int (r2 - r3)), (S0, q3.2.1, q3.2.2))) q3.1) q2.1) q1.1) := (R_ev d kX11_tellsAs 400 0 _ _ _).trans rfl
set_option maxRecDepth 100000 in
theorem bX11_act_0 (d : Nat) (x1 : Int32) (x2 : Int32) (x3 : Int32) (M : j_M) (N : j_N) : R d kX11_act 0 [.ref 46, .int x1, .int x2, .int x3] [] (S0, M, N) =
  ((C d 224 [.ref 46, .int x1] S0 (j_w M 46 40 0) N).bind fun q1 => j_oi none (fun r1 =>
  if r1 = 0 then
    some (some (.int 0), (S0, q1.2.1, q1.2.2))
  else
    bif j_in x1 50 then
    if x2 = 0 then
      (C d 229 [.ref 46, .int (q1.2.1 64 (x1).toNatClampNeg), .int x3] S0 (j_w (j_w q1.2.1 46 41 (q1.2.1 64 (x1).toNatClampNeg)) 46 42 x1) q1.2.2).bind fun q2 => j_oi none (fun r2 =>
      some (some (.int r2), (S0, q2.2.1, q2.2.2))) q2.1
    else if x2 = 1 then
      (C d 230 [.ref 46, .int (q1.2.1 64 (x1).toNatClampNeg), .int x3] S0 (j_w (j_w q1.2.1 46 41 (q1.2.1 64 (x1).toNatClampNeg)) 46 42 x1) q1.2.2).bind fun q3 => j_oi none (fun r3 =>
      some (some (.int r3), (S0, q3.2.1, q3.2.2))) q3.1
    else if x2 = 2 then
      (C d 231 [.ref 46, .int (q1.2.1 64 (x1).toNatClampNeg), .int x3] S0 (j_w (j_w q1.2.1 46 41 (q1.2.1 64 (x1).toNatClampNeg)) 46 42 x1) q1.2.2).bind fun q4 => j_oi none (fun r4 =>
      some (some (.int r4), (S0, q4.2.1, q4.2.2))) q4.1
    else if x2 = 3 then
      (C d 232 [.ref 46, .int (q1.2.1 64 (x1).toNatClampNeg), .int x3] S0 (j_w (j_w q1.2.1 46 41 (q1.2.1 64 (x1).toNatClampNeg)) 46 42 x1) q1.2.2).bind fun q5 => j_oi none (fun r5 =>
      some (some (.int r5), (S0, q5.2.1, q5.2.2))) q5.1
    else 
      some (some (.int 0), (S0, (j_w (j_w q1.2.1 46 41 (q1.2.1 64 (x1).toNatClampNeg)) 46 42 x1), q1.2.2)) else none) q1.1) := (R_ev d kX11_act 400 0 _ _ _).trans rfl
set_option maxRecDepth 100000 in
theorem bX11_trace_0 (d : Nat) (x1 : Int32) (M : j_M) (N : j_N) : R d kX11_trace 0 [.ref 46, .int x1] [] (S0, M, N) =
  (if x1 < 0 then
    some (some (.int (-1)), (S0, M, N))
  else
    if (M 46 40) ≤ x1 then
      some (some (.int (-1)), (S0, M, N))
    else
      if 24 ≤ x1 then
        some (some (.int (-1)), (S0, M, N))
      else
        bif j_in x1 24 then
        some (some (.int (M 65 (x1).toNatClampNeg)), (S0, M, N)) else none) := (R_ev d kX11_trace 400 0 _ _ _).trans rfl
set_option maxRecDepth 100000 in
theorem bX11_isShelf_0 (d : Nat) (x0 : Int32) (M : j_M) (N : j_N) : R d kX11_isShelf 0 [.int x0] [] (S0, M, N) =
  ((C d 155 [.long x0.toInt64, .long 0, .long 5] S0 M N).bind fun q1 => j_oi none (fun r1 =>
  bif decide (r1 = 0) || decide (r1 = 1) then some (some (.int r1), (S0, q1.2.1, q1.2.2)) else none) q1.1) := (R_ev d kX11_isShelf 400 0 _ _ _).trans rfl
set_option maxRecDepth 100000 in
theorem bX11_keep_0 (d : Nat) (x1 : Int32) (x2 : Int32) (M : j_M) (N : j_N) : R d kX11_keep 0 [.ref 46, .int x1, .int x2] [] (S0, M, N) =
  ((C d 235 [.int x1] S0 M N).bind fun q1 => j_oi none (fun r1 =>
  if r1 = 0 then
    some (some (.int (-1)), (S0, q1.2.1, q1.2.2))
  else
    if x2 = (-1) then
      bif j_in x1 6 then
      bif j_in x1 6 then
      some (some (.int 1), (S0, (j_w (j_w q1.2.1 66 (x1).toNatClampNeg x2) 67 (x1).toNatClampNeg 0), q1.2.2)) else none else none
    else
      (C d 224 [.ref 46, .int x2] S0 q1.2.1 q1.2.2).bind fun q2 => j_oi none (fun r2 =>
      if r2 = 0 then
        some (some (.int (-1)), (S0, q2.2.1, q2.2.2))
      else
        bif j_in x1 6 then
        bif j_in x1 6 then
        some (some (.int 1), (S0, (j_w (j_w q2.2.1 66 (x1).toNatClampNeg x2) 67 (x1).toNatClampNeg 0), q2.2.2)) else none else none) q2.1) q1.1) := (R_ev d kX11_keep 400 0 _ _ _).trans rfl
set_option maxRecDepth 100000 in
theorem bX11_row_0 (d : Nat) (x1 : Int32) (x2 : Int32) (x3 : Int32) (M : j_M) (N : j_N) : R d kX11_row 0 [.ref 46, .int x1, .int x2, .int x3, .null] [] (S0, M, N) =
  ((C d 235 [.int x1] S0 M N).bind fun q1 => j_oi none (fun r1 =>
  if r1 = 0 then
    some (some (.int (-1)), (S0, q1.2.1, q1.2.2))
  else
    (C d 155 [.long x2.toInt64, .long 0, .long 4] S0 q1.2.1 q1.2.2).bind fun q2 => j_oi none (fun r2 =>
    if r2 = 0 then
      some (some (.int (-1)), (S0, q2.2.1, q2.2.2))
    else
      if x3 ≤ 60 then
        if 0 ≤ x3 then
          bif j_in x1 6 then
          bif j_in x1 6 then
          R d kX11_row 57 [.ref 46, .int x1, .null, .null, .int (60 * x1)] [] (S0, (j_w (j_w q2.2.1 66 (x1).toNatClampNeg (50 + x2)) 67 (x1).toNatClampNeg x3), q2.2.2) else none else none
        else
          some (some (.int (-14)), (S0, q2.2.1, q2.2.2))
      else
        some (some (.int (-1)), (S0, q2.2.1, q2.2.2))) q2.1) q1.1) := (R_ev d kX11_row 400 0 _ _ _).trans rfl
set_option maxRecDepth 100000 in
theorem bX11_row_57 (d : Nat) (x1 : Int32) (x4 : Int32) (M : j_M) (N : j_N) : R d kX11_row 57 [.ref 46, .int x1, .null, .null, .int x4] [] (S0, M, N) =
  (if ((60 * x1) + 60) ≤ x4 then
    some (some (.int 1), (S0, M, N))
  else
    bif j_in x4 360 then
    R d kX11_row 57 [.ref 46, .int x1, .null, .null, .int (x4 + 1)] [] (S0, M, (j_wl N 68 (x4).toNatClampNeg 0)) else none) := (R_ev d kX11_row 400 57 _ _ _).trans rfl
set_option maxRecDepth 100000 in
theorem bX11_refusal_0 (d : Nat) (x1 : Int32) (x2 : Int32) (M : j_M) (N : j_N) : R d kX11_refusal 0 [.ref 46, .int x1, .int x2] [] (S0, M, N) =
  ((C d 235 [.int x1] S0 M N).bind fun q1 => j_oi none (fun r1 =>
  if r1 = 0 then
    some (some (.int (-1)), (S0, q1.2.1, q1.2.2))
  else
    bif j_in x1 6 then
    if 0 ≤ (q1.2.1 66 (x1).toNatClampNeg) then
      bif j_in x1 6 then
      if 50 ≤ (q1.2.1 66 (x1).toNatClampNeg) then
        if x2 < 0 then
          some (some (.int (-13)), (S0, q1.2.1, q1.2.2))
        else
          bif j_in x1 6 then
          if (q1.2.1 67 (x1).toNatClampNeg) ≤ x2 then
            some (some (.int (-13)), (S0, q1.2.1, q1.2.2))
          else
            some (some (.int 0), (S0, q1.2.1, q1.2.2)) else none
      else
        some (some (.int (-12)), (S0, q1.2.1, q1.2.2)) else none
    else
      some (some (.int (-11)), (S0, q1.2.1, q1.2.2)) else none) q1.1) := (R_ev d kX11_refusal 400 0 _ _ _).trans rfl
set_option maxRecDepth 100000 in
theorem bX11_asSort_0 (d : Nat) (x0 : Int32) (y1 : Int64) (M : j_M) (N : j_N) : R d kX11_asSort 0 [.int x0, .long y1, .null] [] (S0, M, N) =
  (if x0 = 0 then
    some (some (.long y1.toInt32.toInt8.toInt32.toInt64), (S0, M, N))
  else
    if x0 = 1 then
      some (some (.long y1.toInt32.toInt16.toInt32.toInt64), (S0, M, N))
    else
      if x0 = 2 then
        some (some (.long y1.toInt32.toInt64), (S0, M, N))
      else
        if x0 = 4 then
          if (lg_cmp y1 0) = 0 then
            some (some (.long 0), (S0, M, N))
          else
            some (some (.long 1), (S0, M, N))
        else
          some (some (.long y1), (S0, M, N))) := (R_ev d kX11_asSort 400 0 _ _ _).trans rfl
set_option maxRecDepth 100000 in
theorem bX11_put_0 (d : Nat) (x1 : Int32) (x2 : Int32) (y3 : Int64) (M : j_M) (N : j_N) : R d kX11_put 0 [.ref 46, .int x1, .int x2, .long y3, .null, .null] [] (S0, M, N) =
  ((C d 238 [.ref 46, .int x1, .int x2] S0 M N).bind fun q1 => j_oi none (fun r1 =>
  if r1 = 0 then
    bif j_in x1 6 then
    (C d 239 [.int ((q1.2.1 66 (x1).toNatClampNeg) - 50), .long y3] S0 q1.2.1 q1.2.2).bind fun q2 => j_ol none (fun r2 =>
    bif j_in ((60 * x1) + x2) 360 then
    if r1 = 0 then
      some (some (.int 1), (S0, q2.2.1, (j_wl q2.2.2 68 (((60 * x1) + x2)).toNatClampNeg r2)))
    else
      some (some (.int r1), (S0, q2.2.1, (j_wl q2.2.2 68 (((60 * x1) + x2)).toNatClampNeg r2))) else none) q2.1 else none
  else
    if r1 = 0 then
      some (some (.int 1), (S0, q1.2.1, q1.2.2))
    else
      some (some (.int r1), (S0, q1.2.1, q1.2.2))) q1.1) := (R_ev d kX11_put 400 0 _ _ _).trans rfl
set_option maxRecDepth 100000 in
theorem bX11_element_0 (d : Nat) (x1 : Int32) (x2 : Int32) (M : j_M) (N : j_N) : R d kX11_element 0 [.ref 46, .int x1, .int x2] [] (S0, M, N) =
  ((C d 238 [.ref 46, .int x1, .int x2] S0 M N).bind fun q1 => j_oi none (fun r1 =>
  if r1 = 0 then
    bif j_in ((60 * x1) + x2) 360 then
    some (some (.long (q1.2.2 68 (((60 * x1) + x2)).toNatClampNeg)), (S0, q1.2.1, q1.2.2)) else none
  else
    some (some (.long (-9223372036854775808)), (S0, q1.2.1, q1.2.2))) q1.1) := (R_ev d kX11_element 400 0 _ _ _).trans rfl
set_option maxRecDepth 100000 in
theorem bX11_shift_0 (d : Nat) (x1 : Int32) (x2 : Int32) (x3 : Int32) (x4 : Int32) (x5 : Int32) (M : j_M) (N : j_N) : R d kX11_shift 0 [.ref 46, .int x1, .int x2, .int x3, .int x4, .int x5, .null] [] (S0, M, N) =
  ((C d 235 [.int x1] S0 M N).bind fun q1 => j_oi none (fun r1 =>
  if r1 = 0 then
    some (some (.int (-1)), (S0, q1.2.1, q1.2.2))
  else
    (C d 235 [.int x3] S0 q1.2.1 q1.2.2).bind fun q2 => j_oi none (fun r2 =>
    if r2 = 0 then
      some (some (.int (-1)), (S0, q2.2.1, q2.2.2))
    else
      bif j_in x1 6 then
      if (q2.2.1 66 (x1).toNatClampNeg) < 0 then
        some (some (.int (-11)), (S0, q2.2.1, q2.2.2))
      else
        bif j_in x3 6 then
        if 0 ≤ (q2.2.1 66 (x3).toNatClampNeg) then
          bif j_in x1 6 then
          if (q2.2.1 66 (x1).toNatClampNeg) < 50 then
            some (some (.int (-12)), (S0, q2.2.1, q2.2.2))
          else
            bif j_in x1 6 then
            bif j_in x3 6 then
            if (q2.2.1 66 (x1).toNatClampNeg) = (q2.2.1 66 (x3).toNatClampNeg) then
              if x5 < 0 then
                some (some (.int (-13)), (S0, q2.2.1, q2.2.2))
              else
                if x2 < 0 then
                  some (some (.int (-13)), (S0, q2.2.1, q2.2.2))
                else
                  if x4 < 0 then
                    some (some (.int (-13)), (S0, q2.2.1, q2.2.2))
                  else
                    bif j_in x1 6 then
                    if ((q2.2.1 67 (x1).toNatClampNeg) - x5) < x2 then
                      some (some (.int (-13)), (S0, q2.2.1, q2.2.2))
                    else
                      bif j_in x3 6 then
                      if x4 ≤ ((q2.2.1 67 (x3).toNatClampNeg) - x5) then
                        R d kX11_shift 113 [.ref 46, .int x1, .int x2, .int x3, .int x4, .int x5, .int 0] [] (S0, q2.2.1, q2.2.2)
                      else
                        some (some (.int (-13)), (S0, q2.2.1, q2.2.2)) else none else none
            else
              some (some (.int (-12)), (S0, q2.2.1, q2.2.2)) else none else none else none
        else
          some (some (.int (-11)), (S0, q2.2.1, q2.2.2)) else none else none) q2.1) q1.1) := (R_ev d kX11_shift 400 0 _ _ _).trans rfl
set_option maxRecDepth 100000 in
theorem bX11_shift_113 (d : Nat) (x1 : Int32) (x2 : Int32) (x3 : Int32) (x4 : Int32) (x5 : Int32) (x6 : Int32) (M : j_M) (N : j_N) : R d kX11_shift 113 [.ref 46, .int x1, .int x2, .int x3, .int x4, .int x5, .int x6] [] (S0, M, N) =
  (if x5 ≤ x6 then
    R d kX11_shift 150 [.ref 46, .null, .null, .int x3, .int x4, .int x5, .int 0] [] (S0, M, N)
  else
    bif j_in (((60 * x1) + x2) + x6) 360 then
    bif j_in x6 60 then
    R d kX11_shift 113 [.ref 46, .int x1, .int x2, .int x3, .int x4, .int x5, .int (x6 + 1)] [] (S0, M, (j_wl N 69 (x6).toNatClampNeg (N 68 ((((60 * x1) + x2) + x6)).toNatClampNeg))) else none else none) := (R_ev d kX11_shift 400 113 _ _ _).trans rfl
set_option maxRecDepth 100000 in
theorem bX11_shift_150 (d : Nat) (x3 : Int32) (x4 : Int32) (x5 : Int32) (x6 : Int32) (M : j_M) (N : j_N) : R d kX11_shift 150 [.ref 46, .null, .null, .int x3, .int x4, .int x5, .int x6] [] (S0, M, N) =
  (if x5 ≤ x6 then
    some (some (.int x5), (S0, M, N))
  else
    bif j_in x6 60 then
    bif j_in (((60 * x3) + x4) + x6) 360 then
    R d kX11_shift 150 [.ref 46, .null, .null, .int x3, .int x4, .int x5, .int (x6 + 1)] [] (S0, M, (j_wl N 68 ((((60 * x3) + x4) + x6)).toNatClampNeg (N 69 (x6).toNatClampNeg))) else none else none) := (R_ev d kX11_shift 400 150 _ _ _).trans rfl
set_option maxRecDepth 100000 in
theorem bX11_taken_0 (d : Nat) (x1 : Int32) (x2 : Int32) (M : j_M) (N : j_N) : R d kX11_taken 0 [.ref 46, .int x1, .int x2, .null] [] (S0, M, N) =
  ((C d 235 [.int x1] S0 M N).bind fun q1 => j_oi none (fun r1 =>
  if r1 = 0 then
    some (some (.int (-1)), (S0, q1.2.1, q1.2.2))
  else
    (C d 155 [.long x2.toInt64, .long 0, .long 7] S0 q1.2.1 q1.2.2).bind fun q2 => j_oi none (fun r2 =>
    if r2 = 0 then
      some (some (.int (-1)), (S0, q2.2.1, q2.2.2))
    else
      bif j_in x1 6 then
      if 0 ≤ (q2.2.1 66 (x1).toNatClampNeg) then
        bif j_in x1 6 then
        if (q2.2.1 66 (x1).toNatClampNeg) < 50 then
          bif j_in x1 6 then
          (C d 225 [.ref 46, .int (q2.2.1 66 (x1).toNatClampNeg)] S0 q2.2.1 q2.2.2).bind fun q3 => j_oi none (fun r3 =>
          R d kX11_taken 58 [.ref 46, .int x1, .int x2, .int r3] [] (S0, q3.2.1, q3.2.2)) q3.1 else none
        else
          some (some (.int (-12)), (S0, q2.2.1, q2.2.2)) else none
      else
        some (some (.int (-11)), (S0, q2.2.1, q2.2.2)) else none) q2.1) q1.1) := (R_ev d kX11_taken 400 0 _ _ _).trans rfl
set_option maxRecDepth 100000 in
theorem bX11_taken_58 (d : Nat) (x1 : Int32) (x2 : Int32) (x3 : Int32) (M : j_M) (N : j_N) : R d kX11_taken 58 [.ref 46, .int x1, .int x2, .int x3] [] (S0, M, N) =
  (if x3 = x2 then
    if x3 = x2 then
      bif j_in x1 6 then
      (C d 225 [.ref 46, .int (M 66 (x1).toNatClampNeg)] S0 M N).bind fun q1 => j_oi none (fun r1 =>
      some (some (.int r1), (S0, q1.2.1, q1.2.2))) q1.1 else none
    else
      some (some (.int (-12)), (S0, M, N))
  else
    if x3 ≤ 0 then
      if x3 = x2 then
        bif j_in x1 6 then
        (C d 225 [.ref 46, .int (M 66 (x1).toNatClampNeg)] S0 M N).bind fun q2 => j_oi none (fun r2 =>
        some (some (.int r2), (S0, q2.2.1, q2.2.2))) q2.1 else none
      else
        some (some (.int (-12)), (S0, M, N))
    else
      (C d 227 [.int x3] S0 M N).bind fun q3 => j_oi none (fun r3 =>
      R d kX11_taken 58 [.ref 46, .int x1, .int x2, .int r3] [] (S0, q3.2.1, q3.2.2)) q3.1) := (R_ev d kX11_taken 400 58 _ _ _).trans rfl
set_option maxRecDepth 100000 in
theorem bX11_count_0 (d : Nat) (x1 : Int32) (M : j_M) (N : j_N) : R d kX11_count 0 [.ref 46, .int x1] [] (S0, M, N) =
  (if x1 = 0 then
    some (some (.int (M 46 6)), (S0, M, N))
  else if x1 = 1 then
    some (some (.int (M 46 17)), (S0, M, N))
  else if x1 = 2 then
    some (some (.int (M 46 22)), (S0, M, N))
  else if x1 = 3 then
    some (some (.int (M 46 5)), (S0, M, N))
  else if x1 = 4 then
    some (some (.int (M 46 37)), (S0, M, N))
  else if x1 = 5 then
    some (some (.int (M 46 40)), (S0, M, N))
  else 
    some (some (.int (-1)), (S0, M, N))) := (R_ev d kX11_count 400 0 _ _ _).trans rfl
set_option maxRecDepth 100000 in
theorem bJ7_fill_d0a16_0 (d : Nat) (a0 : Nat) (y1 : Int64) (M : j_M) (N : j_N) : R d kJ7_fill_d0a16 0 [.ref a0, .long y1, .null, .null, .null] [] (S0, M, N) =
  (bif Nat.ble (j_at S0 a0).1 2 then
  R d kJ7_fill_d0a16 6 [.ref a0, .long y1, .null, .int 0, .int (Int32.ofNat (j_at S0 a0).2.1)] [] (S0, M, N) else none) := (R_ev d kJ7_fill_d0a16 400 0 _ _ _).trans rfl
set_option maxRecDepth 100000 in
theorem bJ7_fill_d0a16_6 (d : Nat) (a0 : Nat) (y1 : Int64) (x3 : Int32) (x4 : Int32) (M : j_M) (N : j_N) : R d kJ7_fill_d0a16 6 [.ref a0, .long y1, .null, .int x3, .int x4] [] (S0, M, N) =
  (if x4 ≤ x3 then
    some (none, (S0, M, N))
  else
    bif Nat.beq (j_at S0 a0).1 1 && j_in x3 (j_at S0 a0).2.1 then
    R d kJ7_fill_d0a16 6 [.ref a0, .long y1, .null, .int (x3 + 1), .int x4] [] (S0, M, (j_wl N a0 (x3).toNatClampNeg y1)) else none) := (R_ev d kJ7_fill_d0a16 400 6 _ _ _).trans rfl
set_option maxRecDepth 100000 in
theorem bJ7_fill_53178_0 (d : Nat) (a0 : Nat) (x1 : Int32) (M : j_M) (N : j_N) : R d kJ7_fill_53178 0 [.ref a0, .int x1, .null, .null] [] (S0, M, N) =
  (bif Nat.ble (j_at S0 a0).1 2 then
  R d kJ7_fill_53178 5 [.ref a0, .int x1, .int 0, .int (Int32.ofNat (j_at S0 a0).2.1)] [] (S0, M, N) else none) := (R_ev d kJ7_fill_53178 400 0 _ _ _).trans rfl
set_option maxRecDepth 100000 in
theorem bJ7_fill_53178_5 (d : Nat) (a0 : Nat) (x1 : Int32) (x2 : Int32) (x3 : Int32) (M : j_M) (N : j_N) : R d kJ7_fill_53178 5 [.ref a0, .int x1, .int x2, .int x3] [] (S0, M, N) =
  (if x3 ≤ x2 then
    some (none, (S0, M, N))
  else
    bif Nat.beq (j_at S0 a0).1 0 && j_in x2 (j_at S0 a0).2.1 then
    R d kJ7_fill_53178 5 [.ref a0, .int x1, .int (x2 + 1), .int x3] [] (S0, (j_w M a0 (x2).toNatClampNeg x1), N) else none) := (R_ev d kJ7_fill_53178 400 5 _ _ _).trans rfl
end
