section
-- ===== PART A: goes FIRST, ahead of the names: the tables' words, and 'selects' of the private methods out of them =====
/-- a private method of a class that the tables say can be made, by its rows of tables_1 -/
def lw_okq (q : MethodName × Nat) : Prop := (q.1.cls ≠ "java/lang/invoke/MethodHandle" ∧ q.1.cls ≠ "java/lang/invoke/VarHandle") ∧ Cond.instantiable q.1.cls q.2 ∈ tables_1 ∧ Cond.privateMethod q.1 ∈ tables_1 ∧ Cond.instanceMethod q.1 ∈ tables_1
theorem lw_p0 : lw_okq (⟨"LeastPays", "comesFrom", "(LLeastPays$Shelf;J)Z"⟩, 10) := ⟨⟨by decide +kernel, by decide +kernel⟩, List.mem_of_getElem? (i := 17) (by decide +kernel), List.mem_of_getElem? (i := 442) (by decide +kernel), List.mem_of_getElem? (i := 443) (by decide +kernel)⟩
theorem lw_p1 : lw_okq (⟨"LeastPays$Changes", "dropOldest", "()V"⟩, 6) := ⟨⟨by decide +kernel, by decide +kernel⟩, List.mem_of_getElem? (i := 279) (by decide +kernel), List.mem_of_getElem? (i := 479) (by decide +kernel), List.mem_of_getElem? (i := 480) (by decide +kernel)⟩
theorem lw_p2 : lw_okq (⟨"LeastPays", "ofTheTable", "(I)I"⟩, 10) := ⟨⟨by decide +kernel, by decide +kernel⟩, List.mem_of_getElem? (i := 17) (by decide +kernel), List.mem_of_getElem? (i := 490) (by decide +kernel), List.mem_of_getElem? (i := 491) (by decide +kernel)⟩
theorem lw_p3 : lw_okq (⟨"LeastPays", "ofOne", "(II)I"⟩, 10) := ⟨⟨by decide +kernel, by decide +kernel⟩, List.mem_of_getElem? (i := 17) (by decide +kernel), List.mem_of_getElem? (i := 512) (by decide +kernel), List.mem_of_getElem? (i := 513) (by decide +kernel)⟩
theorem lw_p4 : lw_okq (⟨"LeastPays$Hat", "partAmongAlike", "(I)I"⟩, 11) := ⟨⟨by decide +kernel, by decide +kernel⟩, List.mem_of_getElem? (i := 105) (by decide +kernel), List.mem_of_getElem? (i := 524) (by decide +kernel), List.mem_of_getElem? (i := 525) (by decide +kernel)⟩
theorem lw_p5 : lw_okq (⟨"LeastPays$Hat", "partOfTwo", "(I)I"⟩, 11) := ⟨⟨by decide +kernel, by decide +kernel⟩, List.mem_of_getElem? (i := 105) (by decide +kernel), List.mem_of_getElem? (i := 528) (by decide +kernel), List.mem_of_getElem? (i := 529) (by decide +kernel)⟩
theorem lw_p6 : lw_okq (⟨"LeastPays$Hat", "givenBack", "(I)I"⟩, 11) := ⟨⟨by decide +kernel, by decide +kernel⟩, List.mem_of_getElem? (i := 105) (by decide +kernel), List.mem_of_getElem? (i := 532) (by decide +kernel), List.mem_of_getElem? (i := 533) (by decide +kernel)⟩
theorem lw_p7 : lw_okq (⟨"LeastPays$Law", "readLines", "()V"⟩, 11) := ⟨⟨by decide +kernel, by decide +kernel⟩, List.mem_of_getElem? (i := 209) (by decide +kernel), List.mem_of_getElem? (i := 559) (by decide +kernel), List.mem_of_getElem? (i := 560) (by decide +kernel)⟩
theorem lw_p8 : lw_okq (⟨"LeastPays$Law", "readLine", "()V"⟩, 11) := ⟨⟨by decide +kernel, by decide +kernel⟩, List.mem_of_getElem? (i := 209) (by decide +kernel), List.mem_of_getElem? (i := 563) (by decide +kernel), List.mem_of_getElem? (i := 564) (by decide +kernel)⟩
theorem lw_p9 : lw_okq (⟨"LeastPays$Law", "readEither", "(I)V"⟩, 11) := ⟨⟨by decide +kernel, by decide +kernel⟩, List.mem_of_getElem? (i := 209) (by decide +kernel), List.mem_of_getElem? (i := 567) (by decide +kernel), List.mem_of_getElem? (i := 568) (by decide +kernel)⟩
theorem lw_p10 : lw_okq (⟨"LeastPays$Law", "readBoth", "(I)V"⟩, 11) := ⟨⟨by decide +kernel, by decide +kernel⟩, List.mem_of_getElem? (i := 209) (by decide +kernel), List.mem_of_getElem? (i := 571) (by decide +kernel), List.mem_of_getElem? (i := 572) (by decide +kernel)⟩
theorem lw_p11 : lw_okq (⟨"LeastPays$Law", "readCompared", "(I)V"⟩, 11) := ⟨⟨by decide +kernel, by decide +kernel⟩, List.mem_of_getElem? (i := 209) (by decide +kernel), List.mem_of_getElem? (i := 575) (by decide +kernel), List.mem_of_getElem? (i := 576) (by decide +kernel)⟩
theorem lw_p12 : lw_okq (⟨"LeastPays$Law", "readSum", "(I)V"⟩, 11) := ⟨⟨by decide +kernel, by decide +kernel⟩, List.mem_of_getElem? (i := 209) (by decide +kernel), List.mem_of_getElem? (i := 579) (by decide +kernel), List.mem_of_getElem? (i := 580) (by decide +kernel)⟩
theorem lw_p13 : lw_okq (⟨"LeastPays$Law", "readProduct", "(I)V"⟩, 11) := ⟨⟨by decide +kernel, by decide +kernel⟩, List.mem_of_getElem? (i := 209) (by decide +kernel), List.mem_of_getElem? (i := 583) (by decide +kernel), List.mem_of_getElem? (i := 584) (by decide +kernel)⟩
theorem lw_p14 : lw_okq (⟨"LeastPays$Law", "readOperand", "(I)V"⟩, 11) := ⟨⟨by decide +kernel, by decide +kernel⟩, List.mem_of_getElem? (i := 209) (by decide +kernel), List.mem_of_getElem? (i := 587) (by decide +kernel), List.mem_of_getElem? (i := 588) (by decide +kernel)⟩
theorem lw_p15 : lw_okq (⟨"LeastPays$Law", "letterHere", "()I"⟩, 11) := ⟨⟨by decide +kernel, by decide +kernel⟩, List.mem_of_getElem? (i := 209) (by decide +kernel), List.mem_of_getElem? (i := 591) (by decide +kernel), List.mem_of_getElem? (i := 592) (by decide +kernel)⟩
def lw_privs_1 : List (MethodName × Nat) := [(⟨"LeastPays", "comesFrom", "(LLeastPays$Shelf;J)Z"⟩, 10), (⟨"LeastPays$Changes", "dropOldest", "()V"⟩, 6), (⟨"LeastPays", "ofTheTable", "(I)I"⟩, 10), (⟨"LeastPays", "ofOne", "(II)I"⟩, 10), (⟨"LeastPays$Hat", "partAmongAlike", "(I)I"⟩, 11), (⟨"LeastPays$Hat", "partOfTwo", "(I)I"⟩, 11), (⟨"LeastPays$Hat", "givenBack", "(I)I"⟩, 11), (⟨"LeastPays$Law", "readLines", "()V"⟩, 11), (⟨"LeastPays$Law", "readLine", "()V"⟩, 11), (⟨"LeastPays$Law", "readEither", "(I)V"⟩, 11), (⟨"LeastPays$Law", "readBoth", "(I)V"⟩, 11), (⟨"LeastPays$Law", "readCompared", "(I)V"⟩, 11), (⟨"LeastPays$Law", "readSum", "(I)V"⟩, 11), (⟨"LeastPays$Law", "readProduct", "(I)V"⟩, 11), (⟨"LeastPays$Law", "readOperand", "(I)V"⟩, 11), (⟨"LeastPays$Law", "letterHere", "()I"⟩, 11)]
theorem lw_r1 : ∀ q ∈ lw_privs_1, lw_okq q := List.forall_mem_cons.mpr ⟨lw_p0, List.forall_mem_cons.mpr ⟨lw_p1, List.forall_mem_cons.mpr ⟨lw_p2, List.forall_mem_cons.mpr ⟨lw_p3, List.forall_mem_cons.mpr ⟨lw_p4, List.forall_mem_cons.mpr ⟨lw_p5, List.forall_mem_cons.mpr ⟨lw_p6, List.forall_mem_cons.mpr ⟨lw_p7, List.forall_mem_cons.mpr ⟨lw_p8, List.forall_mem_cons.mpr ⟨lw_p9, List.forall_mem_cons.mpr ⟨lw_p10, List.forall_mem_cons.mpr ⟨lw_p11, List.forall_mem_cons.mpr ⟨lw_p12, List.forall_mem_cons.mpr ⟨lw_p13, List.forall_mem_cons.mpr ⟨lw_p14, List.forall_mem_cons.mpr ⟨lw_p15, fun _ h => absurd h List.not_mem_nil⟩⟩⟩⟩⟩⟩⟩⟩⟩⟩⟩⟩⟩⟩⟩⟩
theorem lw_p16 : lw_okq (⟨"LeastPays$Law", "readNumber", "()V"⟩, 11) := ⟨⟨by decide +kernel, by decide +kernel⟩, List.mem_of_getElem? (i := 209) (by decide +kernel), List.mem_of_getElem? (i := 601) (by decide +kernel), List.mem_of_getElem? (i := 602) (by decide +kernel)⟩
theorem lw_p17 : lw_okq (⟨"LeastPays$Law", "write", "(I)V"⟩, 11) := ⟨⟨by decide +kernel, by decide +kernel⟩, List.mem_of_getElem? (i := 209) (by decide +kernel), List.mem_of_getElem? (i := 605) (by decide +kernel), List.mem_of_getElem? (i := 606) (by decide +kernel)⟩
theorem lw_p18 : lw_okq (⟨"LeastPays$Law", "fail", "()V"⟩, 11) := ⟨⟨by decide +kernel, by decide +kernel⟩, List.mem_of_getElem? (i := 209) (by decide +kernel), List.mem_of_getElem? (i := 609) (by decide +kernel), List.mem_of_getElem? (i := 610) (by decide +kernel)⟩
theorem lw_p19 : lw_okq (⟨"LeastPays$Law", "takes", "(C)Z"⟩, 11) := ⟨⟨by decide +kernel, by decide +kernel⟩, List.mem_of_getElem? (i := 209) (by decide +kernel), List.mem_of_getElem? (i := 613) (by decide +kernel), List.mem_of_getElem? (i := 614) (by decide +kernel)⟩
theorem lw_p20 : lw_okq (⟨"LeastPays$Law", "takesProductSign", "()I"⟩, 11) := ⟨⟨by decide +kernel, by decide +kernel⟩, List.mem_of_getElem? (i := 209) (by decide +kernel), List.mem_of_getElem? (i := 617) (by decide +kernel), List.mem_of_getElem? (i := 618) (by decide +kernel)⟩
theorem lw_p21 : lw_okq (⟨"LeastPays$Law", "takesSumSign", "()I"⟩, 11) := ⟨⟨by decide +kernel, by decide +kernel⟩, List.mem_of_getElem? (i := 209) (by decide +kernel), List.mem_of_getElem? (i := 621) (by decide +kernel), List.mem_of_getElem? (i := 622) (by decide +kernel)⟩
theorem lw_p22 : lw_okq (⟨"LeastPays$Minds", "sumsOf", "(I)I"⟩, 6) := ⟨⟨by decide +kernel, by decide +kernel⟩, List.mem_of_getElem? (i := 153) (by decide +kernel), List.mem_of_getElem? (i := 635) (by decide +kernel), List.mem_of_getElem? (i := 636) (by decide +kernel)⟩
theorem lw_p23 : lw_okq (⟨"LeastPays$Minds", "costBy", "(II)I"⟩, 6) := ⟨⟨by decide +kernel, by decide +kernel⟩, List.mem_of_getElem? (i := 153) (by decide +kernel), List.mem_of_getElem? (i := 639) (by decide +kernel), List.mem_of_getElem? (i := 640) (by decide +kernel)⟩
theorem lw_p24 : lw_okq (⟨"LeastPays$Minds", "layByChance", "(II)J"⟩, 6) := ⟨⟨by decide +kernel, by decide +kernel⟩, List.mem_of_getElem? (i := 153) (by decide +kernel), List.mem_of_getElem? (i := 655) (by decide +kernel), List.mem_of_getElem? (i := 656) (by decide +kernel)⟩
theorem lw_p25 : lw_okq (⟨"LeastPays$Minds", "wouldChange", "(I)Z"⟩, 6) := ⟨⟨by decide +kernel, by decide +kernel⟩, List.mem_of_getElem? (i := 153) (by decide +kernel), List.mem_of_getElem? (i := 684) (by decide +kernel), List.mem_of_getElem? (i := 685) (by decide +kernel)⟩
theorem lw_p26 : lw_okq (⟨"LeastPays$Minds", "ways", "()J"⟩, 6) := ⟨⟨by decide +kernel, by decide +kernel⟩, List.mem_of_getElem? (i := 153) (by decide +kernel), List.mem_of_getElem? (i := 696) (by decide +kernel), List.mem_of_getElem? (i := 697) (by decide +kernel)⟩
theorem lw_p27 : lw_okq (⟨"LeastPays$Minds", "layWay", "(I)V"⟩, 6) := ⟨⟨by decide +kernel, by decide +kernel⟩, List.mem_of_getElem? (i := 153) (by decide +kernel), List.mem_of_getElem? (i := 708) (by decide +kernel), List.mem_of_getElem? (i := 709) (by decide +kernel)⟩
theorem lw_p28 : lw_okq (⟨"LeastPays$Menu", "playOut", "(II)I"⟩, 6) := ⟨⟨by decide +kernel, by decide +kernel⟩, List.mem_of_getElem? (i := 182) (by decide +kernel), List.mem_of_getElem? (i := 765) (by decide +kernel), List.mem_of_getElem? (i := 766) (by decide +kernel)⟩
theorem lw_p29 : lw_okq (⟨"LeastPays$Menu", "priceOf", "(I)I"⟩, 6) := ⟨⟨by decide +kernel, by decide +kernel⟩, List.mem_of_getElem? (i := 182) (by decide +kernel), List.mem_of_getElem? (i := 776) (by decide +kernel), List.mem_of_getElem? (i := 777) (by decide +kernel)⟩
theorem lw_p30 : lw_okq (⟨"LeastPays$Law", "workOut", "(LLeastPays$Guests;II)I"⟩, 11) := ⟨⟨by decide +kernel, by decide +kernel⟩, List.mem_of_getElem? (i := 209) (by decide +kernel), List.mem_of_getElem? (i := 789) (by decide +kernel), List.mem_of_getElem? (i := 790) (by decide +kernel)⟩
theorem lw_p31 : lw_okq (⟨"LeastPays$Law", "pop", "()I"⟩, 11) := ⟨⟨by decide +kernel, by decide +kernel⟩, List.mem_of_getElem? (i := 209) (by decide +kernel), List.mem_of_getElem? (i := 793) (by decide +kernel), List.mem_of_getElem? (i := 794) (by decide +kernel)⟩
def lw_privs_2 : List (MethodName × Nat) := [(⟨"LeastPays$Law", "readNumber", "()V"⟩, 11), (⟨"LeastPays$Law", "write", "(I)V"⟩, 11), (⟨"LeastPays$Law", "fail", "()V"⟩, 11), (⟨"LeastPays$Law", "takes", "(C)Z"⟩, 11), (⟨"LeastPays$Law", "takesProductSign", "()I"⟩, 11), (⟨"LeastPays$Law", "takesSumSign", "()I"⟩, 11), (⟨"LeastPays$Minds", "sumsOf", "(I)I"⟩, 6), (⟨"LeastPays$Minds", "costBy", "(II)I"⟩, 6), (⟨"LeastPays$Minds", "layByChance", "(II)J"⟩, 6), (⟨"LeastPays$Minds", "wouldChange", "(I)Z"⟩, 6), (⟨"LeastPays$Minds", "ways", "()J"⟩, 6), (⟨"LeastPays$Minds", "layWay", "(I)V"⟩, 6), (⟨"LeastPays$Menu", "playOut", "(II)I"⟩, 6), (⟨"LeastPays$Menu", "priceOf", "(I)I"⟩, 6), (⟨"LeastPays$Law", "workOut", "(LLeastPays$Guests;II)I"⟩, 11), (⟨"LeastPays$Law", "pop", "()I"⟩, 11)]
theorem lw_r2 : ∀ q ∈ lw_privs_2, lw_okq q := List.forall_mem_cons.mpr ⟨lw_p16, List.forall_mem_cons.mpr ⟨lw_p17, List.forall_mem_cons.mpr ⟨lw_p18, List.forall_mem_cons.mpr ⟨lw_p19, List.forall_mem_cons.mpr ⟨lw_p20, List.forall_mem_cons.mpr ⟨lw_p21, List.forall_mem_cons.mpr ⟨lw_p22, List.forall_mem_cons.mpr ⟨lw_p23, List.forall_mem_cons.mpr ⟨lw_p24, List.forall_mem_cons.mpr ⟨lw_p25, List.forall_mem_cons.mpr ⟨lw_p26, List.forall_mem_cons.mpr ⟨lw_p27, List.forall_mem_cons.mpr ⟨lw_p28, List.forall_mem_cons.mpr ⟨lw_p29, List.forall_mem_cons.mpr ⟨lw_p30, List.forall_mem_cons.mpr ⟨lw_p31, fun _ h => absurd h List.not_mem_nil⟩⟩⟩⟩⟩⟩⟩⟩⟩⟩⟩⟩⟩⟩⟩⟩
theorem lw_p32 : lw_okq (⟨"LeastPays$Law", "push", "(I)V"⟩, 11) := ⟨⟨by decide +kernel, by decide +kernel⟩, List.mem_of_getElem? (i := 209) (by decide +kernel), List.mem_of_getElem? (i := 800) (by decide +kernel), List.mem_of_getElem? (i := 801) (by decide +kernel)⟩
theorem lw_p33 : lw_okq (⟨"LeastPays$Law", "apply", "(I)V"⟩, 11) := ⟨⟨by decide +kernel, by decide +kernel⟩, List.mem_of_getElem? (i := 209) (by decide +kernel), List.mem_of_getElem? (i := 804) (by decide +kernel), List.mem_of_getElem? (i := 805) (by decide +kernel)⟩
theorem lw_p34 : lw_okq (⟨"LeastPays", "givenBy", "(I)I"⟩, 10) := ⟨⟨by decide +kernel, by decide +kernel⟩, List.mem_of_getElem? (i := 17) (by decide +kernel), List.mem_of_getElem? (i := 823) (by decide +kernel), List.mem_of_getElem? (i := 824) (by decide +kernel)⟩
theorem lw_p35 : lw_okq (⟨"LeastPays", "refusalOfTold", "(I)I"⟩, 10) := ⟨⟨by decide +kernel, by decide +kernel⟩, List.mem_of_getElem? (i := 17) (by decide +kernel), List.mem_of_getElem? (i := 865) (by decide +kernel), List.mem_of_getElem? (i := 866) (by decide +kernel)⟩
theorem lw_p36 : lw_okq (⟨"LeastPays$Nights", "greatestCost", "()I"⟩, 6) := ⟨⟨by decide +kernel, by decide +kernel⟩, List.mem_of_getElem? (i := 250) (by decide +kernel), List.mem_of_getElem? (i := 891) (by decide +kernel), List.mem_of_getElem? (i := 892) (by decide +kernel)⟩
theorem lw_p37 : lw_okq (⟨"LeastPays$Bodies", "call", "(III)I"⟩, 5) := ⟨⟨by decide +kernel, by decide +kernel⟩, List.mem_of_getElem? (i := 331) (by decide +kernel), List.mem_of_getElem? (i := 953) (by decide +kernel), List.mem_of_getElem? (i := 954) (by decide +kernel)⟩
theorem lw_p38 : lw_okq (⟨"LeastPays$Bodies", "from", "(IIII)I"⟩, 5) := ⟨⟨by decide +kernel, by decide +kernel⟩, List.mem_of_getElem? (i := 331) (by decide +kernel), List.mem_of_getElem? (i := 957) (by decide +kernel), List.mem_of_getElem? (i := 958) (by decide +kernel)⟩
theorem lw_p39 : lw_okq (⟨"LeastPays$Bodies", "run", "(III)I"⟩, 5) := ⟨⟨by decide +kernel, by decide +kernel⟩, List.mem_of_getElem? (i := 331) (by decide +kernel), List.mem_of_getElem? (i := 965) (by decide +kernel), List.mem_of_getElem? (i := 966) (by decide +kernel)⟩
theorem lw_p40 : lw_okq (⟨"LeastPays$Shelf", "lowestBits", "(J)J"⟩, 5) := ⟨⟨by decide +kernel, by decide +kernel⟩, List.mem_of_getElem? (i := 356) (by decide +kernel), List.mem_of_getElem? (i := 1009) (by decide +kernel), List.mem_of_getElem? (i := 1010) (by decide +kernel)⟩
theorem lw_p41 : lw_okq (⟨"LeastPaysModel", "isGuest", "(I)Z"⟩, 47) := ⟨⟨by decide +kernel, by decide +kernel⟩, List.mem_of_getElem? (i := 1042) (by decide +kernel), List.mem_of_getElem? (i := 1219) (by decide +kernel), List.mem_of_getElem? (i := 1220) (by decide +kernel)⟩
theorem lw_p42 : lw_okq (⟨"LeastPaysModel", "becomes", "(II)I"⟩, 47) := ⟨⟨by decide +kernel, by decide +kernel⟩, List.mem_of_getElem? (i := 1042) (by decide +kernel), List.mem_of_getElem? (i := 1223) (by decide +kernel), List.mem_of_getElem? (i := 1224) (by decide +kernel)⟩
theorem lw_p43 : lw_okq (⟨"LeastPaysModel", "ofGuest", "(II)I"⟩, 47) := ⟨⟨by decide +kernel, by decide +kernel⟩, List.mem_of_getElem? (i := 1042) (by decide +kernel), List.mem_of_getElem? (i := 1234) (by decide +kernel), List.mem_of_getElem? (i := 1235) (by decide +kernel)⟩
theorem lw_p44 : lw_okq (⟨"LeastPaysModel", "costNow", "(I)I"⟩, 47) := ⟨⟨by decide +kernel, by decide +kernel⟩, List.mem_of_getElem? (i := 1042) (by decide +kernel), List.mem_of_getElem? (i := 1238) (by decide +kernel), List.mem_of_getElem? (i := 1239) (by decide +kernel)⟩
theorem lw_p45 : lw_okq (⟨"LeastPaysModel", "laysOut", "()V"⟩, 47) := ⟨⟨by decide +kernel, by decide +kernel⟩, List.mem_of_getElem? (i := 1042) (by decide +kernel), List.mem_of_getElem? (i := 1242) (by decide +kernel), List.mem_of_getElem? (i := 1243) (by decide +kernel)⟩
theorem lw_p46 : lw_okq (⟨"LeastPaysModel", "nightAsIs", "()V"⟩, 47) := ⟨⟨by decide +kernel, by decide +kernel⟩, List.mem_of_getElem? (i := 1042) (by decide +kernel), List.mem_of_getElem? (i := 1246) (by decide +kernel), List.mem_of_getElem? (i := 1247) (by decide +kernel)⟩
theorem lw_p47 : lw_okq (⟨"LeastPaysModel", "nightBy", "(II)V"⟩, 47) := ⟨⟨by decide +kernel, by decide +kernel⟩, List.mem_of_getElem? (i := 1042) (by decide +kernel), List.mem_of_getElem? (i := 1250) (by decide +kernel), List.mem_of_getElem? (i := 1251) (by decide +kernel)⟩
def lw_privs_3 : List (MethodName × Nat) := [(⟨"LeastPays$Law", "push", "(I)V"⟩, 11), (⟨"LeastPays$Law", "apply", "(I)V"⟩, 11), (⟨"LeastPays", "givenBy", "(I)I"⟩, 10), (⟨"LeastPays", "refusalOfTold", "(I)I"⟩, 10), (⟨"LeastPays$Nights", "greatestCost", "()I"⟩, 6), (⟨"LeastPays$Bodies", "call", "(III)I"⟩, 5), (⟨"LeastPays$Bodies", "from", "(IIII)I"⟩, 5), (⟨"LeastPays$Bodies", "run", "(III)I"⟩, 5), (⟨"LeastPays$Shelf", "lowestBits", "(J)J"⟩, 5), (⟨"LeastPaysModel", "isGuest", "(I)Z"⟩, 47), (⟨"LeastPaysModel", "becomes", "(II)I"⟩, 47), (⟨"LeastPaysModel", "ofGuest", "(II)I"⟩, 47), (⟨"LeastPaysModel", "costNow", "(I)I"⟩, 47), (⟨"LeastPaysModel", "laysOut", "()V"⟩, 47), (⟨"LeastPaysModel", "nightAsIs", "()V"⟩, 47), (⟨"LeastPaysModel", "nightBy", "(II)V"⟩, 47)]
theorem lw_r3 : ∀ q ∈ lw_privs_3, lw_okq q := List.forall_mem_cons.mpr ⟨lw_p32, List.forall_mem_cons.mpr ⟨lw_p33, List.forall_mem_cons.mpr ⟨lw_p34, List.forall_mem_cons.mpr ⟨lw_p35, List.forall_mem_cons.mpr ⟨lw_p36, List.forall_mem_cons.mpr ⟨lw_p37, List.forall_mem_cons.mpr ⟨lw_p38, List.forall_mem_cons.mpr ⟨lw_p39, List.forall_mem_cons.mpr ⟨lw_p40, List.forall_mem_cons.mpr ⟨lw_p41, List.forall_mem_cons.mpr ⟨lw_p42, List.forall_mem_cons.mpr ⟨lw_p43, List.forall_mem_cons.mpr ⟨lw_p44, List.forall_mem_cons.mpr ⟨lw_p45, List.forall_mem_cons.mpr ⟨lw_p46, List.forall_mem_cons.mpr ⟨lw_p47, fun _ h => absurd h List.not_mem_nil⟩⟩⟩⟩⟩⟩⟩⟩⟩⟩⟩⟩⟩⟩⟩⟩
theorem lw_p48 : lw_okq (⟨"LeastPaysModel", "leastBut", "(I)I"⟩, 47) := ⟨⟨by decide +kernel, by decide +kernel⟩, List.mem_of_getElem? (i := 1042) (by decide +kernel), List.mem_of_getElem? (i := 1254) (by decide +kernel), List.mem_of_getElem? (i := 1255) (by decide +kernel)⟩
theorem lw_p49 : lw_okq (⟨"LeastPaysModel", "alikePay", "(I)V"⟩, 47) := ⟨⟨by decide +kernel, by decide +kernel⟩, List.mem_of_getElem? (i := 1042) (by decide +kernel), List.mem_of_getElem? (i := 1258) (by decide +kernel), List.mem_of_getElem? (i := 1259) (by decide +kernel)⟩
theorem lw_p50 : lw_okq (⟨"LeastPaysModel", "twoPay", "(I)V"⟩, 47) := ⟨⟨by decide +kernel, by decide +kernel⟩, List.mem_of_getElem? (i := 1042) (by decide +kernel), List.mem_of_getElem? (i := 1262) (by decide +kernel), List.mem_of_getElem? (i := 1263) (by decide +kernel)⟩
theorem lw_p51 : lw_okq (⟨"LeastPaysModel", "givesBack", "(I)V"⟩, 47) := ⟨⟨by decide +kernel, by decide +kernel⟩, List.mem_of_getElem? (i := 1042) (by decide +kernel), List.mem_of_getElem? (i := 1266) (by decide +kernel), List.mem_of_getElem? (i := 1267) (by decide +kernel)⟩
theorem lw_p52 : lw_okq (⟨"LeastPaysModel", "costIn", "(I)I"⟩, 47) := ⟨⟨by decide +kernel, by decide +kernel⟩, List.mem_of_getElem? (i := 1042) (by decide +kernel), List.mem_of_getElem? (i := 1270) (by decide +kernel), List.mem_of_getElem? (i := 1271) (by decide +kernel)⟩
theorem lw_p53 : lw_okq (⟨"LeastPaysModel", "leastCost", "(I)I"⟩, 47) := ⟨⟨by decide +kernel, by decide +kernel⟩, List.mem_of_getElem? (i := 1042) (by decide +kernel), List.mem_of_getElem? (i := 1284) (by decide +kernel), List.mem_of_getElem? (i := 1285) (by decide +kernel)⟩
theorem lw_p54 : lw_okq (⟨"LeastPaysModel", "costBy", "(II)I"⟩, 47) := ⟨⟨by decide +kernel, by decide +kernel⟩, List.mem_of_getElem? (i := 1042) (by decide +kernel), List.mem_of_getElem? (i := 1288) (by decide +kernel), List.mem_of_getElem? (i := 1289) (by decide +kernel)⟩
theorem lw_p55 : lw_okq (⟨"LeastPaysModel", "meanOf", "(II)J"⟩, 47) := ⟨⟨by decide +kernel, by decide +kernel⟩, List.mem_of_getElem? (i := 1042) (by decide +kernel), List.mem_of_getElem? (i := 1297) (by decide +kernel), List.mem_of_getElem? (i := 1298) (by decide +kernel)⟩
theorem lw_p56 : lw_okq (⟨"LeastPaysModel", "wholeOf", "()J"⟩, 47) := ⟨⟨by decide +kernel, by decide +kernel⟩, List.mem_of_getElem? (i := 1042) (by decide +kernel), List.mem_of_getElem? (i := 1301) (by decide +kernel), List.mem_of_getElem? (i := 1302) (by decide +kernel)⟩
theorem lw_p57 : lw_okq (⟨"LeastPaysModel", "firstWho", "()I"⟩, 47) := ⟨⟨by decide +kernel, by decide +kernel⟩, List.mem_of_getElem? (i := 1042) (by decide +kernel), List.mem_of_getElem? (i := 1319) (by decide +kernel), List.mem_of_getElem? (i := 1320) (by decide +kernel)⟩
theorem lw_p58 : lw_okq (⟨"LeastPaysModel", "wouldChange", "(I)Z"⟩, 47) := ⟨⟨by decide +kernel, by decide +kernel⟩, List.mem_of_getElem? (i := 1042) (by decide +kernel), List.mem_of_getElem? (i := 1323) (by decide +kernel), List.mem_of_getElem? (i := 1324) (by decide +kernel)⟩
theorem lw_p59 : lw_okq (⟨"LeastPaysModel", "sumsOf", "(I)I"⟩, 47) := ⟨⟨by decide +kernel, by decide +kernel⟩, List.mem_of_getElem? (i := 1042) (by decide +kernel), List.mem_of_getElem? (i := 1331) (by decide +kernel), List.mem_of_getElem? (i := 1332) (by decide +kernel)⟩
theorem lw_p60 : lw_okq (⟨"LeastPaysModel", "billFrom", "(II)I"⟩, 47) := ⟨⟨by decide +kernel, by decide +kernel⟩, List.mem_of_getElem? (i := 1042) (by decide +kernel), List.mem_of_getElem? (i := 1357) (by decide +kernel), List.mem_of_getElem? (i := 1358) (by decide +kernel)⟩
theorem lw_p61 : lw_okq (⟨"LeastPaysModel", "joyOf", "(II)I"⟩, 47) := ⟨⟨by decide +kernel, by decide +kernel⟩, List.mem_of_getElem? (i := 1042) (by decide +kernel), List.mem_of_getElem? (i := 1361) (by decide +kernel), List.mem_of_getElem? (i := 1362) (by decide +kernel)⟩
theorem lw_p62 : lw_okq (⟨"LeastPaysModel", "workOut", "(II)I"⟩, 47) := ⟨⟨by decide +kernel, by decide +kernel⟩, List.mem_of_getElem? (i := 1042) (by decide +kernel), List.mem_of_getElem? (i := 1374) (by decide +kernel), List.mem_of_getElem? (i := 1375) (by decide +kernel)⟩
theorem lw_p63 : lw_okq (⟨"LeastPaysModel", "either", "()I"⟩, 47) := ⟨⟨by decide +kernel, by decide +kernel⟩, List.mem_of_getElem? (i := 1042) (by decide +kernel), List.mem_of_getElem? (i := 1378) (by decide +kernel), List.mem_of_getElem? (i := 1379) (by decide +kernel)⟩
def lw_privs_4 : List (MethodName × Nat) := [(⟨"LeastPaysModel", "leastBut", "(I)I"⟩, 47), (⟨"LeastPaysModel", "alikePay", "(I)V"⟩, 47), (⟨"LeastPaysModel", "twoPay", "(I)V"⟩, 47), (⟨"LeastPaysModel", "givesBack", "(I)V"⟩, 47), (⟨"LeastPaysModel", "costIn", "(I)I"⟩, 47), (⟨"LeastPaysModel", "leastCost", "(I)I"⟩, 47), (⟨"LeastPaysModel", "costBy", "(II)I"⟩, 47), (⟨"LeastPaysModel", "meanOf", "(II)J"⟩, 47), (⟨"LeastPaysModel", "wholeOf", "()J"⟩, 47), (⟨"LeastPaysModel", "firstWho", "()I"⟩, 47), (⟨"LeastPaysModel", "wouldChange", "(I)Z"⟩, 47), (⟨"LeastPaysModel", "sumsOf", "(I)I"⟩, 47), (⟨"LeastPaysModel", "billFrom", "(II)I"⟩, 47), (⟨"LeastPaysModel", "joyOf", "(II)I"⟩, 47), (⟨"LeastPaysModel", "workOut", "(II)I"⟩, 47), (⟨"LeastPaysModel", "either", "()I"⟩, 47)]
theorem lw_r4 : ∀ q ∈ lw_privs_4, lw_okq q := List.forall_mem_cons.mpr ⟨lw_p48, List.forall_mem_cons.mpr ⟨lw_p49, List.forall_mem_cons.mpr ⟨lw_p50, List.forall_mem_cons.mpr ⟨lw_p51, List.forall_mem_cons.mpr ⟨lw_p52, List.forall_mem_cons.mpr ⟨lw_p53, List.forall_mem_cons.mpr ⟨lw_p54, List.forall_mem_cons.mpr ⟨lw_p55, List.forall_mem_cons.mpr ⟨lw_p56, List.forall_mem_cons.mpr ⟨lw_p57, List.forall_mem_cons.mpr ⟨lw_p58, List.forall_mem_cons.mpr ⟨lw_p59, List.forall_mem_cons.mpr ⟨lw_p60, List.forall_mem_cons.mpr ⟨lw_p61, List.forall_mem_cons.mpr ⟨lw_p62, List.forall_mem_cons.mpr ⟨lw_p63, fun _ h => absurd h List.not_mem_nil⟩⟩⟩⟩⟩⟩⟩⟩⟩⟩⟩⟩⟩⟩⟩⟩
theorem lw_p64 : lw_okq (⟨"LeastPaysModel", "both", "()I"⟩, 47) := ⟨⟨by decide +kernel, by decide +kernel⟩, List.mem_of_getElem? (i := 1042) (by decide +kernel), List.mem_of_getElem? (i := 1382) (by decide +kernel), List.mem_of_getElem? (i := 1383) (by decide +kernel)⟩
theorem lw_p65 : lw_okq (⟨"LeastPaysModel", "compared", "()I"⟩, 47) := ⟨⟨by decide +kernel, by decide +kernel⟩, List.mem_of_getElem? (i := 1042) (by decide +kernel), List.mem_of_getElem? (i := 1386) (by decide +kernel), List.mem_of_getElem? (i := 1387) (by decide +kernel)⟩
theorem lw_p66 : lw_okq (⟨"LeastPaysModel", "sums", "()I"⟩, 47) := ⟨⟨by decide +kernel, by decide +kernel⟩, List.mem_of_getElem? (i := 1042) (by decide +kernel), List.mem_of_getElem? (i := 1390) (by decide +kernel), List.mem_of_getElem? (i := 1391) (by decide +kernel)⟩
theorem lw_p67 : lw_okq (⟨"LeastPaysModel", "product", "()I"⟩, 47) := ⟨⟨by decide +kernel, by decide +kernel⟩, List.mem_of_getElem? (i := 1042) (by decide +kernel), List.mem_of_getElem? (i := 1394) (by decide +kernel), List.mem_of_getElem? (i := 1395) (by decide +kernel)⟩
theorem lw_p68 : lw_okq (⟨"LeastPaysModel", "one", "()I"⟩, 47) := ⟨⟨by decide +kernel, by decide +kernel⟩, List.mem_of_getElem? (i := 1042) (by decide +kernel), List.mem_of_getElem? (i := 1398) (by decide +kernel), List.mem_of_getElem? (i := 1399) (by decide +kernel)⟩
theorem lw_p69 : lw_okq (⟨"LeastPaysModel", "byteAt", "()I"⟩, 47) := ⟨⟨by decide +kernel, by decide +kernel⟩, List.mem_of_getElem? (i := 1042) (by decide +kernel), List.mem_of_getElem? (i := 1402) (by decide +kernel), List.mem_of_getElem? (i := 1403) (by decide +kernel)⟩
theorem lw_p70 : lw_okq (⟨"LeastPaysModel", "wrong", "()I"⟩, 47) := ⟨⟨by decide +kernel, by decide +kernel⟩, List.mem_of_getElem? (i := 1042) (by decide +kernel), List.mem_of_getElem? (i := 1406) (by decide +kernel), List.mem_of_getElem? (i := 1407) (by decide +kernel)⟩
theorem lw_p71 : lw_okq (⟨"LeastPaysModel", "takes", "(I)Z"⟩, 47) := ⟨⟨by decide +kernel, by decide +kernel⟩, List.mem_of_getElem? (i := 1042) (by decide +kernel), List.mem_of_getElem? (i := 1410) (by decide +kernel), List.mem_of_getElem? (i := 1411) (by decide +kernel)⟩
theorem lw_p72 : lw_okq (⟨"LeastPaysModel", "wouldGive", "(II)I"⟩, 47) := ⟨⟨by decide +kernel, by decide +kernel⟩, List.mem_of_getElem? (i := 1042) (by decide +kernel), List.mem_of_getElem? (i := 1421) (by decide +kernel), List.mem_of_getElem? (i := 1422) (by decide +kernel)⟩
theorem lw_p73 : lw_okq (⟨"LeastPaysModel", "givenBy", "(I)I"⟩, 47) := ⟨⟨by decide +kernel, by decide +kernel⟩, List.mem_of_getElem? (i := 1042) (by decide +kernel), List.mem_of_getElem? (i := 1429) (by decide +kernel), List.mem_of_getElem? (i := 1430) (by decide +kernel)⟩
theorem lw_p74 : lw_okq (⟨"LeastPaysModel", "hatIs", "(I)I"⟩, 47) := ⟨⟨by decide +kernel, by decide +kernel⟩, List.mem_of_getElem? (i := 1042) (by decide +kernel), List.mem_of_getElem? (i := 1451) (by decide +kernel), List.mem_of_getElem? (i := 1452) (by decide +kernel)⟩
theorem lw_p75 : lw_okq (⟨"LeastPaysModel", "firstFalse", "(II)I"⟩, 47) := ⟨⟨by decide +kernel, by decide +kernel⟩, List.mem_of_getElem? (i := 1042) (by decide +kernel), List.mem_of_getElem? (i := 1455) (by decide +kernel), List.mem_of_getElem? (i := 1456) (by decide +kernel)⟩
theorem lw_p76 : lw_okq (⟨"LeastPaysModel", "isBody", "(I)Z"⟩, 47) := ⟨⟨by decide +kernel, by decide +kernel⟩, List.mem_of_getElem? (i := 1042) (by decide +kernel), List.mem_of_getElem? (i := 1484) (by decide +kernel), List.mem_of_getElem? (i := 1485) (by decide +kernel)⟩
theorem lw_p77 : lw_okq (⟨"LeastPaysModel", "givesAs", "(II)I"⟩, 47) := ⟨⟨by decide +kernel, by decide +kernel⟩, List.mem_of_getElem? (i := 1042) (by decide +kernel), List.mem_of_getElem? (i := 1488) (by decide +kernel), List.mem_of_getElem? (i := 1489) (by decide +kernel)⟩
theorem lw_p78 : lw_okq (⟨"LeastPaysModel", "begins", "(I)V"⟩, 47) := ⟨⟨by decide +kernel, by decide +kernel⟩, List.mem_of_getElem? (i := 1042) (by decide +kernel), List.mem_of_getElem? (i := 1492) (by decide +kernel), List.mem_of_getElem? (i := 1493) (by decide +kernel)⟩
theorem lw_p79 : lw_okq (⟨"LeastPaysModel", "owesAs", "(II)I"⟩, 47) := ⟨⟨by decide +kernel, by decide +kernel⟩, List.mem_of_getElem? (i := 1042) (by decide +kernel), List.mem_of_getElem? (i := 1496) (by decide +kernel), List.mem_of_getElem? (i := 1497) (by decide +kernel)⟩
def lw_privs_5 : List (MethodName × Nat) := [(⟨"LeastPaysModel", "both", "()I"⟩, 47), (⟨"LeastPaysModel", "compared", "()I"⟩, 47), (⟨"LeastPaysModel", "sums", "()I"⟩, 47), (⟨"LeastPaysModel", "product", "()I"⟩, 47), (⟨"LeastPaysModel", "one", "()I"⟩, 47), (⟨"LeastPaysModel", "byteAt", "()I"⟩, 47), (⟨"LeastPaysModel", "wrong", "()I"⟩, 47), (⟨"LeastPaysModel", "takes", "(I)Z"⟩, 47), (⟨"LeastPaysModel", "wouldGive", "(II)I"⟩, 47), (⟨"LeastPaysModel", "givenBy", "(I)I"⟩, 47), (⟨"LeastPaysModel", "hatIs", "(I)I"⟩, 47), (⟨"LeastPaysModel", "firstFalse", "(II)I"⟩, 47), (⟨"LeastPaysModel", "isBody", "(I)Z"⟩, 47), (⟨"LeastPaysModel", "givesAs", "(II)I"⟩, 47), (⟨"LeastPaysModel", "begins", "(I)V"⟩, 47), (⟨"LeastPaysModel", "owesAs", "(II)I"⟩, 47)]
theorem lw_r5 : ∀ q ∈ lw_privs_5, lw_okq q := List.forall_mem_cons.mpr ⟨lw_p64, List.forall_mem_cons.mpr ⟨lw_p65, List.forall_mem_cons.mpr ⟨lw_p66, List.forall_mem_cons.mpr ⟨lw_p67, List.forall_mem_cons.mpr ⟨lw_p68, List.forall_mem_cons.mpr ⟨lw_p69, List.forall_mem_cons.mpr ⟨lw_p70, List.forall_mem_cons.mpr ⟨lw_p71, List.forall_mem_cons.mpr ⟨lw_p72, List.forall_mem_cons.mpr ⟨lw_p73, List.forall_mem_cons.mpr ⟨lw_p74, List.forall_mem_cons.mpr ⟨lw_p75, List.forall_mem_cons.mpr ⟨lw_p76, List.forall_mem_cons.mpr ⟨lw_p77, List.forall_mem_cons.mpr ⟨lw_p78, List.forall_mem_cons.mpr ⟨lw_p79, fun _ h => absurd h List.not_mem_nil⟩⟩⟩⟩⟩⟩⟩⟩⟩⟩⟩⟩⟩⟩⟩⟩
theorem lw_p80 : lw_okq (⟨"LeastPaysModel", "lacksAs", "(II)I"⟩, 47) := ⟨⟨by decide +kernel, by decide +kernel⟩, List.mem_of_getElem? (i := 1042) (by decide +kernel), List.mem_of_getElem? (i := 1500) (by decide +kernel), List.mem_of_getElem? (i := 1501) (by decide +kernel)⟩
theorem lw_p81 : lw_okq (⟨"LeastPaysModel", "tellsAs", "(II)I"⟩, 47) := ⟨⟨by decide +kernel, by decide +kernel⟩, List.mem_of_getElem? (i := 1042) (by decide +kernel), List.mem_of_getElem? (i := 1504) (by decide +kernel), List.mem_of_getElem? (i := 1505) (by decide +kernel)⟩
theorem lw_p82 : lw_okq (⟨"LeastPaysModel", "refusal", "(II)I"⟩, 47) := ⟨⟨by decide +kernel, by decide +kernel⟩, List.mem_of_getElem? (i := 1042) (by decide +kernel), List.mem_of_getElem? (i := 1524) (by decide +kernel), List.mem_of_getElem? (i := 1525) (by decide +kernel)⟩
theorem lw_p83 : lw_okq (⟨"LeastPaysModel", "kindOf", "(I)I"⟩, 47) := ⟨⟨by decide +kernel, by decide +kernel⟩, List.mem_of_getElem? (i := 1042) (by decide +kernel), List.mem_of_getElem? (i := 1543) (by decide +kernel), List.mem_of_getElem? (i := 1544) (by decide +kernel)⟩
def lw_privs_6 : List (MethodName × Nat) := [(⟨"LeastPaysModel", "lacksAs", "(II)I"⟩, 47), (⟨"LeastPaysModel", "tellsAs", "(II)I"⟩, 47), (⟨"LeastPaysModel", "refusal", "(II)I"⟩, 47), (⟨"LeastPaysModel", "kindOf", "(I)I"⟩, 47)]
theorem lw_r6 : ∀ q ∈ lw_privs_6, lw_okq q := List.forall_mem_cons.mpr ⟨lw_p80, List.forall_mem_cons.mpr ⟨lw_p81, List.forall_mem_cons.mpr ⟨lw_p82, List.forall_mem_cons.mpr ⟨lw_p83, fun _ h => absurd h List.not_mem_nil⟩⟩⟩⟩
def lw_privs : List (MethodName × Nat) := lw_privs_1 ++ (lw_privs_2 ++ (lw_privs_3 ++ (lw_privs_4 ++ (lw_privs_5 ++ (lw_privs_6)))))
def lw_tbl : List Cond := k2_sels lw_privs ++ tables_1
theorem lw_privs_ok : ∀ q ∈ lw_privs, lw_okq q := by
  show ∀ q ∈ lw_privs_1 ++ (lw_privs_2 ++ (lw_privs_3 ++ (lw_privs_4 ++ (lw_privs_5 ++ (lw_privs_6))))), lw_okq q
  exact List.forall_mem_append.mpr ⟨lw_r1, List.forall_mem_append.mpr ⟨lw_r2, List.forall_mem_append.mpr ⟨lw_r3, List.forall_mem_append.mpr ⟨lw_r4, List.forall_mem_append.mpr ⟨lw_r5, lw_r6⟩⟩⟩⟩⟩
def RX0 : String := "LeastPays$Bodies"
def TX0 : u_T := fun k => match k with
  | 0 => ("LeastPays$Bodies", "kinds", "[I", true)
  | 1 => ("LeastPays$Bodies", "ranFirst", "[I", true)
  | 2 => ("LeastPays$Bodies", "size", "I", false)
  | 3 => ("LeastPays$Bodies", "ran", "I", false)
  | _ => ("LeastPays$Bodies", "actor", "I", false)
def tyX0 : Nat → FieldType := fun k => match k with
  | 0 => .array .int
  | 1 => .array .int
  | 2 => .int
  | 3 => .int
  | _ => .int
abbrev wsX00 : List Cond := u_ws RX0 TX0 5
theorem nmX0 : ∀ a, a < 5 → ∀ b, b < 5 → a ≠ b → (TX0 a).2.1 ≠ (TX0 b).2.1 := by decide +kernel
theorem tyX0_ok : ∀ k, k < 5 → parseFieldDescriptor (TX0 k).2.2.1 = some (tyX0 k) := by decide +kernel
abbrev cX0_init : ByteArray := prog_2_method_1_code
def yX0_init : MethodName := ⟨RX0, "<init>", "()V"⟩
abbrev cX0_has : ByteArray := prog_2_method_2_code
def yX0_has : MethodName := ⟨RX0, "has", "(I)Z"⟩
abbrev cX0_kindOf : ByteArray := prog_2_method_3_code
def yX0_kindOf : MethodName := ⟨RX0, "kindOf", "(I)I"⟩
abbrev cX0_add : ByteArray := prog_2_method_4_code
def yX0_add : MethodName := ⟨RX0, "add", "(I)I"⟩
abbrev cX0_isUnder : ByteArray := prog_2_method_5_code
def yX0_isUnder : MethodName := ⟨RX0, "isUnder", "(II)Z"⟩
abbrev cX0_ranAt : ByteArray := prog_2_method_6_code
def yX0_ranAt : MethodName := ⟨RX0, "ranAt", "(I)I"⟩
abbrev cX0_perform : ByteArray := prog_2_method_7_code
def yX0_perform : MethodName := ⟨RX0, "perform", "(III)I"⟩
abbrev cX0_call : ByteArray := prog_2_method_8_code
def yX0_call : MethodName := ⟨RX0, "call", "(III)I"⟩
abbrev cX0_from : ByteArray := prog_2_method_9_code
def yX0_from : MethodName := ⟨RX0, "from", "(IIII)I"⟩
abbrev cX0_run : ByteArray := prog_2_method_10_code
def yX0_run : MethodName := ⟨RX0, "run", "(III)I"⟩
def RX1 : String := "LeastPays$Changes"
def TX1 : u_T := fun k => match k with
  | 0 => ("LeastPays$Changes", "number", "[I", true)
  | 1 => ("LeastPays$Changes", "what", "[I", true)
  | 2 => ("LeastPays$Changes", "was", "[I", true)
  | 3 => ("LeastPays$Changes", "became", "[I", true)
  | 4 => ("LeastPays$Changes", "done", "I", false)
  | _ => ("LeastPays$Changes", "kept", "I", false)
def tyX1 : Nat → FieldType := fun k => match k with
  | 0 => .array .int
  | 1 => .array .int
  | 2 => .array .int
  | 3 => .array .int
  | 4 => .int
  | _ => .int
abbrev wsX10 : List Cond := u_ws RX1 TX1 6
theorem nmX1 : ∀ a, a < 6 → ∀ b, b < 6 → a ≠ b → (TX1 a).2.1 ≠ (TX1 b).2.1 := by decide +kernel
theorem tyX1_ok : ∀ k, k < 6 → parseFieldDescriptor (TX1 k).2.2.1 = some (tyX1 k) := by decide +kernel
abbrev cX1_init : ByteArray := prog_3_method_1_code
def yX1_init : MethodName := ⟨RX1, "<init>", "()V"⟩
abbrev cX1_note : ByteArray := prog_3_method_2_code
def yX1_note : MethodName := ⟨RX1, "note", "(IIII)V"⟩
abbrev cX1_dropOldest : ByteArray := prog_3_method_3_code
def yX1_dropOldest : MethodName := ⟨RX1, "dropOldest", "()V"⟩
abbrev cX1_takeBack : ByteArray := prog_3_method_4_code
def yX1_takeBack : MethodName := ⟨RX1, "takeBack", "(LLeastPays$Guests;)I"⟩
abbrev cX1_doAgain : ByteArray := prog_3_method_5_code
def yX1_doAgain : MethodName := ⟨RX1, "doAgain", "(LLeastPays$Guests;)I"⟩
def RX2 : String := "LeastPays$Guests"
def TX2 : u_T := fun k => match k with
  | 0 => ("LeastPays$Guests", "purse", "[I", true)
  | 1 => ("LeastPays$Guests", "gift", "[I", true)
  | 2 => ("LeastPays$Guests", "odds", "[I", true)
  | 3 => ("LeastPays$Guests", "instead", "[I", true)
  | 4 => ("LeastPays$Guests", "guess", "[I", true)
  | 5 => ("LeastPays$Guests", "paid", "[I", true)
  | 6 => ("LeastPays$Guests", "size", "I", false)
  | 7 => ("LeastPays$Guests", "bill", "I", false)
  | 8 => ("LeastPays$Guests", "rule", "I", false)
  | 9 => ("LeastPays$Guests", "step", "I", false)
  | 10 => ("LeastPays$Guests", "chest", "I", false)
  | _ => ("LeastPays$Guests", "nights", "I", false)
def tyX2 : Nat → FieldType := fun k => match k with
  | 0 => .array .int
  | 1 => .array .int
  | 2 => .array .int
  | 3 => .array .int
  | 4 => .array .int
  | 5 => .array .int
  | 6 => .int
  | 7 => .int
  | 8 => .int
  | 9 => .int
  | 10 => .int
  | _ => .int
abbrev wsX20 : List Cond := u_ws RX2 TX2 12
theorem nmX2 : ∀ a, a < 12 → ∀ b, b < 12 → a ≠ b → (TX2 a).2.1 ≠ (TX2 b).2.1 := by decide +kernel
theorem tyX2_ok : ∀ k, k < 12 → parseFieldDescriptor (TX2 k).2.2.1 = some (tyX2 k) := by decide +kernel
abbrev cX2_init : ByteArray := prog_4_method_1_code
def yX2_init : MethodName := ⟨RX2, "<init>", "()V"⟩
abbrev cX2_has : ByteArray := prog_4_method_2_code
def yX2_has : MethodName := ⟨RX2, "has", "(I)Z"⟩
abbrev cX2_welcome : ByteArray := prog_4_method_3_code
def yX2_welcome : MethodName := ⟨RX2, "welcome", "(II)V"⟩
abbrev cX2_allows : ByteArray := prog_4_method_4_code
def yX2_allows : MethodName := ⟨RX2, "allows", "(III)Z"⟩
abbrev cX2_told : ByteArray := prog_4_method_5_code
def yX2_told : MethodName := ⟨RX2, "told", "(II)I"⟩
abbrev cX2_tell : ByteArray := prog_4_method_6_code
def yX2_tell : MethodName := ⟨RX2, "tell", "(III)V"⟩
def RX3 : String := "LeastPays$Hat"
def TX3 : u_T := fun k => match k with
  | 0 => ("LeastPays$Hat", "gifts", "[I", true)
  | 1 => ("LeastPays$Hat", "size", "I", false)
  | 2 => ("LeastPays$Hat", "rule", "I", false)
  | 3 => ("LeastPays$Hat", "bill", "I", false)
  | 4 => ("LeastPays$Hat", "sum", "I", false)
  | 5 => ("LeastPays$Hat", "lack", "I", false)
  | 6 => ("LeastPays$Hat", "over", "I", false)
  | 7 => ("LeastPays$Hat", "least", "I", false)
  | 8 => ("LeastPays$Hat", "next", "I", false)
  | 9 => ("LeastPays$Hat", "most", "I", false)
  | _ => ("LeastPays$Hat", "alike", "I", false)
def tyX3 : Nat → FieldType := fun k => match k with
  | 0 => .array .int
  | 1 => .int
  | 2 => .int
  | 3 => .int
  | 4 => .int
  | 5 => .int
  | 6 => .int
  | 7 => .int
  | 8 => .int
  | 9 => .int
  | _ => .int
abbrev wsX30 : List Cond := u_ws RX3 TX3 11
theorem nmX3 : ∀ a, a < 11 → ∀ b, b < 11 → a ≠ b → (TX3 a).2.1 ≠ (TX3 b).2.1 := by decide +kernel
theorem tyX3_ok : ∀ k, k < 11 → parseFieldDescriptor (TX3 k).2.2.1 = some (tyX3 k) := by decide +kernel
abbrev cX3_init : ByteArray := prog_5_method_1_code
def yX3_init : MethodName := ⟨RX3, "<init>", "()V"⟩
abbrev cX3_lay : ByteArray := prog_5_method_2_code
def yX3_lay : MethodName := ⟨RX3, "lay", "(LLeastPays$Guests;)V"⟩
abbrev cX3_join : ByteArray := prog_5_method_3_code
def yX3_join : MethodName := ⟨RX3, "join", "(I)V"⟩
abbrev cX3_weigh : ByteArray := prog_5_method_4_code
def yX3_weigh : MethodName := ⟨RX3, "weigh", "()V"⟩
abbrev cX3_charge : ByteArray := prog_5_method_5_code
def yX3_charge : MethodName := ⟨RX3, "charge", "(I)V"⟩
abbrev cX3_cost : ByteArray := prog_5_method_6_code
def yX3_cost : MethodName := ⟨RX3, "cost", "(I)I"⟩
abbrev cX3_besides : ByteArray := prog_5_method_7_code
def yX3_besides : MethodName := ⟨RX3, "besides", "(I)I"⟩
abbrev cX3_partAmongAlike : ByteArray := prog_5_method_8_code
def yX3_partAmongAlike : MethodName := ⟨RX3, "partAmongAlike", "(I)I"⟩
abbrev cX3_partOfTwo : ByteArray := prog_5_method_9_code
def yX3_partOfTwo : MethodName := ⟨RX3, "partOfTwo", "(I)I"⟩
abbrev cX3_givenBack : ByteArray := prog_5_method_10_code
def yX3_givenBack : MethodName := ⟨RX3, "givenBack", "(I)I"⟩
abbrev cX3_intoChest : ByteArray := prog_5_method_11_code
def yX3_intoChest : MethodName := ⟨RX3, "intoChest", "()I"⟩
def RX4 : String := "LeastPays$Law"
def TX4 : u_T := fun k => match k with
  | 0 => ("LeastPays$Law", "tape", "[I", true)
  | 1 => ("LeastPays$Law", "draft", "[I", true)
  | 2 => ("LeastPays$Law", "steps", "[I", true)
  | 3 => ("LeastPays$Law", "stack", "[I", true)
  | 4 => ("LeastPays$Law", "length", "I", false)
  | 5 => ("LeastPays$Law", "at", "I", false)
  | 6 => ("LeastPays$Law", "fault", "I", false)
  | 7 => ("LeastPays$Law", "drafted", "I", false)
  | 8 => ("LeastPays$Law", "stepCount", "I", false)
  | 9 => ("LeastPays$Law", "told", "Z", false)
  | _ => ("LeastPays$Law", "top", "I", false)
def tyX4 : Nat → FieldType := fun k => match k with
  | 0 => .array .int
  | 1 => .array .int
  | 2 => .array .int
  | 3 => .array .int
  | 4 => .int
  | 5 => .int
  | 6 => .int
  | 7 => .int
  | 8 => .int
  | 9 => .boolean
  | _ => .int
abbrev wsX40 : List Cond := u_ws RX4 TX4 11
theorem nmX4 : ∀ a, a < 11 → ∀ b, b < 11 → a ≠ b → (TX4 a).2.1 ≠ (TX4 b).2.1 := by decide +kernel
theorem tyX4_ok : ∀ k, k < 11 → parseFieldDescriptor (TX4 k).2.2.1 = some (tyX4 k) := by decide +kernel
abbrev cX4_init : ByteArray := prog_6_method_1_code
def yX4_init : MethodName := ⟨RX4, "<init>", "()V"⟩
abbrev cX4_add : ByteArray := prog_6_method_2_code
def yX4_add : MethodName := ⟨RX4, "add", "(I)I"⟩
abbrev cX4_enact : ByteArray := prog_6_method_3_code
def yX4_enact : MethodName := ⟨RX4, "enact", "()I"⟩
abbrev cX4_readLines : ByteArray := prog_6_method_4_code
def yX4_readLines : MethodName := ⟨RX4, "readLines", "()V"⟩
abbrev cX4_readLine : ByteArray := prog_6_method_5_code
def yX4_readLine : MethodName := ⟨RX4, "readLine", "()V"⟩
abbrev cX4_readEither : ByteArray := prog_6_method_6_code
def yX4_readEither : MethodName := ⟨RX4, "readEither", "(I)V"⟩
abbrev cX4_readBoth : ByteArray := prog_6_method_7_code
def yX4_readBoth : MethodName := ⟨RX4, "readBoth", "(I)V"⟩
abbrev cX4_readCompared : ByteArray := prog_6_method_8_code
def yX4_readCompared : MethodName := ⟨RX4, "readCompared", "(I)V"⟩
abbrev cX4_readSum : ByteArray := prog_6_method_9_code
def yX4_readSum : MethodName := ⟨RX4, "readSum", "(I)V"⟩
abbrev cX4_takesSumSign : ByteArray := prog_6_method_10_code
def yX4_takesSumSign : MethodName := ⟨RX4, "takesSumSign", "()I"⟩
abbrev cX4_readProduct : ByteArray := prog_6_method_11_code
def yX4_readProduct : MethodName := ⟨RX4, "readProduct", "(I)V"⟩
abbrev cX4_takesProductSign : ByteArray := prog_6_method_12_code
def yX4_takesProductSign : MethodName := ⟨RX4, "takesProductSign", "()I"⟩
abbrev cX4_readOperand : ByteArray := prog_6_method_13_code
def yX4_readOperand : MethodName := ⟨RX4, "readOperand", "(I)V"⟩
abbrev cX4_readNumber : ByteArray := prog_6_method_14_code
def yX4_readNumber : MethodName := ⟨RX4, "readNumber", "()V"⟩
abbrev cX4_letterHere : ByteArray := prog_6_method_15_code
def yX4_letterHere : MethodName := ⟨RX4, "letterHere", "()I"⟩
abbrev cX4_isDigit : ByteArray := prog_6_method_16_code
def yX4_isDigit : MethodName := ⟨RX4, "isDigit", "(I)Z"⟩
abbrev cX4_nameOf : ByteArray := prog_6_method_17_code
def yX4_nameOf : MethodName := ⟨RX4, "nameOf", "(I)I"⟩
abbrev cX4_takes : ByteArray := prog_6_method_18_code
def yX4_takes : MethodName := ⟨RX4, "takes", "(C)Z"⟩
abbrev cX4_fail : ByteArray := prog_6_method_19_code
def yX4_fail : MethodName := ⟨RX4, "fail", "()V"⟩
abbrev cX4_write : ByteArray := prog_6_method_20_code
def yX4_write : MethodName := ⟨RX4, "write", "(I)V"⟩
abbrev cX4_gift : ByteArray := prog_6_method_21_code
def yX4_gift : MethodName := ⟨RX4, "gift", "(LLeastPays$Guests;II)I"⟩
abbrev cX4_shareOf : ByteArray := prog_6_method_22_code
def yX4_shareOf : MethodName := ⟨RX4, "shareOf", "(II)I"⟩
abbrev cX4_workOut : ByteArray := prog_6_method_23_code
def yX4_workOut : MethodName := ⟨RX4, "workOut", "(LLeastPays$Guests;II)I"⟩
abbrev cX4_apply : ByteArray := prog_6_method_24_code
def yX4_apply : MethodName := ⟨RX4, "apply", "(I)V"⟩
abbrev cX4_push : ByteArray := prog_6_method_25_code
def yX4_push : MethodName := ⟨RX4, "push", "(I)V"⟩
abbrev cX4_pop : ByteArray := prog_6_method_26_code
def yX4_pop : MethodName := ⟨RX4, "pop", "()I"⟩
abbrev cX4_valueOf : ByteArray := prog_6_method_27_code
def yX4_valueOf : MethodName := ⟨RX4, "valueOf", "(ILLeastPays$Guests;II)I"⟩
abbrev cX4_joined : ByteArray := prog_6_method_28_code
def yX4_joined : MethodName := ⟨RX4, "joined", "(III)I"⟩
abbrev cX4_truth : ByteArray := prog_6_method_29_code
def yX4_truth : MethodName := ⟨RX4, "truth", "(Z)I"⟩
def RX5 : String := "LeastPays$Menu"
def TX5 : u_T := fun k => match k with
  | 0 => ("LeastPays$Menu", "guests", "LLeastPays$Guests;", true)
  | 1 => ("LeastPays$Menu", "hat", "LLeastPays$Hat;", true)
  | 2 => ("LeastPays$Menu", "prices", "[I", true)
  | 3 => ("LeastPays$Menu", "joys", "[I", true)
  | 4 => ("LeastPays$Menu", "chosen", "[I", true)
  | _ => ("LeastPays$Menu", "size", "I", false)
def tyX5 : Nat → FieldType := fun k => match k with
  | 0 => .object "LeastPays$Guests"
  | 1 => .object "LeastPays$Hat"
  | 2 => .array .int
  | 3 => .array .int
  | 4 => .array .int
  | _ => .int
abbrev wsX50 : List Cond := u_ws RX5 TX5 6
theorem nmX5 : ∀ a, a < 6 → ∀ b, b < 6 → a ≠ b → (TX5 a).2.1 ≠ (TX5 b).2.1 := by decide +kernel
theorem tyX5_ok : ∀ k, k < 6 → parseFieldDescriptor (TX5 k).2.2.1 = some (tyX5 k) := by decide +kernel
abbrev cX5_init : ByteArray := prog_7_method_1_code
def yX5_init : MethodName := ⟨RX5, "<init>", "(LLeastPays$Guests;LLeastPays$Hat;)V"⟩
abbrev cX5_has : ByteArray := prog_7_method_2_code
def yX5_has : MethodName := ⟨RX5, "has", "(I)Z"⟩
abbrev cX5_add : ByteArray := prog_7_method_3_code
def yX5_add : MethodName := ⟨RX5, "add", "(I)I"⟩
abbrev cX5_enjoy : ByteArray := prog_7_method_4_code
def yX5_enjoy : MethodName := ⟨RX5, "enjoy", "(III)I"⟩
abbrev cX5_orderAll : ByteArray := prog_7_method_5_code
def yX5_orderAll : MethodName := ⟨RX5, "orderAll", "()I"⟩
abbrev cX5_playOut : ByteArray := prog_7_method_6_code
def yX5_playOut : MethodName := ⟨RX5, "playOut", "(II)I"⟩
abbrev cX5_priceOf : ByteArray := prog_7_method_7_code
def yX5_priceOf : MethodName := ⟨RX5, "priceOf", "(I)I"⟩
abbrev cX5_worth : ByteArray := prog_7_method_8_code
def yX5_worth : MethodName := ⟨RX5, "worth", "(III)I"⟩
def RX6 : String := "LeastPays$Minds"
def TX6 : u_T := fun k => match k with
  | 0 => ("LeastPays$Minds", "guests", "LLeastPays$Guests;", true)
  | 1 => ("LeastPays$Minds", "hat", "LLeastPays$Hat;", true)
  | 2 => ("LeastPays$Minds", "first", "[I", true)
  | 3 => ("LeastPays$Minds", "bestSum", "I", false)
  | 4 => ("LeastPays$Minds", "bestCost", "I", false)
  | _ => ("LeastPays$Minds", "otherSum", "I", false)
def tyX6 : Nat → FieldType := fun k => match k with
  | 0 => .object "LeastPays$Guests"
  | 1 => .object "LeastPays$Hat"
  | 2 => .array .int
  | 3 => .int
  | 4 => .int
  | _ => .int
abbrev wsX60 : List Cond := u_ws RX6 TX6 6
theorem nmX6 : ∀ a, a < 6 → ∀ b, b < 6 → a ≠ b → (TX6 a).2.1 ≠ (TX6 b).2.1 := by decide +kernel
theorem tyX6_ok : ∀ k, k < 6 → parseFieldDescriptor (TX6 k).2.2.1 = some (tyX6 k) := by decide +kernel
abbrev cX6_init : ByteArray := prog_8_method_1_code
def yX6_init : MethodName := ⟨RX6, "<init>", "(LLeastPays$Guests;LLeastPays$Hat;)V"⟩
abbrev cX6_costBy : ByteArray := prog_8_method_2_code
def yX6_costBy : MethodName := ⟨RX6, "costBy", "(II)I"⟩
abbrev cX6_search : ByteArray := prog_8_method_3_code
def yX6_search : MethodName := ⟨RX6, "search", "(I)V"⟩
abbrev cX6_wouldChange : ByteArray := prog_8_method_4_code
def yX6_wouldChange : MethodName := ⟨RX6, "wouldChange", "(I)Z"⟩
abbrev cX6_firstRestless : ByteArray := prog_8_method_5_code
def yX6_firstRestless : MethodName := ⟨RX6, "firstRestless", "()I"⟩
abbrev cX6_sumsOf : ByteArray := prog_8_method_6_code
def yX6_sumsOf : MethodName := ⟨RX6, "sumsOf", "(I)I"⟩
abbrev cX6_ways : ByteArray := prog_8_method_7_code
def yX6_ways : MethodName := ⟨RX6, "ways", "()J"⟩
abbrev cX6_fewWays : ByteArray := prog_8_method_8_code
def yX6_fewWays : MethodName := ⟨RX6, "fewWays", "()Z"⟩
abbrev cX6_goThroughWays : ByteArray := prog_8_method_9_code
def yX6_goThroughWays : MethodName := ⟨RX6, "goThroughWays", "()I"⟩
abbrev cX6_layWay : ByteArray := prog_8_method_10_code
def yX6_layWay : MethodName := ⟨RX6, "layWay", "(I)V"⟩
abbrev cX6_takeTurns : ByteArray := prog_8_method_11_code
def yX6_takeTurns : MethodName := ⟨RX6, "takeTurns", "()I"⟩
abbrev cX6_settle : ByteArray := prog_8_method_12_code
def yX6_settle : MethodName := ⟨RX6, "settle", "(II)V"⟩
abbrev cX6_victimOf : ByteArray := prog_8_method_13_code
def yX6_victimOf : MethodName := ⟨RX6, "victimOf", "(II)I"⟩
abbrev cX6_allWeights : ByteArray := prog_8_method_14_code
def yX6_allWeights : MethodName := ⟨RX6, "allWeights", "()J"⟩
abbrev cX6_weighedCost : ByteArray := prog_8_method_15_code
def yX6_weighedCost : MethodName := ⟨RX6, "weighedCost", "(II)J"⟩
abbrev cX6_layByChance : ByteArray := prog_8_method_16_code
def yX6_layByChance : MethodName := ⟨RX6, "layByChance", "(II)J"⟩
abbrev cX6_sumOfLeastMean : ByteArray := prog_8_method_17_code
def yX6_sumOfLeastMean : MethodName := ⟨RX6, "sumOfLeastMean", "(I)I"⟩
def RX7 : String := "LeastPays$Nights"
def TX7 : u_T := fun k => match k with
  | 0 => ("LeastPays$Nights", "guests", "LLeastPays$Guests;", true)
  | 1 => ("LeastPays$Nights", "hat", "LLeastPays$Hat;", true)
  | 2 => ("LeastPays$Nights", "besidesOften", "I", false)
  | 3 => ("LeastPays$Nights", "costsDrawn", "I", false)
  | 4 => ("LeastPays$Nights", "fairRule", "I", false)
  | _ => ("LeastPays$Nights", "fairCost", "I", false)
def tyX7 : Nat → FieldType := fun k => match k with
  | 0 => .object "LeastPays$Guests"
  | 1 => .object "LeastPays$Hat"
  | 2 => .int
  | 3 => .int
  | 4 => .int
  | _ => .int
abbrev wsX70 : List Cond := u_ws RX7 TX7 6
theorem nmX7 : ∀ a, a < 6 → ∀ b, b < 6 → a ≠ b → (TX7 a).2.1 ≠ (TX7 b).2.1 := by decide +kernel
theorem tyX7_ok : ∀ k, k < 6 → parseFieldDescriptor (TX7 k).2.2.1 = some (tyX7 k) := by decide +kernel
abbrev cX7_init : ByteArray := prog_9_method_1_code
def yX7_init : MethodName := ⟨RX7, "<init>", "(LLeastPays$Guests;LLeastPays$Hat;)V"⟩
abbrev cX7_pass : ByteArray := prog_9_method_2_code
def yX7_pass : MethodName := ⟨RX7, "pass", "()I"⟩
abbrev cX7_draw : ByteArray := prog_9_method_3_code
def yX7_draw : MethodName := ⟨RX7, "draw", "(III)V"⟩
abbrev cX7_firstWrong : ByteArray := prog_9_method_4_code
def yX7_firstWrong : MethodName := ⟨RX7, "firstWrong", "(LLeastPays$Shelf;I)I"⟩
abbrev cX7_rulesThatFit : ByteArray := prog_9_method_5_code
def yX7_rulesThatFit : MethodName := ⟨RX7, "rulesThatFit", "(LLeastPays$Shelf;)I"⟩
abbrev cX7_weighRules : ByteArray := prog_9_method_6_code
def yX7_weighRules : MethodName := ⟨RX7, "weighRules", "()V"⟩
abbrev cX7_greatestCost : ByteArray := prog_9_method_7_code
def yX7_greatestCost : MethodName := ⟨RX7, "greatestCost", "()I"⟩
def RX8 : String := "LeastPays$Picture"
def TX8 : u_T := fun k => match k with
  | 0 => ("LeastPays$Picture", "gift", "[I", true)
  | 1 => ("LeastPays$Picture", "paid", "[I", true)
  | 2 => ("LeastPays$Picture", "size", "I", false)
  | 3 => ("LeastPays$Picture", "nights", "I", false)
  | 4 => ("LeastPays$Picture", "chest", "I", false)
  | _ => ("LeastPays$Picture", "taken", "Z", false)
def tyX8 : Nat → FieldType := fun k => match k with
  | 0 => .array .int
  | 1 => .array .int
  | 2 => .int
  | 3 => .int
  | 4 => .int
  | _ => .boolean
abbrev wsX80 : List Cond := u_ws RX8 TX8 6
theorem nmX8 : ∀ a, a < 6 → ∀ b, b < 6 → a ≠ b → (TX8 a).2.1 ≠ (TX8 b).2.1 := by decide +kernel
theorem tyX8_ok : ∀ k, k < 6 → parseFieldDescriptor (TX8 k).2.2.1 = some (tyX8 k) := by decide +kernel
abbrev cX8_init : ByteArray := prog_10_method_1_code
def yX8_init : MethodName := ⟨RX8, "<init>", "()V"⟩
abbrev cX8_take : ByteArray := prog_10_method_2_code
def yX8_take : MethodName := ⟨RX8, "take", "(LLeastPays$Guests;)V"⟩
abbrev cX8_layBack : ByteArray := prog_10_method_3_code
def yX8_layBack : MethodName := ⟨RX8, "layBack", "(LLeastPays$Guests;)V"⟩
def RX9 : String := "LeastPays$Shelf"
def TX9 : u_T := fun k => match k with
  | 0 => ("LeastPays$Shelf", "places", "[J", true)
  | 1 => ("LeastPays$Shelf", "sort", "I", false)
  | 2 => ("LeastPays$Shelf", "length", "I", false)
  | 3 => ("LeastPays$Shelf", "body", "I", false)
  | _ => ("LeastPays$Shelf", "holds", "I", false)
def tyX9 : Nat → FieldType := fun k => match k with
  | 0 => .array .long
  | 1 => .int
  | 2 => .int
  | 3 => .int
  | _ => .int
abbrev wsX90 : List Cond := u_ws RX9 TX9 5
theorem nmX9 : ∀ a, a < 5 → ∀ b, b < 5 → a ≠ b → (TX9 a).2.1 ≠ (TX9 b).2.1 := by decide +kernel
theorem tyX9_ok : ∀ k, k < 5 → parseFieldDescriptor (TX9 k).2.2.1 = some (tyX9 k) := by decide +kernel
abbrev cX9_init : ByteArray := prog_11_method_1_code
def yX9_init : MethodName := ⟨RX9, "<init>", "()V"⟩
abbrev cX9_holdsNothing : ByteArray := prog_11_method_2_code
def yX9_holdsNothing : MethodName := ⟨RX9, "holdsNothing", "()Z"⟩
abbrev cX9_isRow : ByteArray := prog_11_method_3_code
def yX9_isRow : MethodName := ⟨RX9, "isRow", "()Z"⟩
abbrev cX9_isRowOf : ByteArray := prog_11_method_4_code
def yX9_isRowOf : MethodName := ⟨RX9, "isRowOf", "(I)Z"⟩
abbrev cX9_holdHat : ByteArray := prog_11_method_5_code
def yX9_holdHat : MethodName := ⟨RX9, "holdHat", "(I)V"⟩
abbrev cX9_holdRow : ByteArray := prog_11_method_6_code
def yX9_holdRow : MethodName := ⟨RX9, "holdRow", "(II)V"⟩
abbrev cX9_hasPlaces : ByteArray := prog_11_method_7_code
def yX9_hasPlaces : MethodName := ⟨RX9, "hasPlaces", "(II)Z"⟩
abbrev cX9_refusalAt : ByteArray := prog_11_method_8_code
def yX9_refusalAt : MethodName := ⟨RX9, "refusalAt", "(I)I"⟩
abbrev cX9_get : ByteArray := prog_11_method_9_code
def yX9_get : MethodName := ⟨RX9, "get", "(I)J"⟩
abbrev cX9_set : ByteArray := prog_11_method_10_code
def yX9_set : MethodName := ⟨RX9, "set", "(IJ)V"⟩
abbrev cX9_lowestBits : ByteArray := prog_11_method_11_code
def yX9_lowestBits : MethodName := ⟨RX9, "lowestBits", "(J)J"⟩
def RX10 : String := "LeastPays"
def TX10 : u_T := fun k => match k with
  | 0 => ("LeastPays", "guests", "LLeastPays$Guests;", true)
  | 1 => ("LeastPays", "hat", "LLeastPays$Hat;", true)
  | 2 => ("LeastPays", "minds", "LLeastPays$Minds;", true)
  | 3 => ("LeastPays", "menu", "LLeastPays$Menu;", true)
  | 4 => ("LeastPays", "tapeAndLaw", "LLeastPays$Law;", true)
  | 5 => ("LeastPays", "nights", "LLeastPays$Nights;", true)
  | 6 => ("LeastPays", "changes", "LLeastPays$Changes;", true)
  | 7 => ("LeastPays", "picture", "LLeastPays$Picture;", true)
  | 8 => ("LeastPays", "bodies", "LLeastPays$Bodies;", true)
  | _ => ("LeastPays", "shelves", "[LLeastPays$Shelf;", true)
def tyX10 : Nat → FieldType := fun k => match k with
  | 0 => .object "LeastPays$Guests"
  | 1 => .object "LeastPays$Hat"
  | 2 => .object "LeastPays$Minds"
  | 3 => .object "LeastPays$Menu"
  | 4 => .object "LeastPays$Law"
  | 5 => .object "LeastPays$Nights"
  | 6 => .object "LeastPays$Changes"
  | 7 => .object "LeastPays$Picture"
  | 8 => .object "LeastPays$Bodies"
  | _ => .array (.object "LeastPays$Shelf")
abbrev wsX100 : List Cond := u_ws RX10 TX10 10
theorem nmX10 : ∀ a, a < 10 → ∀ b, b < 10 → a ≠ b → (TX10 a).2.1 ≠ (TX10 b).2.1 := by decide +kernel
theorem tyX10_ok : ∀ k, k < 10 → parseFieldDescriptor (TX10 k).2.2.1 = some (tyX10 k) := by decide +kernel
abbrev cX10_init : ByteArray := prog_1_method_1_code
def yX10_init : MethodName := ⟨RX10, "<init>", "()V"⟩
abbrev cX10_guest : ByteArray := prog_1_method_2_code
def yX10_guest : MethodName := ⟨RX10, "guest", "(I)I"⟩
abbrev cX10_guests : ByteArray := prog_1_method_3_code
def yX10_guests : MethodName := ⟨RX10, "guests", "(III)I"⟩
abbrev cX10_mend : ByteArray := prog_1_method_4_code
def yX10_mend : MethodName := ⟨RX10, "mend", "(III)I"⟩
abbrev cX10_of : ByteArray := prog_1_method_5_code
def yX10_of : MethodName := ⟨RX10, "of", "(II)I"⟩
abbrev cX10_think : ByteArray := prog_1_method_6_code
def yX10_think : MethodName := ⟨RX10, "think", "(II)I"⟩
abbrev cX10_feed : ByteArray := prog_1_method_7_code
def yX10_feed : MethodName := ⟨RX10, "feed", "(I)I"⟩
abbrev cX10_law : ByteArray := prog_1_method_8_code
def yX10_law : MethodName := ⟨RX10, "law", "()I"⟩
abbrev cX10_putIn : ByteArray := prog_1_method_9_code
def yX10_putIn : MethodName := ⟨RX10, "putIn", "(II)I"⟩
abbrev cX10_mean : ByteArray := prog_1_method_10_code
def yX10_mean : MethodName := ⟨RX10, "mean", "(III)J"⟩
abbrev cX10_bestMean : ByteArray := prog_1_method_11_code
def yX10_bestMean : MethodName := ⟨RX10, "bestMean", "(I)I"⟩
abbrev cX10_rest : ByteArray := prog_1_method_12_code
def yX10_rest : MethodName := ⟨RX10, "rest", "(I)I"⟩
abbrev cX10_rests : ByteArray := prog_1_method_13_code
def yX10_rests : MethodName := ⟨RX10, "rests", "(I)I"⟩
abbrev cX10_turns : ByteArray := prog_1_method_14_code
def yX10_turns : MethodName := ⟨RX10, "turns", "(I)I"⟩
abbrev cX10_agree : ByteArray := prog_1_method_15_code
def yX10_agree : MethodName := ⟨RX10, "agree", "(II)I"⟩
abbrev cX10_dish : ByteArray := prog_1_method_16_code
def yX10_dish : MethodName := ⟨RX10, "dish", "(I)I"⟩
abbrev cX10_joy : ByteArray := prog_1_method_17_code
def yX10_joy : MethodName := ⟨RX10, "joy", "(II)I"⟩
abbrev cX10_ordered : ByteArray := prog_1_method_18_code
def yX10_ordered : MethodName := ⟨RX10, "ordered", "(II)I"⟩
abbrev cX10_thought : ByteArray := prog_1_method_19_code
def yX10_thought : MethodName := ⟨RX10, "thought", "(III)I"⟩
abbrev cX10_given : ByteArray := prog_1_method_20_code
def yX10_given : MethodName := ⟨RX10, "given", "(I)I"⟩
abbrev cX10_stranger : ByteArray := prog_1_method_21_code
def yX10_stranger : MethodName := ⟨RX10, "stranger", "(III)J"⟩
abbrev cX10_night : ByteArray := prog_1_method_22_code
def yX10_night : MethodName := ⟨RX10, "night", "()I"⟩
abbrev cX10_drawn : ByteArray := prog_1_method_23_code
def yX10_drawn : MethodName := ⟨RX10, "drawn", "(IIII)I"⟩
abbrev cX10_judge : ByteArray := prog_1_method_24_code
def yX10_judge : MethodName := ⟨RX10, "judge", "(I)I"⟩
abbrev cX10_fits : ByteArray := prog_1_method_25_code
def yX10_fits : MethodName := ⟨RX10, "fits", "(I)I"⟩
abbrev cX10_fair : ByteArray := prog_1_method_26_code
def yX10_fair : MethodName := ⟨RX10, "fair", "(I)I"⟩
abbrev cX10_image : ByteArray := prog_1_method_27_code
def yX10_image : MethodName := ⟨RX10, "image", "()I"⟩
abbrev cX10_back : ByteArray := prog_1_method_28_code
def yX10_back : MethodName := ⟨RX10, "back", "()I"⟩
abbrev cX10_undo : ByteArray := prog_1_method_29_code
def yX10_undo : MethodName := ⟨RX10, "undo", "()I"⟩
abbrev cX10_redo : ByteArray := prog_1_method_30_code
def yX10_redo : MethodName := ⟨RX10, "redo", "()I"⟩
abbrev cX10_body : ByteArray := prog_1_method_31_code
def yX10_body : MethodName := ⟨RX10, "body", "(I)I"⟩
abbrev cX10_act : ByteArray := prog_1_method_32_code
def yX10_act : MethodName := ⟨RX10, "act", "(III)I"⟩
abbrev cX10_trace : ByteArray := prog_1_method_33_code
def yX10_trace : MethodName := ⟨RX10, "trace", "(I)I"⟩
abbrev cX10_keep : ByteArray := prog_1_method_34_code
def yX10_keep : MethodName := ⟨RX10, "keep", "(II)I"⟩
abbrev cX10_row : ByteArray := prog_1_method_35_code
def yX10_row : MethodName := ⟨RX10, "row", "(III)I"⟩
abbrev cX10_put : ByteArray := prog_1_method_36_code
def yX10_put : MethodName := ⟨RX10, "put", "(IIJ)I"⟩
abbrev cX10_element : ByteArray := prog_1_method_37_code
def yX10_element : MethodName := ⟨RX10, "element", "(II)J"⟩
abbrev cX10_shift : ByteArray := prog_1_method_38_code
def yX10_shift : MethodName := ⟨RX10, "shift", "(IIIII)I"⟩
abbrev cX10_taken : ByteArray := prog_1_method_39_code
def yX10_taken : MethodName := ⟨RX10, "taken", "(II)I"⟩
abbrev cX10_count : ByteArray := prog_1_method_40_code
def yX10_count : MethodName := ⟨RX10, "count", "(I)I"⟩
abbrev cX10_within : ByteArray := prog_1_method_41_code
def yX10_within : MethodName := ⟨RX10, "within", "(III)Z"⟩
abbrev cX10_isShelf : ByteArray := prog_1_method_42_code
def yX10_isShelf : MethodName := ⟨RX10, "isShelf", "(I)Z"⟩
abbrev cX10_comesFrom : ByteArray := prog_1_method_43_code
def yX10_comesFrom : MethodName := ⟨RX10, "comesFrom", "(LLeastPays$Shelf;J)Z"⟩
abbrev cX10_ofOne : ByteArray := prog_1_method_44_code
def yX10_ofOne : MethodName := ⟨RX10, "ofOne", "(II)I"⟩
abbrev cX10_ofTheTable : ByteArray := prog_1_method_45_code
def yX10_ofTheTable : MethodName := ⟨RX10, "ofTheTable", "(I)I"⟩
abbrev cX10_givenBy : ByteArray := prog_1_method_46_code
def yX10_givenBy : MethodName := ⟨RX10, "givenBy", "(I)I"⟩
abbrev cX10_refusalOfTold : ByteArray := prog_1_method_47_code
def yX10_refusalOfTold : MethodName := ⟨RX10, "refusalOfTold", "(I)I"⟩
abbrev cX10_fraction : ByteArray := prog_1_method_48_code
def yX10_fraction : MethodName := ⟨RX10, "fraction", "(JJI)J"⟩
def RX11 : String := "LeastPaysModel"
def TX11 : u_T := fun k => match k with
  | 0 => ("LeastPaysModel", "may", "[I", true)
  | 1 => ("LeastPaysModel", "changeAt", "[I", true)
  | 2 => ("LeastPaysModel", "changeWas", "[I", true)
  | 3 => ("LeastPaysModel", "changeIs", "[I", true)
  | 4 => ("LeastPaysModel", "keptMany", "I", false)
  | 5 => ("LeastPaysModel", "done", "I", false)
  | 6 => ("LeastPaysModel", "guests", "I", false)
  | 7 => ("LeastPaysModel", "guess", "[I", true)
  | 8 => ("LeastPaysModel", "paidBy", "[I", true)
  | 9 => ("LeastPaysModel", "nights", "I", false)
  | 10 => ("LeastPaysModel", "chest", "I", false)
  | 11 => ("LeastPaysModel", "gift", "[I", true)
  | 12 => ("LeastPaysModel", "gifts", "I", false)
  | 13 => ("LeastPaysModel", "besides", "[I", true)
  | 14 => ("LeastPaysModel", "back", "[I", true)
  | 15 => ("LeastPaysModel", "toChest", "I", false)
  | 16 => ("LeastPaysModel", "sumBest", "I", false)
  | 17 => ("LeastPaysModel", "dishes", "I", false)
  | 18 => ("LeastPaysModel", "price", "[I", true)
  | 19 => ("LeastPaysModel", "joys", "[I", true)
  | 20 => ("LeastPaysModel", "orders", "[I", true)
  | 21 => ("LeastPaysModel", "tape", "[I", true)
  | 22 => ("LeastPaysModel", "tapeMany", "I", false)
  | 23 => ("LeastPaysModel", "text", "[I", true)
  | 24 => ("LeastPaysModel", "textMany", "I", false)
  | 25 => ("LeastPaysModel", "base", "I", false)
  | 26 => ("LeastPaysModel", "at", "I", false)
  | 27 => ("LeastPaysModel", "ends", "I", false)
  | 28 => ("LeastPaysModel", "fault", "I", false)
  | 29 => ("LeastPaysModel", "opened", "I", false)
  | 30 => ("LeastPaysModel", "names", "[I", true)
  | 31 => ("LeastPaysModel", "isKept", "Z", false)
  | 32 => ("LeastPaysModel", "imageGuests", "I", false)
  | 33 => ("LeastPaysModel", "imageNights", "I", false)
  | 34 => ("LeastPaysModel", "imageChest", "I", false)
  | 35 => ("LeastPaysModel", "imageGift", "[I", true)
  | 36 => ("LeastPaysModel", "imagePaid", "[I", true)
  | 37 => ("LeastPaysModel", "bodies", "I", false)
  | 38 => ("LeastPaysModel", "bodyKind", "[I", true)
  | 39 => ("LeastPaysModel", "trace", "[I", true)
  | 40 => ("LeastPaysModel", "ran", "I", false)
  | 41 => ("LeastPaysModel", "ownKind", "I", false)
  | 42 => ("LeastPaysModel", "ownNumber", "I", false)
  | 43 => ("LeastPaysModel", "shelf", "[I", true)
  | 44 => ("LeastPaysModel", "many", "[I", true)
  | 45 => ("LeastPaysModel", "items", "[J", true)
  | _ => ("LeastPaysModel", "carried", "[J", true)
def tyX11 : Nat → FieldType := fun k => match k with
  | 0 => .array .int
  | 1 => .array .int
  | 2 => .array .int
  | 3 => .array .int
  | 4 => .int
  | 5 => .int
  | 6 => .int
  | 7 => .array .int
  | 8 => .array .int
  | 9 => .int
  | 10 => .int
  | 11 => .array .int
  | 12 => .int
  | 13 => .array .int
  | 14 => .array .int
  | 15 => .int
  | 16 => .int
  | 17 => .int
  | 18 => .array .int
  | 19 => .array .int
  | 20 => .array .int
  | 21 => .array .int
  | 22 => .int
  | 23 => .array .int
  | 24 => .int
  | 25 => .int
  | 26 => .int
  | 27 => .int
  | 28 => .int
  | 29 => .int
  | 30 => .array .int
  | 31 => .boolean
  | 32 => .int
  | 33 => .int
  | 34 => .int
  | 35 => .array .int
  | 36 => .array .int
  | 37 => .int
  | 38 => .array .int
  | 39 => .array .int
  | 40 => .int
  | 41 => .int
  | 42 => .int
  | 43 => .array .int
  | 44 => .array .int
  | 45 => .array .long
  | _ => .array .long
abbrev wsX110 : List Cond := u_ws RX11 TX11 47
theorem nmX11 : ∀ a, a < 47 → ∀ b, b < 47 → a ≠ b → (TX11 a).2.1 ≠ (TX11 b).2.1 := by decide +kernel
theorem tyX11_ok : ∀ k, k < 47 → parseFieldDescriptor (TX11 k).2.2.1 = some (tyX11 k) := by decide +kernel
abbrev cX11_within : ByteArray := prog_13_method_1_code
def yX11_within : MethodName := ⟨RX11, "within", "(JJJ)Z"⟩
abbrev cX11_init : ByteArray := prog_13_method_2_code
def yX11_init : MethodName := ⟨RX11, "<init>", "()V"⟩
abbrev cX11_becomes : ByteArray := prog_13_method_3_code
def yX11_becomes : MethodName := ⟨RX11, "becomes", "(II)I"⟩
abbrev cX11_undo : ByteArray := prog_13_method_4_code
def yX11_undo : MethodName := ⟨RX11, "undo", "()I"⟩
abbrev cX11_redo : ByteArray := prog_13_method_5_code
def yX11_redo : MethodName := ⟨RX11, "redo", "()I"⟩
abbrev cX11_isGuest : ByteArray := prog_13_method_6_code
def yX11_isGuest : MethodName := ⟨RX11, "isGuest", "(I)Z"⟩
abbrev cX11_guest : ByteArray := prog_13_method_7_code
def yX11_guest : MethodName := ⟨RX11, "guest", "(I)I"⟩
abbrev cX11_guests : ByteArray := prog_13_method_8_code
def yX11_guests : MethodName := ⟨RX11, "guests", "(III)I"⟩
abbrev cX11_mend : ByteArray := prog_13_method_9_code
def yX11_mend : MethodName := ⟨RX11, "mend", "(III)I"⟩
abbrev cX11_ofGuest : ByteArray := prog_13_method_10_code
def yX11_ofGuest : MethodName := ⟨RX11, "ofGuest", "(II)I"⟩
abbrev cX11_of : ByteArray := prog_13_method_11_code
def yX11_of : MethodName := ⟨RX11, "of", "(II)I"⟩
abbrev cX11_think : ByteArray := prog_13_method_12_code
def yX11_think : MethodName := ⟨RX11, "think", "(II)I"⟩
abbrev cX11_laysOut : ByteArray := prog_13_method_13_code
def yX11_laysOut : MethodName := ⟨RX11, "laysOut", "()V"⟩
abbrev cX11_leastBut : ByteArray := prog_13_method_14_code
def yX11_leastBut : MethodName := ⟨RX11, "leastBut", "(I)I"⟩
abbrev cX11_alikePay : ByteArray := prog_13_method_15_code
def yX11_alikePay : MethodName := ⟨RX11, "alikePay", "(I)V"⟩
abbrev cX11_twoPay : ByteArray := prog_13_method_16_code
def yX11_twoPay : MethodName := ⟨RX11, "twoPay", "(I)V"⟩
abbrev cX11_givesBack : ByteArray := prog_13_method_17_code
def yX11_givesBack : MethodName := ⟨RX11, "givesBack", "(I)V"⟩
abbrev cX11_nightBy : ByteArray := prog_13_method_18_code
def yX11_nightBy : MethodName := ⟨RX11, "nightBy", "(II)V"⟩
abbrev cX11_nightAsIs : ByteArray := prog_13_method_19_code
def yX11_nightAsIs : MethodName := ⟨RX11, "nightAsIs", "()V"⟩
abbrev cX11_costIn : ByteArray := prog_13_method_20_code
def yX11_costIn : MethodName := ⟨RX11, "costIn", "(I)I"⟩
abbrev cX11_costNow : ByteArray := prog_13_method_21_code
def yX11_costNow : MethodName := ⟨RX11, "costNow", "(I)I"⟩
abbrev cX11_costBy : ByteArray := prog_13_method_22_code
def yX11_costBy : MethodName := ⟨RX11, "costBy", "(II)I"⟩
abbrev cX11_leastCost : ByteArray := prog_13_method_23_code
def yX11_leastCost : MethodName := ⟨RX11, "leastCost", "(I)I"⟩
abbrev cX11_putIn : ByteArray := prog_13_method_24_code
def yX11_putIn : MethodName := ⟨RX11, "putIn", "(II)I"⟩
abbrev cX11_common : ByteArray := prog_13_method_25_code
def yX11_common : MethodName := ⟨RX11, "common", "(JJ)J"⟩
abbrev cX11_partOf : ByteArray := prog_13_method_26_code
def yX11_partOf : MethodName := ⟨RX11, "partOf", "(JJI)J"⟩
abbrev cX11_meanOf : ByteArray := prog_13_method_27_code
def yX11_meanOf : MethodName := ⟨RX11, "meanOf", "(II)J"⟩
abbrev cX11_wholeOf : ByteArray := prog_13_method_28_code
def yX11_wholeOf : MethodName := ⟨RX11, "wholeOf", "()J"⟩
abbrev cX11_mean : ByteArray := prog_13_method_29_code
def yX11_mean : MethodName := ⟨RX11, "mean", "(III)J"⟩
abbrev cX11_bestMean : ByteArray := prog_13_method_30_code
def yX11_bestMean : MethodName := ⟨RX11, "bestMean", "(I)I"⟩
abbrev cX11_wouldChange : ByteArray := prog_13_method_31_code
def yX11_wouldChange : MethodName := ⟨RX11, "wouldChange", "(I)Z"⟩
abbrev cX11_firstWho : ByteArray := prog_13_method_32_code
def yX11_firstWho : MethodName := ⟨RX11, "firstWho", "()I"⟩
abbrev cX11_rest : ByteArray := prog_13_method_33_code
def yX11_rest : MethodName := ⟨RX11, "rest", "(I)I"⟩
abbrev cX11_sumsOf : ByteArray := prog_13_method_34_code
def yX11_sumsOf : MethodName := ⟨RX11, "sumsOf", "(I)I"⟩
abbrev cX11_rests : ByteArray := prog_13_method_35_code
def yX11_rests : MethodName := ⟨RX11, "rests", "(I)I"⟩
abbrev cX11_turns : ByteArray := prog_13_method_36_code
def yX11_turns : MethodName := ⟨RX11, "turns", "(I)I"⟩
abbrev cX11_agree : ByteArray := prog_13_method_37_code
def yX11_agree : MethodName := ⟨RX11, "agree", "(II)I"⟩
abbrev cX11_dish : ByteArray := prog_13_method_38_code
def yX11_dish : MethodName := ⟨RX11, "dish", "(I)I"⟩
abbrev cX11_joy : ByteArray := prog_13_method_39_code
def yX11_joy : MethodName := ⟨RX11, "joy", "(II)I"⟩
abbrev cX11_joyOf : ByteArray := prog_13_method_40_code
def yX11_joyOf : MethodName := ⟨RX11, "joyOf", "(II)I"⟩
abbrev cX11_billFrom : ByteArray := prog_13_method_41_code
def yX11_billFrom : MethodName := ⟨RX11, "billFrom", "(II)I"⟩
abbrev cX11_ordered : ByteArray := prog_13_method_42_code
def yX11_ordered : MethodName := ⟨RX11, "ordered", "(II)I"⟩
abbrev cX11_feed : ByteArray := prog_13_method_43_code
def yX11_feed : MethodName := ⟨RX11, "feed", "(I)I"⟩
abbrev cX11_byteAt : ByteArray := prog_13_method_44_code
def yX11_byteAt : MethodName := ⟨RX11, "byteAt", "()I"⟩
abbrev cX11_wrong : ByteArray := prog_13_method_45_code
def yX11_wrong : MethodName := ⟨RX11, "wrong", "()I"⟩
abbrev cX11_takes : ByteArray := prog_13_method_46_code
def yX11_takes : MethodName := ⟨RX11, "takes", "(I)Z"⟩
abbrev cX11_either : ByteArray := prog_13_method_47_code
def yX11_either : MethodName := ⟨RX11, "either", "()I"⟩
abbrev cX11_both : ByteArray := prog_13_method_48_code
def yX11_both : MethodName := ⟨RX11, "both", "()I"⟩
abbrev cX11_compared : ByteArray := prog_13_method_49_code
def yX11_compared : MethodName := ⟨RX11, "compared", "()I"⟩
abbrev cX11_sums : ByteArray := prog_13_method_50_code
def yX11_sums : MethodName := ⟨RX11, "sums", "()I"⟩
abbrev cX11_product : ByteArray := prog_13_method_51_code
def yX11_product : MethodName := ⟨RX11, "product", "()I"⟩
abbrev cX11_nameOf : ByteArray := prog_13_method_52_code
def yX11_nameOf : MethodName := ⟨RX11, "nameOf", "(I)I"⟩
abbrev cX11_one : ByteArray := prog_13_method_53_code
def yX11_one : MethodName := ⟨RX11, "one", "()I"⟩
abbrev cX11_workOut : ByteArray := prog_13_method_54_code
def yX11_workOut : MethodName := ⟨RX11, "workOut", "(II)I"⟩
abbrev cX11_law : ByteArray := prog_13_method_55_code
def yX11_law : MethodName := ⟨RX11, "law", "()I"⟩
abbrev cX11_wouldGive : ByteArray := prog_13_method_56_code
def yX11_wouldGive : MethodName := ⟨RX11, "wouldGive", "(II)I"⟩
abbrev cX11_thought : ByteArray := prog_13_method_57_code
def yX11_thought : MethodName := ⟨RX11, "thought", "(III)I"⟩
abbrev cX11_givenBy : ByteArray := prog_13_method_58_code
def yX11_givenBy : MethodName := ⟨RX11, "givenBy", "(I)I"⟩
abbrev cX11_given : ByteArray := prog_13_method_59_code
def yX11_given : MethodName := ⟨RX11, "given", "(I)I"⟩
abbrev cX11_stranger : ByteArray := prog_13_method_60_code
def yX11_stranger : MethodName := ⟨RX11, "stranger", "(III)J"⟩
abbrev cX11_night : ByteArray := prog_13_method_61_code
def yX11_night : MethodName := ⟨RX11, "night", "()I"⟩
abbrev cX11_drawn : ByteArray := prog_13_method_62_code
def yX11_drawn : MethodName := ⟨RX11, "drawn", "(IIII)I"⟩
abbrev cX11_hatIs : ByteArray := prog_13_method_63_code
def yX11_hatIs : MethodName := ⟨RX11, "hatIs", "(I)I"⟩
abbrev cX11_firstFalse : ByteArray := prog_13_method_64_code
def yX11_firstFalse : MethodName := ⟨RX11, "firstFalse", "(II)I"⟩
abbrev cX11_judge : ByteArray := prog_13_method_65_code
def yX11_judge : MethodName := ⟨RX11, "judge", "(I)I"⟩
abbrev cX11_fits : ByteArray := prog_13_method_66_code
def yX11_fits : MethodName := ⟨RX11, "fits", "(I)I"⟩
abbrev cX11_fair : ByteArray := prog_13_method_67_code
def yX11_fair : MethodName := ⟨RX11, "fair", "(I)I"⟩
abbrev cX11_image : ByteArray := prog_13_method_68_code
def yX11_image : MethodName := ⟨RX11, "image", "()I"⟩
abbrev cX11_back : ByteArray := prog_13_method_69_code
def yX11_back : MethodName := ⟨RX11, "back", "()I"⟩
abbrev cX11_isBody : ByteArray := prog_13_method_70_code
def yX11_isBody : MethodName := ⟨RX11, "isBody", "(I)Z"⟩
abbrev cX11_kindOf : ByteArray := prog_13_method_71_code
def yX11_kindOf : MethodName := ⟨RX11, "kindOf", "(I)I"⟩
abbrev cX11_body : ByteArray := prog_13_method_72_code
def yX11_body : MethodName := ⟨RX11, "body", "(I)I"⟩
abbrev cX11_above : ByteArray := prog_13_method_73_code
def yX11_above : MethodName := ⟨RX11, "above", "(I)I"⟩
abbrev cX11_begins : ByteArray := prog_13_method_74_code
def yX11_begins : MethodName := ⟨RX11, "begins", "(I)V"⟩
abbrev cX11_givesAs : ByteArray := prog_13_method_75_code
def yX11_givesAs : MethodName := ⟨RX11, "givesAs", "(II)I"⟩
abbrev cX11_owesAs : ByteArray := prog_13_method_76_code
def yX11_owesAs : MethodName := ⟨RX11, "owesAs", "(II)I"⟩
abbrev cX11_lacksAs : ByteArray := prog_13_method_77_code
def yX11_lacksAs : MethodName := ⟨RX11, "lacksAs", "(II)I"⟩
abbrev cX11_tellsAs : ByteArray := prog_13_method_78_code
def yX11_tellsAs : MethodName := ⟨RX11, "tellsAs", "(II)I"⟩
abbrev cX11_act : ByteArray := prog_13_method_79_code
def yX11_act : MethodName := ⟨RX11, "act", "(III)I"⟩
abbrev cX11_trace : ByteArray := prog_13_method_80_code
def yX11_trace : MethodName := ⟨RX11, "trace", "(I)I"⟩
abbrev cX11_isShelf : ByteArray := prog_13_method_81_code
def yX11_isShelf : MethodName := ⟨RX11, "isShelf", "(I)Z"⟩
abbrev cX11_keep : ByteArray := prog_13_method_82_code
def yX11_keep : MethodName := ⟨RX11, "keep", "(II)I"⟩
abbrev cX11_row : ByteArray := prog_13_method_83_code
def yX11_row : MethodName := ⟨RX11, "row", "(III)I"⟩
abbrev cX11_refusal : ByteArray := prog_13_method_84_code
def yX11_refusal : MethodName := ⟨RX11, "refusal", "(II)I"⟩
abbrev cX11_asSort : ByteArray := prog_13_method_85_code
def yX11_asSort : MethodName := ⟨RX11, "asSort", "(IJ)J"⟩
abbrev cX11_put : ByteArray := prog_13_method_86_code
def yX11_put : MethodName := ⟨RX11, "put", "(IIJ)I"⟩
abbrev cX11_element : ByteArray := prog_13_method_87_code
def yX11_element : MethodName := ⟨RX11, "element", "(II)J"⟩
abbrev cX11_shift : ByteArray := prog_13_method_88_code
def yX11_shift : MethodName := ⟨RX11, "shift", "(IIIII)I"⟩
abbrev cX11_taken : ByteArray := prog_13_method_89_code
def yX11_taken : MethodName := ⟨RX11, "taken", "(II)I"⟩
abbrev cX11_count : ByteArray := prog_13_method_90_code
def yX11_count : MethodName := ⟨RX11, "count", "(I)I"⟩
def RJ9 : String := "java/lang/Math"
def TJ9 : u_T := fun k => match k with
  | _ => ("", "", "", false)
def tyJ9 : Nat → FieldType := fun k => match k with
  | _ => .int
abbrev wsJ90 : List Cond := u_ws RJ9 TJ9 0
theorem nmJ9 : ∀ a, a < 0 → ∀ b, b < 0 → a ≠ b → (TJ9 a).2.1 ≠ (TJ9 b).2.1 := by decide +kernel
theorem tyJ9_ok : ∀ k, k < 0 → parseFieldDescriptor (TJ9 k).2.2.1 = some (tyJ9 k) := by decide +kernel
abbrev cJ9_max_7cf53 : ByteArray := prog_14_method_65_code
def yJ9_max_7cf53 : MethodName := ⟨RJ9, "max", "(II)I"⟩
abbrev cJ9_min_7cf53 : ByteArray := prog_14_method_69_code
def yJ9_min_7cf53 : MethodName := ⟨RJ9, "min", "(II)I"⟩
abbrev cJ9_min_f86c9 : ByteArray := prog_14_method_70_code
def yJ9_min_f86c9 : MethodName := ⟨RJ9, "min", "(JJ)J"⟩
def RJ10 : String := "java/lang/System"
def TJ10 : u_T := fun k => match k with
  | _ => ("", "", "", false)
def tyJ10 : Nat → FieldType := fun k => match k with
  | _ => .int
abbrev wsJ100 : List Cond := u_ws RJ10 TJ10 0
theorem nmJ10 : ∀ a, a < 0 → ∀ b, b < 0 → a ≠ b → (TJ10 a).2.1 ≠ (TJ10 b).2.1 := by decide +kernel
theorem tyJ10_ok : ∀ k, k < 0 → parseFieldDescriptor (TJ10 k).2.2.1 = some (tyJ10 k) := by decide +kernel
def RJ7 : String := "java/util/Arrays"
def TJ7 : u_T := fun k => match k with
  | _ => ("", "", "", false)
def tyJ7 : Nat → FieldType := fun k => match k with
  | _ => .int
abbrev wsJ70 : List Cond := u_ws RJ7 TJ7 0
theorem nmJ7 : ∀ a, a < 0 → ∀ b, b < 0 → a ≠ b → (TJ7 a).2.1 ≠ (TJ7 b).2.1 := by decide +kernel
theorem tyJ7_ok : ∀ k, k < 0 → parseFieldDescriptor (TJ7 k).2.2.1 = some (tyJ7 k) := by decide +kernel
abbrev cJ7_fill_d0a16 : ByteArray := prog_16_method_101_code
def yJ7_fill_d0a16 : MethodName := ⟨RJ7, "fill", "([JJ)V"⟩
abbrev cJ7_fill_53178 : ByteArray := prog_16_method_103_code
def yJ7_fill_53178 : MethodName := ⟨RJ7, "fill", "([II)V"⟩
def RL : String := "LeastPaysLaw"
abbrev cL_law : ByteArray := code
def yL_law : MethodName := ⟨RL, "law", "([I)Z"⟩
abbrev vwCl : List vw_C := [(RX0, TX0, 5), (RX1, TX1, 6), (RX2, TX2, 12), (RX3, TX3, 11), (RX4, TX4, 11), (RX5, TX5, 6), (RX6, TX6, 6), (RX7, TX7, 6), (RX8, TX8, 6), (RX9, TX9, 5), (RX10, TX10, 10), (RX11, TX11, 47)]
end
section
/-! ===== an interpreter over shapes, ints and longs (own text) ===== -/
abbrev j_S : Type := List (Nat × Nat × List (Option Nat))
abbrev j_M : Type := Nat → Nat → Int32
abbrev j_N : Type := Nat → Nat → Int64
abbrev j_Me : Type := j_S × j_M × j_N
abbrev j_R : Type := Option Value × j_Me
/-- instruction, length (invokevirtual: the class's number and 3), a, b, v, switch targets, places of words in lw_tbl -/
abbrev j_E : Type := Instr × Nat × Nat × Nat × Value × List (Int32 × Nat) × List Nat
/-- code by pc; cut points with the locals that live there; how many locals -/
abbrev j_K : Type := List (Nat × j_E) × List (Nat × List Bool) × Nat
def j_at : j_S → Nat → Nat × Nat × List (Option Nat)
  | [], _ => (99, 0, [])
  | x :: _, 0 => x
  | _ :: r, k + 1 => j_at r k
def j_nth : List (Option Nat) → Nat → Option Nat
  | [], _ => none
  | x :: _, 0 => x
  | _ :: r, k + 1 => j_nth r k
def j_lk {β : Type} : List (Nat × β) → Nat → Option β
  | [], _ => none
  | (k, x) :: r, p => bif Nat.beq k p then some x else j_lk r p
def j_lg : List Value → Nat → Value
  | [], _ => .null
  | v :: _, 0 => v
  | _ :: r, k + 1 => j_lg r k
def j_kill (v : Value) : Value := match v with
  | .long _ => .null
  | .double _ => .null
  | w => w
def j_put : List Value → Nat → Value → List Value
  | [], _, _ => []
  | _ :: r, 0, v => v :: r
  | w :: r, 1, v => j_kill w :: j_put r 0 v
  | w :: r, k + 2, v => w :: j_put r (k + 1) v
def j_nul : List Value → Nat → List Value
  | [], _ => []
  | _ :: r, 0 => .null :: r
  | w :: r, k + 1 => w :: j_nul r k
def j_mask : List Bool → List Value → List Value
  | b :: bs, v :: vs => (bif b then v else .null) :: j_mask bs vs
  | _, vs => vs
def j_fg (cuts : List (Nat × List Bool)) (pc : Nat) (L : List Value) : List Value := match j_lk cuts pc with
  | none => L
  | some m => j_mask m L
def j_cat : List Value → Nat
  | [] => 0
  | v :: r => v.category + j_cat r
def j_ent : List Value → List Value
  | [] => []
  | .long x :: r => .long x :: .null :: j_ent r
  | .double x :: r => .double x :: .null :: j_ent r
  | v :: r => v :: j_ent r
def j_pad (n : Nat) (L : List Value) : List Value := L ++ List.replicate (n - L.length) .null
def j_w (M : j_M) (c k : Nat) (x : Int32) : j_M := fun y => if y = c then upd (M c) k x else M y
def j_wl (N : j_N) (c k : Nat) (x : Int64) : j_N := fun y => if y = c then vp_updL (N c) k x else N y
def j_row (M : j_M) (c : Nat) (f : Nat → Int32) : j_M := fun y => if y = c then f else M y
def j_rowl (N : j_N) (c : Nat) (f : Nat → Int64) : j_N := fun y => if y = c then f else N y
def j_in (i : Int32) (n : Nat) : Bool := !(decide (i < 0) || Nat.ble n i.toNatClampNeg)
def j_setx : List (Option Nat) → Nat → Nat → List (Option Nat)
  | [], 0, q => [some q]
  | [], k + 1, q => none :: j_setx [] k q
  | _ :: r, 0, q => some q :: r
  | x :: r, k + 1, q => x :: j_setx r k q
def j_sr (S : j_S) (c b q : Nat) : j_S := S.set c ((j_at S c).1, (j_at S c).2.1, j_setx (j_at S c).2.2 b q)
def j_T0 : List Int32 := [-1, 0, 0, 2, 1, 3, 0, 4]
def j_T1 : List Int32 := [1, 10, 11, 2, 20, 0, 0, 0, 0, 30, 0, 0, 0, 41, 40, 0, 0, 0, 50, 0, 0, 0, 0, 60, 70, 0, 0, 0, 0, 80, 0, 81]
def j_tg : List Int32 → Nat → Int32
  | [], _ => 0
  | x :: _, 0 => x
  | _ :: r, k + 1 => j_tg r k
def j_i0 {α : Type} (ks : α) (f : Int32 → α) (st : List Value) : α := match st with
  | [.int x] => f x
  | _ => ks
def j_l0 {α : Type} (ks : α) (f : Int64 → α) (st : List Value) : α := match st with
  | [.long x] => f x
  | _ => ks
def j_i1 {α : Type} (ks : α) (f : Int32 → List Value → α) (st : List Value) : α := match st with
  | .int x :: r => f x r
  | _ => ks
def j_i2 {α : Type} (ks : α) (f : Int32 → Int32 → List Value → α) (st : List Value) : α := match st with
  | .int y :: .int x :: r => f x y r
  | _ => ks
def j_l1 {α : Type} (ks : α) (f : Int64 → List Value → α) (st : List Value) : α := match st with
  | .long x :: r => f x r
  | _ => ks
def j_l2 {α : Type} (ks : α) (f : Int64 → Int64 → List Value → α) (st : List Value) : α := match st with
  | .long y :: .long x :: r => f x y r
  | _ => ks
def j_il {α : Type} (ks : α) (f : Int64 → Int32 → List Value → α) (st : List Value) : α := match st with
  | .int y :: .long x :: r => f x y r
  | _ => ks
def j_r1 {α : Type} (ks : α) (f : Nat → List Value → α) (st : List Value) : α := match st with
  | .ref a :: r => f a r
  | _ => ks
def j_ri {α : Type} (ks : α) (f : Nat → Int32 → List Value → α) (st : List Value) : α := match st with
  | .int i :: .ref a :: r => f a i r
  | _ => ks
def j_rii {α : Type} (ks : α) (f : Nat → Int32 → Int32 → List Value → α) (st : List Value) : α := match st with
  | .int x :: .int i :: .ref a :: r => f a i x r
  | _ => ks
def j_ril {α : Type} (ks : α) (f : Nat → Int32 → Int64 → List Value → α) (st : List Value) : α := match st with
  | .long x :: .int i :: .ref a :: r => f a i x r
  | _ => ks
def j_rir {α : Type} (ks : α) (f : Nat → Int32 → Nat → List Value → α) (st : List Value) : α := match st with
  | .ref x :: .int i :: .ref a :: r => f a i x r
  | _ => ks
def j_rI {α : Type} (ks : α) (f : Nat → Int32 → List Value → α) (st : List Value) : α := match st with
  | .int x :: .ref a :: r => f a x r
  | _ => ks
def j_rr {α : Type} (ks : α) (f : Nat → Nat → List Value → α) (st : List Value) : α := match st with
  | .ref x :: .ref a :: r => f a x r
  | _ => ks
def j_c5 {α : Type} (ks : α) (f : Nat → Int32 → Nat → Int32 → Int32 → List Value → α) (st : List Value) : α := match st with
  | .int n :: .int dp :: .ref a :: .int sp :: .ref a0 :: r => f a0 sp a dp n r
  | _ => ks
def j_v1 {α : Type} (ks : α) (f : Value → List Value → α) (st : List Value) : α := match st with
  | .int x :: r => f (.int x) r
  | .ref x :: r => f (.ref x) r
  | _ => ks
def j_v2 {α : Type} (ks : α) (f : Value → Value → List Value → α) (st : List Value) : α := j_v1 ks (fun v r => j_v1 ks (fun w r2 => f v w r2) r) st
def j_vi {α : Type} (ks : α) (f : Int32 → α) (v : Value) : α := match v with
  | .int x => f x
  | _ => ks
def j_vl {α : Type} (ks : α) (f : Int64 → α) (v : Value) : α := match v with
  | .long x => f x
  | _ => ks
def j_vr {α : Type} (ks : α) (f : Nat → α) (v : Value) : α := match v with
  | .ref x => f x
  | _ => ks
def j_sw {α : Type} (k : Nat → α) (d : Nat) (x : Int32) : List (Int32 × Nat) → α
  | [] => k d
  | (c, t) :: r => if x = c then k t else j_sw k d x r
def j_popk {α : Type} (ks : α) (f : List Value → List Value → α) : Nat → List Value → List Value → α
  | 0, acc, st => f acc st
  | n + 1, acc, x :: r => j_popk ks f n (x :: acc) r
  | _ + 1, _, [] => ks
/-- by the kind of a field or a result: int, long (a field: boolean), else -/
def j_by {α : Type} (v : Value) (i l r : α) : α := match v with
  | .int _ => i
  | .long _ => l
  | _ => r
def j_br {α : Type} (c : Jvm.ClassFile.Cond) (x : Int32) (t f : α) : α := match c with
  | .eq => if x = 0 then t else f
  | .ne => if x = 0 then f else t
  | .lt => if x < 0 then t else f
  | .ge => if 0 ≤ x then t else f
  | .gt => if 0 < x then t else f
  | .le => if x ≤ 0 then t else f
def j_bc {α : Type} (c : Jvm.ClassFile.Cond) (x y : Int32) (t f : α) : α := match c with
  | .eq => if x = y then t else f
  | .ne => if x = y then f else t
  | .lt => if x < y then t else f
  | .ge => if y ≤ x then t else f
  | .gt => if y < x then t else f
  | .le => if x ≤ y then t else f
/-- arraycopy, Math.max, min, min of longs -/
def j_nat {α : Type} (kn : List Value → j_Me → α) (ks : α) (a : Nat) (st : List Value) (me : j_Me) : α :=
  bif Nat.beq a 1000 then j_c5 ks (fun a0 sp a dp n r => bif (!(decide (sp < 0)) && !(decide (dp < 0)) && !(decide (n < 0)) && Nat.ble (sp.toNatClampNeg + n.toNatClampNeg) (j_at me.1 a0).2.1 && Nat.ble (dp.toNatClampNeg + n.toNatClampNeg) (j_at me.1 a).2.1) && Nat.ble (j_cat r) 8 then
      (bif Nat.beq (j_at me.1 a0).1 0 && Nat.beq (j_at me.1 a).1 0 then kn r (me.1, j_row me.2.1 a (va_cpy (me.2.1 a0) (me.2.1 a) sp.toNatClampNeg dp.toNatClampNeg n.toNatClampNeg), me.2.2)
       else bif Nat.beq (j_at me.1 a0).1 1 && Nat.beq (j_at me.1 a).1 1 then kn r (me.1, me.2.1, j_rowl me.2.2 a (va_cpy (me.2.2 a0) (me.2.2 a) sp.toNatClampNeg dp.toNatClampNeg n.toNatClampNeg)) else ks) else ks) st
  else bif Nat.beq a 1001 then j_i2 ks (fun x y r => bif Nat.ble (j_cat r) 8 then kn (.int (if x < y then y else x) :: r) me else ks) st
  else bif Nat.beq a 1002 then j_i2 ks (fun x y r => bif Nat.ble (j_cat r) 8 then kn (.int (if y < x then y else x) :: r) me else ks) st
  else bif Nat.beq a 1003 then j_l2 ks (fun x y r => bif Nat.ble (j_cat r) 8 then kn (.long (if y < x then y else x) :: r) me else ks) st
  else ks
/-- one instruction: kn goes on; kc calls (callee, result's kind, arguments); kcs makes an object; kr returns; ks: stuck -/
def j_st {α : Type} (kn : Nat → List Value → List Value → j_Me → α) (kc : Nat → Value → List Value → Nat → List Value → List Value → j_Me → α) (kcs : Nat → List Value → Nat → List Value → List Value → j_Me → α) (kr : Option Value → j_Me → α) (ks : α) (pc : Nat) (ins : Instr) (z a b : Nat) (v : Value) (ts : List (Int32 × Nat)) (L st : List Value) (me : j_Me) : α := match ins with
  | .iconst _ => kn (pc + 1) L (v :: st) me
  | .bipush _ => kn (pc + 2) L (v :: st) me
  | .sipush _ => kn (pc + 3) L (v :: st) me
  | .ldc _ => kn (pc + 2) L (v :: st) me
  | .ldc_w _ => kn (pc + 3) L (v :: st) me
  | .lconst _ => kn (pc + 1) L (v :: st) me
  | .ldc2_w _ => kn (pc + 3) L (v :: st) me
  | .iload_n _ => j_vi ks (fun x => kn (pc + 1) L (.int x :: st) me) (j_lg L a)
  | .iload _ => j_vi ks (fun x => kn (pc + 2) L (.int x :: st) me) (j_lg L a)
  | .lload_n _ => j_vl ks (fun x => kn (pc + 1) L (.long x :: st) me) (j_lg L a)
  | .lload _ => j_vl ks (fun x => kn (pc + 2) L (.long x :: st) me) (j_lg L a)
  | .aload_n _ => j_vr ks (fun x => kn (pc + 1) L (.ref x :: st) me) (j_lg L a)
  | .aload _ => j_vr ks (fun x => kn (pc + 2) L (.ref x :: st) me) (j_lg L a)
  | .istore_n _ => j_i1 ks (fun x r => kn (pc + 1) (j_put L a (.int x)) r me) st
  | .istore _ => j_i1 ks (fun x r => kn (pc + 2) (j_put L a (.int x)) r me) st
  | .lstore_n _ => j_l1 ks (fun x r => kn (pc + 1) (j_nul (j_put L a (.long x)) (a + 1)) r me) st
  | .lstore _ => j_l1 ks (fun x r => kn (pc + 2) (j_nul (j_put L a (.long x)) (a + 1)) r me) st
  | .astore_n _ => j_r1 ks (fun x r => kn (pc + 1) (j_put L a (.ref x)) r me) st
  | .astore _ => j_r1 ks (fun x r => kn (pc + 2) (j_put L a (.ref x)) r me) st
  | .iinc _ _ => j_vi ks (fun y => j_vi ks (fun x => kn (pc + 3) (j_put L a (.int (x + y))) st me) (j_lg L a)) v
  | .iadd => j_i2 ks (fun x y r => kn (pc + 1) L (.int (x + y) :: r) me) st
  | .isub => j_i2 ks (fun x y r => kn (pc + 1) L (.int (x - y) :: r) me) st
  | .imul => j_i2 ks (fun x y r => kn (pc + 1) L (.int (x * y) :: r) me) st
  | .iand => j_i2 ks (fun x y r => kn (pc + 1) L (.int (x &&& y) :: r) me) st
  | .ior => j_i2 ks (fun x y r => kn (pc + 1) L (.int (x ||| y) :: r) me) st
  | .ixor => j_i2 ks (fun x y r => kn (pc + 1) L (.int (x ^^^ y) :: r) me) st
  | .ishl => j_i2 ks (fun x y r => kn (pc + 1) L (.int (x <<< (y &&& 31)) :: r) me) st
  | .ishr => j_i2 ks (fun x y r => kn (pc + 1) L (.int (x >>> (y &&& 31)) :: r) me) st
  | .iushr => j_i2 ks (fun x y r => kn (pc + 1) L (.int (x.toUInt32 >>> (y.toUInt32 &&& Int32.toUInt32 31)).toInt32 :: r) me) st
  | .idiv => j_i2 ks (fun x y r => if y = 0 then ks else kn (pc + 1) L (.int (x / y) :: r) me) st
  | .irem => j_i2 ks (fun x y r => if y = 0 then ks else kn (pc + 1) L (.int (x - x / y * y) :: r) me) st
  | .ineg => j_i1 ks (fun x r => kn (pc + 1) L (.int (-x) :: r) me) st
  | .ladd => j_l2 ks (fun x y r => kn (pc + 1) L (.long (x + y) :: r) me) st
  | .lmul => j_l2 ks (fun x y r => kn (pc + 1) L (.long (x * y) :: r) me) st
  | .land => j_l2 ks (fun x y r => kn (pc + 1) L (.long (x &&& y) :: r) me) st
  | .lor => j_l2 ks (fun x y r => kn (pc + 1) L (.long (x ||| y) :: r) me) st
  | .ldiv => j_l2 ks (fun x y r => if y = 0 then ks else kn (pc + 1) L (.long (x / y) :: r) me) st
  | .lrem => j_l2 ks (fun x y r => if y = 0 then ks else kn (pc + 1) L (.long (x - x / y * y) :: r) me) st
  | .lshl => j_il ks (fun x y r => kn (pc + 1) L (.long (x <<< (y.toInt64 &&& 63)) :: r) me) st
  | .lcmp => j_l2 ks (fun x y r => kn (pc + 1) L (.int (lg_cmp x y) :: r) me) st
  | .i2l => j_i1 ks (fun x r => kn (pc + 1) L (.long x.toInt64 :: r) me) st
  | .l2i => j_l1 ks (fun x r => kn (pc + 1) L (.int x.toInt32 :: r) me) st
  | .i2b => j_i1 ks (fun x r => kn (pc + 1) L (.int x.toInt8.toInt32 :: r) me) st
  | .i2s => j_i1 ks (fun x r => kn (pc + 1) L (.int x.toInt16.toInt32 :: r) me) st
  | .dup => j_v1 ks (fun w r => kn (pc + 1) L (w :: w :: r) me) st
  | .pop => j_v1 ks (fun _ r => kn (pc + 1) L r me) st
  | .dup2 => j_v2 ks (fun w x r => kn (pc + 1) L (w :: x :: w :: x :: r) me) st
  | .ifCond c _ => j_i1 ks (fun x r => j_br c x (kn a L r me) (kn (pc + 3) L r me)) st
  | .if_icmp c _ => j_i2 ks (fun x y r => j_bc c x y (kn a L r me) (kn (pc + 3) L r me)) st
  | .goto _ => kn a L st me
  | .tableswitch _ _ _ _ => j_i1 ks (fun x r => j_sw (fun t => kn t L r me) a x ts) st
  | .lookupswitch _ _ => j_i1 ks (fun x r => j_sw (fun t => kn t L r me) a x ts) st
  | .getfield _ => j_r1 ks (fun c r => bif Nat.beq (j_at me.1 c).1 (a + 3) then j_by v (kn (pc + 3) L (.int (me.2.1 c b) :: r) me) (kn (pc + 3) L (.int (me.2.1 c b) :: r) me) (bif (j_nth (j_at me.1 c).2.2 b).isSome then kn (pc + 3) L (.ref ((j_nth (j_at me.1 c).2.2 b).getD 0) :: r) me else ks) else ks) st
  | .putfield _ => j_by v (j_rI ks (fun c x r => bif Nat.beq (j_at me.1 c).1 (a + 3) then kn (pc + 3) L r (me.1, j_w me.2.1 c b x, me.2.2) else ks) st)
      (j_rI ks (fun c x r => bif Nat.beq (j_at me.1 c).1 (a + 3) && (decide (x = 0) || decide (x = 1)) then kn (pc + 3) L r (me.1, j_w me.2.1 c b x, me.2.2) else ks) st)
      (j_rr ks (fun c q r => bif Nat.beq (j_at me.1 c).1 (a + 3) then kn (pc + 3) L r (j_sr me.1 c b q, me.2.1, me.2.2) else ks) st)
  | .getstatic _ => kn (pc + 3) L (.ref a :: st) me
  | .new _ => kn (pc + 3) L (.ref me.1.length :: st) (me.1 ++ [(a + 3, b, List.replicate b none)], j_row me.2.1 me.1.length (fun _ => 0), me.2.2)
  | .newarray _ => j_i1 ks (fun n r => bif !(decide (n < 0)) && Nat.ble n.toNatClampNeg 65536 then j_by v (kn (pc + 2) L (.ref me.1.length :: r) (me.1 ++ [(0, n.toNatClampNeg, [])], j_row me.2.1 me.1.length (fun _ => 0), me.2.2)) (kn (pc + 2) L (.ref me.1.length :: r) (me.1 ++ [(1, n.toNatClampNeg, [])], me.2.1, j_rowl me.2.2 me.1.length (fun _ => 0))) ks else ks) st
  | .anewarray _ => j_i1 ks (fun n r => bif !(decide (n < 0)) && Nat.ble n.toNatClampNeg 65536 then kn (pc + 3) L (.ref me.1.length :: r) (me.1 ++ [(2, n.toNatClampNeg, List.replicate n.toNatClampNeg none)], me.2.1, me.2.2) else ks) st
  | .arraylength => j_r1 ks (fun c r => bif Nat.ble (j_at me.1 c).1 2 then kn (pc + 1) L (.int (Int32.ofNat (j_at me.1 c).2.1) :: r) me else ks) st
  | .iaload => j_ri ks (fun c i r => bif Nat.beq c 1000 then (bif j_in i 8 then kn (pc + 1) L (.int (j_tg j_T0 i.toNatClampNeg) :: r) me else ks) else bif Nat.beq c 1001 then (bif j_in i 32 then kn (pc + 1) L (.int (j_tg j_T1 i.toNatClampNeg) :: r) me else ks)
      else bif Nat.beq (j_at me.1 c).1 0 && j_in i (j_at me.1 c).2.1 then kn (pc + 1) L (.int (me.2.1 c i.toNatClampNeg) :: r) me else ks) st
  | .iastore => j_rii ks (fun c i x r => bif Nat.beq (j_at me.1 c).1 0 && j_in i (j_at me.1 c).2.1 then kn (pc + 1) L r (me.1, j_w me.2.1 c i.toNatClampNeg x, me.2.2) else ks) st
  | .laload => j_ri ks (fun c i r => bif Nat.beq (j_at me.1 c).1 1 && j_in i (j_at me.1 c).2.1 then kn (pc + 1) L (.long (me.2.2 c i.toNatClampNeg) :: r) me else ks) st
  | .lastore => j_ril ks (fun c i x r => bif Nat.beq (j_at me.1 c).1 1 && j_in i (j_at me.1 c).2.1 then kn (pc + 1) L r (me.1, me.2.1, j_wl me.2.2 c i.toNatClampNeg x) else ks) st
  | .aaload => j_ri ks (fun c i r => bif Nat.beq (j_at me.1 c).1 2 && j_in i (j_at me.1 c).2.1 && (j_nth (j_at me.1 c).2.2 i.toNatClampNeg).isSome then kn (pc + 1) L (.ref ((j_nth (j_at me.1 c).2.2 i.toNatClampNeg).getD 0) :: r) me else ks) st
  | .aastore => j_rir ks (fun c i q r => bif Nat.beq (j_at me.1 c).1 2 && j_in i (j_at me.1 c).2.1 && Nat.beq (j_at me.1 q).1 12 then kn (pc + 1) L r (j_sr me.1 c i.toNatClampNeg q, me.2.1, me.2.2) else ks) st
  | .invokevirtual _ => j_popk ks (fun as r => j_r1 ks (fun c r => bif Nat.beq (j_at me.1 c).1 z && Nat.ble (j_cat r) 8 then kc a v (.ref c :: as) (pc + 3) L r me else ks) r) b [] st
  | .invokestatic _ => bif Nat.ble 1000 a then j_nat (fun r me => kn (pc + 3) L r me) ks a st me else j_popk ks (fun as r => bif Nat.ble (j_cat r) 8 then kc a v as (pc + 3) L r me else ks) b [] st
  | .invokespecial _ => bif Nat.beq a 999 then j_r1 ks (fun _ r => bif Nat.ble (j_cat r) 8 then kn (pc + 3) L r me else ks) st else j_popk ks (fun as r => j_r1 ks (fun c r => bif Nat.ble (j_cat r) 8 then kcs a (.ref c :: as) (pc + 3) L r me else ks) r) b [] st
  | .ireturn => j_i0 ks (fun x => j_by v (kr (some (.int x)) me) (bif decide (x = 0) || decide (x = 1) then kr (some (.int x)) me else ks) ks) st
  | .lreturn => j_l0 ks (fun x => kr (some (.long x)) me) st
  | .return_ => (match st with
    | [] => kr none me
    | _ => ks)
  | _ => ks
/-- the rest of a call by the kind of its result -/
def j_oi {α : Type} (ks : α) (f : Int32 → α) (o : Option Value) : α := match o with
  | some (.int x) => f x
  | _ => ks
def j_ol {α : Type} (ks : α) (f : Int64 → α) (o : Option Value) : α := match o with
  | some (.long x) => f x
  | _ => ks
def j_ov {α : Type} (ks : α) (f : α) (o : Option Value) : α := match o with
  | none => f
  | _ => ks
def j_res {α : Type} (ks : α) (v : Value) (f : List Value → α) (o : Option Value) : α := j_by v (j_oi ks (fun x => f [.int x]) o) (j_ol ks (fun x => f [.long x]) o) (j_ov ks (f []) o)
def j_go {α : Type} (kn : Nat → List Value → List Value → j_Me → α) (kc : Nat → Value → List Value → Nat → List Value → List Value → j_Me → α) (kcs : Nat → List Value → Nat → List Value → List Value → j_Me → α) (kr : Option Value → j_Me → α) (ks : α) (K : j_K) (pc : Nat) (L st : List Value) (me : j_Me) : α := match j_lk K.1 pc with
  | none => ks
  | some (ins, z, a, b, v, ts, _) => j_st kn kc kcs kr ks pc ins z a b v ts L st me
end
section
/-! ===== the code of every method, with what its instructions name (printed by wip/whole/gencode.py) ===== -/
/-- 0: LeastPays$Bodies.<init>()V -/
def kX0_init : j_K := ([
  (0, .aload_n 0, 1, 0, 0, .null, [], []),
  (1, .invokespecial 3, 3, 999, 0, .null, [], [0]),
  (4, .aload_n 0, 1, 0, 0, .null, [], []),
  (5, .bipush 50, 2, 0, 0, .int 50, [], []),
  (7, .newarray .int, 2, 0, 0, .int 0, [], []),
  (9, .putfield 11, 3, 0, 0, .null, [], [0]),
  (12, .aload_n 0, 1, 0, 0, .null, [], []),
  (13, .bipush 24, 2, 0, 0, .int 24, [], []),
  (15, .newarray .int, 2, 0, 0, .int 0, [], []),
  (17, .putfield 15, 3, 0, 1, .null, [], [1]),
  (20, .return_, 1, 0, 0, .null, [], [])],
  [], 1)
/-- 1: LeastPays$Bodies.has(I)Z -/
def kX0_has : j_K := ([
  (0, .iload_n 1, 1, 1, 0, .null, [], []),
  (1, .ifCond .lt 15, 3, 16, 0, .null, [], []),
  (4, .iload_n 1, 1, 1, 0, .null, [], []),
  (5, .aload_n 0, 1, 0, 0, .null, [], []),
  (6, .getfield 18, 3, 0, 2, .int 0, [], [2]),
  (9, .if_icmp .ge 7, 3, 16, 0, .null, [], []),
  (12, .iconst 1, 1, 0, 0, .int 1, [], []),
  (13, .goto 4, 3, 17, 0, .null, [], []),
  (16, .iconst 0, 1, 0, 0, .int 0, [], []),
  (17, .ireturn, 1, 0, 0, .long 0, [], [])],
  [], 2)
/-- 2: LeastPays$Bodies.kindOf(I)I -/
def kX0_kindOf : j_K := ([
  (0, .aload_n 0, 1, 0, 0, .null, [], []),
  (1, .iload_n 1, 1, 1, 0, .null, [], []),
  (2, .invokevirtual 22, 3, 1, 1, .int 0, [], [0]),
  (5, .ifCond .eq 12, 3, 17, 0, .null, [], []),
  (8, .aload_n 0, 1, 0, 0, .null, [], []),
  (9, .getfield 11, 3, 0, 0, .null, [], [0]),
  (12, .iload_n 1, 1, 1, 0, .null, [], []),
  (13, .iaload, 1, 0, 0, .null, [], []),
  (14, .goto 4, 3, 18, 0, .null, [], []),
  (17, .iconst 0, 1, 0, 0, .int 0, [], []),
  (18, .ireturn, 1, 0, 0, .int 0, [], [])],
  [], 2)
/-- 3: LeastPays$Bodies.add(I)I -/
def kX0_add : j_K := ([
  (0, .aload_n 0, 1, 0, 0, .null, [], []),
  (1, .getfield 18, 3, 0, 2, .int 0, [], [2]),
  (4, .bipush 50, 2, 0, 0, .int 50, [], []),
  (6, .if_icmp .lt 6, 3, 12, 0, .null, [], []),
  (9, .bipush (-3), 2, 0, 0, .int (-3), [], []),
  (11, .ireturn, 1, 0, 0, .int 0, [], []),
  (12, .aload_n 0, 1, 0, 0, .null, [], []),
  (13, .getfield 11, 3, 0, 0, .null, [], [0]),
  (16, .aload_n 0, 1, 0, 0, .null, [], []),
  (17, .getfield 18, 3, 0, 2, .int 0, [], [2]),
  (20, .iload_n 1, 1, 1, 0, .null, [], []),
  (21, .iastore, 1, 0, 0, .null, [], []),
  (22, .aload_n 0, 1, 0, 0, .null, [], []),
  (23, .dup, 1, 0, 0, .null, [], []),
  (24, .getfield 18, 3, 0, 2, .int 0, [], [2]),
  (27, .iconst 1, 1, 0, 0, .int 1, [], []),
  (28, .iadd, 1, 0, 0, .null, [], []),
  (29, .putfield 18, 3, 0, 2, .int 0, [], [2]),
  (32, .aload_n 0, 1, 0, 0, .null, [], []),
  (33, .getfield 18, 3, 0, 2, .int 0, [], [2]),
  (36, .iconst 1, 1, 0, 0, .int 1, [], []),
  (37, .isub, 1, 0, 0, .null, [], []),
  (38, .ireturn, 1, 0, 0, .int 0, [], [])],
  [], 2)
/-- 4: LeastPays$Bodies.isUnder(II)Z -/
def kX0_isUnder : j_K := ([
  (0, .iload_n 0, 1, 0, 0, .null, [], []),
  (1, .istore_n 2, 1, 2, 0, .null, [], []),
  (2, .iconst 0, 1, 0, 0, .int 0, [], []),
  (3, .istore_n 3, 1, 3, 0, .null, [], []),
  (4, .iload_n 3, 1, 3, 0, .null, [], []),
  (5, .bipush 8, 2, 0, 0, .int 8, [], []),
  (7, .if_icmp .ge 26, 3, 33, 0, .null, [], []),
  (10, .iload_n 2, 1, 2, 0, .null, [], []),
  (11, .ifCond .lt 22, 3, 33, 0, .null, [], []),
  (14, .iload_n 2, 1, 2, 0, .null, [], []),
  (15, .iload_n 1, 1, 1, 0, .null, [], []),
  (16, .if_icmp .ne 5, 3, 21, 0, .null, [], []),
  (19, .iconst 1, 1, 0, 0, .int 1, [], []),
  (20, .ireturn, 1, 0, 0, .long 0, [], []),
  (21, .getstatic 26, 3, 1000, 0, .null, [], [0]),
  (24, .iload_n 2, 1, 2, 0, .null, [], []),
  (25, .iaload, 1, 0, 0, .null, [], []),
  (26, .istore_n 2, 1, 2, 0, .null, [], []),
  (27, .iinc 3 1, 3, 3, 0, .int 1, [], []),
  (30, .goto (-26), 3, 4, 0, .null, [], []),
  (33, .iconst 0, 1, 0, 0, .int 0, [], []),
  (34, .ireturn, 1, 0, 0, .long 0, [], [])],
  [(4, [false, true, true, true])], 4)
/-- 5: LeastPays$Bodies.ranAt(I)I -/
def kX0_ranAt : j_K := ([
  (0, .iload_n 1, 1, 1, 0, .null, [], []),
  (1, .ifCond .lt 26, 3, 27, 0, .null, [], []),
  (4, .iload_n 1, 1, 1, 0, .null, [], []),
  (5, .aload_n 0, 1, 0, 0, .null, [], []),
  (6, .getfield 29, 3, 0, 3, .int 0, [], [3]),
  (9, .if_icmp .ge 18, 3, 27, 0, .null, [], []),
  (12, .iload_n 1, 1, 1, 0, .null, [], []),
  (13, .bipush 24, 2, 0, 0, .int 24, [], []),
  (15, .if_icmp .ge 12, 3, 27, 0, .null, [], []),
  (18, .aload_n 0, 1, 0, 0, .null, [], []),
  (19, .getfield 15, 3, 0, 1, .null, [], [1]),
  (22, .iload_n 1, 1, 1, 0, .null, [], []),
  (23, .iaload, 1, 0, 0, .null, [], []),
  (24, .goto 4, 3, 28, 0, .null, [], []),
  (27, .iconst (-1), 1, 0, 0, .int (-1), [], []),
  (28, .ireturn, 1, 0, 0, .int 0, [], [])],
  [], 2)
/-- 6: LeastPays$Bodies.perform(III)I -/
def kX0_perform : j_K := ([
  (0, .aload_n 0, 1, 0, 0, .null, [], []),
  (1, .iconst 0, 1, 0, 0, .int 0, [], []),
  (2, .putfield 29, 3, 0, 3, .int 0, [], [3]),
  (5, .aload_n 0, 1, 0, 0, .null, [], []),
  (6, .iload_n 1, 1, 1, 0, .null, [], []),
  (7, .invokevirtual 22, 3, 1, 1, .int 0, [], [0]),
  (10, .ifCond .eq 12, 3, 22, 0, .null, [], []),
  (13, .iload_n 2, 1, 2, 0, .null, [], []),
  (14, .ifCond .lt 8, 3, 22, 0, .null, [], []),
  (17, .iload_n 2, 1, 2, 0, .null, [], []),
  (18, .iconst 4, 1, 0, 0, .int 4, [], []),
  (19, .if_icmp .lt 5, 3, 24, 0, .null, [], []),
  (22, .iconst 0, 1, 0, 0, .int 0, [], []),
  (23, .ireturn, 1, 0, 0, .int 0, [], []),
  (24, .aload_n 0, 1, 0, 0, .null, [], []),
  (25, .iload_n 1, 1, 1, 0, .null, [], []),
  (26, .putfield 32, 3, 0, 4, .int 0, [], [4]),
  (29, .aload_n 0, 1, 0, 0, .null, [], []),
  (30, .iload_n 2, 1, 2, 0, .null, [], []),
  (31, .iload_n 3, 1, 3, 0, .null, [], []),
  (32, .iconst 0, 1, 0, 0, .int 0, [], []),
  (33, .invokevirtual 35, 3, 7, 3, .int 0, [], [1]),
  (36, .ireturn, 1, 0, 0, .int 0, [], [])],
  [], 4)
/-- 7: LeastPays$Bodies.call(III)I -/
def kX0_call : j_K := ([
  (0, .aload_n 0, 1, 0, 0, .null, [], []),
  (1, .aload_n 0, 1, 0, 0, .null, [], []),
  (2, .getfield 11, 3, 0, 0, .null, [], [0]),
  (5, .aload_n 0, 1, 0, 0, .null, [], []),
  (6, .getfield 32, 3, 0, 4, .int 0, [], [4]),
  (9, .iaload, 1, 0, 0, .null, [], []),
  (10, .iload_n 1, 1, 1, 0, .null, [], []),
  (11, .iload_n 2, 1, 2, 0, .null, [], []),
  (12, .iload_n 3, 1, 3, 0, .null, [], []),
  (13, .invokevirtual 39, 3, 8, 4, .int 0, [], [2]),
  (16, .ireturn, 1, 0, 0, .int 0, [], [])],
  [], 4)
/-- 8: LeastPays$Bodies.from(IIII)I -/
def kX0_from : j_K := ([
  (0, .iload 4, 2, 4, 0, .null, [], []),
  (2, .bipush 40, 2, 0, 0, .int 40, [], []),
  (4, .if_icmp .le 5, 3, 9, 0, .null, [], []),
  (7, .iconst 0, 1, 0, 0, .int 0, [], []),
  (8, .ireturn, 1, 0, 0, .int 0, [], []),
  (9, .iload_n 1, 1, 1, 0, .null, [], []),
  (10, .istore 5, 2, 5, 0, .null, [], []),
  (12, .iconst 0, 1, 0, 0, .int 0, [], []),
  (13, .istore 6, 2, 6, 0, .null, [], []),
  (15, .iload 6, 2, 6, 0, .null, [], []),
  (17, .bipush 8, 2, 0, 0, .int 8, [], []),
  (19, .if_icmp .ge 35, 3, 54, 0, .null, [], []),
  (22, .iload 5, 2, 5, 0, .null, [], []),
  (24, .ifCond .le 30, 3, 54, 0, .null, [], []),
  (27, .getstatic 43, 3, 1001, 0, .null, [], [1]),
  (30, .iload 5, 2, 5, 0, .null, [], []),
  (32, .iconst 4, 1, 0, 0, .int 4, [], []),
  (33, .imul, 1, 0, 0, .null, [], []),
  (34, .iload_n 2, 1, 2, 0, .null, [], []),
  (35, .iadd, 1, 0, 0, .null, [], []),
  (36, .iaload, 1, 0, 0, .null, [], []),
  (37, .ifCond .ne 17, 3, 54, 0, .null, [], []),
  (40, .getstatic 26, 3, 1000, 0, .null, [], [0]),
  (43, .iload 5, 2, 5, 0, .null, [], []),
  (45, .iaload, 1, 0, 0, .null, [], []),
  (46, .istore 5, 2, 5, 0, .null, [], []),
  (48, .iinc 6 1, 3, 6, 0, .int 1, [], []),
  (51, .goto (-36), 3, 15, 0, .null, [], []),
  (54, .iload 5, 2, 5, 0, .null, [], []),
  (56, .ifCond .ge 7, 3, 63, 0, .null, [], []),
  (59, .iconst 0, 1, 0, 0, .int 0, [], []),
  (60, .goto 22, 3, 82, 0, .null, [], []),
  (63, .aload_n 0, 1, 0, 0, .null, [], []),
  (64, .getstatic 43, 3, 1001, 0, .null, [], [1]),
  (67, .iload 5, 2, 5, 0, .null, [], []),
  (69, .iconst 4, 1, 0, 0, .int 4, [], []),
  (70, .imul, 1, 0, 0, .null, [], []),
  (71, .iload_n 2, 1, 2, 0, .null, [], []),
  (72, .iadd, 1, 0, 0, .null, [], []),
  (73, .iaload, 1, 0, 0, .null, [], []),
  (74, .iload_n 3, 1, 3, 0, .null, [], []),
  (75, .iload 4, 2, 4, 0, .null, [], []),
  (77, .iconst 1, 1, 0, 0, .int 1, [], []),
  (78, .iadd, 1, 0, 0, .null, [], []),
  (79, .invokevirtual 46, 3, 9, 3, .int 0, [], [3]),
  (82, .ireturn, 1, 0, 0, .int 0, [], [])],
  [(15, [true, false, true, true, true, true, true])], 7)
/-- 9: LeastPays$Bodies.run(III)I -/
def kX0_run : j_K := ([
  (0, .aload_n 0, 1, 0, 0, .null, [], []),
  (1, .getfield 29, 3, 0, 3, .int 0, [], [3]),
  (4, .bipush 24, 2, 0, 0, .int 24, [], []),
  (6, .if_icmp .ge 13, 3, 19, 0, .null, [], []),
  (9, .aload_n 0, 1, 0, 0, .null, [], []),
  (10, .getfield 15, 3, 0, 1, .null, [], [1]),
  (13, .aload_n 0, 1, 0, 0, .null, [], []),
  (14, .getfield 29, 3, 0, 3, .int 0, [], [3]),
  (17, .iload_n 1, 1, 1, 0, .null, [], []),
  (18, .iastore, 1, 0, 0, .null, [], []),
  (19, .aload_n 0, 1, 0, 0, .null, [], []),
  (20, .dup, 1, 0, 0, .null, [], []),
  (21, .getfield 29, 3, 0, 3, .int 0, [], [3]),
  (24, .iconst 1, 1, 0, 0, .int 1, [], []),
  (25, .iadd, 1, 0, 0, .null, [], []),
  (26, .putfield 29, 3, 0, 3, .int 0, [], [3]),
  (29, .iload_n 1, 1, 1, 0, .null, [], []),
  (30, .lookupswitch 303 #[(1, 114), (2, 121), (10, 137), (11, 147), (20, 154), (30, 169), (40, 183), (41, 198), (50, 213), (60, 234), (70, 249), (80, 265), (81, 287)], 114, 333, 0, .null, [(1, 144), (2, 151), (10, 167), (11, 177), (20, 184), (30, 199), (40, 213), (41, 228), (50, 243), (60, 264), (70, 279), (80, 295), (81, 317)], []),
  (144, .iload_n 2, 1, 2, 0, .null, [], []),
  (145, .aload_n 0, 1, 0, 0, .null, [], []),
  (146, .getfield 32, 3, 0, 4, .int 0, [], [4]),
  (149, .iadd, 1, 0, 0, .null, [], []),
  (150, .ireturn, 1, 0, 0, .int 0, [], []),
  (151, .aload_n 0, 1, 0, 0, .null, [], []),
  (152, .iconst 1, 1, 0, 0, .int 1, [], []),
  (153, .iload_n 2, 1, 2, 0, .null, [], []),
  (154, .iload_n 3, 1, 3, 0, .null, [], []),
  (155, .invokevirtual 35, 3, 7, 3, .int 0, [], [1]),
  (158, .aload_n 0, 1, 0, 0, .null, [], []),
  (159, .iconst 2, 1, 0, 0, .int 2, [], []),
  (160, .iconst 1, 1, 0, 0, .int 1, [], []),
  (161, .iload_n 3, 1, 3, 0, .null, [], []),
  (162, .invokevirtual 35, 3, 7, 3, .int 0, [], [1]),
  (165, .isub, 1, 0, 0, .null, [], []),
  (166, .ireturn, 1, 0, 0, .int 0, [], []),
  (167, .aload_n 0, 1, 0, 0, .null, [], []),
  (168, .iconst 0, 1, 0, 0, .int 0, [], []),
  (169, .iload_n 2, 1, 2, 0, .null, [], []),
  (170, .iload_n 3, 1, 3, 0, .null, [], []),
  (171, .invokevirtual 35, 3, 7, 3, .int 0, [], [1]),
  (174, .iconst 2, 1, 0, 0, .int 2, [], []),
  (175, .imul, 1, 0, 0, .null, [], []),
  (176, .ireturn, 1, 0, 0, .int 0, [], []),
  (177, .iload_n 2, 1, 2, 0, .null, [], []),
  (178, .aload_n 0, 1, 0, 0, .null, [], []),
  (179, .getfield 32, 3, 0, 4, .int 0, [], [4]),
  (182, .ixor, 1, 0, 0, .null, [], []),
  (183, .ireturn, 1, 0, 0, .int 0, [], []),
  (184, .aload_n 0, 1, 0, 0, .null, [], []),
  (185, .getstatic 26, 3, 1000, 0, .null, [], [0]),
  (188, .iconst 1, 1, 0, 0, .int 1, [], []),
  (189, .iaload, 1, 0, 0, .null, [], []),
  (190, .iconst 0, 1, 0, 0, .int 0, [], []),
  (191, .iload_n 2, 1, 2, 0, .null, [], []),
  (192, .iload_n 3, 1, 3, 0, .null, [], []),
  (193, .invokevirtual 39, 3, 8, 4, .int 0, [], [2]),
  (196, .iconst 3, 1, 0, 0, .int 3, [], []),
  (197, .iadd, 1, 0, 0, .null, [], []),
  (198, .ireturn, 1, 0, 0, .int 0, [], []),
  (199, .aload_n 0, 1, 0, 0, .null, [], []),
  (200, .getstatic 26, 3, 1000, 0, .null, [], [0]),
  (203, .iconst 2, 1, 0, 0, .int 2, [], []),
  (204, .iaload, 1, 0, 0, .null, [], []),
  (205, .iconst 1, 1, 0, 0, .int 1, [], []),
  (206, .iload_n 2, 1, 2, 0, .null, [], []),
  (207, .iload_n 3, 1, 3, 0, .null, [], []),
  (208, .invokevirtual 39, 3, 8, 4, .int 0, [], [2]),
  (211, .ineg, 1, 0, 0, .null, [], []),
  (212, .ireturn, 1, 0, 0, .int 0, [], []),
  (213, .aload_n 0, 1, 0, 0, .null, [], []),
  (214, .getstatic 26, 3, 1000, 0, .null, [], [0]),
  (217, .iconst 3, 1, 0, 0, .int 3, [], []),
  (218, .iaload, 1, 0, 0, .null, [], []),
  (219, .iconst 2, 1, 0, 0, .int 2, [], []),
  (220, .iload_n 2, 1, 2, 0, .null, [], []),
  (221, .iload_n 3, 1, 3, 0, .null, [], []),
  (222, .invokevirtual 39, 3, 8, 4, .int 0, [], [2]),
  (225, .iconst 3, 1, 0, 0, .int 3, [], []),
  (226, .imul, 1, 0, 0, .null, [], []),
  (227, .ireturn, 1, 0, 0, .int 0, [], []),
  (228, .aload_n 0, 1, 0, 0, .null, [], []),
  (229, .getstatic 26, 3, 1000, 0, .null, [], [0]),
  (232, .iconst 3, 1, 0, 0, .int 3, [], []),
  (233, .iaload, 1, 0, 0, .null, [], []),
  (234, .iconst 1, 1, 0, 0, .int 1, [], []),
  (235, .iload_n 2, 1, 2, 0, .null, [], []),
  (236, .iconst 1, 1, 0, 0, .int 1, [], []),
  (237, .iadd, 1, 0, 0, .null, [], []),
  (238, .iload_n 3, 1, 3, 0, .null, [], []),
  (239, .invokevirtual 39, 3, 8, 4, .int 0, [], [2]),
  (242, .ireturn, 1, 0, 0, .int 0, [], []),
  (243, .aload_n 0, 1, 0, 0, .null, [], []),
  (244, .getstatic 26, 3, 1000, 0, .null, [], [0]),
  (247, .iconst 4, 1, 0, 0, .int 4, [], []),
  (248, .iaload, 1, 0, 0, .null, [], []),
  (249, .iconst 2, 1, 0, 0, .int 2, [], []),
  (250, .iload_n 2, 1, 2, 0, .null, [], []),
  (251, .iload_n 3, 1, 3, 0, .null, [], []),
  (252, .invokevirtual 39, 3, 8, 4, .int 0, [], [2]),
  (255, .aload_n 0, 1, 0, 0, .null, [], []),
  (256, .iconst 0, 1, 0, 0, .int 0, [], []),
  (257, .iconst 2, 1, 0, 0, .int 2, [], []),
  (258, .iload_n 3, 1, 3, 0, .null, [], []),
  (259, .invokevirtual 35, 3, 7, 3, .int 0, [], [1]),
  (262, .isub, 1, 0, 0, .null, [], []),
  (263, .ireturn, 1, 0, 0, .int 0, [], []),
  (264, .aload_n 0, 1, 0, 0, .null, [], []),
  (265, .getstatic 26, 3, 1000, 0, .null, [], [0]),
  (268, .iconst 5, 1, 0, 0, .int 5, [], []),
  (269, .iaload, 1, 0, 0, .null, [], []),
  (270, .iconst 3, 1, 0, 0, .int 3, [], []),
  (271, .iload_n 2, 1, 2, 0, .null, [], []),
  (272, .iload_n 3, 1, 3, 0, .null, [], []),
  (273, .invokevirtual 39, 3, 8, 4, .int 0, [], [2]),
  (276, .iconst 5, 1, 0, 0, .int 5, [], []),
  (277, .ixor, 1, 0, 0, .null, [], []),
  (278, .ireturn, 1, 0, 0, .int 0, [], []),
  (279, .aload_n 0, 1, 0, 0, .null, [], []),
  (280, .getstatic 26, 3, 1000, 0, .null, [], [0]),
  (283, .bipush 6, 2, 0, 0, .int 6, [], []),
  (285, .iaload, 1, 0, 0, .null, [], []),
  (286, .iconst 0, 1, 0, 0, .int 0, [], []),
  (287, .iload_n 2, 1, 2, 0, .null, [], []),
  (288, .iload_n 3, 1, 3, 0, .null, [], []),
  (289, .invokevirtual 39, 3, 8, 4, .int 0, [], [2]),
  (292, .iconst 2, 1, 0, 0, .int 2, [], []),
  (293, .imul, 1, 0, 0, .null, [], []),
  (294, .ireturn, 1, 0, 0, .int 0, [], []),
  (295, .aload_n 0, 1, 0, 0, .null, [], []),
  (296, .getstatic 26, 3, 1000, 0, .null, [], [0]),
  (299, .bipush 7, 2, 0, 0, .int 7, [], []),
  (301, .iaload, 1, 0, 0, .null, [], []),
  (302, .iconst 1, 1, 0, 0, .int 1, [], []),
  (303, .iload_n 2, 1, 2, 0, .null, [], []),
  (304, .iload_n 3, 1, 3, 0, .null, [], []),
  (305, .invokevirtual 39, 3, 8, 4, .int 0, [], [2]),
  (308, .aload_n 0, 1, 0, 0, .null, [], []),
  (309, .iconst 2, 1, 0, 0, .int 2, [], []),
  (310, .iconst 2, 1, 0, 0, .int 2, [], []),
  (311, .iload_n 3, 1, 3, 0, .null, [], []),
  (312, .invokevirtual 35, 3, 7, 3, .int 0, [], [1]),
  (315, .iadd, 1, 0, 0, .null, [], []),
  (316, .ireturn, 1, 0, 0, .int 0, [], []),
  (317, .aload_n 0, 1, 0, 0, .null, [], []),
  (318, .getstatic 26, 3, 1000, 0, .null, [], [0]),
  (321, .bipush 7, 2, 0, 0, .int 7, [], []),
  (323, .iaload, 1, 0, 0, .null, [], []),
  (324, .iconst 3, 1, 0, 0, .int 3, [], []),
  (325, .iload_n 2, 1, 2, 0, .null, [], []),
  (326, .iload_n 3, 1, 3, 0, .null, [], []),
  (327, .invokevirtual 39, 3, 8, 4, .int 0, [], [2]),
  (330, .iconst 1, 1, 0, 0, .int 1, [], []),
  (331, .isub, 1, 0, 0, .null, [], []),
  (332, .ireturn, 1, 0, 0, .int 0, [], []),
  (333, .iconst 0, 1, 0, 0, .int 0, [], []),
  (334, .ireturn, 1, 0, 0, .int 0, [], [])],
  [(19, [true, true, true, true])], 4)
/-- 10: LeastPays$Changes.<init>()V -/
def kX1_init : j_K := ([
  (0, .aload_n 0, 1, 0, 0, .null, [], []),
  (1, .invokespecial 3, 3, 999, 0, .null, [], [1]),
  (4, .aload_n 0, 1, 0, 0, .null, [], []),
  (5, .bipush 40, 2, 0, 0, .int 40, [], []),
  (7, .newarray .int, 2, 0, 0, .int 0, [], []),
  (9, .putfield 11, 3, 1, 0, .null, [], [5]),
  (12, .aload_n 0, 1, 0, 0, .null, [], []),
  (13, .bipush 40, 2, 0, 0, .int 40, [], []),
  (15, .newarray .int, 2, 0, 0, .int 0, [], []),
  (17, .putfield 15, 3, 1, 1, .null, [], [6]),
  (20, .aload_n 0, 1, 0, 0, .null, [], []),
  (21, .bipush 40, 2, 0, 0, .int 40, [], []),
  (23, .newarray .int, 2, 0, 0, .int 0, [], []),
  (25, .putfield 18, 3, 1, 2, .null, [], [7]),
  (28, .aload_n 0, 1, 0, 0, .null, [], []),
  (29, .bipush 40, 2, 0, 0, .int 40, [], []),
  (31, .newarray .int, 2, 0, 0, .int 0, [], []),
  (33, .putfield 21, 3, 1, 3, .null, [], [8]),
  (36, .return_, 1, 0, 0, .null, [], [])],
  [], 1)
/-- 11: LeastPays$Changes.note(IIII)V -/
def kX1_note : j_K := ([
  (0, .aload_n 0, 1, 0, 0, .null, [], []),
  (1, .getfield 24, 3, 1, 4, .int 0, [], [9]),
  (4, .bipush 40, 2, 0, 0, .int 40, [], []),
  (6, .if_icmp .lt 7, 3, 13, 0, .null, [], []),
  (9, .aload_n 0, 1, 0, 0, .null, [], []),
  (10, .invokevirtual 28, 4, 12, 0, .null, [], [4]),
  (13, .aload_n 0, 1, 0, 0, .null, [], []),
  (14, .getfield 11, 3, 1, 0, .null, [], [5]),
  (17, .aload_n 0, 1, 0, 0, .null, [], []),
  (18, .getfield 24, 3, 1, 4, .int 0, [], [9]),
  (21, .iload_n 1, 1, 1, 0, .null, [], []),
  (22, .iastore, 1, 0, 0, .null, [], []),
  (23, .aload_n 0, 1, 0, 0, .null, [], []),
  (24, .getfield 15, 3, 1, 1, .null, [], [6]),
  (27, .aload_n 0, 1, 0, 0, .null, [], []),
  (28, .getfield 24, 3, 1, 4, .int 0, [], [9]),
  (31, .iload_n 2, 1, 2, 0, .null, [], []),
  (32, .iastore, 1, 0, 0, .null, [], []),
  (33, .aload_n 0, 1, 0, 0, .null, [], []),
  (34, .getfield 18, 3, 1, 2, .null, [], [7]),
  (37, .aload_n 0, 1, 0, 0, .null, [], []),
  (38, .getfield 24, 3, 1, 4, .int 0, [], [9]),
  (41, .iload_n 3, 1, 3, 0, .null, [], []),
  (42, .iastore, 1, 0, 0, .null, [], []),
  (43, .aload_n 0, 1, 0, 0, .null, [], []),
  (44, .getfield 21, 3, 1, 3, .null, [], [8]),
  (47, .aload_n 0, 1, 0, 0, .null, [], []),
  (48, .getfield 24, 3, 1, 4, .int 0, [], [9]),
  (51, .iload 4, 2, 4, 0, .null, [], []),
  (53, .iastore, 1, 0, 0, .null, [], []),
  (54, .aload_n 0, 1, 0, 0, .null, [], []),
  (55, .dup, 1, 0, 0, .null, [], []),
  (56, .getfield 24, 3, 1, 4, .int 0, [], [9]),
  (59, .iconst 1, 1, 0, 0, .int 1, [], []),
  (60, .iadd, 1, 0, 0, .null, [], []),
  (61, .putfield 24, 3, 1, 4, .int 0, [], [9]),
  (64, .aload_n 0, 1, 0, 0, .null, [], []),
  (65, .aload_n 0, 1, 0, 0, .null, [], []),
  (66, .getfield 24, 3, 1, 4, .int 0, [], [9]),
  (69, .putfield 31, 3, 1, 5, .int 0, [], [10]),
  (72, .return_, 1, 0, 0, .null, [], [])],
  [(13, [true, true, true, true, true])], 5)
/-- 12: LeastPays$Changes.dropOldest()V -/
def kX1_dropOldest : j_K := ([
  (0, .aload_n 0, 1, 0, 0, .null, [], []),
  (1, .getfield 11, 3, 1, 0, .null, [], [5]),
  (4, .iconst 1, 1, 0, 0, .int 1, [], []),
  (5, .aload_n 0, 1, 0, 0, .null, [], []),
  (6, .getfield 11, 3, 1, 0, .null, [], [5]),
  (9, .iconst 0, 1, 0, 0, .int 0, [], []),
  (10, .bipush 39, 2, 0, 0, .int 39, [], []),
  (12, .invokestatic 34, 3, 1000, 5, .null, [], [0]),
  (15, .aload_n 0, 1, 0, 0, .null, [], []),
  (16, .getfield 15, 3, 1, 1, .null, [], [6]),
  (19, .iconst 1, 1, 0, 0, .int 1, [], []),
  (20, .aload_n 0, 1, 0, 0, .null, [], []),
  (21, .getfield 15, 3, 1, 1, .null, [], [6]),
  (24, .iconst 0, 1, 0, 0, .int 0, [], []),
  (25, .bipush 39, 2, 0, 0, .int 39, [], []),
  (27, .invokestatic 34, 3, 1000, 5, .null, [], [0]),
  (30, .aload_n 0, 1, 0, 0, .null, [], []),
  (31, .getfield 18, 3, 1, 2, .null, [], [7]),
  (34, .iconst 1, 1, 0, 0, .int 1, [], []),
  (35, .aload_n 0, 1, 0, 0, .null, [], []),
  (36, .getfield 18, 3, 1, 2, .null, [], [7]),
  (39, .iconst 0, 1, 0, 0, .int 0, [], []),
  (40, .bipush 39, 2, 0, 0, .int 39, [], []),
  (42, .invokestatic 34, 3, 1000, 5, .null, [], [0]),
  (45, .aload_n 0, 1, 0, 0, .null, [], []),
  (46, .getfield 21, 3, 1, 3, .null, [], [8]),
  (49, .iconst 1, 1, 0, 0, .int 1, [], []),
  (50, .aload_n 0, 1, 0, 0, .null, [], []),
  (51, .getfield 21, 3, 1, 3, .null, [], [8]),
  (54, .iconst 0, 1, 0, 0, .int 0, [], []),
  (55, .bipush 39, 2, 0, 0, .int 39, [], []),
  (57, .invokestatic 34, 3, 1000, 5, .null, [], [0]),
  (60, .aload_n 0, 1, 0, 0, .null, [], []),
  (61, .bipush 39, 2, 0, 0, .int 39, [], []),
  (63, .putfield 24, 3, 1, 4, .int 0, [], [9]),
  (66, .return_, 1, 0, 0, .null, [], [])],
  [], 1)
/-- 13: LeastPays$Changes.takeBack(LLeastPays$Guests;)I -/
def kX1_takeBack : j_K := ([
  (0, .aload_n 0, 1, 0, 0, .null, [], []),
  (1, .getfield 24, 3, 1, 4, .int 0, [], [9]),
  (4, .ifCond .gt 6, 3, 10, 0, .null, [], []),
  (7, .bipush (-5), 2, 0, 0, .int (-5), [], []),
  (9, .ireturn, 1, 0, 0, .int 0, [], []),
  (10, .aload_n 0, 1, 0, 0, .null, [], []),
  (11, .dup, 1, 0, 0, .null, [], []),
  (12, .getfield 24, 3, 1, 4, .int 0, [], [9]),
  (15, .iconst 1, 1, 0, 0, .int 1, [], []),
  (16, .isub, 1, 0, 0, .null, [], []),
  (17, .putfield 24, 3, 1, 4, .int 0, [], [9]),
  (20, .aload_n 1, 1, 1, 0, .null, [], []),
  (21, .aload_n 0, 1, 0, 0, .null, [], []),
  (22, .getfield 11, 3, 1, 0, .null, [], [5]),
  (25, .aload_n 0, 1, 0, 0, .null, [], []),
  (26, .getfield 24, 3, 1, 4, .int 0, [], [9]),
  (29, .iaload, 1, 0, 0, .null, [], []),
  (30, .aload_n 0, 1, 0, 0, .null, [], []),
  (31, .getfield 15, 3, 1, 1, .null, [], [6]),
  (34, .aload_n 0, 1, 0, 0, .null, [], []),
  (35, .getfield 24, 3, 1, 4, .int 0, [], [9]),
  (38, .iaload, 1, 0, 0, .null, [], []),
  (39, .aload_n 0, 1, 0, 0, .null, [], []),
  (40, .getfield 18, 3, 1, 2, .null, [], [7]),
  (43, .aload_n 0, 1, 0, 0, .null, [], []),
  (44, .getfield 24, 3, 1, 4, .int 0, [], [9]),
  (47, .iaload, 1, 0, 0, .null, [], []),
  (48, .invokevirtual 40, 5, 20, 3, .null, [], [5]),
  (51, .aload_n 0, 1, 0, 0, .null, [], []),
  (52, .getfield 24, 3, 1, 4, .int 0, [], [9]),
  (55, .ireturn, 1, 0, 0, .int 0, [], [])],
  [], 2)
/-- 14: LeastPays$Changes.doAgain(LLeastPays$Guests;)I -/
def kX1_doAgain : j_K := ([
  (0, .aload_n 0, 1, 0, 0, .null, [], []),
  (1, .getfield 24, 3, 1, 4, .int 0, [], [9]),
  (4, .aload_n 0, 1, 0, 0, .null, [], []),
  (5, .getfield 31, 3, 1, 5, .int 0, [], [10]),
  (8, .if_icmp .lt 6, 3, 14, 0, .null, [], []),
  (11, .bipush (-5), 2, 0, 0, .int (-5), [], []),
  (13, .ireturn, 1, 0, 0, .int 0, [], []),
  (14, .aload_n 1, 1, 1, 0, .null, [], []),
  (15, .aload_n 0, 1, 0, 0, .null, [], []),
  (16, .getfield 11, 3, 1, 0, .null, [], [5]),
  (19, .aload_n 0, 1, 0, 0, .null, [], []),
  (20, .getfield 24, 3, 1, 4, .int 0, [], [9]),
  (23, .iaload, 1, 0, 0, .null, [], []),
  (24, .aload_n 0, 1, 0, 0, .null, [], []),
  (25, .getfield 15, 3, 1, 1, .null, [], [6]),
  (28, .aload_n 0, 1, 0, 0, .null, [], []),
  (29, .getfield 24, 3, 1, 4, .int 0, [], [9]),
  (32, .iaload, 1, 0, 0, .null, [], []),
  (33, .aload_n 0, 1, 0, 0, .null, [], []),
  (34, .getfield 21, 3, 1, 3, .null, [], [8]),
  (37, .aload_n 0, 1, 0, 0, .null, [], []),
  (38, .getfield 24, 3, 1, 4, .int 0, [], [9]),
  (41, .iaload, 1, 0, 0, .null, [], []),
  (42, .invokevirtual 40, 5, 20, 3, .null, [], [5]),
  (45, .aload_n 0, 1, 0, 0, .null, [], []),
  (46, .dup, 1, 0, 0, .null, [], []),
  (47, .getfield 24, 3, 1, 4, .int 0, [], [9]),
  (50, .iconst 1, 1, 0, 0, .int 1, [], []),
  (51, .iadd, 1, 0, 0, .null, [], []),
  (52, .putfield 24, 3, 1, 4, .int 0, [], [9]),
  (55, .aload_n 0, 1, 0, 0, .null, [], []),
  (56, .getfield 31, 3, 1, 5, .int 0, [], [10]),
  (59, .aload_n 0, 1, 0, 0, .null, [], []),
  (60, .getfield 24, 3, 1, 4, .int 0, [], [9]),
  (63, .isub, 1, 0, 0, .null, [], []),
  (64, .ireturn, 1, 0, 0, .int 0, [], [])],
  [], 2)
/-- 15: LeastPays$Guests.<init>()V -/
def kX2_init : j_K := ([
  (0, .aload_n 0, 1, 0, 0, .null, [], []),
  (1, .invokespecial 3, 3, 999, 0, .null, [], [2]),
  (4, .aload_n 0, 1, 0, 0, .null, [], []),
  (5, .bipush 6, 2, 0, 0, .int 6, [], []),
  (7, .newarray .int, 2, 0, 0, .int 0, [], []),
  (9, .putfield 9, 3, 2, 0, .null, [], [11]),
  (12, .aload_n 0, 1, 0, 0, .null, [], []),
  (13, .bipush 6, 2, 0, 0, .int 6, [], []),
  (15, .newarray .int, 2, 0, 0, .int 0, [], []),
  (17, .putfield 15, 3, 2, 1, .null, [], [12]),
  (20, .aload_n 0, 1, 0, 0, .null, [], []),
  (21, .bipush 6, 2, 0, 0, .int 6, [], []),
  (23, .newarray .int, 2, 0, 0, .int 0, [], []),
  (25, .putfield 18, 3, 2, 2, .null, [], [13]),
  (28, .aload_n 0, 1, 0, 0, .null, [], []),
  (29, .bipush 6, 2, 0, 0, .int 6, [], []),
  (31, .newarray .int, 2, 0, 0, .int 0, [], []),
  (33, .putfield 21, 3, 2, 3, .null, [], [14]),
  (36, .aload_n 0, 1, 0, 0, .null, [], []),
  (37, .bipush 6, 2, 0, 0, .int 6, [], []),
  (39, .newarray .int, 2, 0, 0, .int 0, [], []),
  (41, .putfield 24, 3, 2, 4, .null, [], [15]),
  (44, .aload_n 0, 1, 0, 0, .null, [], []),
  (45, .bipush 6, 2, 0, 0, .int 6, [], []),
  (47, .newarray .int, 2, 0, 0, .int 0, [], []),
  (49, .putfield 27, 3, 2, 5, .null, [], [16]),
  (52, .aload_n 0, 1, 0, 0, .null, [], []),
  (53, .bipush 60, 2, 0, 0, .int 60, [], []),
  (55, .putfield 30, 3, 2, 7, .int 0, [], [17]),
  (58, .aload_n 0, 1, 0, 0, .null, [], []),
  (59, .iconst 0, 1, 0, 0, .int 0, [], []),
  (60, .putfield 34, 3, 2, 8, .int 0, [], [18]),
  (63, .aload_n 0, 1, 0, 0, .null, [], []),
  (64, .bipush 10, 2, 0, 0, .int 10, [], []),
  (66, .putfield 37, 3, 2, 9, .int 0, [], [19]),
  (69, .return_, 1, 0, 0, .null, [], [])],
  [], 1)
/-- 16: LeastPays$Guests.has(I)Z -/
def kX2_has : j_K := ([
  (0, .iload_n 1, 1, 1, 0, .null, [], []),
  (1, .ifCond .lt 15, 3, 16, 0, .null, [], []),
  (4, .iload_n 1, 1, 1, 0, .null, [], []),
  (5, .aload_n 0, 1, 0, 0, .null, [], []),
  (6, .getfield 40, 3, 2, 6, .int 0, [], [20]),
  (9, .if_icmp .ge 7, 3, 16, 0, .null, [], []),
  (12, .iconst 1, 1, 0, 0, .int 1, [], []),
  (13, .goto 4, 3, 17, 0, .null, [], []),
  (16, .iconst 0, 1, 0, 0, .int 0, [], []),
  (17, .ireturn, 1, 0, 0, .long 0, [], [])],
  [], 2)
/-- 17: LeastPays$Guests.welcome(II)V -/
def kX2_welcome : j_K := ([
  (0, .aload_n 0, 1, 0, 0, .null, [], []),
  (1, .getfield 40, 3, 2, 6, .int 0, [], [20]),
  (4, .bipush 6, 2, 0, 0, .int 6, [], []),
  (6, .if_icmp .ge 43, 3, 49, 0, .null, [], []),
  (9, .aload_n 0, 1, 0, 0, .null, [], []),
  (10, .getfield 9, 3, 2, 0, .null, [], [11]),
  (13, .aload_n 0, 1, 0, 0, .null, [], []),
  (14, .getfield 40, 3, 2, 6, .int 0, [], [20]),
  (17, .iload_n 1, 1, 1, 0, .null, [], []),
  (18, .iastore, 1, 0, 0, .null, [], []),
  (19, .aload_n 0, 1, 0, 0, .null, [], []),
  (20, .getfield 15, 3, 2, 1, .null, [], [12]),
  (23, .aload_n 0, 1, 0, 0, .null, [], []),
  (24, .getfield 40, 3, 2, 6, .int 0, [], [20]),
  (27, .iload_n 2, 1, 2, 0, .null, [], []),
  (28, .iastore, 1, 0, 0, .null, [], []),
  (29, .aload_n 0, 1, 0, 0, .null, [], []),
  (30, .getfield 24, 3, 2, 4, .null, [], [15]),
  (33, .aload_n 0, 1, 0, 0, .null, [], []),
  (34, .getfield 40, 3, 2, 6, .int 0, [], [20]),
  (37, .iconst (-1), 1, 0, 0, .int (-1), [], []),
  (38, .iastore, 1, 0, 0, .null, [], []),
  (39, .aload_n 0, 1, 0, 0, .null, [], []),
  (40, .dup, 1, 0, 0, .null, [], []),
  (41, .getfield 40, 3, 2, 6, .int 0, [], [20]),
  (44, .iconst 1, 1, 0, 0, .int 1, [], []),
  (45, .iadd, 1, 0, 0, .null, [], []),
  (46, .putfield 40, 3, 2, 6, .int 0, [], [20]),
  (49, .return_, 1, 0, 0, .null, [], [])],
  [], 3)
/-- 18: LeastPays$Guests.allows(III)Z -/
def kX2_allows : j_K := ([
  (0, .iload_n 2, 1, 2, 0, .null, [], []),
  (1, .iconst 4, 1, 0, 0, .int 4, [], []),
  (2, .if_icmp .lt 10, 3, 12, 0, .null, [], []),
  (5, .iload_n 1, 1, 1, 0, .null, [], []),
  (6, .ifCond .eq 16, 3, 22, 0, .null, [], []),
  (9, .goto 11, 3, 20, 0, .null, [], []),
  (12, .aload_n 0, 1, 0, 0, .null, [], []),
  (13, .iload_n 1, 1, 1, 0, .null, [], []),
  (14, .invokevirtual 43, 5, 16, 1, .int 0, [], [6]),
  (17, .ifCond .ne 5, 3, 22, 0, .null, [], []),
  (20, .iconst 0, 1, 0, 0, .int 0, [], []),
  (21, .ireturn, 1, 0, 0, .long 0, [], []),
  (22, .iload_n 2, 1, 2, 0, .null, [], []),
  (23, .tableswitch 93 0 6 #[41, 49, 61, 49, 69, 78, 85], 41, 116, 0, .null, [(0, 64), (1, 72), (2, 84), (3, 72), (4, 92), (5, 101), (6, 108)], []),
  (64, .iload_n 3, 1, 3, 0, .null, [], []),
  (65, .iconst 0, 1, 0, 0, .int 0, [], []),
  (66, .bipush 99, 2, 0, 0, .int 99, [], []),
  (68, .invokestatic 47, 3, 147, 3, .int 0, [], [7]),
  (71, .ireturn, 1, 0, 0, .long 0, [], []),
  (72, .iload_n 3, 1, 3, 0, .null, [], []),
  (73, .iconst 0, 1, 0, 0, .int 0, [], []),
  (74, .aload_n 0, 1, 0, 0, .null, [], []),
  (75, .getfield 9, 3, 2, 0, .null, [], [11]),
  (78, .iload_n 1, 1, 1, 0, .null, [], []),
  (79, .iaload, 1, 0, 0, .null, [], []),
  (80, .invokestatic 47, 3, 147, 3, .int 0, [], [7]),
  (83, .ireturn, 1, 0, 0, .long 0, [], []),
  (84, .iload_n 3, 1, 3, 0, .null, [], []),
  (85, .iconst 0, 1, 0, 0, .int 0, [], []),
  (86, .bipush 12, 2, 0, 0, .int 12, [], []),
  (88, .invokestatic 47, 3, 147, 3, .int 0, [], [7]),
  (91, .ireturn, 1, 0, 0, .long 0, [], []),
  (92, .iload_n 3, 1, 3, 0, .null, [], []),
  (93, .iconst 0, 1, 0, 0, .int 0, [], []),
  (94, .sipush 599, 3, 0, 0, .int 599, [], []),
  (97, .invokestatic 47, 3, 147, 3, .int 0, [], [7]),
  (100, .ireturn, 1, 0, 0, .long 0, [], []),
  (101, .iload_n 3, 1, 3, 0, .null, [], []),
  (102, .iconst 0, 1, 0, 0, .int 0, [], []),
  (103, .iconst 4, 1, 0, 0, .int 4, [], []),
  (104, .invokestatic 47, 3, 147, 3, .int 0, [], [7]),
  (107, .ireturn, 1, 0, 0, .long 0, [], []),
  (108, .iload_n 3, 1, 3, 0, .null, [], []),
  (109, .iconst 1, 1, 0, 0, .int 1, [], []),
  (110, .bipush 99, 2, 0, 0, .int 99, [], []),
  (112, .invokestatic 47, 3, 147, 3, .int 0, [], [7]),
  (115, .ireturn, 1, 0, 0, .long 0, [], []),
  (116, .iconst 0, 1, 0, 0, .int 0, [], []),
  (117, .ireturn, 1, 0, 0, .long 0, [], [])],
  [(22, [true, true, true, true])], 4)
/-- 19: LeastPays$Guests.told(II)I -/
def kX2_told : j_K := ([
  (0, .iload_n 2, 1, 2, 0, .null, [], []),
  (1, .tableswitch 77 0 5 #[39, 46, 53, 60, 67, 72], 39, 78, 0, .null, [(0, 40), (1, 47), (2, 54), (3, 61), (4, 68), (5, 73)], []),
  (40, .aload_n 0, 1, 0, 0, .null, [], []),
  (41, .getfield 9, 3, 2, 0, .null, [], [11]),
  (44, .iload_n 1, 1, 1, 0, .null, [], []),
  (45, .iaload, 1, 0, 0, .null, [], []),
  (46, .ireturn, 1, 0, 0, .int 0, [], []),
  (47, .aload_n 0, 1, 0, 0, .null, [], []),
  (48, .getfield 15, 3, 2, 1, .null, [], [12]),
  (51, .iload_n 1, 1, 1, 0, .null, [], []),
  (52, .iaload, 1, 0, 0, .null, [], []),
  (53, .ireturn, 1, 0, 0, .int 0, [], []),
  (54, .aload_n 0, 1, 0, 0, .null, [], []),
  (55, .getfield 18, 3, 2, 2, .null, [], [13]),
  (58, .iload_n 1, 1, 1, 0, .null, [], []),
  (59, .iaload, 1, 0, 0, .null, [], []),
  (60, .ireturn, 1, 0, 0, .int 0, [], []),
  (61, .aload_n 0, 1, 0, 0, .null, [], []),
  (62, .getfield 21, 3, 2, 3, .null, [], [14]),
  (65, .iload_n 1, 1, 1, 0, .null, [], []),
  (66, .iaload, 1, 0, 0, .null, [], []),
  (67, .ireturn, 1, 0, 0, .int 0, [], []),
  (68, .aload_n 0, 1, 0, 0, .null, [], []),
  (69, .getfield 30, 3, 2, 7, .int 0, [], [17]),
  (72, .ireturn, 1, 0, 0, .int 0, [], []),
  (73, .aload_n 0, 1, 0, 0, .null, [], []),
  (74, .getfield 34, 3, 2, 8, .int 0, [], [18]),
  (77, .ireturn, 1, 0, 0, .int 0, [], []),
  (78, .aload_n 0, 1, 0, 0, .null, [], []),
  (79, .getfield 37, 3, 2, 9, .int 0, [], [19]),
  (82, .ireturn, 1, 0, 0, .int 0, [], [])],
  [], 3)
/-- 20: LeastPays$Guests.tell(III)V -/
def kX2_tell : j_K := ([
  (0, .iload_n 2, 1, 2, 0, .null, [], []),
  (1, .tableswitch 95 0 5 #[39, 49, 59, 69, 79, 87], 39, 96, 0, .null, [(0, 40), (1, 50), (2, 60), (3, 70), (4, 80), (5, 88)], []),
  (40, .aload_n 0, 1, 0, 0, .null, [], []),
  (41, .getfield 9, 3, 2, 0, .null, [], [11]),
  (44, .iload_n 1, 1, 1, 0, .null, [], []),
  (45, .iload_n 3, 1, 3, 0, .null, [], []),
  (46, .iastore, 1, 0, 0, .null, [], []),
  (47, .goto 54, 3, 101, 0, .null, [], []),
  (50, .aload_n 0, 1, 0, 0, .null, [], []),
  (51, .getfield 15, 3, 2, 1, .null, [], [12]),
  (54, .iload_n 1, 1, 1, 0, .null, [], []),
  (55, .iload_n 3, 1, 3, 0, .null, [], []),
  (56, .iastore, 1, 0, 0, .null, [], []),
  (57, .goto 44, 3, 101, 0, .null, [], []),
  (60, .aload_n 0, 1, 0, 0, .null, [], []),
  (61, .getfield 18, 3, 2, 2, .null, [], [13]),
  (64, .iload_n 1, 1, 1, 0, .null, [], []),
  (65, .iload_n 3, 1, 3, 0, .null, [], []),
  (66, .iastore, 1, 0, 0, .null, [], []),
  (67, .goto 34, 3, 101, 0, .null, [], []),
  (70, .aload_n 0, 1, 0, 0, .null, [], []),
  (71, .getfield 21, 3, 2, 3, .null, [], [14]),
  (74, .iload_n 1, 1, 1, 0, .null, [], []),
  (75, .iload_n 3, 1, 3, 0, .null, [], []),
  (76, .iastore, 1, 0, 0, .null, [], []),
  (77, .goto 24, 3, 101, 0, .null, [], []),
  (80, .aload_n 0, 1, 0, 0, .null, [], []),
  (81, .iload_n 3, 1, 3, 0, .null, [], []),
  (82, .putfield 30, 3, 2, 7, .int 0, [], [17]),
  (85, .goto 16, 3, 101, 0, .null, [], []),
  (88, .aload_n 0, 1, 0, 0, .null, [], []),
  (89, .iload_n 3, 1, 3, 0, .null, [], []),
  (90, .putfield 34, 3, 2, 8, .int 0, [], [18]),
  (93, .goto 8, 3, 101, 0, .null, [], []),
  (96, .aload_n 0, 1, 0, 0, .null, [], []),
  (97, .iload_n 3, 1, 3, 0, .null, [], []),
  (98, .putfield 37, 3, 2, 9, .int 0, [], [19]),
  (101, .return_, 1, 0, 0, .null, [], [])],
  [], 4)
/-- 21: LeastPays$Hat.<init>()V -/
def kX3_init : j_K := ([
  (0, .aload_n 0, 1, 0, 0, .null, [], []),
  (1, .invokespecial 3, 3, 999, 0, .null, [], [3]),
  (4, .aload_n 0, 1, 0, 0, .null, [], []),
  (5, .bipush 7, 2, 0, 0, .int 7, [], []),
  (7, .newarray .int, 2, 0, 0, .int 0, [], []),
  (9, .putfield 9, 3, 3, 0, .null, [], [21]),
  (12, .return_, 1, 0, 0, .null, [], [])],
  [], 1)
/-- 22: LeastPays$Hat.lay(LLeastPays$Guests;)V -/
def kX3_lay : j_K := ([
  (0, .aload_n 0, 1, 0, 0, .null, [], []),
  (1, .aload_n 1, 1, 1, 0, .null, [], []),
  (2, .getfield 15, 3, 2, 6, .int 0, [], [22]),
  (5, .putfield 21, 3, 3, 1, .int 0, [], [23]),
  (8, .aload_n 0, 1, 0, 0, .null, [], []),
  (9, .aload_n 1, 1, 1, 0, .null, [], []),
  (10, .getfield 22, 3, 2, 8, .int 0, [], [24]),
  (13, .putfield 25, 3, 3, 2, .int 0, [], [25]),
  (16, .aload_n 0, 1, 0, 0, .null, [], []),
  (17, .aload_n 1, 1, 1, 0, .null, [], []),
  (18, .getfield 26, 3, 2, 7, .int 0, [], [26]),
  (21, .putfield 29, 3, 3, 3, .int 0, [], [27]),
  (24, .aload_n 1, 1, 1, 0, .null, [], []),
  (25, .getfield 30, 3, 2, 1, .null, [], [28]),
  (28, .iconst 0, 1, 0, 0, .int 0, [], []),
  (29, .aload_n 0, 1, 0, 0, .null, [], []),
  (30, .getfield 9, 3, 3, 0, .null, [], [21]),
  (33, .iconst 0, 1, 0, 0, .int 0, [], []),
  (34, .aload_n 0, 1, 0, 0, .null, [], []),
  (35, .getfield 21, 3, 3, 1, .int 0, [], [23]),
  (38, .invokestatic 33, 3, 1000, 5, .null, [], [1]),
  (41, .aload_n 0, 1, 0, 0, .null, [], []),
  (42, .invokevirtual 39, 6, 24, 0, .null, [], [8]),
  (45, .return_, 1, 0, 0, .null, [], [])],
  [], 2)
/-- 23: LeastPays$Hat.join(I)V -/
def kX3_join : j_K := ([
  (0, .aload_n 0, 1, 0, 0, .null, [], []),
  (1, .getfield 21, 3, 3, 1, .int 0, [], [23]),
  (4, .aload_n 0, 1, 0, 0, .null, [], []),
  (5, .getfield 9, 3, 3, 0, .null, [], [21]),
  (8, .arraylength, 1, 0, 0, .null, [], []),
  (9, .if_icmp .ge 27, 3, 36, 0, .null, [], []),
  (12, .aload_n 0, 1, 0, 0, .null, [], []),
  (13, .getfield 9, 3, 3, 0, .null, [], [21]),
  (16, .aload_n 0, 1, 0, 0, .null, [], []),
  (17, .getfield 21, 3, 3, 1, .int 0, [], [23]),
  (20, .iload_n 1, 1, 1, 0, .null, [], []),
  (21, .iastore, 1, 0, 0, .null, [], []),
  (22, .aload_n 0, 1, 0, 0, .null, [], []),
  (23, .dup, 1, 0, 0, .null, [], []),
  (24, .getfield 21, 3, 3, 1, .int 0, [], [23]),
  (27, .iconst 1, 1, 0, 0, .int 1, [], []),
  (28, .iadd, 1, 0, 0, .null, [], []),
  (29, .putfield 21, 3, 3, 1, .int 0, [], [23]),
  (32, .aload_n 0, 1, 0, 0, .null, [], []),
  (33, .invokevirtual 39, 6, 24, 0, .null, [], [8]),
  (36, .return_, 1, 0, 0, .null, [], [])],
  [], 2)
/-- 24: LeastPays$Hat.weigh()V -/
def kX3_weigh : j_K := ([
  (0, .aload_n 0, 1, 0, 0, .null, [], []),
  (1, .iconst 0, 1, 0, 0, .int 0, [], []),
  (2, .putfield 42, 3, 3, 4, .int 0, [], [29]),
  (5, .aload_n 0, 1, 0, 0, .null, [], []),
  (6, .iconst (-1), 1, 0, 0, .int (-1), [], []),
  (7, .putfield 45, 3, 3, 7, .int 0, [], [30]),
  (10, .aload_n 0, 1, 0, 0, .null, [], []),
  (11, .iconst (-1), 1, 0, 0, .int (-1), [], []),
  (12, .putfield 48, 3, 3, 8, .int 0, [], [31]),
  (15, .aload_n 0, 1, 0, 0, .null, [], []),
  (16, .iconst (-1), 1, 0, 0, .int (-1), [], []),
  (17, .putfield 51, 3, 3, 9, .int 0, [], [32]),
  (20, .aload_n 0, 1, 0, 0, .null, [], []),
  (21, .iconst 0, 1, 0, 0, .int 0, [], []),
  (22, .putfield 54, 3, 3, 10, .int 0, [], [33]),
  (25, .iconst 0, 1, 0, 0, .int 0, [], []),
  (26, .istore_n 1, 1, 1, 0, .null, [], []),
  (27, .iload_n 1, 1, 1, 0, .null, [], []),
  (28, .aload_n 0, 1, 0, 0, .null, [], []),
  (29, .getfield 21, 3, 3, 1, .int 0, [], [23]),
  (32, .if_icmp .ge 151, 3, 183, 0, .null, [], []),
  (35, .aload_n 0, 1, 0, 0, .null, [], []),
  (36, .getfield 9, 3, 3, 0, .null, [], [21]),
  (39, .iload_n 1, 1, 1, 0, .null, [], []),
  (40, .iaload, 1, 0, 0, .null, [], []),
  (41, .istore_n 2, 1, 2, 0, .null, [], []),
  (42, .aload_n 0, 1, 0, 0, .null, [], []),
  (43, .dup, 1, 0, 0, .null, [], []),
  (44, .getfield 42, 3, 3, 4, .int 0, [], [29]),
  (47, .iload_n 2, 1, 2, 0, .null, [], []),
  (48, .iadd, 1, 0, 0, .null, [], []),
  (49, .putfield 42, 3, 3, 4, .int 0, [], [29]),
  (52, .aload_n 0, 1, 0, 0, .null, [], []),
  (53, .getfield 51, 3, 3, 9, .int 0, [], [32]),
  (56, .ifCond .lt 16, 3, 72, 0, .null, [], []),
  (59, .iload_n 2, 1, 2, 0, .null, [], []),
  (60, .aload_n 0, 1, 0, 0, .null, [], []),
  (61, .getfield 9, 3, 3, 0, .null, [], [21]),
  (64, .aload_n 0, 1, 0, 0, .null, [], []),
  (65, .getfield 51, 3, 3, 9, .int 0, [], [32]),
  (68, .iaload, 1, 0, 0, .null, [], []),
  (69, .if_icmp .le 8, 3, 77, 0, .null, [], []),
  (72, .aload_n 0, 1, 0, 0, .null, [], []),
  (73, .iload_n 1, 1, 1, 0, .null, [], []),
  (74, .putfield 51, 3, 3, 9, .int 0, [], [32]),
  (77, .aload_n 0, 1, 0, 0, .null, [], []),
  (78, .getfield 45, 3, 3, 7, .int 0, [], [30]),
  (81, .ifCond .lt 16, 3, 97, 0, .null, [], []),
  (84, .iload_n 2, 1, 2, 0, .null, [], []),
  (85, .aload_n 0, 1, 0, 0, .null, [], []),
  (86, .getfield 9, 3, 3, 0, .null, [], [21]),
  (89, .aload_n 0, 1, 0, 0, .null, [], []),
  (90, .getfield 45, 3, 3, 7, .int 0, [], [30]),
  (93, .iaload, 1, 0, 0, .null, [], []),
  (94, .if_icmp .ge 24, 3, 118, 0, .null, [], []),
  (97, .aload_n 0, 1, 0, 0, .null, [], []),
  (98, .aload_n 0, 1, 0, 0, .null, [], []),
  (99, .getfield 45, 3, 3, 7, .int 0, [], [30]),
  (102, .putfield 48, 3, 3, 8, .int 0, [], [31]),
  (105, .aload_n 0, 1, 0, 0, .null, [], []),
  (106, .iload_n 1, 1, 1, 0, .null, [], []),
  (107, .putfield 45, 3, 3, 7, .int 0, [], [30]),
  (110, .aload_n 0, 1, 0, 0, .null, [], []),
  (111, .iconst 1, 1, 0, 0, .int 1, [], []),
  (112, .putfield 54, 3, 3, 10, .int 0, [], [33]),
  (115, .goto 62, 3, 177, 0, .null, [], []),
  (118, .aload_n 0, 1, 0, 0, .null, [], []),
  (119, .dup, 1, 0, 0, .null, [], []),
  (120, .getfield 54, 3, 3, 10, .int 0, [], [33]),
  (123, .iload_n 2, 1, 2, 0, .null, [], []),
  (124, .aload_n 0, 1, 0, 0, .null, [], []),
  (125, .getfield 9, 3, 3, 0, .null, [], [21]),
  (128, .aload_n 0, 1, 0, 0, .null, [], []),
  (129, .getfield 45, 3, 3, 7, .int 0, [], [30]),
  (132, .iaload, 1, 0, 0, .null, [], []),
  (133, .if_icmp .ne 7, 3, 140, 0, .null, [], []),
  (136, .iconst 1, 1, 0, 0, .int 1, [], []),
  (137, .goto 4, 3, 141, 0, .null, [], []),
  (140, .iconst 0, 1, 0, 0, .int 0, [], []),
  (141, .iadd, 1, 0, 0, .null, [], []),
  (142, .putfield 54, 3, 3, 10, .int 0, [], [33]),
  (145, .aload_n 0, 1, 0, 0, .null, [], []),
  (146, .aload_n 0, 1, 0, 0, .null, [], []),
  (147, .getfield 48, 3, 3, 8, .int 0, [], [31]),
  (150, .ifCond .lt 16, 3, 166, 0, .null, [], []),
  (153, .iload_n 2, 1, 2, 0, .null, [], []),
  (154, .aload_n 0, 1, 0, 0, .null, [], []),
  (155, .getfield 9, 3, 3, 0, .null, [], [21]),
  (158, .aload_n 0, 1, 0, 0, .null, [], []),
  (159, .getfield 48, 3, 3, 8, .int 0, [], [31]),
  (162, .iaload, 1, 0, 0, .null, [], []),
  (163, .if_icmp .ge 7, 3, 170, 0, .null, [], []),
  (166, .iload_n 1, 1, 1, 0, .null, [], []),
  (167, .goto 7, 3, 174, 0, .null, [], []),
  (170, .aload_n 0, 1, 0, 0, .null, [], []),
  (171, .getfield 48, 3, 3, 8, .int 0, [], [31]),
  (174, .putfield 48, 3, 3, 8, .int 0, [], [31]),
  (177, .iinc 1 1, 3, 1, 0, .int 1, [], []),
  (180, .goto (-153), 3, 27, 0, .null, [], []),
  (183, .aload_n 0, 1, 0, 0, .null, [], []),
  (184, .aload_n 0, 1, 0, 0, .null, [], []),
  (185, .getfield 29, 3, 3, 3, .int 0, [], [27]),
  (188, .invokevirtual 57, 6, 25, 1, .null, [], [9]),
  (191, .return_, 1, 0, 0, .null, [], [])],
  [(27, [true, true, false]), (77, [true, true, true]), (141, [true, true, true])], 3)
/-- 25: LeastPays$Hat.charge(I)V -/
def kX3_charge : j_K := ([
  (0, .aload_n 0, 1, 0, 0, .null, [], []),
  (1, .iload_n 1, 1, 1, 0, .null, [], []),
  (2, .putfield 29, 3, 3, 3, .int 0, [], [27]),
  (5, .aload_n 0, 1, 0, 0, .null, [], []),
  (6, .aload_n 0, 1, 0, 0, .null, [], []),
  (7, .getfield 29, 3, 3, 3, .int 0, [], [27]),
  (10, .aload_n 0, 1, 0, 0, .null, [], []),
  (11, .getfield 42, 3, 3, 4, .int 0, [], [29]),
  (14, .isub, 1, 0, 0, .null, [], []),
  (15, .iconst 0, 1, 0, 0, .int 0, [], []),
  (16, .invokestatic 61, 3, 1001, 2, .null, [], [2]),
  (19, .putfield 67, 3, 3, 5, .int 0, [], [34]),
  (22, .aload_n 0, 1, 0, 0, .null, [], []),
  (23, .aload_n 0, 1, 0, 0, .null, [], []),
  (24, .getfield 42, 3, 3, 4, .int 0, [], [29]),
  (27, .aload_n 0, 1, 0, 0, .null, [], []),
  (28, .getfield 29, 3, 3, 3, .int 0, [], [27]),
  (31, .isub, 1, 0, 0, .null, [], []),
  (32, .iconst 0, 1, 0, 0, .int 0, [], []),
  (33, .invokestatic 61, 3, 1001, 2, .null, [], [2]),
  (36, .putfield 70, 3, 3, 6, .int 0, [], [35]),
  (39, .return_, 1, 0, 0, .null, [], [])],
  [], 2)
/-- 26: LeastPays$Hat.cost(I)I -/
def kX3_cost : j_K := ([
  (0, .aload_n 0, 1, 0, 0, .null, [], []),
  (1, .getfield 9, 3, 3, 0, .null, [], [21]),
  (4, .iload_n 1, 1, 1, 0, .null, [], []),
  (5, .iaload, 1, 0, 0, .null, [], []),
  (6, .aload_n 0, 1, 0, 0, .null, [], []),
  (7, .iload_n 1, 1, 1, 0, .null, [], []),
  (8, .invokevirtual 73, 6, 27, 1, .int 0, [], [10]),
  (11, .iadd, 1, 0, 0, .null, [], []),
  (12, .aload_n 0, 1, 0, 0, .null, [], []),
  (13, .iload_n 1, 1, 1, 0, .null, [], []),
  (14, .invokevirtual 77, 6, 30, 1, .int 0, [], [11]),
  (17, .isub, 1, 0, 0, .null, [], []),
  (18, .ireturn, 1, 0, 0, .int 0, [], [])],
  [], 2)
/-- 27: LeastPays$Hat.besides(I)I -/
def kX3_besides : j_K := ([
  (0, .aload_n 0, 1, 0, 0, .null, [], []),
  (1, .getfield 25, 3, 3, 2, .int 0, [], [25]),
  (4, .tableswitch 68 0 3 #[32, 68, 38, 44], 32, 72, 0, .null, [(0, 36), (1, 72), (2, 42), (3, 48)], []),
  (36, .aload_n 0, 1, 0, 0, .null, [], []),
  (37, .iload_n 1, 1, 1, 0, .null, [], []),
  (38, .invokevirtual 80, 6, 28, 1, .int 0, [], [12]),
  (41, .ireturn, 1, 0, 0, .int 0, [], []),
  (42, .aload_n 0, 1, 0, 0, .null, [], []),
  (43, .iload_n 1, 1, 1, 0, .null, [], []),
  (44, .invokevirtual 83, 6, 29, 1, .int 0, [], [13]),
  (47, .ireturn, 1, 0, 0, .int 0, [], []),
  (48, .iload_n 1, 1, 1, 0, .null, [], []),
  (49, .aload_n 0, 1, 0, 0, .null, [], []),
  (50, .getfield 45, 3, 3, 7, .int 0, [], [30]),
  (53, .if_icmp .ne 17, 3, 70, 0, .null, [], []),
  (56, .aload_n 0, 1, 0, 0, .null, [], []),
  (57, .getfield 67, 3, 3, 5, .int 0, [], [34]),
  (60, .aload_n 0, 1, 0, 0, .null, [], []),
  (61, .getfield 9, 3, 3, 0, .null, [], [21]),
  (64, .iload_n 1, 1, 1, 0, .null, [], []),
  (65, .iaload, 1, 0, 0, .null, [], []),
  (66, .iadd, 1, 0, 0, .null, [], []),
  (67, .goto 4, 3, 71, 0, .null, [], []),
  (70, .iconst 0, 1, 0, 0, .int 0, [], []),
  (71, .ireturn, 1, 0, 0, .int 0, [], []),
  (72, .iload_n 1, 1, 1, 0, .null, [], []),
  (73, .aload_n 0, 1, 0, 0, .null, [], []),
  (74, .getfield 45, 3, 3, 7, .int 0, [], [30]),
  (77, .if_icmp .ne 10, 3, 87, 0, .null, [], []),
  (80, .aload_n 0, 1, 0, 0, .null, [], []),
  (81, .getfield 67, 3, 3, 5, .int 0, [], [34]),
  (84, .goto 4, 3, 88, 0, .null, [], []),
  (87, .iconst 0, 1, 0, 0, .int 0, [], []),
  (88, .ireturn, 1, 0, 0, .int 0, [], [])],
  [], 2)
/-- 28: LeastPays$Hat.partAmongAlike(I)I -/
def kX3_partAmongAlike : j_K := ([
  (0, .aload_n 0, 1, 0, 0, .null, [], []),
  (1, .getfield 54, 3, 3, 10, .int 0, [], [33]),
  (4, .ifCond .eq 21, 3, 25, 0, .null, [], []),
  (7, .aload_n 0, 1, 0, 0, .null, [], []),
  (8, .getfield 9, 3, 3, 0, .null, [], [21]),
  (11, .iload_n 1, 1, 1, 0, .null, [], []),
  (12, .iaload, 1, 0, 0, .null, [], []),
  (13, .aload_n 0, 1, 0, 0, .null, [], []),
  (14, .getfield 9, 3, 3, 0, .null, [], [21]),
  (17, .aload_n 0, 1, 0, 0, .null, [], []),
  (18, .getfield 45, 3, 3, 7, .int 0, [], [30]),
  (21, .iaload, 1, 0, 0, .null, [], []),
  (22, .if_icmp .eq 5, 3, 27, 0, .null, [], []),
  (25, .iconst 0, 1, 0, 0, .int 0, [], []),
  (26, .ireturn, 1, 0, 0, .int 0, [], []),
  (27, .iconst 0, 1, 0, 0, .int 0, [], []),
  (28, .istore_n 2, 1, 2, 0, .null, [], []),
  (29, .aload_n 0, 1, 0, 0, .null, [], []),
  (30, .getfield 45, 3, 3, 7, .int 0, [], [30]),
  (33, .istore_n 3, 1, 3, 0, .null, [], []),
  (34, .iload_n 3, 1, 3, 0, .null, [], []),
  (35, .iload_n 1, 1, 1, 0, .null, [], []),
  (36, .if_icmp .ge 35, 3, 71, 0, .null, [], []),
  (39, .iload_n 2, 1, 2, 0, .null, [], []),
  (40, .aload_n 0, 1, 0, 0, .null, [], []),
  (41, .getfield 9, 3, 3, 0, .null, [], [21]),
  (44, .iload_n 3, 1, 3, 0, .null, [], []),
  (45, .iaload, 1, 0, 0, .null, [], []),
  (46, .aload_n 0, 1, 0, 0, .null, [], []),
  (47, .getfield 9, 3, 3, 0, .null, [], [21]),
  (50, .aload_n 0, 1, 0, 0, .null, [], []),
  (51, .getfield 45, 3, 3, 7, .int 0, [], [30]),
  (54, .iaload, 1, 0, 0, .null, [], []),
  (55, .if_icmp .ne 7, 3, 62, 0, .null, [], []),
  (58, .iconst 1, 1, 0, 0, .int 1, [], []),
  (59, .goto 4, 3, 63, 0, .null, [], []),
  (62, .iconst 0, 1, 0, 0, .int 0, [], []),
  (63, .iadd, 1, 0, 0, .null, [], []),
  (64, .istore_n 2, 1, 2, 0, .null, [], []),
  (65, .iinc 3 1, 3, 3, 0, .int 1, [], []),
  (68, .goto (-34), 3, 34, 0, .null, [], []),
  (71, .aload_n 0, 1, 0, 0, .null, [], []),
  (72, .getfield 67, 3, 3, 5, .int 0, [], [34]),
  (75, .aload_n 0, 1, 0, 0, .null, [], []),
  (76, .getfield 54, 3, 3, 10, .int 0, [], [33]),
  (79, .idiv, 1, 0, 0, .null, [], []),
  (80, .iload_n 2, 1, 2, 0, .null, [], []),
  (81, .aload_n 0, 1, 0, 0, .null, [], []),
  (82, .getfield 67, 3, 3, 5, .int 0, [], [34]),
  (85, .aload_n 0, 1, 0, 0, .null, [], []),
  (86, .getfield 54, 3, 3, 10, .int 0, [], [33]),
  (89, .irem, 1, 0, 0, .null, [], []),
  (90, .if_icmp .ge 7, 3, 97, 0, .null, [], []),
  (93, .iconst 1, 1, 0, 0, .int 1, [], []),
  (94, .goto 4, 3, 98, 0, .null, [], []),
  (97, .iconst 0, 1, 0, 0, .int 0, [], []),
  (98, .iadd, 1, 0, 0, .null, [], []),
  (99, .ireturn, 1, 0, 0, .int 0, [], [])],
  [(34, [true, true, true, true])], 4)
/-- 29: LeastPays$Hat.partOfTwo(I)I -/
def kX3_partOfTwo : j_K := ([
  (0, .aload_n 0, 1, 0, 0, .null, [], []),
  (1, .getfield 48, 3, 3, 8, .int 0, [], [31]),
  (4, .ifCond .ge 7, 3, 11, 0, .null, [], []),
  (7, .iconst 0, 1, 0, 0, .int 0, [], []),
  (8, .goto 9, 3, 17, 0, .null, [], []),
  (11, .aload_n 0, 1, 0, 0, .null, [], []),
  (12, .getfield 67, 3, 3, 5, .int 0, [], [34]),
  (15, .iconst 2, 1, 0, 0, .int 2, [], []),
  (16, .idiv, 1, 0, 0, .null, [], []),
  (17, .istore_n 2, 1, 2, 0, .null, [], []),
  (18, .iload_n 1, 1, 1, 0, .null, [], []),
  (19, .aload_n 0, 1, 0, 0, .null, [], []),
  (20, .getfield 45, 3, 3, 7, .int 0, [], [30]),
  (23, .if_icmp .ne 10, 3, 33, 0, .null, [], []),
  (26, .aload_n 0, 1, 0, 0, .null, [], []),
  (27, .getfield 67, 3, 3, 5, .int 0, [], [34]),
  (30, .iload_n 2, 1, 2, 0, .null, [], []),
  (31, .isub, 1, 0, 0, .null, [], []),
  (32, .ireturn, 1, 0, 0, .int 0, [], []),
  (33, .iload_n 1, 1, 1, 0, .null, [], []),
  (34, .aload_n 0, 1, 0, 0, .null, [], []),
  (35, .getfield 48, 3, 3, 8, .int 0, [], [31]),
  (38, .if_icmp .ne 7, 3, 45, 0, .null, [], []),
  (41, .iload_n 2, 1, 2, 0, .null, [], []),
  (42, .goto 4, 3, 46, 0, .null, [], []),
  (45, .iconst 0, 1, 0, 0, .int 0, [], []),
  (46, .ireturn, 1, 0, 0, .int 0, [], [])],
  [], 3)
/-- 30: LeastPays$Hat.givenBack(I)I -/
def kX3_givenBack : j_K := ([
  (0, .aload_n 0, 1, 0, 0, .null, [], []),
  (1, .getfield 25, 3, 3, 2, .int 0, [], [25]),
  (4, .iconst 4, 1, 0, 0, .int 4, [], []),
  (5, .if_icmp .ne 27, 3, 32, 0, .null, [], []),
  (8, .iload_n 1, 1, 1, 0, .null, [], []),
  (9, .aload_n 0, 1, 0, 0, .null, [], []),
  (10, .getfield 51, 3, 3, 9, .int 0, [], [32]),
  (13, .if_icmp .ne 19, 3, 32, 0, .null, [], []),
  (16, .aload_n 0, 1, 0, 0, .null, [], []),
  (17, .getfield 70, 3, 3, 6, .int 0, [], [35]),
  (20, .aload_n 0, 1, 0, 0, .null, [], []),
  (21, .getfield 9, 3, 3, 0, .null, [], [21]),
  (24, .iload_n 1, 1, 1, 0, .null, [], []),
  (25, .iaload, 1, 0, 0, .null, [], []),
  (26, .invokestatic 86, 3, 1002, 2, .null, [], [3]),
  (29, .goto 4, 3, 33, 0, .null, [], []),
  (32, .iconst 0, 1, 0, 0, .int 0, [], []),
  (33, .ireturn, 1, 0, 0, .int 0, [], [])],
  [], 2)
/-- 31: LeastPays$Hat.intoChest()I -/
def kX3_intoChest : j_K := ([
  (0, .aload_n 0, 1, 0, 0, .null, [], []),
  (1, .getfield 25, 3, 3, 2, .int 0, [], [25]),
  (4, .iconst 4, 1, 0, 0, .int 4, [], []),
  (5, .if_icmp .ne 31, 3, 36, 0, .null, [], []),
  (8, .aload_n 0, 1, 0, 0, .null, [], []),
  (9, .getfield 51, 3, 3, 9, .int 0, [], [32]),
  (12, .ifCond .ge 10, 3, 22, 0, .null, [], []),
  (15, .aload_n 0, 1, 0, 0, .null, [], []),
  (16, .getfield 70, 3, 3, 6, .int 0, [], [35]),
  (19, .goto 16, 3, 35, 0, .null, [], []),
  (22, .aload_n 0, 1, 0, 0, .null, [], []),
  (23, .getfield 70, 3, 3, 6, .int 0, [], [35]),
  (26, .aload_n 0, 1, 0, 0, .null, [], []),
  (27, .aload_n 0, 1, 0, 0, .null, [], []),
  (28, .getfield 51, 3, 3, 9, .int 0, [], [32]),
  (31, .invokevirtual 77, 6, 30, 1, .int 0, [], [11]),
  (34, .isub, 1, 0, 0, .null, [], []),
  (35, .ireturn, 1, 0, 0, .int 0, [], []),
  (36, .aload_n 0, 1, 0, 0, .null, [], []),
  (37, .getfield 25, 3, 3, 2, .int 0, [], [25]),
  (40, .iconst 3, 1, 0, 0, .int 3, [], []),
  (41, .if_icmp .ne 27, 3, 68, 0, .null, [], []),
  (44, .aload_n 0, 1, 0, 0, .null, [], []),
  (45, .getfield 45, 3, 3, 7, .int 0, [], [30]),
  (48, .ifCond .lt 20, 3, 68, 0, .null, [], []),
  (51, .aload_n 0, 1, 0, 0, .null, [], []),
  (52, .getfield 70, 3, 3, 6, .int 0, [], [35]),
  (55, .aload_n 0, 1, 0, 0, .null, [], []),
  (56, .getfield 9, 3, 3, 0, .null, [], [21]),
  (59, .aload_n 0, 1, 0, 0, .null, [], []),
  (60, .getfield 45, 3, 3, 7, .int 0, [], [30]),
  (63, .iaload, 1, 0, 0, .null, [], []),
  (64, .iadd, 1, 0, 0, .null, [], []),
  (65, .goto 7, 3, 72, 0, .null, [], []),
  (68, .aload_n 0, 1, 0, 0, .null, [], []),
  (69, .getfield 70, 3, 3, 6, .int 0, [], [35]),
  (72, .ireturn, 1, 0, 0, .int 0, [], [])],
  [], 1)
/-- 32: LeastPays$Law.<init>()V -/
def kX4_init : j_K := ([
  (0, .aload_n 0, 1, 0, 0, .null, [], []),
  (1, .invokespecial 3, 3, 999, 0, .null, [], [4]),
  (4, .aload_n 0, 1, 0, 0, .null, [], []),
  (5, .bipush 120, 2, 0, 0, .int 120, [], []),
  (7, .newarray .int, 2, 0, 0, .int 0, [], []),
  (9, .putfield 11, 3, 4, 0, .null, [], [36]),
  (12, .aload_n 0, 1, 0, 0, .null, [], []),
  (13, .bipush 122, 2, 0, 0, .int 122, [], []),
  (15, .newarray .int, 2, 0, 0, .int 0, [], []),
  (17, .putfield 15, 3, 4, 1, .null, [], [37]),
  (20, .aload_n 0, 1, 0, 0, .null, [], []),
  (21, .bipush 122, 2, 0, 0, .int 122, [], []),
  (23, .newarray .int, 2, 0, 0, .int 0, [], []),
  (25, .putfield 18, 3, 4, 2, .null, [], [38]),
  (28, .aload_n 0, 1, 0, 0, .null, [], []),
  (29, .bipush 122, 2, 0, 0, .int 122, [], []),
  (31, .newarray .int, 2, 0, 0, .int 0, [], []),
  (33, .putfield 21, 3, 4, 3, .null, [], [39]),
  (36, .return_, 1, 0, 0, .null, [], [])],
  [], 1)
/-- 33: LeastPays$Law.add(I)I -/
def kX4_add : j_K := ([
  (0, .aload_n 0, 1, 0, 0, .null, [], []),
  (1, .getfield 24, 3, 4, 4, .int 0, [], [40]),
  (4, .bipush 120, 2, 0, 0, .int 120, [], []),
  (6, .if_icmp .lt 6, 3, 12, 0, .null, [], []),
  (9, .bipush (-3), 2, 0, 0, .int (-3), [], []),
  (11, .ireturn, 1, 0, 0, .int 0, [], []),
  (12, .aload_n 0, 1, 0, 0, .null, [], []),
  (13, .getfield 11, 3, 4, 0, .null, [], [36]),
  (16, .aload_n 0, 1, 0, 0, .null, [], []),
  (17, .getfield 24, 3, 4, 4, .int 0, [], [40]),
  (20, .iload_n 1, 1, 1, 0, .null, [], []),
  (21, .iastore, 1, 0, 0, .null, [], []),
  (22, .aload_n 0, 1, 0, 0, .null, [], []),
  (23, .dup, 1, 0, 0, .null, [], []),
  (24, .getfield 24, 3, 4, 4, .int 0, [], [40]),
  (27, .iconst 1, 1, 0, 0, .int 1, [], []),
  (28, .iadd, 1, 0, 0, .null, [], []),
  (29, .putfield 24, 3, 4, 4, .int 0, [], [40]),
  (32, .aload_n 0, 1, 0, 0, .null, [], []),
  (33, .getfield 24, 3, 4, 4, .int 0, [], [40]),
  (36, .ireturn, 1, 0, 0, .int 0, [], [])],
  [], 2)
/-- 34: LeastPays$Law.enact()I -/
def kX4_enact : j_K := ([
  (0, .aload_n 0, 1, 0, 0, .null, [], []),
  (1, .invokevirtual 28, 7, 35, 0, .null, [], [14]),
  (4, .aload_n 0, 1, 0, 0, .null, [], []),
  (5, .iconst 0, 1, 0, 0, .int 0, [], []),
  (6, .putfield 24, 3, 4, 4, .int 0, [], [40]),
  (9, .aload_n 0, 1, 0, 0, .null, [], []),
  (10, .getfield 31, 3, 4, 6, .int 0, [], [41]),
  (13, .iconst (-1), 1, 0, 0, .int (-1), [], []),
  (14, .if_icmp .eq 11, 3, 25, 0, .null, [], []),
  (17, .bipush (-100), 2, 0, 0, .int (-100), [], []),
  (19, .aload_n 0, 1, 0, 0, .null, [], []),
  (20, .getfield 31, 3, 4, 6, .int 0, [], [41]),
  (23, .isub, 1, 0, 0, .null, [], []),
  (24, .ireturn, 1, 0, 0, .int 0, [], []),
  (25, .aload_n 0, 1, 0, 0, .null, [], []),
  (26, .getfield 15, 3, 4, 1, .null, [], [37]),
  (29, .iconst 0, 1, 0, 0, .int 0, [], []),
  (30, .aload_n 0, 1, 0, 0, .null, [], []),
  (31, .getfield 18, 3, 4, 2, .null, [], [38]),
  (34, .iconst 0, 1, 0, 0, .int 0, [], []),
  (35, .aload_n 0, 1, 0, 0, .null, [], []),
  (36, .getfield 34, 3, 4, 7, .int 0, [], [42]),
  (39, .invokestatic 37, 3, 1000, 5, .null, [], [4]),
  (42, .aload_n 0, 1, 0, 0, .null, [], []),
  (43, .aload_n 0, 1, 0, 0, .null, [], []),
  (44, .getfield 34, 3, 4, 7, .int 0, [], [42]),
  (47, .putfield 43, 3, 4, 8, .int 0, [], [43]),
  (50, .aload_n 0, 1, 0, 0, .null, [], []),
  (51, .iconst 1, 1, 0, 0, .int 1, [], []),
  (52, .putfield 46, 3, 4, 9, .long 0, [], [44]),
  (55, .iconst 1, 1, 0, 0, .int 1, [], []),
  (56, .ireturn, 1, 0, 0, .int 0, [], [])],
  [], 1)
/-- 35: LeastPays$Law.readLines()V -/
def kX4_readLines : j_K := ([
  (0, .aload_n 0, 1, 0, 0, .null, [], []),
  (1, .iconst 0, 1, 0, 0, .int 0, [], []),
  (2, .putfield 50, 3, 4, 5, .int 0, [], [45]),
  (5, .aload_n 0, 1, 0, 0, .null, [], []),
  (6, .iconst (-1), 1, 0, 0, .int (-1), [], []),
  (7, .putfield 31, 3, 4, 6, .int 0, [], [41]),
  (10, .aload_n 0, 1, 0, 0, .null, [], []),
  (11, .iconst 0, 1, 0, 0, .int 0, [], []),
  (12, .putfield 34, 3, 4, 7, .int 0, [], [42]),
  (15, .aload_n 0, 1, 0, 0, .null, [], []),
  (16, .invokevirtual 53, 7, 36, 0, .null, [], [15]),
  (19, .iconst 0, 1, 0, 0, .int 0, [], []),
  (20, .istore_n 1, 1, 1, 0, .null, [], []),
  (21, .iload_n 1, 1, 1, 0, .null, [], []),
  (22, .bipush 120, 2, 0, 0, .int 120, [], []),
  (24, .if_icmp .ge 22, 3, 46, 0, .null, [], []),
  (27, .aload_n 0, 1, 0, 0, .null, [], []),
  (28, .bipush 59, 2, 0, 0, .int 59, [], []),
  (30, .invokevirtual 56, 7, 49, 1, .int 0, [], [16]),
  (33, .ifCond .eq 13, 3, 46, 0, .null, [], []),
  (36, .aload_n 0, 1, 0, 0, .null, [], []),
  (37, .invokevirtual 53, 7, 36, 0, .null, [], [15]),
  (40, .iinc 1 1, 3, 1, 0, .int 1, [], []),
  (43, .goto (-22), 3, 21, 0, .null, [], []),
  (46, .aload_n 0, 1, 0, 0, .null, [], []),
  (47, .getfield 50, 3, 4, 5, .int 0, [], [45]),
  (50, .aload_n 0, 1, 0, 0, .null, [], []),
  (51, .getfield 24, 3, 4, 4, .int 0, [], [40]),
  (54, .if_icmp .ge 7, 3, 61, 0, .null, [], []),
  (57, .aload_n 0, 1, 0, 0, .null, [], []),
  (58, .invokevirtual 60, 7, 50, 0, .null, [], [17]),
  (61, .return_, 1, 0, 0, .null, [], [])],
  [(21, [true, true])], 2)
/-- 36: LeastPays$Law.readLine()V -/
def kX4_readLine : j_K := ([
  (0, .aload_n 0, 1, 0, 0, .null, [], []),
  (1, .iconst 0, 1, 0, 0, .int 0, [], []),
  (2, .invokevirtual 63, 7, 37, 1, .null, [], [18]),
  (5, .aload_n 0, 1, 0, 0, .null, [], []),
  (6, .bipush 63, 2, 0, 0, .int 63, [], []),
  (8, .invokevirtual 56, 7, 49, 1, .int 0, [], [16]),
  (11, .ifCond .eq 14, 3, 25, 0, .null, [], []),
  (14, .aload_n 0, 1, 0, 0, .null, [], []),
  (15, .bipush (-18), 2, 0, 0, .int (-18), [], []),
  (17, .invokevirtual 67, 7, 51, 1, .null, [], [19]),
  (20, .aload_n 0, 1, 0, 0, .null, [], []),
  (21, .iconst 0, 1, 0, 0, .int 0, [], []),
  (22, .invokevirtual 63, 7, 37, 1, .null, [], [18]),
  (25, .aload_n 0, 1, 0, 0, .null, [], []),
  (26, .bipush (-19), 2, 0, 0, .int (-19), [], []),
  (28, .invokevirtual 67, 7, 51, 1, .null, [], [19]),
  (31, .return_, 1, 0, 0, .null, [], [])],
  [], 1)
/-- 37: LeastPays$Law.readEither(I)V -/
def kX4_readEither : j_K := ([
  (0, .aload_n 0, 1, 0, 0, .null, [], []),
  (1, .iload_n 1, 1, 1, 0, .null, [], []),
  (2, .invokevirtual 70, 7, 38, 1, .null, [], [20]),
  (5, .iconst 0, 1, 0, 0, .int 0, [], []),
  (6, .istore_n 2, 1, 2, 0, .null, [], []),
  (7, .iload_n 2, 1, 2, 0, .null, [], []),
  (8, .bipush 120, 2, 0, 0, .int 120, [], []),
  (10, .if_icmp .ge 29, 3, 39, 0, .null, [], []),
  (13, .aload_n 0, 1, 0, 0, .null, [], []),
  (14, .bipush 124, 2, 0, 0, .int 124, [], []),
  (16, .invokevirtual 56, 7, 49, 1, .int 0, [], [16]),
  (19, .ifCond .eq 20, 3, 39, 0, .null, [], []),
  (22, .aload_n 0, 1, 0, 0, .null, [], []),
  (23, .iload_n 1, 1, 1, 0, .null, [], []),
  (24, .invokevirtual 70, 7, 38, 1, .null, [], [20]),
  (27, .aload_n 0, 1, 0, 0, .null, [], []),
  (28, .bipush (-6), 2, 0, 0, .int (-6), [], []),
  (30, .invokevirtual 67, 7, 51, 1, .null, [], [19]),
  (33, .iinc 2 1, 3, 2, 0, .int 1, [], []),
  (36, .goto (-29), 3, 7, 0, .null, [], []),
  (39, .return_, 1, 0, 0, .null, [], [])],
  [(7, [true, true, true])], 3)
/-- 38: LeastPays$Law.readBoth(I)V -/
def kX4_readBoth : j_K := ([
  (0, .aload_n 0, 1, 0, 0, .null, [], []),
  (1, .iload_n 1, 1, 1, 0, .null, [], []),
  (2, .invokevirtual 73, 7, 39, 1, .null, [], [21]),
  (5, .iconst 0, 1, 0, 0, .int 0, [], []),
  (6, .istore_n 2, 1, 2, 0, .null, [], []),
  (7, .iload_n 2, 1, 2, 0, .null, [], []),
  (8, .bipush 120, 2, 0, 0, .int 120, [], []),
  (10, .if_icmp .ge 29, 3, 39, 0, .null, [], []),
  (13, .aload_n 0, 1, 0, 0, .null, [], []),
  (14, .bipush 38, 2, 0, 0, .int 38, [], []),
  (16, .invokevirtual 56, 7, 49, 1, .int 0, [], [16]),
  (19, .ifCond .eq 20, 3, 39, 0, .null, [], []),
  (22, .aload_n 0, 1, 0, 0, .null, [], []),
  (23, .iload_n 1, 1, 1, 0, .null, [], []),
  (24, .invokevirtual 73, 7, 39, 1, .null, [], [21]),
  (27, .aload_n 0, 1, 0, 0, .null, [], []),
  (28, .bipush (-7), 2, 0, 0, .int (-7), [], []),
  (30, .invokevirtual 67, 7, 51, 1, .null, [], [19]),
  (33, .iinc 2 1, 3, 2, 0, .int 1, [], []),
  (36, .goto (-29), 3, 7, 0, .null, [], []),
  (39, .return_, 1, 0, 0, .null, [], [])],
  [(7, [true, true, true])], 3)
/-- 39: LeastPays$Law.readCompared(I)V -/
def kX4_readCompared : j_K := ([
  (0, .aload_n 0, 1, 0, 0, .null, [], []),
  (1, .iload_n 1, 1, 1, 0, .null, [], []),
  (2, .invokevirtual 76, 7, 40, 1, .null, [], [22]),
  (5, .aload_n 0, 1, 0, 0, .null, [], []),
  (6, .bipush 60, 2, 0, 0, .int 60, [], []),
  (8, .invokevirtual 56, 7, 49, 1, .int 0, [], [16]),
  (11, .ifCond .eq 8, 3, 19, 0, .null, [], []),
  (14, .bipush (-8), 2, 0, 0, .int (-8), [], []),
  (16, .goto 32, 3, 48, 0, .null, [], []),
  (19, .aload_n 0, 1, 0, 0, .null, [], []),
  (20, .bipush 61, 2, 0, 0, .int 61, [], []),
  (22, .invokevirtual 56, 7, 49, 1, .int 0, [], [16]),
  (25, .ifCond .eq 8, 3, 33, 0, .null, [], []),
  (28, .bipush (-9), 2, 0, 0, .int (-9), [], []),
  (30, .goto 18, 3, 48, 0, .null, [], []),
  (33, .aload_n 0, 1, 0, 0, .null, [], []),
  (34, .bipush 62, 2, 0, 0, .int 62, [], []),
  (36, .invokevirtual 56, 7, 49, 1, .int 0, [], [16]),
  (39, .ifCond .eq 8, 3, 47, 0, .null, [], []),
  (42, .bipush (-10), 2, 0, 0, .int (-10), [], []),
  (44, .goto 4, 3, 48, 0, .null, [], []),
  (47, .iconst 0, 1, 0, 0, .int 0, [], []),
  (48, .istore_n 2, 1, 2, 0, .null, [], []),
  (49, .iload_n 2, 1, 2, 0, .null, [], []),
  (50, .ifCond .eq 13, 3, 63, 0, .null, [], []),
  (53, .aload_n 0, 1, 0, 0, .null, [], []),
  (54, .iload_n 1, 1, 1, 0, .null, [], []),
  (55, .invokevirtual 76, 7, 40, 1, .null, [], [22]),
  (58, .aload_n 0, 1, 0, 0, .null, [], []),
  (59, .iload_n 2, 1, 2, 0, .null, [], []),
  (60, .invokevirtual 67, 7, 51, 1, .null, [], [19]),
  (63, .return_, 1, 0, 0, .null, [], [])],
  [], 3)
/-- 40: LeastPays$Law.readSum(I)V -/
def kX4_readSum : j_K := ([
  (0, .aload_n 0, 1, 0, 0, .null, [], []),
  (1, .iload_n 1, 1, 1, 0, .null, [], []),
  (2, .invokevirtual 79, 7, 42, 1, .null, [], [23]),
  (5, .aload_n 0, 1, 0, 0, .null, [], []),
  (6, .invokevirtual 82, 7, 41, 0, .int 0, [], [24]),
  (9, .istore_n 2, 1, 2, 0, .null, [], []),
  (10, .iconst 0, 1, 0, 0, .int 0, [], []),
  (11, .istore_n 3, 1, 3, 0, .null, [], []),
  (12, .iload_n 3, 1, 3, 0, .null, [], []),
  (13, .bipush 120, 2, 0, 0, .int 120, [], []),
  (15, .if_icmp .ge 28, 3, 43, 0, .null, [], []),
  (18, .iload_n 2, 1, 2, 0, .null, [], []),
  (19, .ifCond .eq 24, 3, 43, 0, .null, [], []),
  (22, .aload_n 0, 1, 0, 0, .null, [], []),
  (23, .iload_n 1, 1, 1, 0, .null, [], []),
  (24, .invokevirtual 79, 7, 42, 1, .null, [], [23]),
  (27, .aload_n 0, 1, 0, 0, .null, [], []),
  (28, .iload_n 2, 1, 2, 0, .null, [], []),
  (29, .invokevirtual 67, 7, 51, 1, .null, [], [19]),
  (32, .aload_n 0, 1, 0, 0, .null, [], []),
  (33, .invokevirtual 82, 7, 41, 0, .int 0, [], [24]),
  (36, .istore_n 2, 1, 2, 0, .null, [], []),
  (37, .iinc 3 1, 3, 3, 0, .int 1, [], []),
  (40, .goto (-28), 3, 12, 0, .null, [], []),
  (43, .return_, 1, 0, 0, .null, [], [])],
  [(12, [true, true, true, true])], 4)
/-- 41: LeastPays$Law.takesSumSign()I -/
def kX4_takesSumSign : j_K := ([
  (0, .aload_n 0, 1, 0, 0, .null, [], []),
  (1, .bipush 43, 2, 0, 0, .int 43, [], []),
  (3, .invokevirtual 56, 7, 49, 1, .int 0, [], [16]),
  (6, .ifCond .eq 8, 3, 14, 0, .null, [], []),
  (9, .bipush (-11), 2, 0, 0, .int (-11), [], []),
  (11, .goto 18, 3, 29, 0, .null, [], []),
  (14, .aload_n 0, 1, 0, 0, .null, [], []),
  (15, .bipush 45, 2, 0, 0, .int 45, [], []),
  (17, .invokevirtual 56, 7, 49, 1, .int 0, [], [16]),
  (20, .ifCond .eq 8, 3, 28, 0, .null, [], []),
  (23, .bipush (-12), 2, 0, 0, .int (-12), [], []),
  (25, .goto 4, 3, 29, 0, .null, [], []),
  (28, .iconst 0, 1, 0, 0, .int 0, [], []),
  (29, .ireturn, 1, 0, 0, .int 0, [], [])],
  [], 1)
/-- 42: LeastPays$Law.readProduct(I)V -/
def kX4_readProduct : j_K := ([
  (0, .aload_n 0, 1, 0, 0, .null, [], []),
  (1, .iload_n 1, 1, 1, 0, .null, [], []),
  (2, .invokevirtual 86, 7, 44, 1, .null, [], [25]),
  (5, .aload_n 0, 1, 0, 0, .null, [], []),
  (6, .invokevirtual 89, 7, 43, 0, .int 0, [], [26]),
  (9, .istore_n 2, 1, 2, 0, .null, [], []),
  (10, .iconst 0, 1, 0, 0, .int 0, [], []),
  (11, .istore_n 3, 1, 3, 0, .null, [], []),
  (12, .iload_n 3, 1, 3, 0, .null, [], []),
  (13, .bipush 120, 2, 0, 0, .int 120, [], []),
  (15, .if_icmp .ge 28, 3, 43, 0, .null, [], []),
  (18, .iload_n 2, 1, 2, 0, .null, [], []),
  (19, .ifCond .eq 24, 3, 43, 0, .null, [], []),
  (22, .aload_n 0, 1, 0, 0, .null, [], []),
  (23, .iload_n 1, 1, 1, 0, .null, [], []),
  (24, .invokevirtual 86, 7, 44, 1, .null, [], [25]),
  (27, .aload_n 0, 1, 0, 0, .null, [], []),
  (28, .iload_n 2, 1, 2, 0, .null, [], []),
  (29, .invokevirtual 67, 7, 51, 1, .null, [], [19]),
  (32, .aload_n 0, 1, 0, 0, .null, [], []),
  (33, .invokevirtual 89, 7, 43, 0, .int 0, [], [26]),
  (36, .istore_n 2, 1, 2, 0, .null, [], []),
  (37, .iinc 3 1, 3, 3, 0, .int 1, [], []),
  (40, .goto (-28), 3, 12, 0, .null, [], []),
  (43, .return_, 1, 0, 0, .null, [], [])],
  [(12, [true, true, true, true])], 4)
/-- 43: LeastPays$Law.takesProductSign()I -/
def kX4_takesProductSign : j_K := ([
  (0, .aload_n 0, 1, 0, 0, .null, [], []),
  (1, .bipush 42, 2, 0, 0, .int 42, [], []),
  (3, .invokevirtual 56, 7, 49, 1, .int 0, [], [16]),
  (6, .ifCond .eq 8, 3, 14, 0, .null, [], []),
  (9, .bipush (-13), 2, 0, 0, .int (-13), [], []),
  (11, .goto 32, 3, 43, 0, .null, [], []),
  (14, .aload_n 0, 1, 0, 0, .null, [], []),
  (15, .bipush 47, 2, 0, 0, .int 47, [], []),
  (17, .invokevirtual 56, 7, 49, 1, .int 0, [], [16]),
  (20, .ifCond .eq 8, 3, 28, 0, .null, [], []),
  (23, .bipush (-14), 2, 0, 0, .int (-14), [], []),
  (25, .goto 18, 3, 43, 0, .null, [], []),
  (28, .aload_n 0, 1, 0, 0, .null, [], []),
  (29, .bipush 37, 2, 0, 0, .int 37, [], []),
  (31, .invokevirtual 56, 7, 49, 1, .int 0, [], [16]),
  (34, .ifCond .eq 8, 3, 42, 0, .null, [], []),
  (37, .bipush (-15), 2, 0, 0, .int (-15), [], []),
  (39, .goto 4, 3, 43, 0, .null, [], []),
  (42, .iconst 0, 1, 0, 0, .int 0, [], []),
  (43, .ireturn, 1, 0, 0, .int 0, [], [])],
  [], 1)
/-- 44: LeastPays$Law.readOperand(I)V -/
def kX4_readOperand : j_K := ([
  (0, .aload_n 0, 1, 0, 0, .null, [], []),
  (1, .invokevirtual 92, 7, 46, 0, .int 0, [], [27]),
  (4, .istore_n 2, 1, 2, 0, .null, [], []),
  (5, .iload_n 2, 1, 2, 0, .null, [], []),
  (6, .invokestatic 95, 3, 48, 1, .int 0, [], [28]),
  (9, .istore_n 3, 1, 3, 0, .null, [], []),
  (10, .iload_n 2, 1, 2, 0, .null, [], []),
  (11, .invokestatic 99, 3, 47, 1, .int 0, [], [29]),
  (14, .ifCond .eq 10, 3, 24, 0, .null, [], []),
  (17, .aload_n 0, 1, 0, 0, .null, [], []),
  (18, .invokevirtual 103, 7, 45, 0, .null, [], [30]),
  (21, .goto 124, 3, 145, 0, .null, [], []),
  (24, .iload_n 3, 1, 3, 0, .null, [], []),
  (25, .ifCond .eq 21, 3, 46, 0, .null, [], []),
  (28, .aload_n 0, 1, 0, 0, .null, [], []),
  (29, .dup, 1, 0, 0, .null, [], []),
  (30, .getfield 50, 3, 4, 5, .int 0, [], [45]),
  (33, .iconst 1, 1, 0, 0, .int 1, [], []),
  (34, .iadd, 1, 0, 0, .null, [], []),
  (35, .putfield 50, 3, 4, 5, .int 0, [], [45]),
  (38, .aload_n 0, 1, 0, 0, .null, [], []),
  (39, .iload_n 3, 1, 3, 0, .null, [], []),
  (40, .invokevirtual 67, 7, 51, 1, .null, [], [19]),
  (43, .goto 102, 3, 145, 0, .null, [], []),
  (46, .iload_n 1, 1, 1, 0, .null, [], []),
  (47, .bipush 6, 2, 0, 0, .int 6, [], []),
  (49, .if_icmp .lt 10, 3, 59, 0, .null, [], []),
  (52, .aload_n 0, 1, 0, 0, .null, [], []),
  (53, .invokevirtual 60, 7, 50, 0, .null, [], [17]),
  (56, .goto 89, 3, 145, 0, .null, [], []),
  (59, .aload_n 0, 1, 0, 0, .null, [], []),
  (60, .bipush 40, 2, 0, 0, .int 40, [], []),
  (62, .invokevirtual 56, 7, 49, 1, .int 0, [], [16]),
  (65, .ifCond .eq 26, 3, 91, 0, .null, [], []),
  (68, .aload_n 0, 1, 0, 0, .null, [], []),
  (69, .iload_n 1, 1, 1, 0, .null, [], []),
  (70, .iconst 1, 1, 0, 0, .int 1, [], []),
  (71, .iadd, 1, 0, 0, .null, [], []),
  (72, .invokevirtual 63, 7, 37, 1, .null, [], [18]),
  (75, .aload_n 0, 1, 0, 0, .null, [], []),
  (76, .bipush 41, 2, 0, 0, .int 41, [], []),
  (78, .invokevirtual 56, 7, 49, 1, .int 0, [], [16]),
  (81, .ifCond .ne 64, 3, 145, 0, .null, [], []),
  (84, .aload_n 0, 1, 0, 0, .null, [], []),
  (85, .invokevirtual 60, 7, 50, 0, .null, [], [17]),
  (88, .goto 57, 3, 145, 0, .null, [], []),
  (91, .aload_n 0, 1, 0, 0, .null, [], []),
  (92, .bipush 33, 2, 0, 0, .int 33, [], []),
  (94, .invokevirtual 56, 7, 49, 1, .int 0, [], [16]),
  (97, .ifCond .eq 19, 3, 116, 0, .null, [], []),
  (100, .aload_n 0, 1, 0, 0, .null, [], []),
  (101, .iload_n 1, 1, 1, 0, .null, [], []),
  (102, .iconst 1, 1, 0, 0, .int 1, [], []),
  (103, .iadd, 1, 0, 0, .null, [], []),
  (104, .invokevirtual 86, 7, 44, 1, .null, [], [25]),
  (107, .aload_n 0, 1, 0, 0, .null, [], []),
  (108, .bipush (-16), 2, 0, 0, .int (-16), [], []),
  (110, .invokevirtual 67, 7, 51, 1, .null, [], [19]),
  (113, .goto 32, 3, 145, 0, .null, [], []),
  (116, .aload_n 0, 1, 0, 0, .null, [], []),
  (117, .bipush 45, 2, 0, 0, .int 45, [], []),
  (119, .invokevirtual 56, 7, 49, 1, .int 0, [], [16]),
  (122, .ifCond .eq 19, 3, 141, 0, .null, [], []),
  (125, .aload_n 0, 1, 0, 0, .null, [], []),
  (126, .iload_n 1, 1, 1, 0, .null, [], []),
  (127, .iconst 1, 1, 0, 0, .int 1, [], []),
  (128, .iadd, 1, 0, 0, .null, [], []),
  (129, .invokevirtual 86, 7, 44, 1, .null, [], [25]),
  (132, .aload_n 0, 1, 0, 0, .null, [], []),
  (133, .bipush (-17), 2, 0, 0, .int (-17), [], []),
  (135, .invokevirtual 67, 7, 51, 1, .null, [], [19]),
  (138, .goto 7, 3, 145, 0, .null, [], []),
  (141, .aload_n 0, 1, 0, 0, .null, [], []),
  (142, .invokevirtual 60, 7, 50, 0, .null, [], [17]),
  (145, .return_, 1, 0, 0, .null, [], [])],
  [], 4)
/-- 45: LeastPays$Law.readNumber()V -/
def kX4_readNumber : j_K := ([
  (0, .iconst 0, 1, 0, 0, .int 0, [], []),
  (1, .istore_n 1, 1, 1, 0, .null, [], []),
  (2, .iconst 0, 1, 0, 0, .int 0, [], []),
  (3, .istore_n 2, 1, 2, 0, .null, [], []),
  (4, .iload_n 2, 1, 2, 0, .null, [], []),
  (5, .iconst 4, 1, 0, 0, .int 4, [], []),
  (6, .if_icmp .ge 42, 3, 48, 0, .null, [], []),
  (9, .aload_n 0, 1, 0, 0, .null, [], []),
  (10, .invokevirtual 92, 7, 46, 0, .int 0, [], [27]),
  (13, .invokestatic 99, 3, 47, 1, .int 0, [], [29]),
  (16, .ifCond .eq 32, 3, 48, 0, .null, [], []),
  (19, .iload_n 1, 1, 1, 0, .null, [], []),
  (20, .bipush 10, 2, 0, 0, .int 10, [], []),
  (22, .imul, 1, 0, 0, .null, [], []),
  (23, .aload_n 0, 1, 0, 0, .null, [], []),
  (24, .invokevirtual 92, 7, 46, 0, .int 0, [], [27]),
  (27, .iadd, 1, 0, 0, .null, [], []),
  (28, .bipush 48, 2, 0, 0, .int 48, [], []),
  (30, .isub, 1, 0, 0, .null, [], []),
  (31, .istore_n 1, 1, 1, 0, .null, [], []),
  (32, .aload_n 0, 1, 0, 0, .null, [], []),
  (33, .dup, 1, 0, 0, .null, [], []),
  (34, .getfield 50, 3, 4, 5, .int 0, [], [45]),
  (37, .iconst 1, 1, 0, 0, .int 1, [], []),
  (38, .iadd, 1, 0, 0, .null, [], []),
  (39, .putfield 50, 3, 4, 5, .int 0, [], [45]),
  (42, .iinc 2 1, 3, 2, 0, .int 1, [], []),
  (45, .goto (-41), 3, 4, 0, .null, [], []),
  (48, .aload_n 0, 1, 0, 0, .null, [], []),
  (49, .iload_n 1, 1, 1, 0, .null, [], []),
  (50, .invokevirtual 67, 7, 51, 1, .null, [], [19]),
  (53, .return_, 1, 0, 0, .null, [], [])],
  [(4, [true, true, true])], 3)
/-- 46: LeastPays$Law.letterHere()I -/
def kX4_letterHere : j_K := ([
  (0, .aload_n 0, 1, 0, 0, .null, [], []),
  (1, .getfield 31, 3, 4, 6, .int 0, [], [41]),
  (4, .iconst (-1), 1, 0, 0, .int (-1), [], []),
  (5, .if_icmp .ne 33, 3, 38, 0, .null, [], []),
  (8, .aload_n 0, 1, 0, 0, .null, [], []),
  (9, .getfield 50, 3, 4, 5, .int 0, [], [45]),
  (12, .ifCond .lt 26, 3, 38, 0, .null, [], []),
  (15, .aload_n 0, 1, 0, 0, .null, [], []),
  (16, .getfield 50, 3, 4, 5, .int 0, [], [45]),
  (19, .aload_n 0, 1, 0, 0, .null, [], []),
  (20, .getfield 24, 3, 4, 4, .int 0, [], [40]),
  (23, .if_icmp .ge 15, 3, 38, 0, .null, [], []),
  (26, .aload_n 0, 1, 0, 0, .null, [], []),
  (27, .getfield 11, 3, 4, 0, .null, [], [36]),
  (30, .aload_n 0, 1, 0, 0, .null, [], []),
  (31, .getfield 50, 3, 4, 5, .int 0, [], [45]),
  (34, .iaload, 1, 0, 0, .null, [], []),
  (35, .goto 4, 3, 39, 0, .null, [], []),
  (38, .iconst (-1), 1, 0, 0, .int (-1), [], []),
  (39, .ireturn, 1, 0, 0, .int 0, [], [])],
  [], 1)
/-- 47: LeastPays$Law.isDigit(I)Z -/
def kX4_isDigit : j_K := ([
  (0, .iload_n 0, 1, 0, 0, .null, [], []),
  (1, .bipush 48, 2, 0, 0, .int 48, [], []),
  (3, .if_icmp .lt 13, 3, 16, 0, .null, [], []),
  (6, .iload_n 0, 1, 0, 0, .null, [], []),
  (7, .bipush 57, 2, 0, 0, .int 57, [], []),
  (9, .if_icmp .gt 7, 3, 16, 0, .null, [], []),
  (12, .iconst 1, 1, 0, 0, .int 1, [], []),
  (13, .goto 4, 3, 17, 0, .null, [], []),
  (16, .iconst 0, 1, 0, 0, .int 0, [], []),
  (17, .ireturn, 1, 0, 0, .long 0, [], [])],
  [], 1)
/-- 48: LeastPays$Law.nameOf(I)I -/
def kX4_nameOf : j_K := ([
  (0, .iload_n 0, 1, 0, 0, .null, [], []),
  (1, .lookupswitch 65 #[(98, 51), (107, 59), (110, 56), (112, 53), (114, 62)], 51, 66, 0, .null, [(98, 52), (107, 60), (110, 57), (112, 54), (114, 63)], []),
  (52, .iconst (-1), 1, 0, 0, .int (-1), [], []),
  (53, .ireturn, 1, 0, 0, .int 0, [], []),
  (54, .bipush (-2), 2, 0, 0, .int (-2), [], []),
  (56, .ireturn, 1, 0, 0, .int 0, [], []),
  (57, .bipush (-3), 2, 0, 0, .int (-3), [], []),
  (59, .ireturn, 1, 0, 0, .int 0, [], []),
  (60, .bipush (-4), 2, 0, 0, .int (-4), [], []),
  (62, .ireturn, 1, 0, 0, .int 0, [], []),
  (63, .bipush (-5), 2, 0, 0, .int (-5), [], []),
  (65, .ireturn, 1, 0, 0, .int 0, [], []),
  (66, .iconst 0, 1, 0, 0, .int 0, [], []),
  (67, .ireturn, 1, 0, 0, .int 0, [], [])],
  [], 1)
/-- 49: LeastPays$Law.takes(C)Z -/
def kX4_takes : j_K := ([
  (0, .aload_n 0, 1, 0, 0, .null, [], []),
  (1, .invokevirtual 92, 7, 46, 0, .int 0, [], [27]),
  (4, .iload_n 1, 1, 1, 0, .null, [], []),
  (5, .if_icmp .eq 5, 3, 10, 0, .null, [], []),
  (8, .iconst 0, 1, 0, 0, .int 0, [], []),
  (9, .ireturn, 1, 0, 0, .long 0, [], []),
  (10, .aload_n 0, 1, 0, 0, .null, [], []),
  (11, .dup, 1, 0, 0, .null, [], []),
  (12, .getfield 50, 3, 4, 5, .int 0, [], [45]),
  (15, .iconst 1, 1, 0, 0, .int 1, [], []),
  (16, .iadd, 1, 0, 0, .null, [], []),
  (17, .putfield 50, 3, 4, 5, .int 0, [], [45]),
  (20, .iconst 1, 1, 0, 0, .int 1, [], []),
  (21, .ireturn, 1, 0, 0, .long 0, [], [])],
  [], 2)
/-- 50: LeastPays$Law.fail()V -/
def kX4_fail : j_K := ([
  (0, .aload_n 0, 1, 0, 0, .null, [], []),
  (1, .getfield 31, 3, 4, 6, .int 0, [], [41]),
  (4, .iconst (-1), 1, 0, 0, .int (-1), [], []),
  (5, .if_icmp .ne 11, 3, 16, 0, .null, [], []),
  (8, .aload_n 0, 1, 0, 0, .null, [], []),
  (9, .aload_n 0, 1, 0, 0, .null, [], []),
  (10, .getfield 50, 3, 4, 5, .int 0, [], [45]),
  (13, .putfield 31, 3, 4, 6, .int 0, [], [41]),
  (16, .return_, 1, 0, 0, .null, [], [])],
  [], 1)
/-- 51: LeastPays$Law.write(I)V -/
def kX4_write : j_K := ([
  (0, .aload_n 0, 1, 0, 0, .null, [], []),
  (1, .getfield 34, 3, 4, 7, .int 0, [], [42]),
  (4, .aload_n 0, 1, 0, 0, .null, [], []),
  (5, .getfield 15, 3, 4, 1, .null, [], [37]),
  (8, .arraylength, 1, 0, 0, .null, [], []),
  (9, .if_icmp .ge 23, 3, 32, 0, .null, [], []),
  (12, .aload_n 0, 1, 0, 0, .null, [], []),
  (13, .getfield 15, 3, 4, 1, .null, [], [37]),
  (16, .aload_n 0, 1, 0, 0, .null, [], []),
  (17, .getfield 34, 3, 4, 7, .int 0, [], [42]),
  (20, .iload_n 1, 1, 1, 0, .null, [], []),
  (21, .iastore, 1, 0, 0, .null, [], []),
  (22, .aload_n 0, 1, 0, 0, .null, [], []),
  (23, .dup, 1, 0, 0, .null, [], []),
  (24, .getfield 34, 3, 4, 7, .int 0, [], [42]),
  (27, .iconst 1, 1, 0, 0, .int 1, [], []),
  (28, .iadd, 1, 0, 0, .null, [], []),
  (29, .putfield 34, 3, 4, 7, .int 0, [], [42]),
  (32, .return_, 1, 0, 0, .null, [], [])],
  [], 2)
/-- 52: LeastPays$Law.gift(LLeastPays$Guests;II)I -/
def kX4_gift : j_K := ([
  (0, .aload_n 0, 1, 0, 0, .null, [], []),
  (1, .getfield 46, 3, 4, 9, .long 0, [], [44]),
  (4, .ifCond .eq 13, 3, 17, 0, .null, [], []),
  (7, .aload_n 0, 1, 0, 0, .null, [], []),
  (8, .aload_n 1, 1, 1, 0, .null, [], []),
  (9, .iload_n 2, 1, 2, 0, .null, [], []),
  (10, .iload_n 3, 1, 3, 0, .null, [], []),
  (11, .invokevirtual 106, 7, 54, 3, .int 0, [], [31]),
  (14, .goto 11, 3, 25, 0, .null, [], []),
  (17, .iload_n 3, 1, 3, 0, .null, [], []),
  (18, .aload_n 1, 1, 1, 0, .null, [], []),
  (19, .getfield 110, 3, 2, 6, .int 0, [], [46]),
  (22, .invokestatic 115, 3, 53, 2, .int 0, [], [32]),
  (25, .istore 4, 2, 4, 0, .null, [], []),
  (27, .iconst 0, 1, 0, 0, .int 0, [], []),
  (28, .iload 4, 2, 4, 0, .null, [], []),
  (30, .aload_n 1, 1, 1, 0, .null, [], []),
  (31, .getfield 119, 3, 2, 0, .null, [], [47]),
  (34, .iload_n 2, 1, 2, 0, .null, [], []),
  (35, .iaload, 1, 0, 0, .null, [], []),
  (36, .invokestatic 122, 3, 1002, 2, .null, [], [5]),
  (39, .invokestatic 127, 3, 1001, 2, .null, [], [6]),
  (42, .ireturn, 1, 0, 0, .int 0, [], [])],
  [], 5)
/-- 53: LeastPays$Law.shareOf(II)I -/
def kX4_shareOf : j_K := ([
  (0, .iload_n 1, 1, 1, 0, .null, [], []),
  (1, .ifCond .ne 7, 3, 8, 0, .null, [], []),
  (4, .iconst 0, 1, 0, 0, .int 0, [], []),
  (5, .goto 6, 3, 11, 0, .null, [], []),
  (8, .iload_n 0, 1, 0, 0, .null, [], []),
  (9, .iload_n 1, 1, 1, 0, .null, [], []),
  (10, .idiv, 1, 0, 0, .null, [], []),
  (11, .ireturn, 1, 0, 0, .int 0, [], [])],
  [], 2)
/-- 54: LeastPays$Law.workOut(LLeastPays$Guests;II)I -/
def kX4_workOut : j_K := ([
  (0, .aload_n 0, 1, 0, 0, .null, [], []),
  (1, .iconst 0, 1, 0, 0, .int 0, [], []),
  (2, .putfield 130, 3, 4, 10, .int 0, [], [48]),
  (5, .iconst 1, 1, 0, 0, .int 1, [], []),
  (6, .istore 4, 2, 4, 0, .null, [], []),
  (8, .iconst 0, 1, 0, 0, .int 0, [], []),
  (9, .istore 5, 2, 5, 0, .null, [], []),
  (11, .iload 5, 2, 5, 0, .null, [], []),
  (13, .aload_n 0, 1, 0, 0, .null, [], []),
  (14, .getfield 43, 3, 4, 8, .int 0, [], [43]),
  (17, .if_icmp .ge 125, 3, 142, 0, .null, [], []),
  (20, .aload_n 0, 1, 0, 0, .null, [], []),
  (21, .getfield 18, 3, 4, 2, .null, [], [38]),
  (24, .iload 5, 2, 5, 0, .null, [], []),
  (26, .iaload, 1, 0, 0, .null, [], []),
  (27, .istore 6, 2, 6, 0, .null, [], []),
  (29, .iload 6, 2, 6, 0, .null, [], []),
  (31, .bipush (-19), 2, 0, 0, .int (-19), [], []),
  (33, .if_icmp .ne 13, 3, 46, 0, .null, [], []),
  (36, .iload 4, 2, 4, 0, .null, [], []),
  (38, .ifCond .eq 8, 3, 46, 0, .null, [], []),
  (41, .aload_n 0, 1, 0, 0, .null, [], []),
  (42, .invokevirtual 133, 7, 57, 0, .int 0, [], [33]),
  (45, .ireturn, 1, 0, 0, .int 0, [], []),
  (46, .iload 6, 2, 6, 0, .null, [], []),
  (48, .bipush (-19), 2, 0, 0, .int (-19), [], []),
  (50, .if_icmp .ne 9, 3, 59, 0, .null, [], []),
  (53, .iconst 1, 1, 0, 0, .int 1, [], []),
  (54, .istore 4, 2, 4, 0, .null, [], []),
  (56, .goto 80, 3, 136, 0, .null, [], []),
  (59, .iload 4, 2, 4, 0, .null, [], []),
  (61, .ifCond .eq 27, 3, 88, 0, .null, [], []),
  (64, .iload 6, 2, 6, 0, .null, [], []),
  (66, .bipush (-18), 2, 0, 0, .int (-18), [], []),
  (68, .if_icmp .ne 20, 3, 88, 0, .null, [], []),
  (71, .aload_n 0, 1, 0, 0, .null, [], []),
  (72, .invokevirtual 133, 7, 57, 0, .int 0, [], [33]),
  (75, .ifCond .eq 7, 3, 82, 0, .null, [], []),
  (78, .iconst 1, 1, 0, 0, .int 1, [], []),
  (79, .goto 4, 3, 83, 0, .null, [], []),
  (82, .iconst 0, 1, 0, 0, .int 0, [], []),
  (83, .istore 4, 2, 4, 0, .null, [], []),
  (85, .goto 51, 3, 136, 0, .null, [], []),
  (88, .iload 4, 2, 4, 0, .null, [], []),
  (90, .ifCond .eq 35, 3, 125, 0, .null, [], []),
  (93, .iload 6, 2, 6, 0, .null, [], []),
  (95, .bipush (-5), 2, 0, 0, .int (-5), [], []),
  (97, .if_icmp .lt 28, 3, 125, 0, .null, [], []),
  (100, .aload_n 0, 1, 0, 0, .null, [], []),
  (101, .iload 6, 2, 6, 0, .null, [], []),
  (103, .ifCond .lt 8, 3, 111, 0, .null, [], []),
  (106, .iload 6, 2, 6, 0, .null, [], []),
  (108, .goto 11, 3, 119, 0, .null, [], []),
  (111, .iload 6, 2, 6, 0, .null, [], []),
  (113, .aload_n 1, 1, 1, 0, .null, [], []),
  (114, .iload_n 2, 1, 2, 0, .null, [], []),
  (115, .iload_n 3, 1, 3, 0, .null, [], []),
  (116, .invokestatic 136, 3, 58, 4, .int 0, [], [34]),
  (119, .invokevirtual 140, 7, 56, 1, .null, [], [35]),
  (122, .goto 14, 3, 136, 0, .null, [], []),
  (125, .iload 4, 2, 4, 0, .null, [], []),
  (127, .ifCond .eq 9, 3, 136, 0, .null, [], []),
  (130, .aload_n 0, 1, 0, 0, .null, [], []),
  (131, .iload 6, 2, 6, 0, .null, [], []),
  (133, .invokevirtual 143, 7, 55, 1, .null, [], [36]),
  (136, .iinc 5 1, 3, 5, 0, .int 1, [], []),
  (139, .goto (-128), 3, 11, 0, .null, [], []),
  (142, .iconst 0, 1, 0, 0, .int 0, [], []),
  (143, .ireturn, 1, 0, 0, .int 0, [], [])],
  [(11, [true, true, true, true, true, true, false]), (46, [true, true, true, true, true, true, true]), (88, [true, true, true, true, true, true, true])], 7)
/-- 55: LeastPays$Law.apply(I)V -/
def kX4_apply : j_K := ([
  (0, .aload_n 0, 1, 0, 0, .null, [], []),
  (1, .invokevirtual 133, 7, 57, 0, .int 0, [], [33]),
  (4, .istore_n 2, 1, 2, 0, .null, [], []),
  (5, .iload_n 1, 1, 1, 0, .null, [], []),
  (6, .bipush (-17), 2, 0, 0, .int (-17), [], []),
  (8, .if_icmp .ne 12, 3, 20, 0, .null, [], []),
  (11, .aload_n 0, 1, 0, 0, .null, [], []),
  (12, .iload_n 2, 1, 2, 0, .null, [], []),
  (13, .ineg, 1, 0, 0, .null, [], []),
  (14, .invokevirtual 140, 7, 56, 1, .null, [], [35]),
  (17, .goto 43, 3, 60, 0, .null, [], []),
  (20, .iload_n 1, 1, 1, 0, .null, [], []),
  (21, .bipush (-16), 2, 0, 0, .int (-16), [], []),
  (23, .if_icmp .ne 22, 3, 45, 0, .null, [], []),
  (26, .aload_n 0, 1, 0, 0, .null, [], []),
  (27, .iload_n 2, 1, 2, 0, .null, [], []),
  (28, .ifCond .ne 7, 3, 35, 0, .null, [], []),
  (31, .iconst 1, 1, 0, 0, .int 1, [], []),
  (32, .goto 4, 3, 36, 0, .null, [], []),
  (35, .iconst 0, 1, 0, 0, .int 0, [], []),
  (36, .invokestatic 146, 3, 60, 1, .int 0, [], [37]),
  (39, .invokevirtual 140, 7, 56, 1, .null, [], [35]),
  (42, .goto 18, 3, 60, 0, .null, [], []),
  (45, .aload_n 0, 1, 0, 0, .null, [], []),
  (46, .invokevirtual 133, 7, 57, 0, .int 0, [], [33]),
  (49, .istore_n 3, 1, 3, 0, .null, [], []),
  (50, .aload_n 0, 1, 0, 0, .null, [], []),
  (51, .iload_n 1, 1, 1, 0, .null, [], []),
  (52, .iload_n 3, 1, 3, 0, .null, [], []),
  (53, .iload_n 2, 1, 2, 0, .null, [], []),
  (54, .invokestatic 150, 3, 59, 3, .int 0, [], [38]),
  (57, .invokevirtual 140, 7, 56, 1, .null, [], [35]),
  (60, .return_, 1, 0, 0, .null, [], [])],
  [], 4)
/-- 56: LeastPays$Law.push(I)V -/
def kX4_push : j_K := ([
  (0, .aload_n 0, 1, 0, 0, .null, [], []),
  (1, .getfield 130, 3, 4, 10, .int 0, [], [48]),
  (4, .aload_n 0, 1, 0, 0, .null, [], []),
  (5, .getfield 21, 3, 4, 3, .null, [], [39]),
  (8, .arraylength, 1, 0, 0, .null, [], []),
  (9, .if_icmp .ge 23, 3, 32, 0, .null, [], []),
  (12, .aload_n 0, 1, 0, 0, .null, [], []),
  (13, .getfield 21, 3, 4, 3, .null, [], [39]),
  (16, .aload_n 0, 1, 0, 0, .null, [], []),
  (17, .getfield 130, 3, 4, 10, .int 0, [], [48]),
  (20, .iload_n 1, 1, 1, 0, .null, [], []),
  (21, .iastore, 1, 0, 0, .null, [], []),
  (22, .aload_n 0, 1, 0, 0, .null, [], []),
  (23, .dup, 1, 0, 0, .null, [], []),
  (24, .getfield 130, 3, 4, 10, .int 0, [], [48]),
  (27, .iconst 1, 1, 0, 0, .int 1, [], []),
  (28, .iadd, 1, 0, 0, .null, [], []),
  (29, .putfield 130, 3, 4, 10, .int 0, [], [48]),
  (32, .return_, 1, 0, 0, .null, [], [])],
  [], 2)
/-- 57: LeastPays$Law.pop()I -/
def kX4_pop : j_K := ([
  (0, .aload_n 0, 1, 0, 0, .null, [], []),
  (1, .getfield 130, 3, 4, 10, .int 0, [], [48]),
  (4, .ifCond .gt 5, 3, 9, 0, .null, [], []),
  (7, .iconst 0, 1, 0, 0, .int 0, [], []),
  (8, .ireturn, 1, 0, 0, .int 0, [], []),
  (9, .aload_n 0, 1, 0, 0, .null, [], []),
  (10, .dup, 1, 0, 0, .null, [], []),
  (11, .getfield 130, 3, 4, 10, .int 0, [], [48]),
  (14, .iconst 1, 1, 0, 0, .int 1, [], []),
  (15, .isub, 1, 0, 0, .null, [], []),
  (16, .putfield 130, 3, 4, 10, .int 0, [], [48]),
  (19, .aload_n 0, 1, 0, 0, .null, [], []),
  (20, .getfield 21, 3, 4, 3, .null, [], [39]),
  (23, .aload_n 0, 1, 0, 0, .null, [], []),
  (24, .getfield 130, 3, 4, 10, .int 0, [], [48]),
  (27, .iaload, 1, 0, 0, .null, [], []),
  (28, .ireturn, 1, 0, 0, .int 0, [], [])],
  [], 1)
/-- 58: LeastPays$Law.valueOf(ILLeastPays$Guests;II)I -/
def kX4_valueOf : j_K := ([
  (0, .iload_n 0, 1, 0, 0, .null, [], []),
  (1, .tableswitch 47 (-4) (-1) #[42, 40, 33, 31], 31, 48, 0, .null, [((-4), 43), ((-3), 41), ((-2), 34), ((-1), 32)], []),
  (32, .iload_n 3, 1, 3, 0, .null, [], []),
  (33, .ireturn, 1, 0, 0, .int 0, [], []),
  (34, .aload_n 1, 1, 1, 0, .null, [], []),
  (35, .getfield 119, 3, 2, 0, .null, [], [47]),
  (38, .iload_n 2, 1, 2, 0, .null, [], []),
  (39, .iaload, 1, 0, 0, .null, [], []),
  (40, .ireturn, 1, 0, 0, .int 0, [], []),
  (41, .iload_n 2, 1, 2, 0, .null, [], []),
  (42, .ireturn, 1, 0, 0, .int 0, [], []),
  (43, .aload_n 1, 1, 1, 0, .null, [], []),
  (44, .getfield 110, 3, 2, 6, .int 0, [], [46]),
  (47, .ireturn, 1, 0, 0, .int 0, [], []),
  (48, .aload_n 1, 1, 1, 0, .null, [], []),
  (49, .getfield 154, 3, 2, 8, .int 0, [], [49]),
  (52, .ireturn, 1, 0, 0, .int 0, [], [])],
  [], 4)
/-- 59: LeastPays$Law.joined(III)I -/
def kX4_joined : j_K := ([
  (0, .iload_n 0, 1, 0, 0, .null, [], []),
  (1, .tableswitch 151 (-14) (-6) #[139, 135, 131, 127, 113, 99, 85, 68, 51], 51, 152, 0, .null, [((-14), 140), ((-13), 136), ((-12), 132), ((-11), 128), ((-10), 114), ((-9), 100), ((-8), 86), ((-7), 69), ((-6), 52)], []),
  (52, .iload_n 1, 1, 1, 0, .null, [], []),
  (53, .ifCond .ne 7, 3, 60, 0, .null, [], []),
  (56, .iload_n 2, 1, 2, 0, .null, [], []),
  (57, .ifCond .eq 7, 3, 64, 0, .null, [], []),
  (60, .iconst 1, 1, 0, 0, .int 1, [], []),
  (61, .goto 4, 3, 65, 0, .null, [], []),
  (64, .iconst 0, 1, 0, 0, .int 0, [], []),
  (65, .invokestatic 146, 3, 60, 1, .int 0, [], [37]),
  (68, .ireturn, 1, 0, 0, .int 0, [], []),
  (69, .iload_n 1, 1, 1, 0, .null, [], []),
  (70, .ifCond .eq 11, 3, 81, 0, .null, [], []),
  (73, .iload_n 2, 1, 2, 0, .null, [], []),
  (74, .ifCond .eq 7, 3, 81, 0, .null, [], []),
  (77, .iconst 1, 1, 0, 0, .int 1, [], []),
  (78, .goto 4, 3, 82, 0, .null, [], []),
  (81, .iconst 0, 1, 0, 0, .int 0, [], []),
  (82, .invokestatic 146, 3, 60, 1, .int 0, [], [37]),
  (85, .ireturn, 1, 0, 0, .int 0, [], []),
  (86, .iload_n 1, 1, 1, 0, .null, [], []),
  (87, .iload_n 2, 1, 2, 0, .null, [], []),
  (88, .if_icmp .ge 7, 3, 95, 0, .null, [], []),
  (91, .iconst 1, 1, 0, 0, .int 1, [], []),
  (92, .goto 4, 3, 96, 0, .null, [], []),
  (95, .iconst 0, 1, 0, 0, .int 0, [], []),
  (96, .invokestatic 146, 3, 60, 1, .int 0, [], [37]),
  (99, .ireturn, 1, 0, 0, .int 0, [], []),
  (100, .iload_n 1, 1, 1, 0, .null, [], []),
  (101, .iload_n 2, 1, 2, 0, .null, [], []),
  (102, .if_icmp .ne 7, 3, 109, 0, .null, [], []),
  (105, .iconst 1, 1, 0, 0, .int 1, [], []),
  (106, .goto 4, 3, 110, 0, .null, [], []),
  (109, .iconst 0, 1, 0, 0, .int 0, [], []),
  (110, .invokestatic 146, 3, 60, 1, .int 0, [], [37]),
  (113, .ireturn, 1, 0, 0, .int 0, [], []),
  (114, .iload_n 1, 1, 1, 0, .null, [], []),
  (115, .iload_n 2, 1, 2, 0, .null, [], []),
  (116, .if_icmp .le 7, 3, 123, 0, .null, [], []),
  (119, .iconst 1, 1, 0, 0, .int 1, [], []),
  (120, .goto 4, 3, 124, 0, .null, [], []),
  (123, .iconst 0, 1, 0, 0, .int 0, [], []),
  (124, .invokestatic 146, 3, 60, 1, .int 0, [], [37]),
  (127, .ireturn, 1, 0, 0, .int 0, [], []),
  (128, .iload_n 1, 1, 1, 0, .null, [], []),
  (129, .iload_n 2, 1, 2, 0, .null, [], []),
  (130, .iadd, 1, 0, 0, .null, [], []),
  (131, .ireturn, 1, 0, 0, .int 0, [], []),
  (132, .iload_n 1, 1, 1, 0, .null, [], []),
  (133, .iload_n 2, 1, 2, 0, .null, [], []),
  (134, .isub, 1, 0, 0, .null, [], []),
  (135, .ireturn, 1, 0, 0, .int 0, [], []),
  (136, .iload_n 1, 1, 1, 0, .null, [], []),
  (137, .iload_n 2, 1, 2, 0, .null, [], []),
  (138, .imul, 1, 0, 0, .null, [], []),
  (139, .ireturn, 1, 0, 0, .int 0, [], []),
  (140, .iload_n 2, 1, 2, 0, .null, [], []),
  (141, .ifCond .ne 7, 3, 148, 0, .null, [], []),
  (144, .iconst 0, 1, 0, 0, .int 0, [], []),
  (145, .goto 6, 3, 151, 0, .null, [], []),
  (148, .iload_n 1, 1, 1, 0, .null, [], []),
  (149, .iload_n 2, 1, 2, 0, .null, [], []),
  (150, .idiv, 1, 0, 0, .null, [], []),
  (151, .ireturn, 1, 0, 0, .int 0, [], []),
  (152, .iload_n 2, 1, 2, 0, .null, [], []),
  (153, .ifCond .ne 7, 3, 160, 0, .null, [], []),
  (156, .iconst 0, 1, 0, 0, .int 0, [], []),
  (157, .goto 6, 3, 163, 0, .null, [], []),
  (160, .iload_n 1, 1, 1, 0, .null, [], []),
  (161, .iload_n 2, 1, 2, 0, .null, [], []),
  (162, .irem, 1, 0, 0, .null, [], []),
  (163, .ireturn, 1, 0, 0, .int 0, [], [])],
  [], 3)
/-- 60: LeastPays$Law.truth(Z)I -/
def kX4_truth : j_K := ([
  (0, .iload_n 0, 1, 0, 0, .null, [], []),
  (1, .ifCond .eq 7, 3, 8, 0, .null, [], []),
  (4, .iconst 1, 1, 0, 0, .int 1, [], []),
  (5, .goto 4, 3, 9, 0, .null, [], []),
  (8, .iconst 0, 1, 0, 0, .int 0, [], []),
  (9, .ireturn, 1, 0, 0, .int 0, [], [])],
  [], 1)
/-- 61: LeastPays$Menu.<init>(LLeastPays$Guests;LLeastPays$Hat;)V -/
def kX5_init : j_K := ([
  (0, .aload_n 0, 1, 0, 0, .null, [], []),
  (1, .invokespecial 3, 3, 999, 0, .null, [], [5]),
  (4, .aload_n 0, 1, 0, 0, .null, [], []),
  (5, .iconst 3, 1, 0, 0, .int 3, [], []),
  (6, .newarray .int, 2, 0, 0, .int 0, [], []),
  (8, .putfield 11, 3, 5, 2, .null, [], [50]),
  (11, .aload_n 0, 1, 0, 0, .null, [], []),
  (12, .bipush 18, 2, 0, 0, .int 18, [], []),
  (14, .newarray .int, 2, 0, 0, .int 0, [], []),
  (16, .putfield 15, 3, 5, 3, .null, [], [51]),
  (19, .aload_n 0, 1, 0, 0, .null, [], []),
  (20, .bipush 6, 2, 0, 0, .int 6, [], []),
  (22, .newarray .int, 2, 0, 0, .int 0, [], []),
  (24, .putfield 18, 3, 5, 4, .null, [], [52]),
  (27, .aload_n 0, 1, 0, 0, .null, [], []),
  (28, .aload_n 1, 1, 1, 0, .null, [], []),
  (29, .putfield 21, 3, 5, 0, .null, [], [53]),
  (32, .aload_n 0, 1, 0, 0, .null, [], []),
  (33, .aload_n 2, 1, 2, 0, .null, [], []),
  (34, .putfield 25, 3, 5, 1, .null, [], [54]),
  (37, .return_, 1, 0, 0, .null, [], [])],
  [], 3)
/-- 62: LeastPays$Menu.has(I)Z -/
def kX5_has : j_K := ([
  (0, .iload_n 1, 1, 1, 0, .null, [], []),
  (1, .ifCond .lt 15, 3, 16, 0, .null, [], []),
  (4, .iload_n 1, 1, 1, 0, .null, [], []),
  (5, .aload_n 0, 1, 0, 0, .null, [], []),
  (6, .getfield 29, 3, 5, 5, .int 0, [], [55]),
  (9, .if_icmp .ge 7, 3, 16, 0, .null, [], []),
  (12, .iconst 1, 1, 0, 0, .int 1, [], []),
  (13, .goto 4, 3, 17, 0, .null, [], []),
  (16, .iconst 0, 1, 0, 0, .int 0, [], []),
  (17, .ireturn, 1, 0, 0, .long 0, [], [])],
  [], 2)
/-- 63: LeastPays$Menu.add(I)I -/
def kX5_add : j_K := ([
  (0, .aload_n 0, 1, 0, 0, .null, [], []),
  (1, .getfield 29, 3, 5, 5, .int 0, [], [55]),
  (4, .iconst 3, 1, 0, 0, .int 3, [], []),
  (5, .if_icmp .lt 6, 3, 11, 0, .null, [], []),
  (8, .bipush (-3), 2, 0, 0, .int (-3), [], []),
  (10, .ireturn, 1, 0, 0, .int 0, [], []),
  (11, .aload_n 0, 1, 0, 0, .null, [], []),
  (12, .getfield 11, 3, 5, 2, .null, [], [50]),
  (15, .aload_n 0, 1, 0, 0, .null, [], []),
  (16, .getfield 29, 3, 5, 5, .int 0, [], [55]),
  (19, .iload_n 1, 1, 1, 0, .null, [], []),
  (20, .iastore, 1, 0, 0, .null, [], []),
  (21, .aload_n 0, 1, 0, 0, .null, [], []),
  (22, .dup, 1, 0, 0, .null, [], []),
  (23, .getfield 29, 3, 5, 5, .int 0, [], [55]),
  (26, .iconst 1, 1, 0, 0, .int 1, [], []),
  (27, .iadd, 1, 0, 0, .null, [], []),
  (28, .putfield 29, 3, 5, 5, .int 0, [], [55]),
  (31, .aload_n 0, 1, 0, 0, .null, [], []),
  (32, .getfield 29, 3, 5, 5, .int 0, [], [55]),
  (35, .iconst 1, 1, 0, 0, .int 1, [], []),
  (36, .isub, 1, 0, 0, .null, [], []),
  (37, .ireturn, 1, 0, 0, .int 0, [], [])],
  [], 2)
/-- 64: LeastPays$Menu.enjoy(III)I -/
def kX5_enjoy : j_K := ([
  (0, .iload_n 1, 1, 1, 0, .null, [], []),
  (1, .iconst 3, 1, 0, 0, .int 3, [], []),
  (2, .imul, 1, 0, 0, .null, [], []),
  (3, .iload_n 2, 1, 2, 0, .null, [], []),
  (4, .iadd, 1, 0, 0, .null, [], []),
  (5, .istore 4, 2, 4, 0, .null, [], []),
  (7, .aload_n 0, 1, 0, 0, .null, [], []),
  (8, .getfield 15, 3, 5, 3, .null, [], [51]),
  (11, .iload 4, 2, 4, 0, .null, [], []),
  (13, .iaload, 1, 0, 0, .null, [], []),
  (14, .istore 5, 2, 5, 0, .null, [], []),
  (16, .aload_n 0, 1, 0, 0, .null, [], []),
  (17, .getfield 15, 3, 5, 3, .null, [], [51]),
  (20, .iload 4, 2, 4, 0, .null, [], []),
  (22, .iload_n 3, 1, 3, 0, .null, [], []),
  (23, .iastore, 1, 0, 0, .null, [], []),
  (24, .iload 5, 2, 5, 0, .null, [], []),
  (26, .ireturn, 1, 0, 0, .int 0, [], [])],
  [], 6)
/-- 65: LeastPays$Menu.orderAll()I -/
def kX5_orderAll : j_K := ([
  (0, .aload_n 0, 1, 0, 0, .null, [], []),
  (1, .getfield 25, 3, 5, 1, .null, [], [54]),
  (4, .aload_n 0, 1, 0, 0, .null, [], []),
  (5, .getfield 21, 3, 5, 0, .null, [], [53]),
  (8, .invokevirtual 33, 6, 22, 1, .null, [], [39]),
  (11, .iconst 0, 1, 0, 0, .int 0, [], []),
  (12, .istore_n 1, 1, 1, 0, .null, [], []),
  (13, .iconst 0, 1, 0, 0, .int 0, [], []),
  (14, .istore_n 2, 1, 2, 0, .null, [], []),
  (15, .iload_n 2, 1, 2, 0, .null, [], []),
  (16, .aload_n 0, 1, 0, 0, .null, [], []),
  (17, .getfield 21, 3, 5, 0, .null, [], [53]),
  (20, .getfield 39, 3, 2, 6, .int 0, [], [56]),
  (23, .if_icmp .ge 29, 3, 52, 0, .null, [], []),
  (26, .aload_n 0, 1, 0, 0, .null, [], []),
  (27, .iload_n 2, 1, 2, 0, .null, [], []),
  (28, .iload_n 1, 1, 1, 0, .null, [], []),
  (29, .invokevirtual 42, 8, 66, 2, .int 0, [], [40]),
  (32, .pop, 1, 0, 0, .null, [], []),
  (33, .iload_n 1, 1, 1, 0, .null, [], []),
  (34, .aload_n 0, 1, 0, 0, .null, [], []),
  (35, .aload_n 0, 1, 0, 0, .null, [], []),
  (36, .getfield 18, 3, 5, 4, .null, [], [52]),
  (39, .iload_n 2, 1, 2, 0, .null, [], []),
  (40, .iaload, 1, 0, 0, .null, [], []),
  (41, .invokevirtual 46, 8, 67, 1, .int 0, [], [41]),
  (44, .iadd, 1, 0, 0, .null, [], []),
  (45, .istore_n 1, 1, 1, 0, .null, [], []),
  (46, .iinc 2 1, 3, 2, 0, .int 1, [], []),
  (49, .goto (-34), 3, 15, 0, .null, [], []),
  (52, .iload_n 1, 1, 1, 0, .null, [], []),
  (53, .ireturn, 1, 0, 0, .int 0, [], [])],
  [(15, [true, true, true])], 3)
/-- 66: LeastPays$Menu.playOut(II)I -/
def kX5_playOut : j_K := ([
  (0, .iload_n 1, 1, 1, 0, .null, [], []),
  (1, .aload_n 0, 1, 0, 0, .null, [], []),
  (2, .getfield 21, 3, 5, 0, .null, [], [53]),
  (5, .getfield 39, 3, 2, 6, .int 0, [], [56]),
  (8, .if_icmp .ge 9, 3, 17, 0, .null, [], []),
  (11, .iload_n 1, 1, 1, 0, .null, [], []),
  (12, .bipush 6, 2, 0, 0, .int 6, [], []),
  (14, .if_icmp .lt 5, 3, 19, 0, .null, [], []),
  (17, .iload_n 2, 1, 2, 0, .null, [], []),
  (18, .ireturn, 1, 0, 0, .int 0, [], []),
  (19, .iconst (-1), 1, 0, 0, .int (-1), [], []),
  (20, .istore_n 3, 1, 3, 0, .null, [], []),
  (21, .aload_n 0, 1, 0, 0, .null, [], []),
  (22, .iload_n 1, 1, 1, 0, .null, [], []),
  (23, .iconst 1, 1, 0, 0, .int 1, [], []),
  (24, .iadd, 1, 0, 0, .null, [], []),
  (25, .iload_n 2, 1, 2, 0, .null, [], []),
  (26, .invokevirtual 42, 8, 66, 2, .int 0, [], [40]),
  (29, .istore 4, 2, 4, 0, .null, [], []),
  (31, .aload_n 0, 1, 0, 0, .null, [], []),
  (32, .iload_n 1, 1, 1, 0, .null, [], []),
  (33, .iconst (-1), 1, 0, 0, .int (-1), [], []),
  (34, .iload 4, 2, 4, 0, .null, [], []),
  (36, .invokevirtual 50, 8, 68, 3, .int 0, [], [42]),
  (39, .istore 5, 2, 5, 0, .null, [], []),
  (41, .iconst 0, 1, 0, 0, .int 0, [], []),
  (42, .istore 6, 2, 6, 0, .null, [], []),
  (44, .iload 6, 2, 6, 0, .null, [], []),
  (46, .aload_n 0, 1, 0, 0, .null, [], []),
  (47, .getfield 29, 3, 5, 5, .int 0, [], [55]),
  (50, .if_icmp .ge 56, 3, 106, 0, .null, [], []),
  (53, .aload_n 0, 1, 0, 0, .null, [], []),
  (54, .iload_n 1, 1, 1, 0, .null, [], []),
  (55, .iconst 1, 1, 0, 0, .int 1, [], []),
  (56, .iadd, 1, 0, 0, .null, [], []),
  (57, .iload_n 2, 1, 2, 0, .null, [], []),
  (58, .aload_n 0, 1, 0, 0, .null, [], []),
  (59, .getfield 11, 3, 5, 2, .null, [], [50]),
  (62, .iload 6, 2, 6, 0, .null, [], []),
  (64, .iaload, 1, 0, 0, .null, [], []),
  (65, .iadd, 1, 0, 0, .null, [], []),
  (66, .invokevirtual 42, 8, 66, 2, .int 0, [], [40]),
  (69, .istore 7, 2, 7, 0, .null, [], []),
  (71, .aload_n 0, 1, 0, 0, .null, [], []),
  (72, .iload_n 1, 1, 1, 0, .null, [], []),
  (73, .iload 6, 2, 6, 0, .null, [], []),
  (75, .iload 7, 2, 7, 0, .null, [], []),
  (77, .invokevirtual 50, 8, 68, 3, .int 0, [], [42]),
  (80, .istore 8, 2, 8, 0, .null, [], []),
  (82, .iload 8, 2, 8, 0, .null, [], []),
  (84, .iload 5, 2, 5, 0, .null, [], []),
  (86, .if_icmp .le 14, 3, 100, 0, .null, [], []),
  (89, .iload 6, 2, 6, 0, .null, [], []),
  (91, .istore_n 3, 1, 3, 0, .null, [], []),
  (92, .iload 7, 2, 7, 0, .null, [], []),
  (94, .istore 4, 2, 4, 0, .null, [], []),
  (96, .iload 8, 2, 8, 0, .null, [], []),
  (98, .istore 5, 2, 5, 0, .null, [], []),
  (100, .iinc 6 1, 3, 6, 0, .int 1, [], []),
  (103, .goto (-59), 3, 44, 0, .null, [], []),
  (106, .aload_n 0, 1, 0, 0, .null, [], []),
  (107, .getfield 18, 3, 5, 4, .null, [], [52]),
  (110, .iload_n 1, 1, 1, 0, .null, [], []),
  (111, .iload_n 3, 1, 3, 0, .null, [], []),
  (112, .iastore, 1, 0, 0, .null, [], []),
  (113, .iload 4, 2, 4, 0, .null, [], []),
  (115, .ireturn, 1, 0, 0, .int 0, [], [])],
  [(44, [true, true, true, true, true, true, true, false, false])], 9)
/-- 67: LeastPays$Menu.priceOf(I)I -/
def kX5_priceOf : j_K := ([
  (0, .aload_n 0, 1, 0, 0, .null, [], []),
  (1, .iload_n 1, 1, 1, 0, .null, [], []),
  (2, .invokevirtual 54, 8, 62, 1, .int 0, [], [43]),
  (5, .ifCond .eq 12, 3, 17, 0, .null, [], []),
  (8, .aload_n 0, 1, 0, 0, .null, [], []),
  (9, .getfield 11, 3, 5, 2, .null, [], [50]),
  (12, .iload_n 1, 1, 1, 0, .null, [], []),
  (13, .iaload, 1, 0, 0, .null, [], []),
  (14, .goto 4, 3, 18, 0, .null, [], []),
  (17, .iconst 0, 1, 0, 0, .int 0, [], []),
  (18, .ireturn, 1, 0, 0, .int 0, [], [])],
  [], 2)
/-- 68: LeastPays$Menu.worth(III)I -/
def kX5_worth : j_K := ([
  (0, .aload_n 0, 1, 0, 0, .null, [], []),
  (1, .getfield 25, 3, 5, 1, .null, [], [54]),
  (4, .iload_n 3, 1, 3, 0, .null, [], []),
  (5, .invokevirtual 58, 6, 25, 1, .null, [], [44]),
  (8, .aload_n 0, 1, 0, 0, .null, [], []),
  (9, .iload_n 2, 1, 2, 0, .null, [], []),
  (10, .invokevirtual 54, 8, 62, 1, .int 0, [], [43]),
  (13, .ifCond .eq 16, 3, 29, 0, .null, [], []),
  (16, .aload_n 0, 1, 0, 0, .null, [], []),
  (17, .getfield 15, 3, 5, 3, .null, [], [51]),
  (20, .iload_n 1, 1, 1, 0, .null, [], []),
  (21, .iconst 3, 1, 0, 0, .int 3, [], []),
  (22, .imul, 1, 0, 0, .null, [], []),
  (23, .iload_n 2, 1, 2, 0, .null, [], []),
  (24, .iadd, 1, 0, 0, .null, [], []),
  (25, .iaload, 1, 0, 0, .null, [], []),
  (26, .goto 4, 3, 30, 0, .null, [], []),
  (29, .iconst 0, 1, 0, 0, .int 0, [], []),
  (30, .istore 4, 2, 4, 0, .null, [], []),
  (32, .iload 4, 2, 4, 0, .null, [], []),
  (34, .aload_n 0, 1, 0, 0, .null, [], []),
  (35, .getfield 25, 3, 5, 1, .null, [], [54]),
  (38, .iload_n 1, 1, 1, 0, .null, [], []),
  (39, .invokevirtual 62, 6, 26, 1, .int 0, [], [45]),
  (42, .isub, 1, 0, 0, .null, [], []),
  (43, .ireturn, 1, 0, 0, .int 0, [], [])],
  [], 5)
/-- 69: LeastPays$Minds.<init>(LLeastPays$Guests;LLeastPays$Hat;)V -/
def kX6_init : j_K := ([
  (0, .aload_n 0, 1, 0, 0, .null, [], []),
  (1, .invokespecial 3, 3, 999, 0, .null, [], [6]),
  (4, .aload_n 0, 1, 0, 0, .null, [], []),
  (5, .bipush 6, 2, 0, 0, .int 6, [], []),
  (7, .newarray .int, 2, 0, 0, .int 0, [], []),
  (9, .putfield 9, 3, 6, 2, .null, [], [57]),
  (12, .aload_n 0, 1, 0, 0, .null, [], []),
  (13, .aload_n 1, 1, 1, 0, .null, [], []),
  (14, .putfield 15, 3, 6, 0, .null, [], [58]),
  (17, .aload_n 0, 1, 0, 0, .null, [], []),
  (18, .aload_n 2, 1, 2, 0, .null, [], []),
  (19, .putfield 19, 3, 6, 1, .null, [], [59]),
  (22, .return_, 1, 0, 0, .null, [], [])],
  [], 3)
/-- 70: LeastPays$Minds.costBy(II)I -/
def kX6_costBy : j_K := ([
  (0, .aload_n 0, 1, 0, 0, .null, [], []),
  (1, .getfield 19, 3, 6, 1, .null, [], [59]),
  (4, .getfield 23, 3, 3, 0, .null, [], [60]),
  (7, .iload_n 1, 1, 1, 0, .null, [], []),
  (8, .iload_n 2, 1, 2, 0, .null, [], []),
  (9, .iastore, 1, 0, 0, .null, [], []),
  (10, .aload_n 0, 1, 0, 0, .null, [], []),
  (11, .getfield 19, 3, 6, 1, .null, [], [59]),
  (14, .invokevirtual 28, 6, 24, 0, .null, [], [46]),
  (17, .aload_n 0, 1, 0, 0, .null, [], []),
  (18, .getfield 19, 3, 6, 1, .null, [], [59]),
  (21, .iload_n 1, 1, 1, 0, .null, [], []),
  (22, .invokevirtual 31, 6, 26, 1, .int 0, [], [47]),
  (25, .ireturn, 1, 0, 0, .int 0, [], [])],
  [], 3)
/-- 71: LeastPays$Minds.search(I)V -/
def kX6_search : j_K := ([
  (0, .aload_n 0, 1, 0, 0, .null, [], []),
  (1, .getfield 19, 3, 6, 1, .null, [], [59]),
  (4, .getfield 23, 3, 3, 0, .null, [], [60]),
  (7, .iload_n 1, 1, 1, 0, .null, [], []),
  (8, .iaload, 1, 0, 0, .null, [], []),
  (9, .istore_n 2, 1, 2, 0, .null, [], []),
  (10, .aload_n 0, 1, 0, 0, .null, [], []),
  (11, .iconst 0, 1, 0, 0, .int 0, [], []),
  (12, .putfield 35, 3, 6, 3, .int 0, [], [61]),
  (15, .aload_n 0, 1, 0, 0, .null, [], []),
  (16, .ldc 39, 2, 0, 0, .int 1000000, [], [0]),
  (18, .putfield 40, 3, 6, 4, .int 0, [], [62]),
  (21, .aload_n 0, 1, 0, 0, .null, [], []),
  (22, .iload_n 1, 1, 1, 0, .null, [], []),
  (23, .invokevirtual 43, 9, 74, 1, .int 0, [], [48]),
  (26, .istore_n 3, 1, 3, 0, .null, [], []),
  (27, .iconst 0, 1, 0, 0, .int 0, [], []),
  (28, .istore 4, 2, 4, 0, .null, [], []),
  (30, .iload 4, 2, 4, 0, .null, [], []),
  (32, .iload_n 3, 1, 3, 0, .null, [], []),
  (33, .if_icmp .ge 51, 3, 84, 0, .null, [], []),
  (36, .iload 4, 2, 4, 0, .null, [], []),
  (38, .aload_n 0, 1, 0, 0, .null, [], []),
  (39, .getfield 15, 3, 6, 0, .null, [], [58]),
  (42, .getfield 46, 3, 2, 9, .int 0, [], [63]),
  (45, .imul, 1, 0, 0, .null, [], []),
  (46, .istore 5, 2, 5, 0, .null, [], []),
  (48, .aload_n 0, 1, 0, 0, .null, [], []),
  (49, .iload_n 1, 1, 1, 0, .null, [], []),
  (50, .iload 5, 2, 5, 0, .null, [], []),
  (52, .invokevirtual 51, 9, 70, 2, .int 0, [], [49]),
  (55, .istore 6, 2, 6, 0, .null, [], []),
  (57, .iload 6, 2, 6, 0, .null, [], []),
  (59, .aload_n 0, 1, 0, 0, .null, [], []),
  (60, .getfield 40, 3, 6, 4, .int 0, [], [62]),
  (63, .if_icmp .ge 15, 3, 78, 0, .null, [], []),
  (66, .aload_n 0, 1, 0, 0, .null, [], []),
  (67, .iload 5, 2, 5, 0, .null, [], []),
  (69, .putfield 35, 3, 6, 3, .int 0, [], [61]),
  (72, .aload_n 0, 1, 0, 0, .null, [], []),
  (73, .iload 6, 2, 6, 0, .null, [], []),
  (75, .putfield 40, 3, 6, 4, .int 0, [], [62]),
  (78, .iinc 4 1, 3, 4, 0, .int 1, [], []),
  (81, .goto (-51), 3, 30, 0, .null, [], []),
  (84, .aload_n 0, 1, 0, 0, .null, [], []),
  (85, .getfield 19, 3, 6, 1, .null, [], [59]),
  (88, .getfield 23, 3, 3, 0, .null, [], [60]),
  (91, .iload_n 1, 1, 1, 0, .null, [], []),
  (92, .iload_n 2, 1, 2, 0, .null, [], []),
  (93, .iastore, 1, 0, 0, .null, [], []),
  (94, .return_, 1, 0, 0, .null, [], [])],
  [(30, [true, true, true, true, true, false, false])], 7)
/-- 72: LeastPays$Minds.wouldChange(I)Z -/
def kX6_wouldChange : j_K := ([
  (0, .aload_n 0, 1, 0, 0, .null, [], []),
  (1, .getfield 19, 3, 6, 1, .null, [], [59]),
  (4, .getfield 23, 3, 3, 0, .null, [], [60]),
  (7, .iload_n 1, 1, 1, 0, .null, [], []),
  (8, .iaload, 1, 0, 0, .null, [], []),
  (9, .istore_n 2, 1, 2, 0, .null, [], []),
  (10, .aload_n 0, 1, 0, 0, .null, [], []),
  (11, .iload_n 1, 1, 1, 0, .null, [], []),
  (12, .iload_n 2, 1, 2, 0, .null, [], []),
  (13, .invokevirtual 51, 9, 70, 2, .int 0, [], [49]),
  (16, .istore_n 3, 1, 3, 0, .null, [], []),
  (17, .iconst 0, 1, 0, 0, .int 0, [], []),
  (18, .istore 4, 2, 4, 0, .null, [], []),
  (20, .aload_n 0, 1, 0, 0, .null, [], []),
  (21, .iload_n 1, 1, 1, 0, .null, [], []),
  (22, .invokevirtual 43, 9, 74, 1, .int 0, [], [48]),
  (25, .istore 5, 2, 5, 0, .null, [], []),
  (27, .iconst 0, 1, 0, 0, .int 0, [], []),
  (28, .istore 6, 2, 6, 0, .null, [], []),
  (30, .iload 6, 2, 6, 0, .null, [], []),
  (32, .iload 5, 2, 5, 0, .null, [], []),
  (34, .if_icmp .ge 40, 3, 74, 0, .null, [], []),
  (37, .iload 4, 2, 4, 0, .null, [], []),
  (39, .ifCond .ne 35, 3, 74, 0, .null, [], []),
  (42, .aload_n 0, 1, 0, 0, .null, [], []),
  (43, .iload_n 1, 1, 1, 0, .null, [], []),
  (44, .iload 6, 2, 6, 0, .null, [], []),
  (46, .aload_n 0, 1, 0, 0, .null, [], []),
  (47, .getfield 15, 3, 6, 0, .null, [], [58]),
  (50, .getfield 46, 3, 2, 9, .int 0, [], [63]),
  (53, .imul, 1, 0, 0, .null, [], []),
  (54, .invokevirtual 51, 9, 70, 2, .int 0, [], [49]),
  (57, .iload_n 3, 1, 3, 0, .null, [], []),
  (58, .if_icmp .ge 7, 3, 65, 0, .null, [], []),
  (61, .iconst 1, 1, 0, 0, .int 1, [], []),
  (62, .goto 4, 3, 66, 0, .null, [], []),
  (65, .iconst 0, 1, 0, 0, .int 0, [], []),
  (66, .istore 4, 2, 4, 0, .null, [], []),
  (68, .iinc 6 1, 3, 6, 0, .int 1, [], []),
  (71, .goto (-41), 3, 30, 0, .null, [], []),
  (74, .aload_n 0, 1, 0, 0, .null, [], []),
  (75, .getfield 19, 3, 6, 1, .null, [], [59]),
  (78, .getfield 23, 3, 3, 0, .null, [], [60]),
  (81, .iload_n 1, 1, 1, 0, .null, [], []),
  (82, .iload_n 2, 1, 2, 0, .null, [], []),
  (83, .iastore, 1, 0, 0, .null, [], []),
  (84, .iload 4, 2, 4, 0, .null, [], []),
  (86, .ireturn, 1, 0, 0, .long 0, [], [])],
  [(30, [true, true, true, true, true, true, true])], 7)
/-- 73: LeastPays$Minds.firstRestless()I -/
def kX6_firstRestless : j_K := ([
  (0, .iconst 0, 1, 0, 0, .int 0, [], []),
  (1, .istore_n 1, 1, 1, 0, .null, [], []),
  (2, .iload_n 1, 1, 1, 0, .null, [], []),
  (3, .aload_n 0, 1, 0, 0, .null, [], []),
  (4, .getfield 19, 3, 6, 1, .null, [], [59]),
  (7, .getfield 55, 3, 3, 1, .int 0, [], [64]),
  (10, .if_icmp .ge 19, 3, 29, 0, .null, [], []),
  (13, .aload_n 0, 1, 0, 0, .null, [], []),
  (14, .iload_n 1, 1, 1, 0, .null, [], []),
  (15, .invokevirtual 58, 9, 72, 1, .int 0, [], [50]),
  (18, .ifCond .eq 5, 3, 23, 0, .null, [], []),
  (21, .iload_n 1, 1, 1, 0, .null, [], []),
  (22, .ireturn, 1, 0, 0, .int 0, [], []),
  (23, .iinc 1 1, 3, 1, 0, .int 1, [], []),
  (26, .goto (-24), 3, 2, 0, .null, [], []),
  (29, .bipush (-2), 2, 0, 0, .int (-2), [], []),
  (31, .ireturn, 1, 0, 0, .int 0, [], [])],
  [(2, [true, true])], 2)
/-- 74: LeastPays$Minds.sumsOf(I)I -/
def kX6_sumsOf : j_K := ([
  (0, .aload_n 0, 1, 0, 0, .null, [], []),
  (1, .getfield 15, 3, 6, 0, .null, [], [58]),
  (4, .getfield 46, 3, 2, 9, .int 0, [], [63]),
  (7, .ifCond .le 25, 3, 32, 0, .null, [], []),
  (10, .aload_n 0, 1, 0, 0, .null, [], []),
  (11, .getfield 15, 3, 6, 0, .null, [], [58]),
  (14, .getfield 62, 3, 2, 0, .null, [], [65]),
  (17, .iload_n 1, 1, 1, 0, .null, [], []),
  (18, .iaload, 1, 0, 0, .null, [], []),
  (19, .aload_n 0, 1, 0, 0, .null, [], []),
  (20, .getfield 15, 3, 6, 0, .null, [], [58]),
  (23, .getfield 46, 3, 2, 9, .int 0, [], [63]),
  (26, .idiv, 1, 0, 0, .null, [], []),
  (27, .iconst 1, 1, 0, 0, .int 1, [], []),
  (28, .iadd, 1, 0, 0, .null, [], []),
  (29, .goto 4, 3, 33, 0, .null, [], []),
  (32, .iconst 1, 1, 0, 0, .int 1, [], []),
  (33, .ireturn, 1, 0, 0, .int 0, [], [])],
  [], 2)
/-- 75: LeastPays$Minds.ways()J -/
def kX6_ways : j_K := ([
  (0, .lconst 1, 1, 0, 0, .long 1, [], []),
  (1, .lstore_n 1, 1, 1, 0, .null, [], []),
  (2, .iconst 0, 1, 0, 0, .int 0, [], []),
  (3, .istore_n 3, 1, 3, 0, .null, [], []),
  (4, .iload_n 3, 1, 3, 0, .null, [], []),
  (5, .aload_n 0, 1, 0, 0, .null, [], []),
  (6, .getfield 15, 3, 6, 0, .null, [], [58]),
  (9, .getfield 65, 3, 2, 6, .int 0, [], [66]),
  (12, .if_icmp .ge 18, 3, 30, 0, .null, [], []),
  (15, .lload_n 1, 1, 1, 0, .null, [], []),
  (16, .aload_n 0, 1, 0, 0, .null, [], []),
  (17, .iload_n 3, 1, 3, 0, .null, [], []),
  (18, .invokevirtual 43, 9, 74, 1, .int 0, [], [48]),
  (21, .i2l, 1, 0, 0, .null, [], []),
  (22, .lmul, 1, 0, 0, .null, [], []),
  (23, .lstore_n 1, 1, 1, 0, .null, [], []),
  (24, .iinc 3 1, 3, 3, 0, .int 1, [], []),
  (27, .goto (-23), 3, 4, 0, .null, [], []),
  (30, .lload_n 1, 1, 1, 0, .null, [], []),
  (31, .lreturn, 1, 0, 0, .null, [], [])],
  [(4, [true, true, false, true])], 4)
/-- 76: LeastPays$Minds.fewWays()Z -/
def kX6_fewWays : j_K := ([
  (0, .aload_n 0, 1, 0, 0, .null, [], []),
  (1, .invokevirtual 66, 9, 75, 0, .long 0, [], [51]),
  (4, .ldc2_w 70, 3, 0, 0, .long 4096, [], [0]),
  (7, .lcmp, 1, 0, 0, .null, [], []),
  (8, .ifCond .gt 7, 3, 15, 0, .null, [], []),
  (11, .iconst 1, 1, 0, 0, .int 1, [], []),
  (12, .goto 4, 3, 16, 0, .null, [], []),
  (15, .iconst 0, 1, 0, 0, .int 0, [], []),
  (16, .ireturn, 1, 0, 0, .long 0, [], [])],
  [], 1)
/-- 77: LeastPays$Minds.goThroughWays()I -/
def kX6_goThroughWays : j_K := ([
  (0, .aload_n 0, 1, 0, 0, .null, [], []),
  (1, .getfield 19, 3, 6, 1, .null, [], [59]),
  (4, .aload_n 0, 1, 0, 0, .null, [], []),
  (5, .getfield 15, 3, 6, 0, .null, [], [58]),
  (8, .invokevirtual 72, 6, 22, 1, .null, [], [52]),
  (11, .iconst 0, 1, 0, 0, .int 0, [], []),
  (12, .istore_n 1, 1, 1, 0, .null, [], []),
  (13, .aload_n 0, 1, 0, 0, .null, [], []),
  (14, .invokevirtual 66, 9, 75, 0, .long 0, [], [51]),
  (17, .ldc2_w 70, 3, 0, 0, .long 4096, [], [0]),
  (20, .invokestatic 76, 3, 1003, 2, .null, [], [7]),
  (23, .l2i, 1, 0, 0, .null, [], []),
  (24, .istore_n 2, 1, 2, 0, .null, [], []),
  (25, .iconst 0, 1, 0, 0, .int 0, [], []),
  (26, .istore_n 3, 1, 3, 0, .null, [], []),
  (27, .iload_n 3, 1, 3, 0, .null, [], []),
  (28, .iload_n 2, 1, 2, 0, .null, [], []),
  (29, .if_icmp .ge 53, 3, 82, 0, .null, [], []),
  (32, .aload_n 0, 1, 0, 0, .null, [], []),
  (33, .iload_n 3, 1, 3, 0, .null, [], []),
  (34, .invokevirtual 82, 9, 78, 1, .null, [], [53]),
  (37, .aload_n 0, 1, 0, 0, .null, [], []),
  (38, .invokevirtual 86, 9, 73, 0, .int 0, [], [54]),
  (41, .bipush (-2), 2, 0, 0, .int (-2), [], []),
  (43, .if_icmp .ne 33, 3, 76, 0, .null, [], []),
  (46, .iload_n 1, 1, 1, 0, .null, [], []),
  (47, .ifCond .ne 26, 3, 73, 0, .null, [], []),
  (50, .aload_n 0, 1, 0, 0, .null, [], []),
  (51, .getfield 19, 3, 6, 1, .null, [], [59]),
  (54, .getfield 23, 3, 3, 0, .null, [], [60]),
  (57, .iconst 0, 1, 0, 0, .int 0, [], []),
  (58, .aload_n 0, 1, 0, 0, .null, [], []),
  (59, .getfield 9, 3, 6, 2, .null, [], [57]),
  (62, .iconst 0, 1, 0, 0, .int 0, [], []),
  (63, .aload_n 0, 1, 0, 0, .null, [], []),
  (64, .getfield 15, 3, 6, 0, .null, [], [58]),
  (67, .getfield 65, 3, 2, 6, .int 0, [], [66]),
  (70, .invokestatic 90, 3, 1000, 5, .null, [], [8]),
  (73, .iinc 1 1, 3, 1, 0, .int 1, [], []),
  (76, .iinc 3 1, 3, 3, 0, .int 1, [], []),
  (79, .goto (-52), 3, 27, 0, .null, [], []),
  (82, .iload_n 1, 1, 1, 0, .null, [], []),
  (83, .ireturn, 1, 0, 0, .int 0, [], [])],
  [(27, [true, true, true, true])], 4)
/-- 78: LeastPays$Minds.layWay(I)V -/
def kX6_layWay : j_K := ([
  (0, .iload_n 1, 1, 1, 0, .null, [], []),
  (1, .istore_n 2, 1, 2, 0, .null, [], []),
  (2, .aload_n 0, 1, 0, 0, .null, [], []),
  (3, .getfield 15, 3, 6, 0, .null, [], [58]),
  (6, .getfield 65, 3, 2, 6, .int 0, [], [66]),
  (9, .iconst 1, 1, 0, 0, .int 1, [], []),
  (10, .isub, 1, 0, 0, .null, [], []),
  (11, .istore_n 3, 1, 3, 0, .null, [], []),
  (12, .iload_n 3, 1, 3, 0, .null, [], []),
  (13, .ifCond .lt 47, 3, 60, 0, .null, [], []),
  (16, .aload_n 0, 1, 0, 0, .null, [], []),
  (17, .iload_n 3, 1, 3, 0, .null, [], []),
  (18, .invokevirtual 43, 9, 74, 1, .int 0, [], [48]),
  (21, .istore 4, 2, 4, 0, .null, [], []),
  (23, .iload 4, 2, 4, 0, .null, [], []),
  (25, .ifCond .le 29, 3, 54, 0, .null, [], []),
  (28, .aload_n 0, 1, 0, 0, .null, [], []),
  (29, .getfield 19, 3, 6, 1, .null, [], [59]),
  (32, .getfield 23, 3, 3, 0, .null, [], [60]),
  (35, .iload_n 3, 1, 3, 0, .null, [], []),
  (36, .iload_n 2, 1, 2, 0, .null, [], []),
  (37, .iload 4, 2, 4, 0, .null, [], []),
  (39, .irem, 1, 0, 0, .null, [], []),
  (40, .aload_n 0, 1, 0, 0, .null, [], []),
  (41, .getfield 15, 3, 6, 0, .null, [], [58]),
  (44, .getfield 46, 3, 2, 9, .int 0, [], [63]),
  (47, .imul, 1, 0, 0, .null, [], []),
  (48, .iastore, 1, 0, 0, .null, [], []),
  (49, .iload_n 2, 1, 2, 0, .null, [], []),
  (50, .iload 4, 2, 4, 0, .null, [], []),
  (52, .idiv, 1, 0, 0, .null, [], []),
  (53, .istore_n 2, 1, 2, 0, .null, [], []),
  (54, .iinc 3 (-1), 3, 3, 0, .int (-1), [], []),
  (57, .goto (-45), 3, 12, 0, .null, [], []),
  (60, .return_, 1, 0, 0, .null, [], [])],
  [(12, [true, false, true, true, false])], 5)
/-- 79: LeastPays$Minds.takeTurns()I -/
def kX6_takeTurns : j_K := ([
  (0, .aload_n 0, 1, 0, 0, .null, [], []),
  (1, .getfield 19, 3, 6, 1, .null, [], [59]),
  (4, .aload_n 0, 1, 0, 0, .null, [], []),
  (5, .getfield 15, 3, 6, 0, .null, [], [58]),
  (8, .invokevirtual 72, 6, 22, 1, .null, [], [52]),
  (11, .iconst 0, 1, 0, 0, .int 0, [], []),
  (12, .istore_n 1, 1, 1, 0, .null, [], []),
  (13, .iconst 0, 1, 0, 0, .int 0, [], []),
  (14, .istore_n 2, 1, 2, 0, .null, [], []),
  (15, .iconst 0, 1, 0, 0, .int 0, [], []),
  (16, .istore_n 3, 1, 3, 0, .null, [], []),
  (17, .iconst 0, 1, 0, 0, .int 0, [], []),
  (18, .istore 4, 2, 4, 0, .null, [], []),
  (20, .iload 4, 2, 4, 0, .null, [], []),
  (22, .sipush 1000, 3, 0, 0, .int 1000, [], []),
  (25, .if_icmp .ge 104, 3, 129, 0, .null, [], []),
  (28, .iload_n 2, 1, 2, 0, .null, [], []),
  (29, .aload_n 0, 1, 0, 0, .null, [], []),
  (30, .getfield 15, 3, 6, 0, .null, [], [58]),
  (33, .getfield 65, 3, 2, 6, .int 0, [], [66]),
  (36, .if_icmp .ge 93, 3, 129, 0, .null, [], []),
  (39, .aload_n 0, 1, 0, 0, .null, [], []),
  (40, .iload_n 3, 1, 3, 0, .null, [], []),
  (41, .aload_n 0, 1, 0, 0, .null, [], []),
  (42, .getfield 19, 3, 6, 1, .null, [], [59]),
  (45, .getfield 23, 3, 3, 0, .null, [], [60]),
  (48, .iload_n 3, 1, 3, 0, .null, [], []),
  (49, .iaload, 1, 0, 0, .null, [], []),
  (50, .invokevirtual 51, 9, 70, 2, .int 0, [], [49]),
  (53, .istore 5, 2, 5, 0, .null, [], []),
  (55, .aload_n 0, 1, 0, 0, .null, [], []),
  (56, .iload_n 3, 1, 3, 0, .null, [], []),
  (57, .invokevirtual 96, 9, 71, 1, .null, [], [55]),
  (60, .aload_n 0, 1, 0, 0, .null, [], []),
  (61, .getfield 40, 3, 6, 4, .int 0, [], [62]),
  (64, .iload 5, 2, 5, 0, .null, [], []),
  (66, .if_icmp .lt 9, 3, 75, 0, .null, [], []),
  (69, .iinc 2 1, 3, 2, 0, .int 1, [], []),
  (72, .goto 30, 3, 102, 0, .null, [], []),
  (75, .iload_n 1, 1, 1, 0, .null, [], []),
  (76, .bipush 60, 2, 0, 0, .int 60, [], []),
  (78, .if_icmp .ne 6, 3, 84, 0, .null, [], []),
  (81, .bipush (-2), 2, 0, 0, .int (-2), [], []),
  (83, .ireturn, 1, 0, 0, .int 0, [], []),
  (84, .aload_n 0, 1, 0, 0, .null, [], []),
  (85, .getfield 19, 3, 6, 1, .null, [], [59]),
  (88, .getfield 23, 3, 3, 0, .null, [], [60]),
  (91, .iload_n 3, 1, 3, 0, .null, [], []),
  (92, .aload_n 0, 1, 0, 0, .null, [], []),
  (93, .getfield 35, 3, 6, 3, .int 0, [], [61]),
  (96, .iastore, 1, 0, 0, .null, [], []),
  (97, .iinc 1 1, 3, 1, 0, .int 1, [], []),
  (100, .iconst 0, 1, 0, 0, .int 0, [], []),
  (101, .istore_n 2, 1, 2, 0, .null, [], []),
  (102, .iload_n 3, 1, 3, 0, .null, [], []),
  (103, .iconst 1, 1, 0, 0, .int 1, [], []),
  (104, .iadd, 1, 0, 0, .null, [], []),
  (105, .aload_n 0, 1, 0, 0, .null, [], []),
  (106, .getfield 15, 3, 6, 0, .null, [], [58]),
  (109, .getfield 65, 3, 2, 6, .int 0, [], [66]),
  (112, .if_icmp .ge 9, 3, 121, 0, .null, [], []),
  (115, .iload_n 3, 1, 3, 0, .null, [], []),
  (116, .iconst 1, 1, 0, 0, .int 1, [], []),
  (117, .iadd, 1, 0, 0, .null, [], []),
  (118, .goto 4, 3, 122, 0, .null, [], []),
  (121, .iconst 0, 1, 0, 0, .int 0, [], []),
  (122, .istore_n 3, 1, 3, 0, .null, [], []),
  (123, .iinc 4 1, 3, 4, 0, .int 1, [], []),
  (126, .goto (-106), 3, 20, 0, .null, [], []),
  (129, .iload_n 1, 1, 1, 0, .null, [], []),
  (130, .ireturn, 1, 0, 0, .int 0, [], [])],
  [(20, [true, true, true, true, true, false])], 6)
/-- 80: LeastPays$Minds.settle(II)V -/
def kX6_settle : j_K := ([
  (0, .aload_n 0, 1, 0, 0, .null, [], []),
  (1, .getfield 19, 3, 6, 1, .null, [], [59]),
  (4, .aload_n 0, 1, 0, 0, .null, [], []),
  (5, .getfield 15, 3, 6, 0, .null, [], [58]),
  (8, .invokevirtual 72, 6, 22, 1, .null, [], [52]),
  (11, .aload_n 0, 1, 0, 0, .null, [], []),
  (12, .ldc 39, 2, 0, 0, .int 1000000, [], [0]),
  (14, .putfield 40, 3, 6, 4, .int 0, [], [62]),
  (17, .aload_n 0, 1, 0, 0, .null, [], []),
  (18, .iload_n 1, 1, 1, 0, .null, [], []),
  (19, .invokevirtual 43, 9, 74, 1, .int 0, [], [48]),
  (22, .istore_n 3, 1, 3, 0, .null, [], []),
  (23, .aload_n 0, 1, 0, 0, .null, [], []),
  (24, .iload_n 2, 1, 2, 0, .null, [], []),
  (25, .invokevirtual 43, 9, 74, 1, .int 0, [], [48]),
  (28, .istore 4, 2, 4, 0, .null, [], []),
  (30, .iconst 0, 1, 0, 0, .int 0, [], []),
  (31, .istore 5, 2, 5, 0, .null, [], []),
  (33, .iload 5, 2, 5, 0, .null, [], []),
  (35, .iload_n 3, 1, 3, 0, .null, [], []),
  (36, .if_icmp .ge 113, 3, 149, 0, .null, [], []),
  (39, .aload_n 0, 1, 0, 0, .null, [], []),
  (40, .getfield 19, 3, 6, 1, .null, [], [59]),
  (43, .getfield 23, 3, 3, 0, .null, [], [60]),
  (46, .iload_n 1, 1, 1, 0, .null, [], []),
  (47, .iload 5, 2, 5, 0, .null, [], []),
  (49, .aload_n 0, 1, 0, 0, .null, [], []),
  (50, .getfield 15, 3, 6, 0, .null, [], [58]),
  (53, .getfield 46, 3, 2, 9, .int 0, [], [63]),
  (56, .imul, 1, 0, 0, .null, [], []),
  (57, .iastore, 1, 0, 0, .null, [], []),
  (58, .iconst 0, 1, 0, 0, .int 0, [], []),
  (59, .istore 6, 2, 6, 0, .null, [], []),
  (61, .iload 6, 2, 6, 0, .null, [], []),
  (63, .iload 4, 2, 4, 0, .null, [], []),
  (65, .if_icmp .ge 78, 3, 143, 0, .null, [], []),
  (68, .aload_n 0, 1, 0, 0, .null, [], []),
  (69, .iload_n 2, 1, 2, 0, .null, [], []),
  (70, .iload 6, 2, 6, 0, .null, [], []),
  (72, .aload_n 0, 1, 0, 0, .null, [], []),
  (73, .getfield 15, 3, 6, 0, .null, [], [58]),
  (76, .getfield 46, 3, 2, 9, .int 0, [], [63]),
  (79, .imul, 1, 0, 0, .null, [], []),
  (80, .invokevirtual 51, 9, 70, 2, .int 0, [], [49]),
  (83, .aload_n 0, 1, 0, 0, .null, [], []),
  (84, .getfield 19, 3, 6, 1, .null, [], [59]),
  (87, .iload_n 1, 1, 1, 0, .null, [], []),
  (88, .invokevirtual 31, 6, 26, 1, .int 0, [], [47]),
  (91, .iadd, 1, 0, 0, .null, [], []),
  (92, .istore 7, 2, 7, 0, .null, [], []),
  (94, .iload 7, 2, 7, 0, .null, [], []),
  (96, .aload_n 0, 1, 0, 0, .null, [], []),
  (97, .getfield 40, 3, 6, 4, .int 0, [], [62]),
  (100, .if_icmp .ge 37, 3, 137, 0, .null, [], []),
  (103, .aload_n 0, 1, 0, 0, .null, [], []),
  (104, .iload 7, 2, 7, 0, .null, [], []),
  (106, .putfield 40, 3, 6, 4, .int 0, [], [62]),
  (109, .aload_n 0, 1, 0, 0, .null, [], []),
  (110, .iload 5, 2, 5, 0, .null, [], []),
  (112, .aload_n 0, 1, 0, 0, .null, [], []),
  (113, .getfield 15, 3, 6, 0, .null, [], [58]),
  (116, .getfield 46, 3, 2, 9, .int 0, [], [63]),
  (119, .imul, 1, 0, 0, .null, [], []),
  (120, .putfield 35, 3, 6, 3, .int 0, [], [61]),
  (123, .aload_n 0, 1, 0, 0, .null, [], []),
  (124, .iload 6, 2, 6, 0, .null, [], []),
  (126, .aload_n 0, 1, 0, 0, .null, [], []),
  (127, .getfield 15, 3, 6, 0, .null, [], [58]),
  (130, .getfield 46, 3, 2, 9, .int 0, [], [63]),
  (133, .imul, 1, 0, 0, .null, [], []),
  (134, .putfield 99, 3, 6, 5, .int 0, [], [67]),
  (137, .iinc 6 1, 3, 6, 0, .int 1, [], []),
  (140, .goto (-79), 3, 61, 0, .null, [], []),
  (143, .iinc 5 1, 3, 5, 0, .int 1, [], []),
  (146, .goto (-113), 3, 33, 0, .null, [], []),
  (149, .aload_n 0, 1, 0, 0, .null, [], []),
  (150, .getfield 19, 3, 6, 1, .null, [], [59]),
  (153, .getfield 23, 3, 3, 0, .null, [], [60]),
  (156, .iload_n 1, 1, 1, 0, .null, [], []),
  (157, .aload_n 0, 1, 0, 0, .null, [], []),
  (158, .getfield 35, 3, 6, 3, .int 0, [], [61]),
  (161, .iastore, 1, 0, 0, .null, [], []),
  (162, .aload_n 0, 1, 0, 0, .null, [], []),
  (163, .getfield 19, 3, 6, 1, .null, [], [59]),
  (166, .getfield 23, 3, 3, 0, .null, [], [60]),
  (169, .iload_n 2, 1, 2, 0, .null, [], []),
  (170, .aload_n 0, 1, 0, 0, .null, [], []),
  (171, .getfield 99, 3, 6, 5, .int 0, [], [67]),
  (174, .iastore, 1, 0, 0, .null, [], []),
  (175, .aload_n 0, 1, 0, 0, .null, [], []),
  (176, .getfield 19, 3, 6, 1, .null, [], [59]),
  (179, .invokevirtual 28, 6, 24, 0, .null, [], [46]),
  (182, .return_, 1, 0, 0, .null, [], [])],
  [(33, [true, true, true, true, true, true, false, false]), (61, [true, true, true, true, true, true, true, false])], 8)
/-- 81: LeastPays$Minds.victimOf(II)I -/
def kX6_victimOf : j_K := ([
  (0, .iconst 0, 1, 0, 0, .int 0, [], []),
  (1, .istore_n 3, 1, 3, 0, .null, [], []),
  (2, .iload_n 3, 1, 3, 0, .null, [], []),
  (3, .aload_n 0, 1, 0, 0, .null, [], []),
  (4, .getfield 19, 3, 6, 1, .null, [], [59]),
  (7, .getfield 55, 3, 3, 1, .int 0, [], [64]),
  (10, .if_icmp .ge 32, 3, 42, 0, .null, [], []),
  (13, .iload_n 3, 1, 3, 0, .null, [], []),
  (14, .iload_n 1, 1, 1, 0, .null, [], []),
  (15, .if_icmp .eq 21, 3, 36, 0, .null, [], []),
  (18, .iload_n 3, 1, 3, 0, .null, [], []),
  (19, .iload_n 2, 1, 2, 0, .null, [], []),
  (20, .if_icmp .eq 16, 3, 36, 0, .null, [], []),
  (23, .aload_n 0, 1, 0, 0, .null, [], []),
  (24, .getfield 19, 3, 6, 1, .null, [], [59]),
  (27, .iload_n 3, 1, 3, 0, .null, [], []),
  (28, .invokevirtual 102, 6, 27, 1, .int 0, [], [56]),
  (31, .ifCond .le 5, 3, 36, 0, .null, [], []),
  (34, .iload_n 3, 1, 3, 0, .null, [], []),
  (35, .ireturn, 1, 0, 0, .int 0, [], []),
  (36, .iinc 3 1, 3, 3, 0, .int 1, [], []),
  (39, .goto (-37), 3, 2, 0, .null, [], []),
  (42, .bipush (-2), 2, 0, 0, .int (-2), [], []),
  (44, .ireturn, 1, 0, 0, .int 0, [], [])],
  [(2, [true, true, true, true])], 4)
/-- 82: LeastPays$Minds.allWeights()J -/
def kX6_allWeights : j_K := ([
  (0, .lconst 1, 1, 0, 0, .long 1, [], []),
  (1, .lstore_n 1, 1, 1, 0, .null, [], []),
  (2, .iconst 1, 1, 0, 0, .int 1, [], []),
  (3, .istore_n 3, 1, 3, 0, .null, [], []),
  (4, .iload_n 3, 1, 3, 0, .null, [], []),
  (5, .aload_n 0, 1, 0, 0, .null, [], []),
  (6, .getfield 15, 3, 6, 0, .null, [], [58]),
  (9, .getfield 65, 3, 2, 6, .int 0, [], [66]),
  (12, .if_icmp .ge 15, 3, 27, 0, .null, [], []),
  (15, .lload_n 1, 1, 1, 0, .null, [], []),
  (16, .ldc2_w 105, 3, 0, 0, .long 12, [], [1]),
  (19, .lmul, 1, 0, 0, .null, [], []),
  (20, .lstore_n 1, 1, 1, 0, .null, [], []),
  (21, .iinc 3 1, 3, 3, 0, .int 1, [], []),
  (24, .goto (-20), 3, 4, 0, .null, [], []),
  (27, .lload_n 1, 1, 1, 0, .null, [], []),
  (28, .lreturn, 1, 0, 0, .null, [], [])],
  [(4, [true, true, false, true])], 4)
/-- 83: LeastPays$Minds.weighedCost(II)J -/
def kX6_weighedCost : j_K := ([
  (0, .aload_n 0, 1, 0, 0, .null, [], []),
  (1, .getfield 19, 3, 6, 1, .null, [], [59]),
  (4, .aload_n 0, 1, 0, 0, .null, [], []),
  (5, .getfield 15, 3, 6, 0, .null, [], [58]),
  (8, .invokevirtual 72, 6, 22, 1, .null, [], [52]),
  (11, .lconst 0, 1, 0, 0, .long 0, [], []),
  (12, .lstore_n 3, 1, 3, 0, .null, [], []),
  (13, .iconst 0, 1, 0, 0, .int 0, [], []),
  (14, .istore 5, 2, 5, 0, .null, [], []),
  (16, .iload 5, 2, 5, 0, .null, [], []),
  (18, .iconst 1, 1, 0, 0, .int 1, [], []),
  (19, .aload_n 0, 1, 0, 0, .null, [], []),
  (20, .getfield 15, 3, 6, 0, .null, [], [58]),
  (23, .getfield 65, 3, 2, 6, .int 0, [], [66]),
  (26, .ishl, 1, 0, 0, .null, [], []),
  (27, .if_icmp .ge 51, 3, 78, 0, .null, [], []),
  (30, .iload 5, 2, 5, 0, .null, [], []),
  (32, .iload_n 1, 1, 1, 0, .null, [], []),
  (33, .ishr, 1, 0, 0, .null, [], []),
  (34, .iconst 1, 1, 0, 0, .int 1, [], []),
  (35, .iand, 1, 0, 0, .null, [], []),
  (36, .ifCond .ne 36, 3, 72, 0, .null, [], []),
  (39, .aload_n 0, 1, 0, 0, .null, [], []),
  (40, .iload 5, 2, 5, 0, .null, [], []),
  (42, .iload_n 1, 1, 1, 0, .null, [], []),
  (43, .invokevirtual 107, 9, 84, 2, .long 0, [], [57]),
  (46, .lstore 6, 2, 6, 0, .null, [], []),
  (48, .lload_n 3, 1, 3, 0, .null, [], []),
  (49, .lload 6, 2, 6, 0, .null, [], []),
  (51, .lconst 0, 1, 0, 0, .long 0, [], []),
  (52, .lcmp, 1, 0, 0, .null, [], []),
  (53, .ifCond .ne 7, 3, 60, 0, .null, [], []),
  (56, .lconst 0, 1, 0, 0, .long 0, [], []),
  (57, .goto 13, 3, 70, 0, .null, [], []),
  (60, .lload 6, 2, 6, 0, .null, [], []),
  (62, .aload_n 0, 1, 0, 0, .null, [], []),
  (63, .iload_n 1, 1, 1, 0, .null, [], []),
  (64, .iload_n 2, 1, 2, 0, .null, [], []),
  (65, .invokevirtual 51, 9, 70, 2, .int 0, [], [49]),
  (68, .i2l, 1, 0, 0, .null, [], []),
  (69, .lmul, 1, 0, 0, .null, [], []),
  (70, .ladd, 1, 0, 0, .null, [], []),
  (71, .lstore_n 3, 1, 3, 0, .null, [], []),
  (72, .iinc 5 1, 3, 5, 0, .int 1, [], []),
  (75, .goto (-59), 3, 16, 0, .null, [], []),
  (78, .lload_n 3, 1, 3, 0, .null, [], []),
  (79, .lreturn, 1, 0, 0, .null, [], [])],
  [(16, [true, true, true, true, false, true, false, false])], 8)
/-- 84: LeastPays$Minds.layByChance(II)J -/
def kX6_layByChance : j_K := ([
  (0, .lconst 1, 1, 0, 0, .long 1, [], []),
  (1, .lstore_n 3, 1, 3, 0, .null, [], []),
  (2, .iconst 0, 1, 0, 0, .int 0, [], []),
  (3, .istore 5, 2, 5, 0, .null, [], []),
  (5, .iload 5, 2, 5, 0, .null, [], []),
  (7, .aload_n 0, 1, 0, 0, .null, [], []),
  (8, .getfield 15, 3, 6, 0, .null, [], [58]),
  (11, .getfield 65, 3, 2, 6, .int 0, [], [66]),
  (14, .if_icmp .ge 112, 3, 126, 0, .null, [], []),
  (17, .lload_n 3, 1, 3, 0, .null, [], []),
  (18, .lconst 0, 1, 0, 0, .long 0, [], []),
  (19, .lcmp, 1, 0, 0, .null, [], []),
  (20, .ifCond .eq 106, 3, 126, 0, .null, [], []),
  (23, .iload 5, 2, 5, 0, .null, [], []),
  (25, .iload_n 2, 1, 2, 0, .null, [], []),
  (26, .if_icmp .eq 94, 3, 120, 0, .null, [], []),
  (29, .iload_n 1, 1, 1, 0, .null, [], []),
  (30, .iload 5, 2, 5, 0, .null, [], []),
  (32, .ishr, 1, 0, 0, .null, [], []),
  (33, .iconst 1, 1, 0, 0, .int 1, [], []),
  (34, .iand, 1, 0, 0, .null, [], []),
  (35, .iconst 1, 1, 0, 0, .int 1, [], []),
  (36, .if_icmp .ne 7, 3, 43, 0, .null, [], []),
  (39, .iconst 1, 1, 0, 0, .int 1, [], []),
  (40, .goto 4, 3, 44, 0, .null, [], []),
  (43, .iconst 0, 1, 0, 0, .int 0, [], []),
  (44, .istore 6, 2, 6, 0, .null, [], []),
  (46, .aload_n 0, 1, 0, 0, .null, [], []),
  (47, .getfield 19, 3, 6, 1, .null, [], [59]),
  (50, .getfield 23, 3, 3, 0, .null, [], [60]),
  (53, .iload 5, 2, 5, 0, .null, [], []),
  (55, .iload 6, 2, 6, 0, .null, [], []),
  (57, .ifCond .eq 16, 3, 73, 0, .null, [], []),
  (60, .aload_n 0, 1, 0, 0, .null, [], []),
  (61, .getfield 15, 3, 6, 0, .null, [], [58]),
  (64, .getfield 111, 3, 2, 3, .null, [], [68]),
  (67, .iload 5, 2, 5, 0, .null, [], []),
  (69, .iaload, 1, 0, 0, .null, [], []),
  (70, .goto 13, 3, 83, 0, .null, [], []),
  (73, .aload_n 0, 1, 0, 0, .null, [], []),
  (74, .getfield 15, 3, 6, 0, .null, [], [58]),
  (77, .getfield 114, 3, 2, 1, .null, [], [69]),
  (80, .iload 5, 2, 5, 0, .null, [], []),
  (82, .iaload, 1, 0, 0, .null, [], []),
  (83, .iastore, 1, 0, 0, .null, [], []),
  (84, .lload_n 3, 1, 3, 0, .null, [], []),
  (85, .iload 6, 2, 6, 0, .null, [], []),
  (87, .ifCond .eq 17, 3, 104, 0, .null, [], []),
  (90, .aload_n 0, 1, 0, 0, .null, [], []),
  (91, .getfield 15, 3, 6, 0, .null, [], [58]),
  (94, .getfield 117, 3, 2, 2, .null, [], [70]),
  (97, .iload 5, 2, 5, 0, .null, [], []),
  (99, .iaload, 1, 0, 0, .null, [], []),
  (100, .i2l, 1, 0, 0, .null, [], []),
  (101, .goto 17, 3, 118, 0, .null, [], []),
  (104, .bipush 12, 2, 0, 0, .int 12, [], []),
  (106, .aload_n 0, 1, 0, 0, .null, [], []),
  (107, .getfield 15, 3, 6, 0, .null, [], [58]),
  (110, .getfield 117, 3, 2, 2, .null, [], [70]),
  (113, .iload 5, 2, 5, 0, .null, [], []),
  (115, .iaload, 1, 0, 0, .null, [], []),
  (116, .isub, 1, 0, 0, .null, [], []),
  (117, .i2l, 1, 0, 0, .null, [], []),
  (118, .lmul, 1, 0, 0, .null, [], []),
  (119, .lstore_n 3, 1, 3, 0, .null, [], []),
  (120, .iinc 5 1, 3, 5, 0, .int 1, [], []),
  (123, .goto (-118), 3, 5, 0, .null, [], []),
  (126, .lload_n 3, 1, 3, 0, .null, [], []),
  (127, .lreturn, 1, 0, 0, .null, [], [])],
  [(5, [true, true, true, true, false, true, false]), (83, [true, true, true, true, false, true, true])], 7)
/-- 85: LeastPays$Minds.sumOfLeastMean(I)I -/
def kX6_sumOfLeastMean : j_K := ([
  (0, .iconst 0, 1, 0, 0, .int 0, [], []),
  (1, .istore_n 2, 1, 2, 0, .null, [], []),
  (2, .aload_n 0, 1, 0, 0, .null, [], []),
  (3, .iload_n 1, 1, 1, 0, .null, [], []),
  (4, .iconst 0, 1, 0, 0, .int 0, [], []),
  (5, .invokevirtual 120, 9, 83, 2, .long 0, [], [58]),
  (8, .lstore_n 3, 1, 3, 0, .null, [], []),
  (9, .aload_n 0, 1, 0, 0, .null, [], []),
  (10, .iload_n 1, 1, 1, 0, .null, [], []),
  (11, .invokevirtual 43, 9, 74, 1, .int 0, [], [48]),
  (14, .istore 5, 2, 5, 0, .null, [], []),
  (16, .iconst 1, 1, 0, 0, .int 1, [], []),
  (17, .istore 6, 2, 6, 0, .null, [], []),
  (19, .iload 6, 2, 6, 0, .null, [], []),
  (21, .iload 5, 2, 5, 0, .null, [], []),
  (23, .if_icmp .ge 47, 3, 70, 0, .null, [], []),
  (26, .aload_n 0, 1, 0, 0, .null, [], []),
  (27, .iload_n 1, 1, 1, 0, .null, [], []),
  (28, .iload 6, 2, 6, 0, .null, [], []),
  (30, .aload_n 0, 1, 0, 0, .null, [], []),
  (31, .getfield 15, 3, 6, 0, .null, [], [58]),
  (34, .getfield 46, 3, 2, 9, .int 0, [], [63]),
  (37, .imul, 1, 0, 0, .null, [], []),
  (38, .invokevirtual 120, 9, 83, 2, .long 0, [], [58]),
  (41, .lstore 7, 2, 7, 0, .null, [], []),
  (43, .lload 7, 2, 7, 0, .null, [], []),
  (45, .lload_n 3, 1, 3, 0, .null, [], []),
  (46, .lcmp, 1, 0, 0, .null, [], []),
  (47, .ifCond .ge 17, 3, 64, 0, .null, [], []),
  (50, .iload 6, 2, 6, 0, .null, [], []),
  (52, .aload_n 0, 1, 0, 0, .null, [], []),
  (53, .getfield 15, 3, 6, 0, .null, [], [58]),
  (56, .getfield 46, 3, 2, 9, .int 0, [], [63]),
  (59, .imul, 1, 0, 0, .null, [], []),
  (60, .istore_n 2, 1, 2, 0, .null, [], []),
  (61, .lload 7, 2, 7, 0, .null, [], []),
  (63, .lstore_n 3, 1, 3, 0, .null, [], []),
  (64, .iinc 6 1, 3, 6, 0, .int 1, [], []),
  (67, .goto (-48), 3, 19, 0, .null, [], []),
  (70, .iload_n 2, 1, 2, 0, .null, [], []),
  (71, .ireturn, 1, 0, 0, .int 0, [], [])],
  [(19, [true, true, true, true, false, true, true, false, false])], 9)
/-- 86: LeastPays$Nights.<init>(LLeastPays$Guests;LLeastPays$Hat;)V -/
def kX7_init : j_K := ([
  (0, .aload_n 0, 1, 0, 0, .null, [], []),
  (1, .invokespecial 3, 3, 999, 0, .null, [], [7]),
  (4, .aload_n 0, 1, 0, 0, .null, [], []),
  (5, .aload_n 1, 1, 1, 0, .null, [], []),
  (6, .putfield 9, 3, 7, 0, .null, [], [71]),
  (9, .aload_n 0, 1, 0, 0, .null, [], []),
  (10, .aload_n 2, 1, 2, 0, .null, [], []),
  (11, .putfield 15, 3, 7, 1, .null, [], [72]),
  (14, .return_, 1, 0, 0, .null, [], [])],
  [], 3)
/-- 87: LeastPays$Nights.pass()I -/
def kX7_pass : j_K := ([
  (0, .aload_n 0, 1, 0, 0, .null, [], []),
  (1, .getfield 15, 3, 7, 1, .null, [], [72]),
  (4, .aload_n 0, 1, 0, 0, .null, [], []),
  (5, .getfield 9, 3, 7, 0, .null, [], [71]),
  (8, .invokevirtual 19, 6, 22, 1, .null, [], [59]),
  (11, .iconst 0, 1, 0, 0, .int 0, [], []),
  (12, .istore_n 1, 1, 1, 0, .null, [], []),
  (13, .iconst 0, 1, 0, 0, .int 0, [], []),
  (14, .istore_n 2, 1, 2, 0, .null, [], []),
  (15, .iload_n 2, 1, 2, 0, .null, [], []),
  (16, .aload_n 0, 1, 0, 0, .null, [], []),
  (17, .getfield 9, 3, 7, 0, .null, [], [71]),
  (20, .getfield 25, 3, 2, 6, .int 0, [], [73]),
  (23, .if_icmp .ge 35, 3, 58, 0, .null, [], []),
  (26, .aload_n 0, 1, 0, 0, .null, [], []),
  (27, .getfield 15, 3, 7, 1, .null, [], [72]),
  (30, .iload_n 2, 1, 2, 0, .null, [], []),
  (31, .invokevirtual 31, 6, 26, 1, .int 0, [], [60]),
  (34, .istore_n 3, 1, 3, 0, .null, [], []),
  (35, .aload_n 0, 1, 0, 0, .null, [], []),
  (36, .getfield 9, 3, 7, 0, .null, [], [71]),
  (39, .getfield 35, 3, 2, 5, .null, [], [74]),
  (42, .iload_n 2, 1, 2, 0, .null, [], []),
  (43, .dup2, 1, 0, 0, .null, [], []),
  (44, .iaload, 1, 0, 0, .null, [], []),
  (45, .iload_n 3, 1, 3, 0, .null, [], []),
  (46, .iadd, 1, 0, 0, .null, [], []),
  (47, .iastore, 1, 0, 0, .null, [], []),
  (48, .iload_n 1, 1, 1, 0, .null, [], []),
  (49, .iload_n 3, 1, 3, 0, .null, [], []),
  (50, .iadd, 1, 0, 0, .null, [], []),
  (51, .istore_n 1, 1, 1, 0, .null, [], []),
  (52, .iinc 2 1, 3, 2, 0, .int 1, [], []),
  (55, .goto (-40), 3, 15, 0, .null, [], []),
  (58, .aload_n 0, 1, 0, 0, .null, [], []),
  (59, .getfield 9, 3, 7, 0, .null, [], [71]),
  (62, .dup, 1, 0, 0, .null, [], []),
  (63, .getfield 39, 3, 2, 10, .int 0, [], [75]),
  (66, .aload_n 0, 1, 0, 0, .null, [], []),
  (67, .getfield 15, 3, 7, 1, .null, [], [72]),
  (70, .invokevirtual 42, 6, 31, 0, .int 0, [], [61]),
  (73, .iadd, 1, 0, 0, .null, [], []),
  (74, .putfield 39, 3, 2, 10, .int 0, [], [75]),
  (77, .aload_n 0, 1, 0, 0, .null, [], []),
  (78, .getfield 9, 3, 7, 0, .null, [], [71]),
  (81, .dup, 1, 0, 0, .null, [], []),
  (82, .getfield 46, 3, 2, 11, .int 0, [], [76]),
  (85, .iconst 1, 1, 0, 0, .int 1, [], []),
  (86, .iadd, 1, 0, 0, .null, [], []),
  (87, .putfield 46, 3, 2, 11, .int 0, [], [76]),
  (90, .iload_n 1, 1, 1, 0, .null, [], []),
  (91, .ireturn, 1, 0, 0, .int 0, [], [])],
  [(15, [true, true, true, false])], 4)
/-- 88: LeastPays$Nights.draw(III)V -/
def kX7_draw : j_K := ([
  (0, .aload_n 0, 1, 0, 0, .null, [], []),
  (1, .getfield 15, 3, 7, 1, .null, [], [72]),
  (4, .aload_n 0, 1, 0, 0, .null, [], []),
  (5, .getfield 9, 3, 7, 0, .null, [], [71]),
  (8, .invokevirtual 19, 6, 22, 1, .null, [], [59]),
  (11, .aload_n 0, 1, 0, 0, .null, [], []),
  (12, .iconst 0, 1, 0, 0, .int 0, [], []),
  (13, .putfield 49, 3, 7, 2, .int 0, [], [77]),
  (16, .aload_n 0, 1, 0, 0, .null, [], []),
  (17, .iconst 0, 1, 0, 0, .int 0, [], []),
  (18, .putfield 52, 3, 7, 3, .int 0, [], [78]),
  (21, .iload_n 1, 1, 1, 0, .null, [], []),
  (22, .istore 4, 2, 4, 0, .null, [], []),
  (24, .iconst 0, 1, 0, 0, .int 0, [], []),
  (25, .istore 5, 2, 5, 0, .null, [], []),
  (27, .iload 5, 2, 5, 0, .null, [], []),
  (29, .iload_n 2, 1, 2, 0, .null, [], []),
  (30, .if_icmp .ge 156, 3, 186, 0, .null, [], []),
  (33, .iconst 0, 1, 0, 0, .int 0, [], []),
  (34, .istore 6, 2, 6, 0, .null, [], []),
  (36, .iload 6, 2, 6, 0, .null, [], []),
  (38, .aload_n 0, 1, 0, 0, .null, [], []),
  (39, .getfield 9, 3, 7, 0, .null, [], [71]),
  (42, .getfield 25, 3, 2, 6, .int 0, [], [73]),
  (45, .if_icmp .ge 86, 3, 131, 0, .null, [], []),
  (48, .iload 4, 2, 4, 0, .null, [], []),
  (50, .ldc 55, 2, 0, 0, .int 1103515245, [], [1]),
  (52, .imul, 1, 0, 0, .null, [], []),
  (53, .sipush 12345, 3, 0, 0, .int 12345, [], []),
  (56, .iadd, 1, 0, 0, .null, [], []),
  (57, .istore 4, 2, 4, 0, .null, [], []),
  (59, .iload 4, 2, 4, 0, .null, [], []),
  (61, .bipush 8, 2, 0, 0, .int 8, [], []),
  (63, .iushr, 1, 0, 0, .null, [], []),
  (64, .bipush 12, 2, 0, 0, .int 12, [], []),
  (66, .irem, 1, 0, 0, .null, [], []),
  (67, .aload_n 0, 1, 0, 0, .null, [], []),
  (68, .getfield 9, 3, 7, 0, .null, [], [71]),
  (71, .getfield 56, 3, 2, 2, .null, [], [79]),
  (74, .iload 6, 2, 6, 0, .null, [], []),
  (76, .iaload, 1, 0, 0, .null, [], []),
  (77, .if_icmp .ge 7, 3, 84, 0, .null, [], []),
  (80, .iconst 1, 1, 0, 0, .int 1, [], []),
  (81, .goto 4, 3, 85, 0, .null, [], []),
  (84, .iconst 0, 1, 0, 0, .int 0, [], []),
  (85, .istore 7, 2, 7, 0, .null, [], []),
  (87, .aload_n 0, 1, 0, 0, .null, [], []),
  (88, .getfield 15, 3, 7, 1, .null, [], [72]),
  (91, .getfield 59, 3, 3, 0, .null, [], [80]),
  (94, .iload 6, 2, 6, 0, .null, [], []),
  (96, .iload 7, 2, 7, 0, .null, [], []),
  (98, .ifCond .eq 16, 3, 114, 0, .null, [], []),
  (101, .aload_n 0, 1, 0, 0, .null, [], []),
  (102, .getfield 9, 3, 7, 0, .null, [], [71]),
  (105, .getfield 62, 3, 2, 3, .null, [], [81]),
  (108, .iload 6, 2, 6, 0, .null, [], []),
  (110, .iaload, 1, 0, 0, .null, [], []),
  (111, .goto 13, 3, 124, 0, .null, [], []),
  (114, .aload_n 0, 1, 0, 0, .null, [], []),
  (115, .getfield 9, 3, 7, 0, .null, [], [71]),
  (118, .getfield 65, 3, 2, 1, .null, [], [82]),
  (121, .iload 6, 2, 6, 0, .null, [], []),
  (123, .iaload, 1, 0, 0, .null, [], []),
  (124, .iastore, 1, 0, 0, .null, [], []),
  (125, .iinc 6 1, 3, 6, 0, .int 1, [], []),
  (128, .goto (-92), 3, 36, 0, .null, [], []),
  (131, .aload_n 0, 1, 0, 0, .null, [], []),
  (132, .getfield 15, 3, 7, 1, .null, [], [72]),
  (135, .invokevirtual 68, 6, 24, 0, .null, [], [62]),
  (138, .aload_n 0, 1, 0, 0, .null, [], []),
  (139, .dup, 1, 0, 0, .null, [], []),
  (140, .getfield 49, 3, 7, 2, .int 0, [], [77]),
  (143, .aload_n 0, 1, 0, 0, .null, [], []),
  (144, .getfield 15, 3, 7, 1, .null, [], [72]),
  (147, .iload_n 3, 1, 3, 0, .null, [], []),
  (148, .invokevirtual 71, 6, 27, 1, .int 0, [], [63]),
  (151, .ifCond .le 7, 3, 158, 0, .null, [], []),
  (154, .iconst 1, 1, 0, 0, .int 1, [], []),
  (155, .goto 4, 3, 159, 0, .null, [], []),
  (158, .iconst 0, 1, 0, 0, .int 0, [], []),
  (159, .iadd, 1, 0, 0, .null, [], []),
  (160, .putfield 49, 3, 7, 2, .int 0, [], [77]),
  (163, .aload_n 0, 1, 0, 0, .null, [], []),
  (164, .dup, 1, 0, 0, .null, [], []),
  (165, .getfield 52, 3, 7, 3, .int 0, [], [78]),
  (168, .aload_n 0, 1, 0, 0, .null, [], []),
  (169, .getfield 15, 3, 7, 1, .null, [], [72]),
  (172, .iload_n 3, 1, 3, 0, .null, [], []),
  (173, .invokevirtual 31, 6, 26, 1, .int 0, [], [60]),
  (176, .iadd, 1, 0, 0, .null, [], []),
  (177, .putfield 52, 3, 7, 3, .int 0, [], [78]),
  (180, .iinc 5 1, 3, 5, 0, .int 1, [], []),
  (183, .goto (-156), 3, 27, 0, .null, [], []),
  (186, .return_, 1, 0, 0, .null, [], [])],
  [(27, [true, false, true, true, true, true, false, false]), (36, [true, false, true, true, true, true, true, false]), (52, [true, false, true, true, false, true, true, false]), (57, [true, false, true, true, false, true, true, false])], 8)
/-- 89: LeastPays$Nights.firstWrong(LLeastPays$Shelf;I)I -/
def kX7_firstWrong : j_K := ([
  (0, .aload_n 0, 1, 0, 0, .null, [], []),
  (1, .getfield 15, 3, 7, 1, .null, [], [72]),
  (4, .aload_n 0, 1, 0, 0, .null, [], []),
  (5, .getfield 9, 3, 7, 0, .null, [], [71]),
  (8, .invokevirtual 19, 6, 22, 1, .null, [], [59]),
  (11, .aload_n 0, 1, 0, 0, .null, [], []),
  (12, .getfield 15, 3, 7, 1, .null, [], [72]),
  (15, .iload_n 2, 1, 2, 0, .null, [], []),
  (16, .putfield 74, 3, 3, 2, .int 0, [], [83]),
  (19, .iconst 0, 1, 0, 0, .int 0, [], []),
  (20, .istore_n 3, 1, 3, 0, .null, [], []),
  (21, .iload_n 3, 1, 3, 0, .null, [], []),
  (22, .aload_n 0, 1, 0, 0, .null, [], []),
  (23, .getfield 9, 3, 7, 0, .null, [], [71]),
  (26, .getfield 25, 3, 2, 6, .int 0, [], [73]),
  (29, .if_icmp .ge 37, 3, 66, 0, .null, [], []),
  (32, .iload_n 3, 1, 3, 0, .null, [], []),
  (33, .aload_n 1, 1, 1, 0, .null, [], []),
  (34, .getfield 77, 3, 9, 2, .int 0, [], [84]),
  (37, .if_icmp .ge 29, 3, 66, 0, .null, [], []),
  (40, .aload_n 1, 1, 1, 0, .null, [], []),
  (41, .iload_n 3, 1, 3, 0, .null, [], []),
  (42, .invokevirtual 82, 12, 104, 1, .long 0, [], [64]),
  (45, .aload_n 0, 1, 0, 0, .null, [], []),
  (46, .getfield 15, 3, 7, 1, .null, [], [72]),
  (49, .iload_n 3, 1, 3, 0, .null, [], []),
  (50, .invokevirtual 31, 6, 26, 1, .int 0, [], [60]),
  (53, .i2l, 1, 0, 0, .null, [], []),
  (54, .lcmp, 1, 0, 0, .null, [], []),
  (55, .ifCond .eq 5, 3, 60, 0, .null, [], []),
  (58, .iload_n 3, 1, 3, 0, .null, [], []),
  (59, .ireturn, 1, 0, 0, .int 0, [], []),
  (60, .iinc 3 1, 3, 3, 0, .int 1, [], []),
  (63, .goto (-42), 3, 21, 0, .null, [], []),
  (66, .bipush (-2), 2, 0, 0, .int (-2), [], []),
  (68, .ireturn, 1, 0, 0, .int 0, [], [])],
  [(21, [true, true, false, true])], 4)
/-- 90: LeastPays$Nights.rulesThatFit(LLeastPays$Shelf;)I -/
def kX7_rulesThatFit : j_K := ([
  (0, .iconst 0, 1, 0, 0, .int 0, [], []),
  (1, .istore_n 2, 1, 2, 0, .null, [], []),
  (2, .iconst 0, 1, 0, 0, .int 0, [], []),
  (3, .istore_n 3, 1, 3, 0, .null, [], []),
  (4, .iload_n 3, 1, 3, 0, .null, [], []),
  (5, .iconst 5, 1, 0, 0, .int 5, [], []),
  (6, .if_icmp .ge 30, 3, 36, 0, .null, [], []),
  (9, .iload_n 2, 1, 2, 0, .null, [], []),
  (10, .aload_n 0, 1, 0, 0, .null, [], []),
  (11, .aload_n 1, 1, 1, 0, .null, [], []),
  (12, .iload_n 3, 1, 3, 0, .null, [], []),
  (13, .invokevirtual 86, 10, 89, 2, .int 0, [], [65]),
  (16, .bipush (-2), 2, 0, 0, .int (-2), [], []),
  (18, .if_icmp .ne 9, 3, 27, 0, .null, [], []),
  (21, .iconst 1, 1, 0, 0, .int 1, [], []),
  (22, .iload_n 3, 1, 3, 0, .null, [], []),
  (23, .ishl, 1, 0, 0, .null, [], []),
  (24, .goto 4, 3, 28, 0, .null, [], []),
  (27, .iconst 0, 1, 0, 0, .int 0, [], []),
  (28, .ior, 1, 0, 0, .null, [], []),
  (29, .istore_n 2, 1, 2, 0, .null, [], []),
  (30, .iinc 3 1, 3, 3, 0, .int 1, [], []),
  (33, .goto (-29), 3, 4, 0, .null, [], []),
  (36, .iload_n 2, 1, 2, 0, .null, [], []),
  (37, .ireturn, 1, 0, 0, .int 0, [], [])],
  [(4, [true, true, true, true])], 4)
/-- 91: LeastPays$Nights.weighRules()V -/
def kX7_weighRules : j_K := ([
  (0, .aload_n 0, 1, 0, 0, .null, [], []),
  (1, .getfield 15, 3, 7, 1, .null, [], [72]),
  (4, .aload_n 0, 1, 0, 0, .null, [], []),
  (5, .getfield 9, 3, 7, 0, .null, [], [71]),
  (8, .invokevirtual 19, 6, 22, 1, .null, [], [59]),
  (11, .iconst 0, 1, 0, 0, .int 0, [], []),
  (12, .istore_n 1, 1, 1, 0, .null, [], []),
  (13, .iload_n 1, 1, 1, 0, .null, [], []),
  (14, .iconst 5, 1, 0, 0, .int 5, [], []),
  (15, .if_icmp .ge 44, 3, 59, 0, .null, [], []),
  (18, .aload_n 0, 1, 0, 0, .null, [], []),
  (19, .getfield 15, 3, 7, 1, .null, [], [72]),
  (22, .iload_n 1, 1, 1, 0, .null, [], []),
  (23, .putfield 74, 3, 3, 2, .int 0, [], [83]),
  (26, .aload_n 0, 1, 0, 0, .null, [], []),
  (27, .invokevirtual 90, 10, 92, 0, .int 0, [], [66]),
  (30, .istore_n 2, 1, 2, 0, .null, [], []),
  (31, .iload_n 1, 1, 1, 0, .null, [], []),
  (32, .ifCond .eq 11, 3, 43, 0, .null, [], []),
  (35, .iload_n 2, 1, 2, 0, .null, [], []),
  (36, .aload_n 0, 1, 0, 0, .null, [], []),
  (37, .getfield 93, 3, 7, 5, .int 0, [], [85]),
  (40, .if_icmp .ge 13, 3, 53, 0, .null, [], []),
  (43, .aload_n 0, 1, 0, 0, .null, [], []),
  (44, .iload_n 1, 1, 1, 0, .null, [], []),
  (45, .putfield 96, 3, 7, 4, .int 0, [], [86]),
  (48, .aload_n 0, 1, 0, 0, .null, [], []),
  (49, .iload_n 2, 1, 2, 0, .null, [], []),
  (50, .putfield 93, 3, 7, 5, .int 0, [], [85]),
  (53, .iinc 1 1, 3, 1, 0, .int 1, [], []),
  (56, .goto (-43), 3, 13, 0, .null, [], []),
  (59, .return_, 1, 0, 0, .null, [], [])],
  [(13, [true, true, false])], 3)
/-- 92: LeastPays$Nights.greatestCost()I -/
def kX7_greatestCost : j_K := ([
  (0, .iconst 0, 1, 0, 0, .int 0, [], []),
  (1, .istore_n 1, 1, 1, 0, .null, [], []),
  (2, .iconst 0, 1, 0, 0, .int 0, [], []),
  (3, .istore_n 2, 1, 2, 0, .null, [], []),
  (4, .iload_n 2, 1, 2, 0, .null, [], []),
  (5, .aload_n 0, 1, 0, 0, .null, [], []),
  (6, .getfield 9, 3, 7, 0, .null, [], [71]),
  (9, .getfield 25, 3, 2, 6, .int 0, [], [73]),
  (12, .if_icmp .ge 22, 3, 34, 0, .null, [], []),
  (15, .iload_n 1, 1, 1, 0, .null, [], []),
  (16, .aload_n 0, 1, 0, 0, .null, [], []),
  (17, .getfield 15, 3, 7, 1, .null, [], [72]),
  (20, .iload_n 2, 1, 2, 0, .null, [], []),
  (21, .invokevirtual 31, 6, 26, 1, .int 0, [], [60]),
  (24, .invokestatic 99, 3, 1001, 2, .null, [], [9]),
  (27, .istore_n 1, 1, 1, 0, .null, [], []),
  (28, .iinc 2 1, 3, 2, 0, .int 1, [], []),
  (31, .goto (-27), 3, 4, 0, .null, [], []),
  (34, .iload_n 1, 1, 1, 0, .null, [], []),
  (35, .ireturn, 1, 0, 0, .int 0, [], [])],
  [(4, [true, true, true])], 3)
/-- 93: LeastPays$Picture.<init>()V -/
def kX8_init : j_K := ([
  (0, .aload_n 0, 1, 0, 0, .null, [], []),
  (1, .invokespecial 3, 3, 999, 0, .null, [], [8]),
  (4, .aload_n 0, 1, 0, 0, .null, [], []),
  (5, .bipush 6, 2, 0, 0, .int 6, [], []),
  (7, .newarray .int, 2, 0, 0, .int 0, [], []),
  (9, .putfield 9, 3, 8, 0, .null, [], [87]),
  (12, .aload_n 0, 1, 0, 0, .null, [], []),
  (13, .bipush 6, 2, 0, 0, .int 6, [], []),
  (15, .newarray .int, 2, 0, 0, .int 0, [], []),
  (17, .putfield 15, 3, 8, 1, .null, [], [88]),
  (20, .return_, 1, 0, 0, .null, [], [])],
  [], 1)
/-- 94: LeastPays$Picture.take(LLeastPays$Guests;)V -/
def kX8_take : j_K := ([
  (0, .aload_n 0, 1, 0, 0, .null, [], []),
  (1, .iconst 1, 1, 0, 0, .int 1, [], []),
  (2, .putfield 18, 3, 8, 5, .long 0, [], [89]),
  (5, .aload_n 0, 1, 0, 0, .null, [], []),
  (6, .aload_n 1, 1, 1, 0, .null, [], []),
  (7, .getfield 22, 3, 2, 6, .int 0, [], [90]),
  (10, .putfield 28, 3, 8, 2, .int 0, [], [91]),
  (13, .aload_n 0, 1, 0, 0, .null, [], []),
  (14, .aload_n 1, 1, 1, 0, .null, [], []),
  (15, .getfield 29, 3, 2, 11, .int 0, [], [92]),
  (18, .putfield 32, 3, 8, 3, .int 0, [], [93]),
  (21, .aload_n 0, 1, 0, 0, .null, [], []),
  (22, .aload_n 1, 1, 1, 0, .null, [], []),
  (23, .getfield 33, 3, 2, 10, .int 0, [], [94]),
  (26, .putfield 36, 3, 8, 4, .int 0, [], [95]),
  (29, .aload_n 1, 1, 1, 0, .null, [], []),
  (30, .getfield 37, 3, 2, 1, .null, [], [96]),
  (33, .iconst 0, 1, 0, 0, .int 0, [], []),
  (34, .aload_n 0, 1, 0, 0, .null, [], []),
  (35, .getfield 9, 3, 8, 0, .null, [], [87]),
  (38, .iconst 0, 1, 0, 0, .int 0, [], []),
  (39, .aload_n 0, 1, 0, 0, .null, [], []),
  (40, .getfield 28, 3, 8, 2, .int 0, [], [91]),
  (43, .invokestatic 38, 3, 1000, 5, .null, [], [10]),
  (46, .aload_n 1, 1, 1, 0, .null, [], []),
  (47, .getfield 44, 3, 2, 5, .null, [], [97]),
  (50, .iconst 0, 1, 0, 0, .int 0, [], []),
  (51, .aload_n 0, 1, 0, 0, .null, [], []),
  (52, .getfield 15, 3, 8, 1, .null, [], [88]),
  (55, .iconst 0, 1, 0, 0, .int 0, [], []),
  (56, .aload_n 0, 1, 0, 0, .null, [], []),
  (57, .getfield 28, 3, 8, 2, .int 0, [], [91]),
  (60, .invokestatic 38, 3, 1000, 5, .null, [], [10]),
  (63, .return_, 1, 0, 0, .null, [], [])],
  [], 2)
/-- 95: LeastPays$Picture.layBack(LLeastPays$Guests;)V -/
def kX8_layBack : j_K := ([
  (0, .aload_n 1, 1, 1, 0, .null, [], []),
  (1, .aload_n 0, 1, 0, 0, .null, [], []),
  (2, .getfield 32, 3, 8, 3, .int 0, [], [93]),
  (5, .putfield 29, 3, 2, 11, .int 0, [], [92]),
  (8, .aload_n 1, 1, 1, 0, .null, [], []),
  (9, .aload_n 0, 1, 0, 0, .null, [], []),
  (10, .getfield 36, 3, 8, 4, .int 0, [], [95]),
  (13, .putfield 33, 3, 2, 10, .int 0, [], [94]),
  (16, .aload_n 1, 1, 1, 0, .null, [], []),
  (17, .getfield 44, 3, 2, 5, .null, [], [97]),
  (20, .iconst 0, 1, 0, 0, .int 0, [], []),
  (21, .invokestatic 45, 3, 246, 2, .null, [], [67]),
  (24, .aload_n 0, 1, 0, 0, .null, [], []),
  (25, .getfield 9, 3, 8, 0, .null, [], [87]),
  (28, .iconst 0, 1, 0, 0, .int 0, [], []),
  (29, .aload_n 1, 1, 1, 0, .null, [], []),
  (30, .getfield 37, 3, 2, 1, .null, [], [96]),
  (33, .iconst 0, 1, 0, 0, .int 0, [], []),
  (34, .aload_n 0, 1, 0, 0, .null, [], []),
  (35, .getfield 28, 3, 8, 2, .int 0, [], [91]),
  (38, .invokestatic 38, 3, 1000, 5, .null, [], [10]),
  (41, .aload_n 0, 1, 0, 0, .null, [], []),
  (42, .getfield 15, 3, 8, 1, .null, [], [88]),
  (45, .iconst 0, 1, 0, 0, .int 0, [], []),
  (46, .aload_n 1, 1, 1, 0, .null, [], []),
  (47, .getfield 44, 3, 2, 5, .null, [], [97]),
  (50, .iconst 0, 1, 0, 0, .int 0, [], []),
  (51, .aload_n 0, 1, 0, 0, .null, [], []),
  (52, .getfield 28, 3, 8, 2, .int 0, [], [91]),
  (55, .invokestatic 38, 3, 1000, 5, .null, [], [10]),
  (58, .return_, 1, 0, 0, .null, [], [])],
  [], 2)
/-- 96: LeastPays$Shelf.<init>()V -/
def kX9_init : j_K := ([
  (0, .aload_n 0, 1, 0, 0, .null, [], []),
  (1, .invokespecial 3, 3, 999, 0, .null, [], [9]),
  (4, .aload_n 0, 1, 0, 0, .null, [], []),
  (5, .bipush 60, 2, 0, 0, .int 60, [], []),
  (7, .newarray .long, 2, 0, 0, .long 0, [], []),
  (9, .putfield 9, 3, 9, 0, .null, [], [98]),
  (12, .aload_n 0, 1, 0, 0, .null, [], []),
  (13, .iconst 0, 1, 0, 0, .int 0, [], []),
  (14, .putfield 15, 3, 9, 4, .int 0, [], [99]),
  (17, .return_, 1, 0, 0, .null, [], [])],
  [], 1)
/-- 97: LeastPays$Shelf.holdsNothing()Z -/
def kX9_holdsNothing : j_K := ([
  (0, .aload_n 0, 1, 0, 0, .null, [], []),
  (1, .getfield 15, 3, 9, 4, .int 0, [], [99]),
  (4, .ifCond .ne 7, 3, 11, 0, .null, [], []),
  (7, .iconst 1, 1, 0, 0, .int 1, [], []),
  (8, .goto 4, 3, 12, 0, .null, [], []),
  (11, .iconst 0, 1, 0, 0, .int 0, [], []),
  (12, .ireturn, 1, 0, 0, .long 0, [], [])],
  [], 1)
/-- 98: LeastPays$Shelf.isRow()Z -/
def kX9_isRow : j_K := ([
  (0, .aload_n 0, 1, 0, 0, .null, [], []),
  (1, .getfield 15, 3, 9, 4, .int 0, [], [99]),
  (4, .iconst 2, 1, 0, 0, .int 2, [], []),
  (5, .if_icmp .ne 7, 3, 12, 0, .null, [], []),
  (8, .iconst 1, 1, 0, 0, .int 1, [], []),
  (9, .goto 4, 3, 13, 0, .null, [], []),
  (12, .iconst 0, 1, 0, 0, .int 0, [], []),
  (13, .ireturn, 1, 0, 0, .long 0, [], [])],
  [], 1)
/-- 99: LeastPays$Shelf.isRowOf(I)Z -/
def kX9_isRowOf : j_K := ([
  (0, .aload_n 0, 1, 0, 0, .null, [], []),
  (1, .getfield 15, 3, 9, 4, .int 0, [], [99]),
  (4, .iconst 2, 1, 0, 0, .int 2, [], []),
  (5, .if_icmp .ne 15, 3, 20, 0, .null, [], []),
  (8, .aload_n 0, 1, 0, 0, .null, [], []),
  (9, .getfield 19, 3, 9, 1, .int 0, [], [100]),
  (12, .iload_n 1, 1, 1, 0, .null, [], []),
  (13, .if_icmp .ne 7, 3, 20, 0, .null, [], []),
  (16, .iconst 1, 1, 0, 0, .int 1, [], []),
  (17, .goto 4, 3, 21, 0, .null, [], []),
  (20, .iconst 0, 1, 0, 0, .int 0, [], []),
  (21, .ireturn, 1, 0, 0, .long 0, [], [])],
  [], 2)
/-- 100: LeastPays$Shelf.holdHat(I)V -/
def kX9_holdHat : j_K := ([
  (0, .aload_n 0, 1, 0, 0, .null, [], []),
  (1, .iload_n 1, 1, 1, 0, .null, [], []),
  (2, .ifCond .ge 7, 3, 9, 0, .null, [], []),
  (5, .iconst 0, 1, 0, 0, .int 0, [], []),
  (6, .goto 4, 3, 10, 0, .null, [], []),
  (9, .iconst 1, 1, 0, 0, .int 1, [], []),
  (10, .putfield 15, 3, 9, 4, .int 0, [], [99]),
  (13, .aload_n 0, 1, 0, 0, .null, [], []),
  (14, .iload_n 1, 1, 1, 0, .null, [], []),
  (15, .putfield 22, 3, 9, 3, .int 0, [], [101]),
  (18, .aload_n 0, 1, 0, 0, .null, [], []),
  (19, .iconst 0, 1, 0, 0, .int 0, [], []),
  (20, .putfield 25, 3, 9, 2, .int 0, [], [102]),
  (23, .return_, 1, 0, 0, .null, [], [])],
  [], 2)
/-- 101: LeastPays$Shelf.holdRow(II)V -/
def kX9_holdRow : j_K := ([
  (0, .aload_n 0, 1, 0, 0, .null, [], []),
  (1, .iconst 2, 1, 0, 0, .int 2, [], []),
  (2, .putfield 15, 3, 9, 4, .int 0, [], [99]),
  (5, .aload_n 0, 1, 0, 0, .null, [], []),
  (6, .iload_n 1, 1, 1, 0, .null, [], []),
  (7, .putfield 19, 3, 9, 1, .int 0, [], [100]),
  (10, .aload_n 0, 1, 0, 0, .null, [], []),
  (11, .iload_n 2, 1, 2, 0, .null, [], []),
  (12, .putfield 25, 3, 9, 2, .int 0, [], [102]),
  (15, .aload_n 0, 1, 0, 0, .null, [], []),
  (16, .getfield 9, 3, 9, 0, .null, [], [98]),
  (19, .lconst 0, 1, 0, 0, .long 0, [], []),
  (20, .invokestatic 28, 3, 245, 2, .null, [], [68]),
  (23, .return_, 1, 0, 0, .null, [], [])],
  [], 3)
/-- 102: LeastPays$Shelf.hasPlaces(II)Z -/
def kX9_hasPlaces : j_K := ([
  (0, .iload_n 1, 1, 1, 0, .null, [], []),
  (1, .ifCond .lt 25, 3, 26, 0, .null, [], []),
  (4, .iload_n 2, 1, 2, 0, .null, [], []),
  (5, .ifCond .lt 21, 3, 26, 0, .null, [], []),
  (8, .iload_n 1, 1, 1, 0, .null, [], []),
  (9, .i2l, 1, 0, 0, .null, [], []),
  (10, .iload_n 2, 1, 2, 0, .null, [], []),
  (11, .i2l, 1, 0, 0, .null, [], []),
  (12, .ladd, 1, 0, 0, .null, [], []),
  (13, .aload_n 0, 1, 0, 0, .null, [], []),
  (14, .getfield 25, 3, 9, 2, .int 0, [], [102]),
  (17, .i2l, 1, 0, 0, .null, [], []),
  (18, .lcmp, 1, 0, 0, .null, [], []),
  (19, .ifCond .gt 7, 3, 26, 0, .null, [], []),
  (22, .iconst 1, 1, 0, 0, .int 1, [], []),
  (23, .goto 4, 3, 27, 0, .null, [], []),
  (26, .iconst 0, 1, 0, 0, .int 0, [], []),
  (27, .ireturn, 1, 0, 0, .long 0, [], [])],
  [], 3)
/-- 103: LeastPays$Shelf.refusalAt(I)I -/
def kX9_refusalAt : j_K := ([
  (0, .aload_n 0, 1, 0, 0, .null, [], []),
  (1, .getfield 15, 3, 9, 4, .int 0, [], [99]),
  (4, .ifCond .ne 6, 3, 10, 0, .null, [], []),
  (7, .bipush (-11), 2, 0, 0, .int (-11), [], []),
  (9, .ireturn, 1, 0, 0, .int 0, [], []),
  (10, .aload_n 0, 1, 0, 0, .null, [], []),
  (11, .getfield 15, 3, 9, 4, .int 0, [], [99]),
  (14, .iconst 2, 1, 0, 0, .int 2, [], []),
  (15, .if_icmp .eq 6, 3, 21, 0, .null, [], []),
  (18, .bipush (-12), 2, 0, 0, .int (-12), [], []),
  (20, .ireturn, 1, 0, 0, .int 0, [], []),
  (21, .aload_n 0, 1, 0, 0, .null, [], []),
  (22, .iload_n 1, 1, 1, 0, .null, [], []),
  (23, .iconst 1, 1, 0, 0, .int 1, [], []),
  (24, .invokevirtual 34, 12, 102, 2, .int 0, [], [69]),
  (27, .ifCond .eq 7, 3, 34, 0, .null, [], []),
  (30, .iconst 0, 1, 0, 0, .int 0, [], []),
  (31, .goto 5, 3, 36, 0, .null, [], []),
  (34, .bipush (-13), 2, 0, 0, .int (-13), [], []),
  (36, .ireturn, 1, 0, 0, .int 0, [], [])],
  [], 2)
/-- 104: LeastPays$Shelf.get(I)J -/
def kX9_get : j_K := ([
  (0, .aload_n 0, 1, 0, 0, .null, [], []),
  (1, .iload_n 1, 1, 1, 0, .null, [], []),
  (2, .iconst 1, 1, 0, 0, .int 1, [], []),
  (3, .invokevirtual 34, 12, 102, 2, .int 0, [], [69]),
  (6, .ifCond .eq 12, 3, 18, 0, .null, [], []),
  (9, .aload_n 0, 1, 0, 0, .null, [], []),
  (10, .getfield 9, 3, 9, 0, .null, [], [98]),
  (13, .iload_n 1, 1, 1, 0, .null, [], []),
  (14, .laload, 1, 0, 0, .null, [], []),
  (15, .goto 4, 3, 19, 0, .null, [], []),
  (18, .lconst 0, 1, 0, 0, .long 0, [], []),
  (19, .lreturn, 1, 0, 0, .null, [], [])],
  [], 2)
/-- 105: LeastPays$Shelf.set(IJ)V -/
def kX9_set : j_K := ([
  (0, .aload_n 0, 1, 0, 0, .null, [], []),
  (1, .iload_n 1, 1, 1, 0, .null, [], []),
  (2, .iconst 1, 1, 0, 0, .int 1, [], []),
  (3, .invokevirtual 34, 12, 102, 2, .int 0, [], [69]),
  (6, .ifCond .eq 14, 3, 20, 0, .null, [], []),
  (9, .aload_n 0, 1, 0, 0, .null, [], []),
  (10, .getfield 9, 3, 9, 0, .null, [], [98]),
  (13, .iload_n 1, 1, 1, 0, .null, [], []),
  (14, .aload_n 0, 1, 0, 0, .null, [], []),
  (15, .lload_n 2, 1, 2, 0, .null, [], []),
  (16, .invokevirtual 38, 12, 106, 1, .long 0, [], [70]),
  (19, .lastore, 1, 0, 0, .null, [], []),
  (20, .return_, 1, 0, 0, .null, [], [])],
  [], 4)
/-- 106: LeastPays$Shelf.lowestBits(J)J -/
def kX9_lowestBits : j_K := ([
  (0, .aload_n 0, 1, 0, 0, .null, [], []),
  (1, .getfield 19, 3, 9, 1, .int 0, [], [100]),
  (4, .tableswitch 48 0 3 #[32, 37, 42, 46], 32, 52, 0, .null, [(0, 36), (1, 41), (2, 46), (3, 50)], []),
  (36, .lload_n 1, 1, 1, 0, .null, [], []),
  (37, .l2i, 1, 0, 0, .null, [], []),
  (38, .i2b, 1, 0, 0, .null, [], []),
  (39, .i2l, 1, 0, 0, .null, [], []),
  (40, .lreturn, 1, 0, 0, .null, [], []),
  (41, .lload_n 1, 1, 1, 0, .null, [], []),
  (42, .l2i, 1, 0, 0, .null, [], []),
  (43, .i2s, 1, 0, 0, .null, [], []),
  (44, .i2l, 1, 0, 0, .null, [], []),
  (45, .lreturn, 1, 0, 0, .null, [], []),
  (46, .lload_n 1, 1, 1, 0, .null, [], []),
  (47, .l2i, 1, 0, 0, .null, [], []),
  (48, .i2l, 1, 0, 0, .null, [], []),
  (49, .lreturn, 1, 0, 0, .null, [], []),
  (50, .lload_n 1, 1, 1, 0, .null, [], []),
  (51, .lreturn, 1, 0, 0, .null, [], []),
  (52, .lload_n 1, 1, 1, 0, .null, [], []),
  (53, .lconst 0, 1, 0, 0, .long 0, [], []),
  (54, .lcmp, 1, 0, 0, .null, [], []),
  (55, .ifCond .eq 7, 3, 62, 0, .null, [], []),
  (58, .lconst 1, 1, 0, 0, .long 1, [], []),
  (59, .goto 4, 3, 63, 0, .null, [], []),
  (62, .lconst 0, 1, 0, 0, .long 0, [], []),
  (63, .lreturn, 1, 0, 0, .null, [], [])],
  [], 3)
/-- 107: LeastPays.<init>()V -/
def kX10_init : j_K := ([
  (0, .aload_n 0, 1, 0, 0, .null, [], []),
  (1, .invokespecial 1, 3, 999, 0, .null, [], [10]),
  (4, .aload_n 0, 1, 0, 0, .null, [], []),
  (5, .new 7, 3, 2, 12, .null, [], [0]),
  (8, .dup, 1, 0, 0, .null, [], []),
  (9, .invokespecial 9, 3, 15, 0, .null, [], [71]),
  (12, .putfield 10, 3, 10, 0, .null, [], [103]),
  (15, .aload_n 0, 1, 0, 0, .null, [], []),
  (16, .new 16, 3, 3, 11, .null, [], [1]),
  (19, .dup, 1, 0, 0, .null, [], []),
  (20, .invokespecial 18, 3, 21, 0, .null, [], [72]),
  (23, .putfield 19, 3, 10, 1, .null, [], [104]),
  (26, .aload_n 0, 1, 0, 0, .null, [], []),
  (27, .new 23, 3, 6, 6, .null, [], [2]),
  (30, .dup, 1, 0, 0, .null, [], []),
  (31, .aload_n 0, 1, 0, 0, .null, [], []),
  (32, .getfield 10, 3, 10, 0, .null, [], [103]),
  (35, .aload_n 0, 1, 0, 0, .null, [], []),
  (36, .getfield 19, 3, 10, 1, .null, [], [104]),
  (39, .invokespecial 25, 3, 69, 2, .null, [], [73]),
  (42, .putfield 28, 3, 10, 2, .null, [], [105]),
  (45, .aload_n 0, 1, 0, 0, .null, [], []),
  (46, .new 32, 3, 5, 6, .null, [], [3]),
  (49, .dup, 1, 0, 0, .null, [], []),
  (50, .aload_n 0, 1, 0, 0, .null, [], []),
  (51, .getfield 10, 3, 10, 0, .null, [], [103]),
  (54, .aload_n 0, 1, 0, 0, .null, [], []),
  (55, .getfield 19, 3, 10, 1, .null, [], [104]),
  (58, .invokespecial 34, 3, 61, 2, .null, [], [74]),
  (61, .putfield 35, 3, 10, 3, .null, [], [106]),
  (64, .aload_n 0, 1, 0, 0, .null, [], []),
  (65, .new 39, 3, 4, 11, .null, [], [4]),
  (68, .dup, 1, 0, 0, .null, [], []),
  (69, .invokespecial 41, 3, 32, 0, .null, [], [75]),
  (72, .putfield 42, 3, 10, 4, .null, [], [107]),
  (75, .aload_n 0, 1, 0, 0, .null, [], []),
  (76, .new 46, 3, 7, 6, .null, [], [5]),
  (79, .dup, 1, 0, 0, .null, [], []),
  (80, .aload_n 0, 1, 0, 0, .null, [], []),
  (81, .getfield 10, 3, 10, 0, .null, [], [103]),
  (84, .aload_n 0, 1, 0, 0, .null, [], []),
  (85, .getfield 19, 3, 10, 1, .null, [], [104]),
  (88, .invokespecial 48, 3, 86, 2, .null, [], [76]),
  (91, .putfield 49, 3, 10, 5, .null, [], [108]),
  (94, .aload_n 0, 1, 0, 0, .null, [], []),
  (95, .new 53, 3, 1, 6, .null, [], [6]),
  (98, .dup, 1, 0, 0, .null, [], []),
  (99, .invokespecial 55, 3, 10, 0, .null, [], [77]),
  (102, .putfield 56, 3, 10, 6, .null, [], [109]),
  (105, .aload_n 0, 1, 0, 0, .null, [], []),
  (106, .new 60, 3, 8, 6, .null, [], [7]),
  (109, .dup, 1, 0, 0, .null, [], []),
  (110, .invokespecial 62, 3, 93, 0, .null, [], [78]),
  (113, .putfield 63, 3, 10, 7, .null, [], [110]),
  (116, .aload_n 0, 1, 0, 0, .null, [], []),
  (117, .new 67, 3, 0, 5, .null, [], [8]),
  (120, .dup, 1, 0, 0, .null, [], []),
  (121, .invokespecial 69, 3, 0, 0, .null, [], [79]),
  (124, .putfield 70, 3, 10, 8, .null, [], [111]),
  (127, .aload_n 0, 1, 0, 0, .null, [], []),
  (128, .bipush 6, 2, 0, 0, .int 6, [], []),
  (130, .anewarray 74, 3, 0, 0, .null, [], [9]),
  (133, .putfield 76, 3, 10, 9, .null, [], [112]),
  (136, .iconst 0, 1, 0, 0, .int 0, [], []),
  (137, .istore_n 1, 1, 1, 0, .null, [], []),
  (138, .iload_n 1, 1, 1, 0, .null, [], []),
  (139, .bipush 6, 2, 0, 0, .int 6, [], []),
  (141, .if_icmp .ge 22, 3, 163, 0, .null, [], []),
  (144, .aload_n 0, 1, 0, 0, .null, [], []),
  (145, .getfield 76, 3, 10, 9, .null, [], [112]),
  (148, .iload_n 1, 1, 1, 0, .null, [], []),
  (149, .new 74, 3, 9, 5, .null, [], [9]),
  (152, .dup, 1, 0, 0, .null, [], []),
  (153, .invokespecial 80, 3, 96, 0, .null, [], [80]),
  (156, .aastore, 1, 0, 0, .null, [], []),
  (157, .iinc 1 1, 3, 1, 0, .int 1, [], []),
  (160, .goto (-22), 3, 138, 0, .null, [], []),
  (163, .return_, 1, 0, 0, .null, [], [])],
  [(138, [true, true])], 2)
/-- 108: LeastPays.guest(I)I -/
def kX10_guest : j_K := ([
  (0, .iload_n 1, 1, 1, 0, .null, [], []),
  (1, .iconst 0, 1, 0, 0, .int 0, [], []),
  (2, .bipush 99, 2, 0, 0, .int 99, [], []),
  (4, .invokestatic 81, 3, 147, 3, .int 0, [], [81]),
  (7, .ifCond .ne 5, 3, 12, 0, .null, [], []),
  (10, .iconst (-1), 1, 0, 0, .int (-1), [], []),
  (11, .ireturn, 1, 0, 0, .int 0, [], []),
  (12, .aload_n 0, 1, 0, 0, .null, [], []),
  (13, .getfield 10, 3, 10, 0, .null, [], [103]),
  (16, .getfield 85, 3, 2, 6, .int 0, [], [113]),
  (19, .bipush 6, 2, 0, 0, .int 6, [], []),
  (21, .if_icmp .lt 6, 3, 27, 0, .null, [], []),
  (24, .bipush (-3), 2, 0, 0, .int (-3), [], []),
  (26, .ireturn, 1, 0, 0, .int 0, [], []),
  (27, .aload_n 0, 1, 0, 0, .null, [], []),
  (28, .getfield 10, 3, 10, 0, .null, [], [103]),
  (31, .iload_n 1, 1, 1, 0, .null, [], []),
  (32, .iconst 0, 1, 0, 0, .int 0, [], []),
  (33, .invokevirtual 89, 5, 17, 2, .null, [], [82]),
  (36, .aload_n 0, 1, 0, 0, .null, [], []),
  (37, .getfield 10, 3, 10, 0, .null, [], [103]),
  (40, .getfield 85, 3, 2, 6, .int 0, [], [113]),
  (43, .iconst 1, 1, 0, 0, .int 1, [], []),
  (44, .isub, 1, 0, 0, .null, [], []),
  (45, .ireturn, 1, 0, 0, .int 0, [], [])],
  [], 2)
/-- 109: LeastPays.guests(III)I -/
def kX10_guests : j_K := ([
  (0, .iload_n 1, 1, 1, 0, .null, [], []),
  (1, .invokestatic 93, 3, 148, 1, .int 0, [], [83]),
  (4, .ifCond .eq 13, 3, 17, 0, .null, [], []),
  (7, .iload_n 3, 1, 3, 0, .null, [], []),
  (8, .iconst 1, 1, 0, 0, .int 1, [], []),
  (9, .bipush 6, 2, 0, 0, .int 6, [], []),
  (11, .invokestatic 81, 3, 147, 3, .int 0, [], [81]),
  (14, .ifCond .ne 5, 3, 19, 0, .null, [], []),
  (17, .iconst (-1), 1, 0, 0, .int (-1), [], []),
  (18, .ireturn, 1, 0, 0, .int 0, [], []),
  (19, .aload_n 0, 1, 0, 0, .null, [], []),
  (20, .getfield 76, 3, 10, 9, .null, [], [112]),
  (23, .iload_n 1, 1, 1, 0, .null, [], []),
  (24, .aaload, 1, 0, 0, .null, [], []),
  (25, .astore 4, 2, 4, 0, .null, [], []),
  (27, .aload 4, 2, 4, 0, .null, [], []),
  (29, .invokevirtual 97, 12, 97, 0, .int 0, [], [84]),
  (32, .ifCond .eq 5, 3, 37, 0, .null, [], []),
  (35, .iconst 0, 1, 0, 0, .int 0, [], []),
  (36, .ireturn, 1, 0, 0, .int 0, [], []),
  (37, .aload 4, 2, 4, 0, .null, [], []),
  (39, .iconst 0, 1, 0, 0, .int 0, [], []),
  (40, .invokevirtual 101, 12, 99, 1, .int 0, [], [85]),
  (43, .ifCond .ne 6, 3, 49, 0, .null, [], []),
  (46, .bipush (-12), 2, 0, 0, .int (-12), [], []),
  (48, .ireturn, 1, 0, 0, .int 0, [], []),
  (49, .iconst 0, 1, 0, 0, .int 0, [], []),
  (50, .istore 5, 2, 5, 0, .null, [], []),
  (52, .iload 5, 2, 5, 0, .null, [], []),
  (54, .iload_n 3, 1, 3, 0, .null, [], []),
  (55, .if_icmp .ge 28, 3, 83, 0, .null, [], []),
  (58, .aload_n 0, 1, 0, 0, .null, [], []),
  (59, .aload 4, 2, 4, 0, .null, [], []),
  (61, .iload_n 2, 1, 2, 0, .null, [], []),
  (62, .i2l, 1, 0, 0, .null, [], []),
  (63, .ldc2_w 104, 3, 0, 0, .long 2, [], [2]),
  (66, .iload 5, 2, 5, 0, .null, [], []),
  (68, .i2l, 1, 0, 0, .null, [], []),
  (69, .lmul, 1, 0, 0, .null, [], []),
  (70, .ladd, 1, 0, 0, .null, [], []),
  (71, .invokevirtual 106, 13, 149, 2, .int 0, [], [86]),
  (74, .ifCond .eq 9, 3, 83, 0, .null, [], []),
  (77, .iinc 5 1, 3, 5, 0, .int 1, [], []),
  (80, .goto (-28), 3, 52, 0, .null, [], []),
  (83, .iload 5, 2, 5, 0, .null, [], []),
  (85, .ireturn, 1, 0, 0, .int 0, [], [])],
  [(52, [true, false, true, true, true, true])], 6)
/-- 110: LeastPays.mend(III)I -/
def kX10_mend : j_K := ([
  (0, .aload_n 0, 1, 0, 0, .null, [], []),
  (1, .getfield 10, 3, 10, 0, .null, [], [103]),
  (4, .iload_n 1, 1, 1, 0, .null, [], []),
  (5, .iload_n 2, 1, 2, 0, .null, [], []),
  (6, .iload_n 3, 1, 3, 0, .null, [], []),
  (7, .invokevirtual 110, 5, 18, 3, .int 0, [], [87]),
  (10, .ifCond .ne 5, 3, 15, 0, .null, [], []),
  (13, .iconst (-1), 1, 0, 0, .int (-1), [], []),
  (14, .ireturn, 1, 0, 0, .int 0, [], []),
  (15, .aload_n 0, 1, 0, 0, .null, [], []),
  (16, .getfield 10, 3, 10, 0, .null, [], [103]),
  (19, .iload_n 1, 1, 1, 0, .null, [], []),
  (20, .iload_n 2, 1, 2, 0, .null, [], []),
  (21, .invokevirtual 113, 5, 19, 2, .int 0, [], [88]),
  (24, .istore 4, 2, 4, 0, .null, [], []),
  (26, .iload 4, 2, 4, 0, .null, [], []),
  (28, .iload_n 3, 1, 3, 0, .null, [], []),
  (29, .if_icmp .eq 25, 3, 54, 0, .null, [], []),
  (32, .aload_n 0, 1, 0, 0, .null, [], []),
  (33, .getfield 10, 3, 10, 0, .null, [], [103]),
  (36, .iload_n 1, 1, 1, 0, .null, [], []),
  (37, .iload_n 2, 1, 2, 0, .null, [], []),
  (38, .iload_n 3, 1, 3, 0, .null, [], []),
  (39, .invokevirtual 117, 5, 20, 3, .null, [], [89]),
  (42, .aload_n 0, 1, 0, 0, .null, [], []),
  (43, .getfield 56, 3, 10, 6, .null, [], [109]),
  (46, .iload_n 1, 1, 1, 0, .null, [], []),
  (47, .iload_n 2, 1, 2, 0, .null, [], []),
  (48, .iload 4, 2, 4, 0, .null, [], []),
  (50, .iload_n 3, 1, 3, 0, .null, [], []),
  (51, .invokevirtual 121, 4, 11, 4, .null, [], [90]),
  (54, .iload 4, 2, 4, 0, .null, [], []),
  (56, .ireturn, 1, 0, 0, .int 0, [], [])],
  [], 5)
/-- 111: LeastPays.of(II)I -/
def kX10_of : j_K := ([
  (0, .iload_n 2, 1, 2, 0, .null, [], []),
  (1, .bipush 10, 2, 0, 0, .int 10, [], []),
  (3, .if_icmp .lt 18, 3, 21, 0, .null, [], []),
  (6, .iload_n 1, 1, 1, 0, .null, [], []),
  (7, .ifCond .ne 11, 3, 18, 0, .null, [], []),
  (10, .aload_n 0, 1, 0, 0, .null, [], []),
  (11, .iload_n 2, 1, 2, 0, .null, [], []),
  (12, .invokevirtual 125, 13, 151, 1, .int 0, [], [91]),
  (15, .goto 5, 3, 20, 0, .null, [], []),
  (18, .ldc 129, 2, 0, 0, .int (-2000000000), [], [2]),
  (20, .ireturn, 1, 0, 0, .int 0, [], []),
  (21, .aload_n 0, 1, 0, 0, .null, [], []),
  (22, .getfield 10, 3, 10, 0, .null, [], [103]),
  (25, .iload_n 1, 1, 1, 0, .null, [], []),
  (26, .invokevirtual 130, 5, 16, 1, .int 0, [], [92]),
  (29, .ifCond .eq 12, 3, 41, 0, .null, [], []),
  (32, .aload_n 0, 1, 0, 0, .null, [], []),
  (33, .iload_n 1, 1, 1, 0, .null, [], []),
  (34, .iload_n 2, 1, 2, 0, .null, [], []),
  (35, .invokevirtual 133, 13, 150, 2, .int 0, [], [93]),
  (38, .goto 5, 3, 43, 0, .null, [], []),
  (41, .ldc 129, 2, 0, 0, .int (-2000000000), [], [2]),
  (43, .ireturn, 1, 0, 0, .int 0, [], [])],
  [], 3)
/-- 112: LeastPays.think(II)I -/
def kX10_think : j_K := ([
  (0, .aload_n 0, 1, 0, 0, .null, [], []),
  (1, .getfield 10, 3, 10, 0, .null, [], [103]),
  (4, .iload_n 1, 1, 1, 0, .null, [], []),
  (5, .invokevirtual 130, 5, 16, 1, .int 0, [], [92]),
  (8, .ifCond .eq 14, 3, 22, 0, .null, [], []),
  (11, .iload_n 2, 1, 2, 0, .null, [], []),
  (12, .iconst (-1), 1, 0, 0, .int (-1), [], []),
  (13, .sipush 599, 3, 0, 0, .int 599, [], []),
  (16, .invokestatic 81, 3, 147, 3, .int 0, [], [81]),
  (19, .ifCond .ne 6, 3, 25, 0, .null, [], []),
  (22, .ldc 129, 2, 0, 0, .int (-2000000000), [], [2]),
  (24, .ireturn, 1, 0, 0, .int 0, [], []),
  (25, .aload_n 0, 1, 0, 0, .null, [], []),
  (26, .getfield 10, 3, 10, 0, .null, [], [103]),
  (29, .getfield 136, 3, 2, 4, .null, [], [114]),
  (32, .iload_n 1, 1, 1, 0, .null, [], []),
  (33, .iaload, 1, 0, 0, .null, [], []),
  (34, .istore_n 3, 1, 3, 0, .null, [], []),
  (35, .aload_n 0, 1, 0, 0, .null, [], []),
  (36, .getfield 10, 3, 10, 0, .null, [], [103]),
  (39, .getfield 136, 3, 2, 4, .null, [], [114]),
  (42, .iload_n 1, 1, 1, 0, .null, [], []),
  (43, .iload_n 2, 1, 2, 0, .null, [], []),
  (44, .iastore, 1, 0, 0, .null, [], []),
  (45, .iload_n 3, 1, 3, 0, .null, [], []),
  (46, .ireturn, 1, 0, 0, .int 0, [], [])],
  [], 4)
/-- 113: LeastPays.feed(I)I -/
def kX10_feed : j_K := ([
  (0, .iload_n 1, 1, 1, 0, .null, [], []),
  (1, .iconst 0, 1, 0, 0, .int 0, [], []),
  (2, .sipush 255, 3, 0, 0, .int 255, [], []),
  (5, .invokestatic 81, 3, 147, 3, .int 0, [], [81]),
  (8, .ifCond .eq 14, 3, 22, 0, .null, [], []),
  (11, .aload_n 0, 1, 0, 0, .null, [], []),
  (12, .getfield 42, 3, 10, 4, .null, [], [107]),
  (15, .iload_n 1, 1, 1, 0, .null, [], []),
  (16, .invokevirtual 140, 7, 33, 1, .int 0, [], [94]),
  (19, .goto 4, 3, 23, 0, .null, [], []),
  (22, .iconst (-1), 1, 0, 0, .int (-1), [], []),
  (23, .ireturn, 1, 0, 0, .int 0, [], [])],
  [], 2)
/-- 114: LeastPays.law()I -/
def kX10_law : j_K := ([
  (0, .aload_n 0, 1, 0, 0, .null, [], []),
  (1, .getfield 42, 3, 10, 4, .null, [], [107]),
  (4, .invokevirtual 143, 7, 34, 0, .int 0, [], [95]),
  (7, .ireturn, 1, 0, 0, .int 0, [], [])],
  [], 1)
/-- 115: LeastPays.putIn(II)I -/
def kX10_putIn : j_K := ([
  (0, .aload_n 0, 1, 0, 0, .null, [], []),
  (1, .getfield 10, 3, 10, 0, .null, [], [103]),
  (4, .iload_n 1, 1, 1, 0, .null, [], []),
  (5, .invokevirtual 130, 5, 16, 1, .int 0, [], [92]),
  (8, .ifCond .eq 12, 3, 20, 0, .null, [], []),
  (11, .iload_n 2, 1, 2, 0, .null, [], []),
  (12, .iconst 0, 1, 0, 0, .int 0, [], []),
  (13, .iconst 1, 1, 0, 0, .int 1, [], []),
  (14, .invokestatic 81, 3, 147, 3, .int 0, [], [81]),
  (17, .ifCond .ne 6, 3, 23, 0, .null, [], []),
  (20, .ldc 129, 2, 0, 0, .int (-2000000000), [], [2]),
  (22, .ireturn, 1, 0, 0, .int 0, [], []),
  (23, .aload_n 0, 1, 0, 0, .null, [], []),
  (24, .getfield 19, 3, 10, 1, .null, [], [104]),
  (27, .aload_n 0, 1, 0, 0, .null, [], []),
  (28, .getfield 10, 3, 10, 0, .null, [], [103]),
  (31, .invokevirtual 147, 6, 22, 1, .null, [], [96]),
  (34, .aload_n 0, 1, 0, 0, .null, [], []),
  (35, .getfield 28, 3, 10, 2, .null, [], [105]),
  (38, .iload_n 1, 1, 1, 0, .null, [], []),
  (39, .invokevirtual 151, 9, 71, 1, .null, [], [97]),
  (42, .iload_n 2, 1, 2, 0, .null, [], []),
  (43, .ifCond .ne 13, 3, 56, 0, .null, [], []),
  (46, .aload_n 0, 1, 0, 0, .null, [], []),
  (47, .getfield 28, 3, 10, 2, .null, [], [105]),
  (50, .getfield 155, 3, 6, 3, .int 0, [], [115]),
  (53, .goto 10, 3, 63, 0, .null, [], []),
  (56, .aload_n 0, 1, 0, 0, .null, [], []),
  (57, .getfield 28, 3, 10, 2, .null, [], [105]),
  (60, .getfield 158, 3, 6, 4, .int 0, [], [116]),
  (63, .ireturn, 1, 0, 0, .int 0, [], [])],
  [], 3)
/-- 116: LeastPays.mean(III)J -/
def kX10_mean : j_K := ([
  (0, .aload_n 0, 1, 0, 0, .null, [], []),
  (1, .getfield 10, 3, 10, 0, .null, [], [103]),
  (4, .iload_n 1, 1, 1, 0, .null, [], []),
  (5, .invokevirtual 130, 5, 16, 1, .int 0, [], [92]),
  (8, .ifCond .eq 29, 3, 37, 0, .null, [], []),
  (11, .iload_n 2, 1, 2, 0, .null, [], []),
  (12, .iconst 0, 1, 0, 0, .int 0, [], []),
  (13, .aload_n 0, 1, 0, 0, .null, [], []),
  (14, .getfield 10, 3, 10, 0, .null, [], [103]),
  (17, .getfield 161, 3, 2, 0, .null, [], [117]),
  (20, .iload_n 1, 1, 1, 0, .null, [], []),
  (21, .iaload, 1, 0, 0, .null, [], []),
  (22, .invokestatic 81, 3, 147, 3, .int 0, [], [81]),
  (25, .ifCond .eq 12, 3, 37, 0, .null, [], []),
  (28, .iload_n 3, 1, 3, 0, .null, [], []),
  (29, .iconst 0, 1, 0, 0, .int 0, [], []),
  (30, .iconst 1, 1, 0, 0, .int 1, [], []),
  (31, .invokestatic 81, 3, 147, 3, .int 0, [], [81]),
  (34, .ifCond .ne 7, 3, 41, 0, .null, [], []),
  (37, .ldc2_w 164, 3, 0, 0, .long (-9223372036854775808), [], [3]),
  (40, .lreturn, 1, 0, 0, .null, [], []),
  (41, .aload_n 0, 1, 0, 0, .null, [], []),
  (42, .getfield 28, 3, 10, 2, .null, [], [105]),
  (45, .iload_n 1, 1, 1, 0, .null, [], []),
  (46, .iload_n 2, 1, 2, 0, .null, [], []),
  (47, .invokevirtual 166, 9, 83, 2, .long 0, [], [98]),
  (50, .aload_n 0, 1, 0, 0, .null, [], []),
  (51, .getfield 28, 3, 10, 2, .null, [], [105]),
  (54, .invokevirtual 170, 9, 82, 0, .long 0, [], [99]),
  (57, .iload_n 3, 1, 3, 0, .null, [], []),
  (58, .invokestatic 174, 3, 154, 3, .long 0, [], [100]),
  (61, .lreturn, 1, 0, 0, .null, [], [])],
  [], 4)
/-- 117: LeastPays.bestMean(I)I -/
def kX10_bestMean : j_K := ([
  (0, .aload_n 0, 1, 0, 0, .null, [], []),
  (1, .getfield 10, 3, 10, 0, .null, [], [103]),
  (4, .iload_n 1, 1, 1, 0, .null, [], []),
  (5, .invokevirtual 130, 5, 16, 1, .int 0, [], [92]),
  (8, .ifCond .eq 14, 3, 22, 0, .null, [], []),
  (11, .aload_n 0, 1, 0, 0, .null, [], []),
  (12, .getfield 28, 3, 10, 2, .null, [], [105]),
  (15, .iload_n 1, 1, 1, 0, .null, [], []),
  (16, .invokevirtual 178, 9, 85, 1, .int 0, [], [101]),
  (19, .goto 4, 3, 23, 0, .null, [], []),
  (22, .iconst (-1), 1, 0, 0, .int (-1), [], []),
  (23, .ireturn, 1, 0, 0, .int 0, [], [])],
  [], 2)
/-- 118: LeastPays.rest(I)I -/
def kX10_rest : j_K := ([
  (0, .iload_n 1, 1, 1, 0, .null, [], []),
  (1, .iconst 0, 1, 0, 0, .int 0, [], []),
  (2, .iconst 1, 1, 0, 0, .int 1, [], []),
  (3, .invokestatic 81, 3, 147, 3, .int 0, [], [81]),
  (6, .ifCond .ne 5, 3, 11, 0, .null, [], []),
  (9, .iconst (-1), 1, 0, 0, .int (-1), [], []),
  (10, .ireturn, 1, 0, 0, .int 0, [], []),
  (11, .aload_n 0, 1, 0, 0, .null, [], []),
  (12, .getfield 19, 3, 10, 1, .null, [], [104]),
  (15, .aload_n 0, 1, 0, 0, .null, [], []),
  (16, .getfield 10, 3, 10, 0, .null, [], [103]),
  (19, .invokevirtual 147, 6, 22, 1, .null, [], [96]),
  (22, .aload_n 0, 1, 0, 0, .null, [], []),
  (23, .getfield 28, 3, 10, 2, .null, [], [105]),
  (26, .invokevirtual 181, 9, 73, 0, .int 0, [], [102]),
  (29, .istore_n 2, 1, 2, 0, .null, [], []),
  (30, .iload_n 1, 1, 1, 0, .null, [], []),
  (31, .iconst 1, 1, 0, 0, .int 1, [], []),
  (32, .if_icmp .ne 5, 3, 37, 0, .null, [], []),
  (35, .iload_n 2, 1, 2, 0, .null, [], []),
  (36, .ireturn, 1, 0, 0, .int 0, [], []),
  (37, .iload_n 2, 1, 2, 0, .null, [], []),
  (38, .bipush (-2), 2, 0, 0, .int (-2), [], []),
  (40, .if_icmp .ne 7, 3, 47, 0, .null, [], []),
  (43, .iconst 1, 1, 0, 0, .int 1, [], []),
  (44, .goto 4, 3, 48, 0, .null, [], []),
  (47, .iconst 0, 1, 0, 0, .int 0, [], []),
  (48, .ireturn, 1, 0, 0, .int 0, [], [])],
  [], 3)
/-- 119: LeastPays.rests(I)I -/
def kX10_rests : j_K := ([
  (0, .iload_n 1, 1, 1, 0, .null, [], []),
  (1, .iconst (-1), 1, 0, 0, .int (-1), [], []),
  (2, .if_icmp .eq 16, 3, 18, 0, .null, [], []),
  (5, .aload_n 0, 1, 0, 0, .null, [], []),
  (6, .getfield 10, 3, 10, 0, .null, [], [103]),
  (9, .iload_n 1, 1, 1, 0, .null, [], []),
  (10, .invokevirtual 130, 5, 16, 1, .int 0, [], [92]),
  (13, .ifCond .ne 5, 3, 18, 0, .null, [], []),
  (16, .iconst (-1), 1, 0, 0, .int (-1), [], []),
  (17, .ireturn, 1, 0, 0, .int 0, [], []),
  (18, .aload_n 0, 1, 0, 0, .null, [], []),
  (19, .getfield 28, 3, 10, 2, .null, [], [105]),
  (22, .invokevirtual 184, 9, 76, 0, .int 0, [], [103]),
  (25, .ifCond .ne 6, 3, 31, 0, .null, [], []),
  (28, .bipush (-5), 2, 0, 0, .int (-5), [], []),
  (30, .ireturn, 1, 0, 0, .int 0, [], []),
  (31, .aload_n 0, 1, 0, 0, .null, [], []),
  (32, .getfield 28, 3, 10, 2, .null, [], [105]),
  (35, .invokevirtual 187, 9, 77, 0, .int 0, [], [104]),
  (38, .istore_n 2, 1, 2, 0, .null, [], []),
  (39, .iload_n 1, 1, 1, 0, .null, [], []),
  (40, .iconst (-1), 1, 0, 0, .int (-1), [], []),
  (41, .if_icmp .ne 5, 3, 46, 0, .null, [], []),
  (44, .iload_n 2, 1, 2, 0, .null, [], []),
  (45, .ireturn, 1, 0, 0, .int 0, [], []),
  (46, .iload_n 2, 1, 2, 0, .null, [], []),
  (47, .ifCond .ne 8, 3, 55, 0, .null, [], []),
  (50, .bipush (-2), 2, 0, 0, .int (-2), [], []),
  (52, .goto 12, 3, 64, 0, .null, [], []),
  (55, .aload_n 0, 1, 0, 0, .null, [], []),
  (56, .getfield 28, 3, 10, 2, .null, [], [105]),
  (59, .getfield 190, 3, 6, 2, .null, [], [118]),
  (62, .iload_n 1, 1, 1, 0, .null, [], []),
  (63, .iaload, 1, 0, 0, .null, [], []),
  (64, .ireturn, 1, 0, 0, .int 0, [], [])],
  [], 3)
/-- 120: LeastPays.turns(I)I -/
def kX10_turns : j_K := ([
  (0, .iload_n 1, 1, 1, 0, .null, [], []),
  (1, .iconst (-1), 1, 0, 0, .int (-1), [], []),
  (2, .if_icmp .eq 16, 3, 18, 0, .null, [], []),
  (5, .aload_n 0, 1, 0, 0, .null, [], []),
  (6, .getfield 10, 3, 10, 0, .null, [], [103]),
  (9, .iload_n 1, 1, 1, 0, .null, [], []),
  (10, .invokevirtual 130, 5, 16, 1, .int 0, [], [92]),
  (13, .ifCond .ne 5, 3, 18, 0, .null, [], []),
  (16, .iconst (-1), 1, 0, 0, .int (-1), [], []),
  (17, .ireturn, 1, 0, 0, .int 0, [], []),
  (18, .aload_n 0, 1, 0, 0, .null, [], []),
  (19, .getfield 28, 3, 10, 2, .null, [], [105]),
  (22, .invokevirtual 193, 9, 79, 0, .int 0, [], [105]),
  (25, .istore_n 2, 1, 2, 0, .null, [], []),
  (26, .iload_n 1, 1, 1, 0, .null, [], []),
  (27, .iconst (-1), 1, 0, 0, .int (-1), [], []),
  (28, .if_icmp .ne 7, 3, 35, 0, .null, [], []),
  (31, .iload_n 2, 1, 2, 0, .null, [], []),
  (32, .goto 12, 3, 44, 0, .null, [], []),
  (35, .aload_n 0, 1, 0, 0, .null, [], []),
  (36, .getfield 19, 3, 10, 1, .null, [], [104]),
  (39, .getfield 196, 3, 3, 0, .null, [], [119]),
  (42, .iload_n 1, 1, 1, 0, .null, [], []),
  (43, .iaload, 1, 0, 0, .null, [], []),
  (44, .ireturn, 1, 0, 0, .int 0, [], [])],
  [], 3)
/-- 121: LeastPays.agree(II)I -/
def kX10_agree : j_K := ([
  (0, .iload_n 1, 1, 1, 0, .null, [], []),
  (1, .bipush 10, 2, 0, 0, .int 10, [], []),
  (3, .idiv, 1, 0, 0, .null, [], []),
  (4, .istore_n 3, 1, 3, 0, .null, [], []),
  (5, .iload_n 1, 1, 1, 0, .null, [], []),
  (6, .bipush 10, 2, 0, 0, .int 10, [], []),
  (8, .irem, 1, 0, 0, .null, [], []),
  (9, .istore 4, 2, 4, 0, .null, [], []),
  (11, .aload_n 0, 1, 0, 0, .null, [], []),
  (12, .getfield 10, 3, 10, 0, .null, [], [103]),
  (15, .iload_n 3, 1, 3, 0, .null, [], []),
  (16, .invokevirtual 130, 5, 16, 1, .int 0, [], [92]),
  (19, .ifCond .eq 21, 3, 40, 0, .null, [], []),
  (22, .aload_n 0, 1, 0, 0, .null, [], []),
  (23, .getfield 10, 3, 10, 0, .null, [], [103]),
  (26, .iload 4, 2, 4, 0, .null, [], []),
  (28, .invokevirtual 130, 5, 16, 1, .int 0, [], [92]),
  (31, .ifCond .eq 9, 3, 40, 0, .null, [], []),
  (34, .iload_n 3, 1, 3, 0, .null, [], []),
  (35, .iload 4, 2, 4, 0, .null, [], []),
  (37, .if_icmp .lt 6, 3, 43, 0, .null, [], []),
  (40, .ldc 129, 2, 0, 0, .int (-2000000000), [], [2]),
  (42, .ireturn, 1, 0, 0, .int 0, [], []),
  (43, .iload_n 2, 1, 2, 0, .null, [], []),
  (44, .iconst 0, 1, 0, 0, .int 0, [], []),
  (45, .iconst 3, 1, 0, 0, .int 3, [], []),
  (46, .invokestatic 81, 3, 147, 3, .int 0, [], [81]),
  (49, .ifCond .ne 6, 3, 55, 0, .null, [], []),
  (52, .ldc 129, 2, 0, 0, .int (-2000000000), [], [2]),
  (54, .ireturn, 1, 0, 0, .int 0, [], []),
  (55, .aload_n 0, 1, 0, 0, .null, [], []),
  (56, .getfield 28, 3, 10, 2, .null, [], [105]),
  (59, .iload_n 3, 1, 3, 0, .null, [], []),
  (60, .iload 4, 2, 4, 0, .null, [], []),
  (62, .invokevirtual 199, 9, 80, 2, .null, [], [106]),
  (65, .iload_n 2, 1, 2, 0, .null, [], []),
  (66, .tableswitch 50 0 2 #[26, 34, 42], 26, 116, 0, .null, [(0, 92), (1, 100), (2, 108)], []),
  (92, .aload_n 0, 1, 0, 0, .null, [], []),
  (93, .getfield 28, 3, 10, 2, .null, [], [105]),
  (96, .getfield 158, 3, 6, 4, .int 0, [], [116]),
  (99, .ireturn, 1, 0, 0, .int 0, [], []),
  (100, .aload_n 0, 1, 0, 0, .null, [], []),
  (101, .getfield 28, 3, 10, 2, .null, [], [105]),
  (104, .getfield 155, 3, 6, 3, .int 0, [], [115]),
  (107, .ireturn, 1, 0, 0, .int 0, [], []),
  (108, .aload_n 0, 1, 0, 0, .null, [], []),
  (109, .getfield 28, 3, 10, 2, .null, [], [105]),
  (112, .getfield 202, 3, 6, 5, .int 0, [], [120]),
  (115, .ireturn, 1, 0, 0, .int 0, [], []),
  (116, .aload_n 0, 1, 0, 0, .null, [], []),
  (117, .getfield 28, 3, 10, 2, .null, [], [105]),
  (120, .iload_n 3, 1, 3, 0, .null, [], []),
  (121, .iload 4, 2, 4, 0, .null, [], []),
  (123, .invokevirtual 205, 9, 81, 2, .int 0, [], [107]),
  (126, .ireturn, 1, 0, 0, .int 0, [], [])],
  [], 5)
/-- 122: LeastPays.dish(I)I -/
def kX10_dish : j_K := ([
  (0, .iload_n 1, 1, 1, 0, .null, [], []),
  (1, .iconst 0, 1, 0, 0, .int 0, [], []),
  (2, .bipush 99, 2, 0, 0, .int 99, [], []),
  (4, .invokestatic 81, 3, 147, 3, .int 0, [], [81]),
  (7, .ifCond .eq 14, 3, 21, 0, .null, [], []),
  (10, .aload_n 0, 1, 0, 0, .null, [], []),
  (11, .getfield 35, 3, 10, 3, .null, [], [106]),
  (14, .iload_n 1, 1, 1, 0, .null, [], []),
  (15, .invokevirtual 208, 8, 63, 1, .int 0, [], [108]),
  (18, .goto 4, 3, 22, 0, .null, [], []),
  (21, .iconst (-1), 1, 0, 0, .int (-1), [], []),
  (22, .ireturn, 1, 0, 0, .int 0, [], [])],
  [], 2)
/-- 123: LeastPays.joy(II)I -/
def kX10_joy : j_K := ([
  (0, .iload_n 1, 1, 1, 0, .null, [], []),
  (1, .bipush 10, 2, 0, 0, .int 10, [], []),
  (3, .idiv, 1, 0, 0, .null, [], []),
  (4, .istore_n 3, 1, 3, 0, .null, [], []),
  (5, .iload_n 1, 1, 1, 0, .null, [], []),
  (6, .bipush 10, 2, 0, 0, .int 10, [], []),
  (8, .irem, 1, 0, 0, .null, [], []),
  (9, .istore 4, 2, 4, 0, .null, [], []),
  (11, .aload_n 0, 1, 0, 0, .null, [], []),
  (12, .getfield 10, 3, 10, 0, .null, [], [103]),
  (15, .iload_n 3, 1, 3, 0, .null, [], []),
  (16, .invokevirtual 130, 5, 16, 1, .int 0, [], [92]),
  (19, .ifCond .eq 25, 3, 44, 0, .null, [], []),
  (22, .aload_n 0, 1, 0, 0, .null, [], []),
  (23, .getfield 35, 3, 10, 3, .null, [], [106]),
  (26, .iload 4, 2, 4, 0, .null, [], []),
  (28, .invokevirtual 209, 8, 62, 1, .int 0, [], [109]),
  (31, .ifCond .eq 13, 3, 44, 0, .null, [], []),
  (34, .iload_n 2, 1, 2, 0, .null, [], []),
  (35, .iconst 0, 1, 0, 0, .int 0, [], []),
  (36, .bipush 99, 2, 0, 0, .int 99, [], []),
  (38, .invokestatic 81, 3, 147, 3, .int 0, [], [81]),
  (41, .ifCond .ne 5, 3, 46, 0, .null, [], []),
  (44, .iconst (-1), 1, 0, 0, .int (-1), [], []),
  (45, .ireturn, 1, 0, 0, .int 0, [], []),
  (46, .aload_n 0, 1, 0, 0, .null, [], []),
  (47, .getfield 35, 3, 10, 3, .null, [], [106]),
  (50, .iload_n 3, 1, 3, 0, .null, [], []),
  (51, .iload 4, 2, 4, 0, .null, [], []),
  (53, .iload_n 2, 1, 2, 0, .null, [], []),
  (54, .invokevirtual 210, 8, 64, 3, .int 0, [], [110]),
  (57, .ireturn, 1, 0, 0, .int 0, [], [])],
  [], 5)
/-- 124: LeastPays.ordered(II)I -/
def kX10_ordered : j_K := ([
  (0, .aload_n 0, 1, 0, 0, .null, [], []),
  (1, .getfield 10, 3, 10, 0, .null, [], [103]),
  (4, .iload_n 1, 1, 1, 0, .null, [], []),
  (5, .invokevirtual 130, 5, 16, 1, .int 0, [], [92]),
  (8, .ifCond .eq 21, 3, 29, 0, .null, [], []),
  (11, .iload_n 2, 1, 2, 0, .null, [], []),
  (12, .iconst 0, 1, 0, 0, .int 0, [], []),
  (13, .iconst 2, 1, 0, 0, .int 2, [], []),
  (14, .invokestatic 81, 3, 147, 3, .int 0, [], [81]),
  (17, .ifCond .eq 12, 3, 29, 0, .null, [], []),
  (20, .iload_n 2, 1, 2, 0, .null, [], []),
  (21, .iconst 2, 1, 0, 0, .int 2, [], []),
  (22, .if_icmp .ne 10, 3, 32, 0, .null, [], []),
  (25, .iload_n 1, 1, 1, 0, .null, [], []),
  (26, .ifCond .eq 6, 3, 32, 0, .null, [], []),
  (29, .ldc 129, 2, 0, 0, .int (-2000000000), [], [2]),
  (31, .ireturn, 1, 0, 0, .int 0, [], []),
  (32, .aload_n 0, 1, 0, 0, .null, [], []),
  (33, .getfield 35, 3, 10, 3, .null, [], [106]),
  (36, .invokevirtual 214, 8, 65, 0, .int 0, [], [111]),
  (39, .istore_n 3, 1, 3, 0, .null, [], []),
  (40, .iload_n 2, 1, 2, 0, .null, [], []),
  (41, .lookupswitch 73 #[(0, 27), (1, 54)], 27, 114, 0, .null, [(0, 68), (1, 95)], []),
  (68, .aload_n 0, 1, 0, 0, .null, [], []),
  (69, .getfield 35, 3, 10, 3, .null, [], [106]),
  (72, .getfield 217, 3, 5, 4, .null, [], [121]),
  (75, .iload_n 1, 1, 1, 0, .null, [], []),
  (76, .iaload, 1, 0, 0, .null, [], []),
  (77, .ifCond .ge 8, 3, 85, 0, .null, [], []),
  (80, .bipush (-2), 2, 0, 0, .int (-2), [], []),
  (82, .goto 12, 3, 94, 0, .null, [], []),
  (85, .aload_n 0, 1, 0, 0, .null, [], []),
  (86, .getfield 35, 3, 10, 3, .null, [], [106]),
  (89, .getfield 217, 3, 5, 4, .null, [], [121]),
  (92, .iload_n 1, 1, 1, 0, .null, [], []),
  (93, .iaload, 1, 0, 0, .null, [], []),
  (94, .ireturn, 1, 0, 0, .int 0, [], []),
  (95, .aload_n 0, 1, 0, 0, .null, [], []),
  (96, .getfield 35, 3, 10, 3, .null, [], [106]),
  (99, .iload_n 1, 1, 1, 0, .null, [], []),
  (100, .aload_n 0, 1, 0, 0, .null, [], []),
  (101, .getfield 35, 3, 10, 3, .null, [], [106]),
  (104, .getfield 217, 3, 5, 4, .null, [], [121]),
  (107, .iload_n 1, 1, 1, 0, .null, [], []),
  (108, .iaload, 1, 0, 0, .null, [], []),
  (109, .iload_n 3, 1, 3, 0, .null, [], []),
  (110, .invokevirtual 220, 8, 68, 3, .int 0, [], [112]),
  (113, .ireturn, 1, 0, 0, .int 0, [], []),
  (114, .iload_n 3, 1, 3, 0, .null, [], []),
  (115, .ireturn, 1, 0, 0, .int 0, [], [])],
  [(32, [true, true, true, false])], 4)
/-- 125: LeastPays.thought(III)I -/
def kX10_thought : j_K := ([
  (0, .aload_n 0, 1, 0, 0, .null, [], []),
  (1, .getfield 10, 3, 10, 0, .null, [], [103]),
  (4, .iload_n 1, 1, 1, 0, .null, [], []),
  (5, .invokevirtual 130, 5, 16, 1, .int 0, [], [92]),
  (8, .ifCond .eq 22, 3, 30, 0, .null, [], []),
  (11, .iload_n 2, 1, 2, 0, .null, [], []),
  (12, .iconst 0, 1, 0, 0, .int 0, [], []),
  (13, .bipush 99, 2, 0, 0, .int 99, [], []),
  (15, .invokestatic 81, 3, 147, 3, .int 0, [], [81]),
  (18, .ifCond .eq 12, 3, 30, 0, .null, [], []),
  (21, .iload_n 3, 1, 3, 0, .null, [], []),
  (22, .iconst 0, 1, 0, 0, .int 0, [], []),
  (23, .iconst 1, 1, 0, 0, .int 1, [], []),
  (24, .invokestatic 81, 3, 147, 3, .int 0, [], [81]),
  (27, .ifCond .ne 5, 3, 32, 0, .null, [], []),
  (30, .iconst (-1), 1, 0, 0, .int (-1), [], []),
  (31, .ireturn, 1, 0, 0, .int 0, [], []),
  (32, .iconst 0, 1, 0, 0, .int 0, [], []),
  (33, .istore 4, 2, 4, 0, .null, [], []),
  (35, .iload 4, 2, 4, 0, .null, [], []),
  (37, .sipush 599, 3, 0, 0, .int 599, [], []),
  (40, .if_icmp .gt 47, 3, 87, 0, .null, [], []),
  (43, .iload_n 3, 1, 3, 0, .null, [], []),
  (44, .ifCond .ne 8, 3, 52, 0, .null, [], []),
  (47, .iload 4, 2, 4, 0, .null, [], []),
  (49, .goto 9, 3, 58, 0, .null, [], []),
  (52, .sipush 599, 3, 0, 0, .int 599, [], []),
  (55, .iload 4, 2, 4, 0, .null, [], []),
  (57, .isub, 1, 0, 0, .null, [], []),
  (58, .istore 5, 2, 5, 0, .null, [], []),
  (60, .aload_n 0, 1, 0, 0, .null, [], []),
  (61, .getfield 42, 3, 10, 4, .null, [], [107]),
  (64, .aload_n 0, 1, 0, 0, .null, [], []),
  (65, .getfield 10, 3, 10, 0, .null, [], [103]),
  (68, .iload_n 1, 1, 1, 0, .null, [], []),
  (69, .iload 5, 2, 5, 0, .null, [], []),
  (71, .invokevirtual 223, 7, 52, 3, .int 0, [], [113]),
  (74, .iload_n 2, 1, 2, 0, .null, [], []),
  (75, .if_icmp .ne 6, 3, 81, 0, .null, [], []),
  (78, .iload 5, 2, 5, 0, .null, [], []),
  (80, .ireturn, 1, 0, 0, .int 0, [], []),
  (81, .iinc 4 1, 3, 4, 0, .int 1, [], []),
  (84, .goto (-49), 3, 35, 0, .null, [], []),
  (87, .bipush (-2), 2, 0, 0, .int (-2), [], []),
  (89, .ireturn, 1, 0, 0, .int 0, [], [])],
  [(35, [true, true, true, true, true, false])], 6)
/-- 126: LeastPays.given(I)I -/
def kX10_given : j_K := ([
  (0, .iload_n 1, 1, 1, 0, .null, [], []),
  (1, .iconst (-1), 1, 0, 0, .int (-1), [], []),
  (2, .if_icmp .eq 24, 3, 26, 0, .null, [], []),
  (5, .aload_n 0, 1, 0, 0, .null, [], []),
  (6, .getfield 10, 3, 10, 0, .null, [], [103]),
  (9, .iload_n 1, 1, 1, 0, .null, [], []),
  (10, .invokevirtual 130, 5, 16, 1, .int 0, [], [92]),
  (13, .ifCond .eq 11, 3, 24, 0, .null, [], []),
  (16, .aload_n 0, 1, 0, 0, .null, [], []),
  (17, .iload_n 1, 1, 1, 0, .null, [], []),
  (18, .invokevirtual 227, 13, 152, 1, .int 0, [], [114]),
  (21, .goto 4, 3, 25, 0, .null, [], []),
  (24, .iconst (-1), 1, 0, 0, .int (-1), [], []),
  (25, .ireturn, 1, 0, 0, .int 0, [], []),
  (26, .iconst 0, 1, 0, 0, .int 0, [], []),
  (27, .istore_n 2, 1, 2, 0, .null, [], []),
  (28, .iconst 0, 1, 0, 0, .int 0, [], []),
  (29, .istore_n 3, 1, 3, 0, .null, [], []),
  (30, .iload_n 3, 1, 3, 0, .null, [], []),
  (31, .aload_n 0, 1, 0, 0, .null, [], []),
  (32, .getfield 10, 3, 10, 0, .null, [], [103]),
  (35, .getfield 85, 3, 2, 6, .int 0, [], [113]),
  (38, .if_icmp .ge 17, 3, 55, 0, .null, [], []),
  (41, .iload_n 2, 1, 2, 0, .null, [], []),
  (42, .aload_n 0, 1, 0, 0, .null, [], []),
  (43, .iload_n 3, 1, 3, 0, .null, [], []),
  (44, .invokevirtual 227, 13, 152, 1, .int 0, [], [114]),
  (47, .iadd, 1, 0, 0, .null, [], []),
  (48, .istore_n 2, 1, 2, 0, .null, [], []),
  (49, .iinc 3 1, 3, 3, 0, .int 1, [], []),
  (52, .goto (-22), 3, 30, 0, .null, [], []),
  (55, .iload_n 2, 1, 2, 0, .null, [], []),
  (56, .ireturn, 1, 0, 0, .int 0, [], [])],
  [(30, [true, false, true, true])], 4)
/-- 127: LeastPays.stranger(III)J -/
def kX10_stranger : j_K := ([
  (0, .aload_n 0, 1, 0, 0, .null, [], []),
  (1, .getfield 10, 3, 10, 0, .null, [], [103]),
  (4, .iload_n 1, 1, 1, 0, .null, [], []),
  (5, .invokevirtual 130, 5, 16, 1, .int 0, [], [92]),
  (8, .ifCond .eq 23, 3, 31, 0, .null, [], []),
  (11, .iload_n 2, 1, 2, 0, .null, [], []),
  (12, .iconst 0, 1, 0, 0, .int 0, [], []),
  (13, .sipush 1299, 3, 0, 0, .int 1299, [], []),
  (16, .invokestatic 81, 3, 147, 3, .int 0, [], [81]),
  (19, .ifCond .eq 12, 3, 31, 0, .null, [], []),
  (22, .iload_n 3, 1, 3, 0, .null, [], []),
  (23, .iconst 0, 1, 0, 0, .int 0, [], []),
  (24, .iconst 1, 1, 0, 0, .int 1, [], []),
  (25, .invokestatic 81, 3, 147, 3, .int 0, [], [81]),
  (28, .ifCond .ne 7, 3, 35, 0, .null, [], []),
  (31, .ldc2_w 164, 3, 0, 0, .long (-9223372036854775808), [], [3]),
  (34, .lreturn, 1, 0, 0, .null, [], []),
  (35, .iload_n 2, 1, 2, 0, .null, [], []),
  (36, .bipush 100, 2, 0, 0, .int 100, [], []),
  (38, .idiv, 1, 0, 0, .null, [], []),
  (39, .istore 4, 2, 4, 0, .null, [], []),
  (41, .aload_n 0, 1, 0, 0, .null, [], []),
  (42, .getfield 19, 3, 10, 1, .null, [], [104]),
  (45, .aload_n 0, 1, 0, 0, .null, [], []),
  (46, .getfield 10, 3, 10, 0, .null, [], [103]),
  (49, .invokevirtual 147, 6, 22, 1, .null, [], [96]),
  (52, .aload_n 0, 1, 0, 0, .null, [], []),
  (53, .getfield 19, 3, 10, 1, .null, [], [104]),
  (56, .iload_n 1, 1, 1, 0, .null, [], []),
  (57, .invokevirtual 230, 6, 26, 1, .int 0, [], [115]),
  (60, .i2l, 1, 0, 0, .null, [], []),
  (61, .lstore 5, 2, 5, 0, .null, [], []),
  (63, .aload_n 0, 1, 0, 0, .null, [], []),
  (64, .getfield 19, 3, 10, 1, .null, [], [104]),
  (67, .iload_n 2, 1, 2, 0, .null, [], []),
  (68, .bipush 100, 2, 0, 0, .int 100, [], []),
  (70, .irem, 1, 0, 0, .null, [], []),
  (71, .invokevirtual 233, 6, 23, 1, .null, [], [116]),
  (74, .aload_n 0, 1, 0, 0, .null, [], []),
  (75, .getfield 19, 3, 10, 1, .null, [], [104]),
  (78, .iload_n 1, 1, 1, 0, .null, [], []),
  (79, .invokevirtual 230, 6, 26, 1, .int 0, [], [115]),
  (82, .i2l, 1, 0, 0, .null, [], []),
  (83, .lstore 7, 2, 7, 0, .null, [], []),
  (85, .iload 4, 2, 4, 0, .null, [], []),
  (87, .i2l, 1, 0, 0, .null, [], []),
  (88, .lload 7, 2, 7, 0, .null, [], []),
  (90, .lmul, 1, 0, 0, .null, [], []),
  (91, .bipush 12, 2, 0, 0, .int 12, [], []),
  (93, .iload 4, 2, 4, 0, .null, [], []),
  (95, .isub, 1, 0, 0, .null, [], []),
  (96, .i2l, 1, 0, 0, .null, [], []),
  (97, .lload 5, 2, 5, 0, .null, [], []),
  (99, .lmul, 1, 0, 0, .null, [], []),
  (100, .ladd, 1, 0, 0, .null, [], []),
  (101, .ldc2_w 236, 3, 0, 0, .long 12, [], [4]),
  (104, .iload_n 3, 1, 3, 0, .null, [], []),
  (105, .invokestatic 174, 3, 154, 3, .long 0, [], [100]),
  (108, .lreturn, 1, 0, 0, .null, [], [])],
  [], 9)
/-- 128: LeastPays.night()I -/
def kX10_night : j_K := ([
  (0, .aload_n 0, 1, 0, 0, .null, [], []),
  (1, .getfield 10, 3, 10, 0, .null, [], [103]),
  (4, .getfield 85, 3, 2, 6, .int 0, [], [113]),
  (7, .ifCond .ne 8, 3, 15, 0, .null, [], []),
  (10, .bipush (-5), 2, 0, 0, .int (-5), [], []),
  (12, .goto 10, 3, 22, 0, .null, [], []),
  (15, .aload_n 0, 1, 0, 0, .null, [], []),
  (16, .getfield 49, 3, 10, 5, .null, [], [108]),
  (19, .invokevirtual 238, 10, 87, 0, .int 0, [], [117]),
  (22, .ireturn, 1, 0, 0, .int 0, [], [])],
  [], 1)
/-- 129: LeastPays.drawn(IIII)I -/
def kX10_drawn : j_K := ([
  (0, .iload_n 2, 1, 2, 0, .null, [], []),
  (1, .iconst 1, 1, 0, 0, .int 1, [], []),
  (2, .bipush 50, 2, 0, 0, .int 50, [], []),
  (4, .invokestatic 81, 3, 147, 3, .int 0, [], [81]),
  (7, .ifCond .eq 24, 3, 31, 0, .null, [], []),
  (10, .aload_n 0, 1, 0, 0, .null, [], []),
  (11, .getfield 10, 3, 10, 0, .null, [], [103]),
  (14, .iload_n 3, 1, 3, 0, .null, [], []),
  (15, .invokevirtual 130, 5, 16, 1, .int 0, [], [92]),
  (18, .ifCond .eq 13, 3, 31, 0, .null, [], []),
  (21, .iload 4, 2, 4, 0, .null, [], []),
  (23, .iconst 0, 1, 0, 0, .int 0, [], []),
  (24, .iconst 1, 1, 0, 0, .int 1, [], []),
  (25, .invokestatic 81, 3, 147, 3, .int 0, [], [81]),
  (28, .ifCond .ne 6, 3, 34, 0, .null, [], []),
  (31, .ldc 129, 2, 0, 0, .int (-2000000000), [], [2]),
  (33, .ireturn, 1, 0, 0, .int 0, [], []),
  (34, .aload_n 0, 1, 0, 0, .null, [], []),
  (35, .getfield 49, 3, 10, 5, .null, [], [108]),
  (38, .iload_n 1, 1, 1, 0, .null, [], []),
  (39, .iload_n 2, 1, 2, 0, .null, [], []),
  (40, .iload_n 3, 1, 3, 0, .null, [], []),
  (41, .invokevirtual 241, 10, 88, 3, .null, [], [118]),
  (44, .iload 4, 2, 4, 0, .null, [], []),
  (46, .ifCond .ne 13, 3, 59, 0, .null, [], []),
  (49, .aload_n 0, 1, 0, 0, .null, [], []),
  (50, .getfield 49, 3, 10, 5, .null, [], [108]),
  (53, .getfield 244, 3, 7, 2, .int 0, [], [122]),
  (56, .goto 10, 3, 66, 0, .null, [], []),
  (59, .aload_n 0, 1, 0, 0, .null, [], []),
  (60, .getfield 49, 3, 10, 5, .null, [], [108]),
  (63, .getfield 247, 3, 7, 3, .int 0, [], [123]),
  (66, .ireturn, 1, 0, 0, .int 0, [], [])],
  [], 5)
/-- 130: LeastPays.judge(I)I -/
def kX10_judge : j_K := ([
  (0, .aload_n 0, 1, 0, 0, .null, [], []),
  (1, .iload_n 1, 1, 1, 0, .null, [], []),
  (2, .invokevirtual 250, 13, 153, 1, .int 0, [], [119]),
  (5, .istore_n 2, 1, 2, 0, .null, [], []),
  (6, .iload_n 2, 1, 2, 0, .null, [], []),
  (7, .ifCond .eq 7, 3, 14, 0, .null, [], []),
  (10, .iload_n 2, 1, 2, 0, .null, [], []),
  (11, .goto 23, 3, 34, 0, .null, [], []),
  (14, .aload_n 0, 1, 0, 0, .null, [], []),
  (15, .getfield 49, 3, 10, 5, .null, [], [108]),
  (18, .aload_n 0, 1, 0, 0, .null, [], []),
  (19, .getfield 76, 3, 10, 9, .null, [], [112]),
  (22, .iload_n 1, 1, 1, 0, .null, [], []),
  (23, .aaload, 1, 0, 0, .null, [], []),
  (24, .aload_n 0, 1, 0, 0, .null, [], []),
  (25, .getfield 10, 3, 10, 0, .null, [], [103]),
  (28, .getfield 253, 3, 2, 8, .int 0, [], [124]),
  (31, .invokevirtual 256, 10, 89, 2, .int 0, [], [120]),
  (34, .ireturn, 1, 0, 0, .int 0, [], [])],
  [], 3)
/-- 131: LeastPays.fits(I)I -/
def kX10_fits : j_K := ([
  (0, .aload_n 0, 1, 0, 0, .null, [], []),
  (1, .iload_n 1, 1, 1, 0, .null, [], []),
  (2, .invokevirtual 250, 13, 153, 1, .int 0, [], [119]),
  (5, .istore_n 2, 1, 2, 0, .null, [], []),
  (6, .iload_n 2, 1, 2, 0, .null, [], []),
  (7, .ifCond .eq 7, 3, 14, 0, .null, [], []),
  (10, .iload_n 2, 1, 2, 0, .null, [], []),
  (11, .goto 16, 3, 27, 0, .null, [], []),
  (14, .aload_n 0, 1, 0, 0, .null, [], []),
  (15, .getfield 49, 3, 10, 5, .null, [], [108]),
  (18, .aload_n 0, 1, 0, 0, .null, [], []),
  (19, .getfield 76, 3, 10, 9, .null, [], [112]),
  (22, .iload_n 1, 1, 1, 0, .null, [], []),
  (23, .aaload, 1, 0, 0, .null, [], []),
  (24, .invokevirtual 260, 10, 90, 1, .int 0, [], [121]),
  (27, .ireturn, 1, 0, 0, .int 0, [], [])],
  [], 3)
/-- 132: LeastPays.fair(I)I -/
def kX10_fair : j_K := ([
  (0, .iload_n 1, 1, 1, 0, .null, [], []),
  (1, .iconst 0, 1, 0, 0, .int 0, [], []),
  (2, .iconst 1, 1, 0, 0, .int 1, [], []),
  (3, .invokestatic 81, 3, 147, 3, .int 0, [], [81]),
  (6, .ifCond .ne 6, 3, 12, 0, .null, [], []),
  (9, .ldc 129, 2, 0, 0, .int (-2000000000), [], [2]),
  (11, .ireturn, 1, 0, 0, .int 0, [], []),
  (12, .aload_n 0, 1, 0, 0, .null, [], []),
  (13, .getfield 10, 3, 10, 0, .null, [], [103]),
  (16, .getfield 85, 3, 2, 6, .int 0, [], [113]),
  (19, .ifCond .ne 6, 3, 25, 0, .null, [], []),
  (22, .bipush (-5), 2, 0, 0, .int (-5), [], []),
  (24, .ireturn, 1, 0, 0, .int 0, [], []),
  (25, .aload_n 0, 1, 0, 0, .null, [], []),
  (26, .getfield 49, 3, 10, 5, .null, [], [108]),
  (29, .invokevirtual 264, 10, 91, 0, .null, [], [122]),
  (32, .iload_n 1, 1, 1, 0, .null, [], []),
  (33, .ifCond .ne 13, 3, 46, 0, .null, [], []),
  (36, .aload_n 0, 1, 0, 0, .null, [], []),
  (37, .getfield 49, 3, 10, 5, .null, [], [108]),
  (40, .getfield 267, 3, 7, 4, .int 0, [], [125]),
  (43, .goto 10, 3, 53, 0, .null, [], []),
  (46, .aload_n 0, 1, 0, 0, .null, [], []),
  (47, .getfield 49, 3, 10, 5, .null, [], [108]),
  (50, .getfield 270, 3, 7, 5, .int 0, [], [126]),
  (53, .ireturn, 1, 0, 0, .int 0, [], [])],
  [], 2)
/-- 133: LeastPays.image()I -/
def kX10_image : j_K := ([
  (0, .aload_n 0, 1, 0, 0, .null, [], []),
  (1, .getfield 63, 3, 10, 7, .null, [], [110]),
  (4, .aload_n 0, 1, 0, 0, .null, [], []),
  (5, .getfield 10, 3, 10, 0, .null, [], [103]),
  (8, .invokevirtual 273, 11, 94, 1, .null, [], [123]),
  (11, .aload_n 0, 1, 0, 0, .null, [], []),
  (12, .getfield 10, 3, 10, 0, .null, [], [103]),
  (15, .getfield 276, 3, 2, 11, .int 0, [], [127]),
  (18, .ireturn, 1, 0, 0, .int 0, [], [])],
  [], 1)
/-- 134: LeastPays.back()I -/
def kX10_back : j_K := ([
  (0, .aload_n 0, 1, 0, 0, .null, [], []),
  (1, .getfield 63, 3, 10, 7, .null, [], [110]),
  (4, .getfield 278, 3, 8, 5, .long 0, [], [128]),
  (7, .ifCond .ne 6, 3, 13, 0, .null, [], []),
  (10, .bipush (-5), 2, 0, 0, .int (-5), [], []),
  (12, .ireturn, 1, 0, 0, .int 0, [], []),
  (13, .aload_n 0, 1, 0, 0, .null, [], []),
  (14, .getfield 63, 3, 10, 7, .null, [], [110]),
  (17, .aload_n 0, 1, 0, 0, .null, [], []),
  (18, .getfield 10, 3, 10, 0, .null, [], [103]),
  (21, .invokevirtual 282, 11, 95, 1, .null, [], [124]),
  (24, .aload_n 0, 1, 0, 0, .null, [], []),
  (25, .getfield 10, 3, 10, 0, .null, [], [103]),
  (28, .getfield 276, 3, 2, 11, .int 0, [], [127]),
  (31, .ireturn, 1, 0, 0, .int 0, [], [])],
  [], 1)
/-- 135: LeastPays.undo()I -/
def kX10_undo : j_K := ([
  (0, .aload_n 0, 1, 0, 0, .null, [], []),
  (1, .getfield 56, 3, 10, 6, .null, [], [109]),
  (4, .aload_n 0, 1, 0, 0, .null, [], []),
  (5, .getfield 10, 3, 10, 0, .null, [], [103]),
  (8, .invokevirtual 285, 4, 13, 1, .int 0, [], [125]),
  (11, .ireturn, 1, 0, 0, .int 0, [], [])],
  [], 1)
/-- 136: LeastPays.redo()I -/
def kX10_redo : j_K := ([
  (0, .aload_n 0, 1, 0, 0, .null, [], []),
  (1, .getfield 56, 3, 10, 6, .null, [], [109]),
  (4, .aload_n 0, 1, 0, 0, .null, [], []),
  (5, .getfield 10, 3, 10, 0, .null, [], [103]),
  (8, .invokevirtual 289, 4, 14, 1, .int 0, [], [126]),
  (11, .ireturn, 1, 0, 0, .int 0, [], [])],
  [], 1)
/-- 137: LeastPays.body(I)I -/
def kX10_body : j_K := ([
  (0, .iload_n 1, 1, 1, 0, .null, [], []),
  (1, .iconst 0, 1, 0, 0, .int 0, [], []),
  (2, .bipush 7, 2, 0, 0, .int 7, [], []),
  (4, .invokestatic 81, 3, 147, 3, .int 0, [], [81]),
  (7, .ifCond .eq 14, 3, 21, 0, .null, [], []),
  (10, .aload_n 0, 1, 0, 0, .null, [], []),
  (11, .getfield 70, 3, 10, 8, .null, [], [111]),
  (14, .iload_n 1, 1, 1, 0, .null, [], []),
  (15, .invokevirtual 292, 3, 3, 1, .int 0, [], [127]),
  (18, .goto 4, 3, 22, 0, .null, [], []),
  (21, .iconst (-1), 1, 0, 0, .int (-1), [], []),
  (22, .ireturn, 1, 0, 0, .int 0, [], [])],
  [], 2)
/-- 138: LeastPays.act(III)I -/
def kX10_act : j_K := ([
  (0, .aload_n 0, 1, 0, 0, .null, [], []),
  (1, .getfield 70, 3, 10, 8, .null, [], [111]),
  (4, .iload_n 1, 1, 1, 0, .null, [], []),
  (5, .iload_n 2, 1, 2, 0, .null, [], []),
  (6, .iload_n 3, 1, 3, 0, .null, [], []),
  (7, .invokevirtual 293, 3, 6, 3, .int 0, [], [128]),
  (10, .ireturn, 1, 0, 0, .int 0, [], [])],
  [], 4)
/-- 139: LeastPays.trace(I)I -/
def kX10_trace : j_K := ([
  (0, .aload_n 0, 1, 0, 0, .null, [], []),
  (1, .getfield 70, 3, 10, 8, .null, [], [111]),
  (4, .iload_n 1, 1, 1, 0, .null, [], []),
  (5, .invokevirtual 296, 3, 5, 1, .int 0, [], [129]),
  (8, .ireturn, 1, 0, 0, .int 0, [], [])],
  [], 2)
/-- 140: LeastPays.keep(II)I -/
def kX10_keep : j_K := ([
  (0, .iload_n 1, 1, 1, 0, .null, [], []),
  (1, .invokestatic 93, 3, 148, 1, .int 0, [], [83]),
  (4, .ifCond .eq 19, 3, 23, 0, .null, [], []),
  (7, .iload_n 2, 1, 2, 0, .null, [], []),
  (8, .iconst (-1), 1, 0, 0, .int (-1), [], []),
  (9, .if_icmp .eq 16, 3, 25, 0, .null, [], []),
  (12, .aload_n 0, 1, 0, 0, .null, [], []),
  (13, .getfield 70, 3, 10, 8, .null, [], [111]),
  (16, .iload_n 2, 1, 2, 0, .null, [], []),
  (17, .invokevirtual 299, 3, 1, 1, .int 0, [], [130]),
  (20, .ifCond .ne 5, 3, 25, 0, .null, [], []),
  (23, .iconst (-1), 1, 0, 0, .int (-1), [], []),
  (24, .ireturn, 1, 0, 0, .int 0, [], []),
  (25, .aload_n 0, 1, 0, 0, .null, [], []),
  (26, .getfield 76, 3, 10, 9, .null, [], [112]),
  (29, .iload_n 1, 1, 1, 0, .null, [], []),
  (30, .aaload, 1, 0, 0, .null, [], []),
  (31, .iload_n 2, 1, 2, 0, .null, [], []),
  (32, .invokevirtual 300, 12, 100, 1, .null, [], [131]),
  (35, .iconst 1, 1, 0, 0, .int 1, [], []),
  (36, .ireturn, 1, 0, 0, .int 0, [], [])],
  [], 3)
/-- 141: LeastPays.row(III)I -/
def kX10_row : j_K := ([
  (0, .iload_n 1, 1, 1, 0, .null, [], []),
  (1, .invokestatic 93, 3, 148, 1, .int 0, [], [83]),
  (4, .ifCond .eq 18, 3, 22, 0, .null, [], []),
  (7, .iload_n 2, 1, 2, 0, .null, [], []),
  (8, .iconst 0, 1, 0, 0, .int 0, [], []),
  (9, .iconst 4, 1, 0, 0, .int 4, [], []),
  (10, .invokestatic 81, 3, 147, 3, .int 0, [], [81]),
  (13, .ifCond .eq 9, 3, 22, 0, .null, [], []),
  (16, .iload_n 3, 1, 3, 0, .null, [], []),
  (17, .bipush 60, 2, 0, 0, .int 60, [], []),
  (19, .if_icmp .le 5, 3, 24, 0, .null, [], []),
  (22, .iconst (-1), 1, 0, 0, .int (-1), [], []),
  (23, .ireturn, 1, 0, 0, .int 0, [], []),
  (24, .iload_n 3, 1, 3, 0, .null, [], []),
  (25, .ifCond .ge 6, 3, 31, 0, .null, [], []),
  (28, .bipush (-14), 2, 0, 0, .int (-14), [], []),
  (30, .ireturn, 1, 0, 0, .int 0, [], []),
  (31, .aload_n 0, 1, 0, 0, .null, [], []),
  (32, .getfield 76, 3, 10, 9, .null, [], [112]),
  (35, .iload_n 1, 1, 1, 0, .null, [], []),
  (36, .aaload, 1, 0, 0, .null, [], []),
  (37, .iload_n 2, 1, 2, 0, .null, [], []),
  (38, .iload_n 3, 1, 3, 0, .null, [], []),
  (39, .invokevirtual 303, 12, 101, 2, .null, [], [132]),
  (42, .iconst 1, 1, 0, 0, .int 1, [], []),
  (43, .ireturn, 1, 0, 0, .int 0, [], [])],
  [], 4)
/-- 142: LeastPays.put(IIJ)I -/
def kX10_put : j_K := ([
  (0, .iload_n 1, 1, 1, 0, .null, [], []),
  (1, .invokestatic 93, 3, 148, 1, .int 0, [], [83]),
  (4, .ifCond .ne 5, 3, 9, 0, .null, [], []),
  (7, .iconst (-1), 1, 0, 0, .int (-1), [], []),
  (8, .ireturn, 1, 0, 0, .int 0, [], []),
  (9, .aload_n 0, 1, 0, 0, .null, [], []),
  (10, .getfield 76, 3, 10, 9, .null, [], [112]),
  (13, .iload_n 1, 1, 1, 0, .null, [], []),
  (14, .aaload, 1, 0, 0, .null, [], []),
  (15, .iload_n 2, 1, 2, 0, .null, [], []),
  (16, .invokevirtual 306, 12, 103, 1, .int 0, [], [133]),
  (19, .istore 5, 2, 5, 0, .null, [], []),
  (21, .iload 5, 2, 5, 0, .null, [], []),
  (23, .ifCond .eq 6, 3, 29, 0, .null, [], []),
  (26, .iload 5, 2, 5, 0, .null, [], []),
  (28, .ireturn, 1, 0, 0, .int 0, [], []),
  (29, .aload_n 0, 1, 0, 0, .null, [], []),
  (30, .getfield 76, 3, 10, 9, .null, [], [112]),
  (33, .iload_n 1, 1, 1, 0, .null, [], []),
  (34, .aaload, 1, 0, 0, .null, [], []),
  (35, .iload_n 2, 1, 2, 0, .null, [], []),
  (36, .lload_n 3, 1, 3, 0, .null, [], []),
  (37, .invokevirtual 309, 12, 105, 2, .null, [], [134]),
  (40, .iconst 1, 1, 0, 0, .int 1, [], []),
  (41, .ireturn, 1, 0, 0, .int 0, [], [])],
  [], 6)
/-- 143: LeastPays.element(II)J -/
def kX10_element : j_K := ([
  (0, .iload_n 1, 1, 1, 0, .null, [], []),
  (1, .invokestatic 93, 3, 148, 1, .int 0, [], [83]),
  (4, .ifCond .eq 16, 3, 20, 0, .null, [], []),
  (7, .aload_n 0, 1, 0, 0, .null, [], []),
  (8, .getfield 76, 3, 10, 9, .null, [], [112]),
  (11, .iload_n 1, 1, 1, 0, .null, [], []),
  (12, .aaload, 1, 0, 0, .null, [], []),
  (13, .iload_n 2, 1, 2, 0, .null, [], []),
  (14, .invokevirtual 306, 12, 103, 1, .int 0, [], [133]),
  (17, .ifCond .eq 7, 3, 24, 0, .null, [], []),
  (20, .ldc2_w 164, 3, 0, 0, .long (-9223372036854775808), [], [3]),
  (23, .lreturn, 1, 0, 0, .null, [], []),
  (24, .aload_n 0, 1, 0, 0, .null, [], []),
  (25, .getfield 76, 3, 10, 9, .null, [], [112]),
  (28, .iload_n 1, 1, 1, 0, .null, [], []),
  (29, .aaload, 1, 0, 0, .null, [], []),
  (30, .iload_n 2, 1, 2, 0, .null, [], []),
  (31, .invokevirtual 313, 12, 104, 1, .long 0, [], [135]),
  (34, .lreturn, 1, 0, 0, .null, [], [])],
  [], 3)
/-- 144: LeastPays.shift(IIIII)I -/
def kX10_shift : j_K := ([
  (0, .iload_n 1, 1, 1, 0, .null, [], []),
  (1, .invokestatic 93, 3, 148, 1, .int 0, [], [83]),
  (4, .ifCond .eq 10, 3, 14, 0, .null, [], []),
  (7, .iload_n 3, 1, 3, 0, .null, [], []),
  (8, .invokestatic 93, 3, 148, 1, .int 0, [], [83]),
  (11, .ifCond .ne 5, 3, 16, 0, .null, [], []),
  (14, .iconst (-1), 1, 0, 0, .int (-1), [], []),
  (15, .ireturn, 1, 0, 0, .int 0, [], []),
  (16, .aload_n 0, 1, 0, 0, .null, [], []),
  (17, .getfield 76, 3, 10, 9, .null, [], [112]),
  (20, .iload_n 1, 1, 1, 0, .null, [], []),
  (21, .aaload, 1, 0, 0, .null, [], []),
  (22, .astore 6, 2, 6, 0, .null, [], []),
  (24, .aload_n 0, 1, 0, 0, .null, [], []),
  (25, .getfield 76, 3, 10, 9, .null, [], [112]),
  (28, .iload_n 3, 1, 3, 0, .null, [], []),
  (29, .aaload, 1, 0, 0, .null, [], []),
  (30, .astore 7, 2, 7, 0, .null, [], []),
  (32, .aload 6, 2, 6, 0, .null, [], []),
  (34, .invokevirtual 97, 12, 97, 0, .int 0, [], [84]),
  (37, .ifCond .ne 11, 3, 48, 0, .null, [], []),
  (40, .aload 7, 2, 7, 0, .null, [], []),
  (42, .invokevirtual 97, 12, 97, 0, .int 0, [], [84]),
  (45, .ifCond .eq 6, 3, 51, 0, .null, [], []),
  (48, .bipush (-11), 2, 0, 0, .int (-11), [], []),
  (50, .ireturn, 1, 0, 0, .int 0, [], []),
  (51, .aload 6, 2, 6, 0, .null, [], []),
  (53, .invokevirtual 317, 12, 98, 0, .int 0, [], [136]),
  (56, .ifCond .eq 16, 3, 72, 0, .null, [], []),
  (59, .aload 7, 2, 7, 0, .null, [], []),
  (61, .aload 6, 2, 6, 0, .null, [], []),
  (63, .getfield 320, 3, 9, 1, .int 0, [], [129]),
  (66, .invokevirtual 101, 12, 99, 1, .int 0, [], [85]),
  (69, .ifCond .ne 6, 3, 75, 0, .null, [], []),
  (72, .bipush (-12), 2, 0, 0, .int (-12), [], []),
  (74, .ireturn, 1, 0, 0, .int 0, [], []),
  (75, .aload 6, 2, 6, 0, .null, [], []),
  (77, .iload_n 2, 1, 2, 0, .null, [], []),
  (78, .iload 5, 2, 5, 0, .null, [], []),
  (80, .invokevirtual 323, 12, 102, 2, .int 0, [], [137]),
  (83, .ifCond .eq 15, 3, 98, 0, .null, [], []),
  (86, .aload 7, 2, 7, 0, .null, [], []),
  (88, .iload 4, 2, 4, 0, .null, [], []),
  (90, .iload 5, 2, 5, 0, .null, [], []),
  (92, .invokevirtual 323, 12, 102, 2, .int 0, [], [137]),
  (95, .ifCond .ne 6, 3, 101, 0, .null, [], []),
  (98, .bipush (-13), 2, 0, 0, .int (-13), [], []),
  (100, .ireturn, 1, 0, 0, .int 0, [], []),
  (101, .aload 6, 2, 6, 0, .null, [], []),
  (103, .getfield 327, 3, 9, 0, .null, [], [130]),
  (106, .iload_n 2, 1, 2, 0, .null, [], []),
  (107, .aload 7, 2, 7, 0, .null, [], []),
  (109, .getfield 327, 3, 9, 0, .null, [], [130]),
  (112, .iload 4, 2, 4, 0, .null, [], []),
  (114, .iload 5, 2, 5, 0, .null, [], []),
  (116, .invokestatic 331, 3, 1000, 5, .null, [], [11]),
  (119, .iload 5, 2, 5, 0, .null, [], []),
  (121, .ireturn, 1, 0, 0, .int 0, [], [])],
  [], 8)
/-- 145: LeastPays.taken(II)I -/
def kX10_taken : j_K := ([
  (0, .iload_n 1, 1, 1, 0, .null, [], []),
  (1, .invokestatic 93, 3, 148, 1, .int 0, [], [83]),
  (4, .ifCond .eq 13, 3, 17, 0, .null, [], []),
  (7, .iload_n 2, 1, 2, 0, .null, [], []),
  (8, .iconst 0, 1, 0, 0, .int 0, [], []),
  (9, .bipush 7, 2, 0, 0, .int 7, [], []),
  (11, .invokestatic 81, 3, 147, 3, .int 0, [], [81]),
  (14, .ifCond .ne 5, 3, 19, 0, .null, [], []),
  (17, .iconst (-1), 1, 0, 0, .int (-1), [], []),
  (18, .ireturn, 1, 0, 0, .int 0, [], []),
  (19, .aload_n 0, 1, 0, 0, .null, [], []),
  (20, .getfield 76, 3, 10, 9, .null, [], [112]),
  (23, .iload_n 1, 1, 1, 0, .null, [], []),
  (24, .aaload, 1, 0, 0, .null, [], []),
  (25, .astore_n 3, 1, 3, 0, .null, [], []),
  (26, .aload_n 3, 1, 3, 0, .null, [], []),
  (27, .invokevirtual 97, 12, 97, 0, .int 0, [], [84]),
  (30, .ifCond .eq 6, 3, 36, 0, .null, [], []),
  (33, .bipush (-11), 2, 0, 0, .int (-11), [], []),
  (35, .ireturn, 1, 0, 0, .int 0, [], []),
  (36, .aload_n 3, 1, 3, 0, .null, [], []),
  (37, .invokevirtual 317, 12, 98, 0, .int 0, [], [136]),
  (40, .ifCond .eq 6, 3, 46, 0, .null, [], []),
  (43, .bipush (-12), 2, 0, 0, .int (-12), [], []),
  (45, .ireturn, 1, 0, 0, .int 0, [], []),
  (46, .aload_n 0, 1, 0, 0, .null, [], []),
  (47, .getfield 70, 3, 10, 8, .null, [], [111]),
  (50, .aload_n 3, 1, 3, 0, .null, [], []),
  (51, .getfield 337, 3, 9, 3, .int 0, [], [131]),
  (54, .invokevirtual 340, 3, 2, 1, .int 0, [], [138]),
  (57, .istore 4, 2, 4, 0, .null, [], []),
  (59, .iload 4, 2, 4, 0, .null, [], []),
  (61, .iload_n 2, 1, 2, 0, .null, [], []),
  (62, .invokestatic 343, 3, 4, 2, .int 0, [], [139]),
  (65, .ifCond .eq 8, 3, 73, 0, .null, [], []),
  (68, .iload 4, 2, 4, 0, .null, [], []),
  (70, .goto 5, 3, 75, 0, .null, [], []),
  (73, .bipush (-12), 2, 0, 0, .int (-12), [], []),
  (75, .ireturn, 1, 0, 0, .int 0, [], [])],
  [], 5)
/-- 146: LeastPays.count(I)I -/
def kX10_count : j_K := ([
  (0, .iload_n 1, 1, 1, 0, .null, [], []),
  (1, .tableswitch 87 0 5 #[39, 47, 55, 63, 71, 79], 39, 88, 0, .null, [(0, 40), (1, 48), (2, 56), (3, 64), (4, 72), (5, 80)], []),
  (40, .aload_n 0, 1, 0, 0, .null, [], []),
  (41, .getfield 10, 3, 10, 0, .null, [], [103]),
  (44, .getfield 85, 3, 2, 6, .int 0, [], [113]),
  (47, .ireturn, 1, 0, 0, .int 0, [], []),
  (48, .aload_n 0, 1, 0, 0, .null, [], []),
  (49, .getfield 35, 3, 10, 3, .null, [], [106]),
  (52, .getfield 346, 3, 5, 5, .int 0, [], [132]),
  (55, .ireturn, 1, 0, 0, .int 0, [], []),
  (56, .aload_n 0, 1, 0, 0, .null, [], []),
  (57, .getfield 42, 3, 10, 4, .null, [], [107]),
  (60, .getfield 347, 3, 4, 4, .int 0, [], [133]),
  (63, .ireturn, 1, 0, 0, .int 0, [], []),
  (64, .aload_n 0, 1, 0, 0, .null, [], []),
  (65, .getfield 56, 3, 10, 6, .null, [], [109]),
  (68, .getfield 350, 3, 1, 4, .int 0, [], [134]),
  (71, .ireturn, 1, 0, 0, .int 0, [], []),
  (72, .aload_n 0, 1, 0, 0, .null, [], []),
  (73, .getfield 70, 3, 10, 8, .null, [], [111]),
  (76, .getfield 353, 3, 0, 2, .int 0, [], [135]),
  (79, .ireturn, 1, 0, 0, .int 0, [], []),
  (80, .aload_n 0, 1, 0, 0, .null, [], []),
  (81, .getfield 70, 3, 10, 8, .null, [], [111]),
  (84, .getfield 354, 3, 0, 3, .int 0, [], [136]),
  (87, .ireturn, 1, 0, 0, .int 0, [], []),
  (88, .iconst (-1), 1, 0, 0, .int (-1), [], []),
  (89, .ireturn, 1, 0, 0, .int 0, [], [])],
  [], 2)
/-- 147: LeastPays.within(III)Z -/
def kX10_within : j_K := ([
  (0, .iload_n 0, 1, 0, 0, .null, [], []),
  (1, .iload_n 1, 1, 1, 0, .null, [], []),
  (2, .if_icmp .lt 12, 3, 14, 0, .null, [], []),
  (5, .iload_n 0, 1, 0, 0, .null, [], []),
  (6, .iload_n 2, 1, 2, 0, .null, [], []),
  (7, .if_icmp .gt 7, 3, 14, 0, .null, [], []),
  (10, .iconst 1, 1, 0, 0, .int 1, [], []),
  (11, .goto 4, 3, 15, 0, .null, [], []),
  (14, .iconst 0, 1, 0, 0, .int 0, [], []),
  (15, .ireturn, 1, 0, 0, .long 0, [], [])],
  [], 3)
/-- 148: LeastPays.isShelf(I)Z -/
def kX10_isShelf : j_K := ([
  (0, .iload_n 0, 1, 0, 0, .null, [], []),
  (1, .iconst 0, 1, 0, 0, .int 0, [], []),
  (2, .iconst 5, 1, 0, 0, .int 5, [], []),
  (3, .invokestatic 81, 3, 147, 3, .int 0, [], [81]),
  (6, .ireturn, 1, 0, 0, .long 0, [], [])],
  [], 1)
/-- 149: LeastPays.comesFrom(LLeastPays$Shelf;J)Z -/
def kX10_comesFrom : j_K := ([
  (0, .aload_n 0, 1, 0, 0, .null, [], []),
  (1, .getfield 10, 3, 10, 0, .null, [], [103]),
  (4, .getfield 85, 3, 2, 6, .int 0, [], [113]),
  (7, .bipush 6, 2, 0, 0, .int 6, [], []),
  (9, .if_icmp .ge 21, 3, 30, 0, .null, [], []),
  (12, .lload_n 2, 1, 2, 0, .null, [], []),
  (13, .lconst 0, 1, 0, 0, .long 0, [], []),
  (14, .lcmp, 1, 0, 0, .null, [], []),
  (15, .ifCond .lt 15, 3, 30, 0, .null, [], []),
  (18, .lload_n 2, 1, 2, 0, .null, [], []),
  (19, .lconst 1, 1, 0, 0, .long 1, [], []),
  (20, .ladd, 1, 0, 0, .null, [], []),
  (21, .aload_n 1, 1, 1, 0, .null, [], []),
  (22, .getfield 357, 3, 9, 2, .int 0, [], [137]),
  (25, .i2l, 1, 0, 0, .null, [], []),
  (26, .lcmp, 1, 0, 0, .null, [], []),
  (27, .ifCond .lt 5, 3, 32, 0, .null, [], []),
  (30, .iconst 0, 1, 0, 0, .int 0, [], []),
  (31, .ireturn, 1, 0, 0, .long 0, [], []),
  (32, .aload_n 1, 1, 1, 0, .null, [], []),
  (33, .lload_n 2, 1, 2, 0, .null, [], []),
  (34, .l2i, 1, 0, 0, .null, [], []),
  (35, .invokevirtual 313, 12, 104, 1, .long 0, [], [135]),
  (38, .l2i, 1, 0, 0, .null, [], []),
  (39, .istore 4, 2, 4, 0, .null, [], []),
  (41, .aload_n 1, 1, 1, 0, .null, [], []),
  (42, .lload_n 2, 1, 2, 0, .null, [], []),
  (43, .l2i, 1, 0, 0, .null, [], []),
  (44, .iconst 1, 1, 0, 0, .int 1, [], []),
  (45, .iadd, 1, 0, 0, .null, [], []),
  (46, .invokevirtual 313, 12, 104, 1, .long 0, [], [135]),
  (49, .l2i, 1, 0, 0, .null, [], []),
  (50, .istore 5, 2, 5, 0, .null, [], []),
  (52, .iload 4, 2, 4, 0, .null, [], []),
  (54, .iconst 0, 1, 0, 0, .int 0, [], []),
  (55, .bipush 99, 2, 0, 0, .int 99, [], []),
  (57, .invokestatic 81, 3, 147, 3, .int 0, [], [81]),
  (60, .ifCond .eq 14, 3, 74, 0, .null, [], []),
  (63, .iload 5, 2, 5, 0, .null, [], []),
  (65, .iconst 0, 1, 0, 0, .int 0, [], []),
  (66, .iload 4, 2, 4, 0, .null, [], []),
  (68, .invokestatic 81, 3, 147, 3, .int 0, [], [81]),
  (71, .ifCond .ne 5, 3, 76, 0, .null, [], []),
  (74, .iconst 0, 1, 0, 0, .int 0, [], []),
  (75, .ireturn, 1, 0, 0, .long 0, [], []),
  (76, .aload_n 0, 1, 0, 0, .null, [], []),
  (77, .getfield 10, 3, 10, 0, .null, [], [103]),
  (80, .iload 4, 2, 4, 0, .null, [], []),
  (82, .iload 5, 2, 5, 0, .null, [], []),
  (84, .invokevirtual 89, 5, 17, 2, .null, [], [82]),
  (87, .iconst 1, 1, 0, 0, .int 1, [], []),
  (88, .ireturn, 1, 0, 0, .long 0, [], [])],
  [], 6)
/-- 150: LeastPays.ofOne(II)I -/
def kX10_ofOne : j_K := ([
  (0, .iload_n 2, 1, 2, 0, .null, [], []),
  (1, .tableswitch 123 0 6 #[43, 53, 63, 73, 83, 103, 113], 43, 124, 0, .null, [(0, 44), (1, 54), (2, 64), (3, 74), (4, 84), (5, 104), (6, 114)], []),
  (44, .aload_n 0, 1, 0, 0, .null, [], []),
  (45, .getfield 10, 3, 10, 0, .null, [], [103]),
  (48, .getfield 161, 3, 2, 0, .null, [], [117]),
  (51, .iload_n 1, 1, 1, 0, .null, [], []),
  (52, .iaload, 1, 0, 0, .null, [], []),
  (53, .ireturn, 1, 0, 0, .int 0, [], []),
  (54, .aload_n 0, 1, 0, 0, .null, [], []),
  (55, .getfield 10, 3, 10, 0, .null, [], [103]),
  (58, .getfield 358, 3, 2, 1, .null, [], [138]),
  (61, .iload_n 1, 1, 1, 0, .null, [], []),
  (62, .iaload, 1, 0, 0, .null, [], []),
  (63, .ireturn, 1, 0, 0, .int 0, [], []),
  (64, .aload_n 0, 1, 0, 0, .null, [], []),
  (65, .getfield 10, 3, 10, 0, .null, [], [103]),
  (68, .getfield 360, 3, 2, 2, .null, [], [139]),
  (71, .iload_n 1, 1, 1, 0, .null, [], []),
  (72, .iaload, 1, 0, 0, .null, [], []),
  (73, .ireturn, 1, 0, 0, .int 0, [], []),
  (74, .aload_n 0, 1, 0, 0, .null, [], []),
  (75, .getfield 10, 3, 10, 0, .null, [], [103]),
  (78, .getfield 363, 3, 2, 3, .null, [], [140]),
  (81, .iload_n 1, 1, 1, 0, .null, [], []),
  (82, .iaload, 1, 0, 0, .null, [], []),
  (83, .ireturn, 1, 0, 0, .int 0, [], []),
  (84, .aload_n 0, 1, 0, 0, .null, [], []),
  (85, .getfield 19, 3, 10, 1, .null, [], [104]),
  (88, .aload_n 0, 1, 0, 0, .null, [], []),
  (89, .getfield 10, 3, 10, 0, .null, [], [103]),
  (92, .invokevirtual 147, 6, 22, 1, .null, [], [96]),
  (95, .aload_n 0, 1, 0, 0, .null, [], []),
  (96, .getfield 19, 3, 10, 1, .null, [], [104]),
  (99, .iload_n 1, 1, 1, 0, .null, [], []),
  (100, .invokevirtual 230, 6, 26, 1, .int 0, [], [115]),
  (103, .ireturn, 1, 0, 0, .int 0, [], []),
  (104, .aload_n 0, 1, 0, 0, .null, [], []),
  (105, .getfield 10, 3, 10, 0, .null, [], [103]),
  (108, .getfield 366, 3, 2, 5, .null, [], [141]),
  (111, .iload_n 1, 1, 1, 0, .null, [], []),
  (112, .iaload, 1, 0, 0, .null, [], []),
  (113, .ireturn, 1, 0, 0, .int 0, [], []),
  (114, .aload_n 0, 1, 0, 0, .null, [], []),
  (115, .getfield 10, 3, 10, 0, .null, [], [103]),
  (118, .getfield 136, 3, 2, 4, .null, [], [114]),
  (121, .iload_n 1, 1, 1, 0, .null, [], []),
  (122, .iaload, 1, 0, 0, .null, [], []),
  (123, .ireturn, 1, 0, 0, .int 0, [], []),
  (124, .ldc 129, 2, 0, 0, .int (-2000000000), [], [2]),
  (126, .ireturn, 1, 0, 0, .int 0, [], [])],
  [], 3)
/-- 151: LeastPays.ofTheTable(I)I -/
def kX10_ofTheTable : j_K := ([
  (0, .aload_n 0, 1, 0, 0, .null, [], []),
  (1, .getfield 19, 3, 10, 1, .null, [], [104]),
  (4, .aload_n 0, 1, 0, 0, .null, [], []),
  (5, .getfield 10, 3, 10, 0, .null, [], [103]),
  (8, .invokevirtual 147, 6, 22, 1, .null, [], [96]),
  (11, .iload_n 1, 1, 1, 0, .null, [], []),
  (12, .tableswitch 112 10 17 #[48, 56, 64, 72, 80, 88, 96, 104], 48, 124, 0, .null, [(10, 60), (11, 68), (12, 76), (13, 84), (14, 92), (15, 100), (16, 108), (17, 116)], []),
  (60, .aload_n 0, 1, 0, 0, .null, [], []),
  (61, .getfield 10, 3, 10, 0, .null, [], [103]),
  (64, .getfield 369, 3, 2, 7, .int 0, [], [142]),
  (67, .ireturn, 1, 0, 0, .int 0, [], []),
  (68, .aload_n 0, 1, 0, 0, .null, [], []),
  (69, .getfield 10, 3, 10, 0, .null, [], [103]),
  (72, .getfield 253, 3, 2, 8, .int 0, [], [124]),
  (75, .ireturn, 1, 0, 0, .int 0, [], []),
  (76, .aload_n 0, 1, 0, 0, .null, [], []),
  (77, .getfield 10, 3, 10, 0, .null, [], [103]),
  (80, .getfield 372, 3, 2, 9, .int 0, [], [143]),
  (83, .ireturn, 1, 0, 0, .int 0, [], []),
  (84, .aload_n 0, 1, 0, 0, .null, [], []),
  (85, .getfield 19, 3, 10, 1, .null, [], [104]),
  (88, .getfield 375, 3, 3, 4, .int 0, [], [144]),
  (91, .ireturn, 1, 0, 0, .int 0, [], []),
  (92, .aload_n 0, 1, 0, 0, .null, [], []),
  (93, .getfield 19, 3, 10, 1, .null, [], [104]),
  (96, .getfield 378, 3, 3, 5, .int 0, [], [145]),
  (99, .ireturn, 1, 0, 0, .int 0, [], []),
  (100, .aload_n 0, 1, 0, 0, .null, [], []),
  (101, .getfield 19, 3, 10, 1, .null, [], [104]),
  (104, .getfield 381, 3, 3, 6, .int 0, [], [146]),
  (107, .ireturn, 1, 0, 0, .int 0, [], []),
  (108, .aload_n 0, 1, 0, 0, .null, [], []),
  (109, .getfield 10, 3, 10, 0, .null, [], [103]),
  (112, .getfield 384, 3, 2, 10, .int 0, [], [147]),
  (115, .ireturn, 1, 0, 0, .int 0, [], []),
  (116, .aload_n 0, 1, 0, 0, .null, [], []),
  (117, .getfield 10, 3, 10, 0, .null, [], [103]),
  (120, .getfield 276, 3, 2, 11, .int 0, [], [127]),
  (123, .ireturn, 1, 0, 0, .int 0, [], []),
  (124, .ldc 129, 2, 0, 0, .int (-2000000000), [], [2]),
  (126, .ireturn, 1, 0, 0, .int 0, [], [])],
  [], 2)
/-- 152: LeastPays.givenBy(I)I -/
def kX10_givenBy : j_K := ([
  (0, .aload_n 0, 1, 0, 0, .null, [], []),
  (1, .getfield 10, 3, 10, 0, .null, [], [103]),
  (4, .getfield 136, 3, 2, 4, .null, [], [114]),
  (7, .iload_n 1, 1, 1, 0, .null, [], []),
  (8, .iaload, 1, 0, 0, .null, [], []),
  (9, .istore_n 2, 1, 2, 0, .null, [], []),
  (10, .aload_n 0, 1, 0, 0, .null, [], []),
  (11, .getfield 42, 3, 10, 4, .null, [], [107]),
  (14, .aload_n 0, 1, 0, 0, .null, [], []),
  (15, .getfield 10, 3, 10, 0, .null, [], [103]),
  (18, .iload_n 1, 1, 1, 0, .null, [], []),
  (19, .iload_n 2, 1, 2, 0, .null, [], []),
  (20, .iconst (-1), 1, 0, 0, .int (-1), [], []),
  (21, .if_icmp .ne 13, 3, 34, 0, .null, [], []),
  (24, .aload_n 0, 1, 0, 0, .null, [], []),
  (25, .getfield 10, 3, 10, 0, .null, [], [103]),
  (28, .getfield 369, 3, 2, 7, .int 0, [], [142]),
  (31, .goto 4, 3, 35, 0, .null, [], []),
  (34, .iload_n 2, 1, 2, 0, .null, [], []),
  (35, .invokevirtual 223, 7, 52, 3, .int 0, [], [113]),
  (38, .ireturn, 1, 0, 0, .int 0, [], [])],
  [], 3)
/-- 153: LeastPays.refusalOfTold(I)I -/
def kX10_refusalOfTold : j_K := ([
  (0, .iload_n 1, 1, 1, 0, .null, [], []),
  (1, .invokestatic 93, 3, 148, 1, .int 0, [], [83]),
  (4, .ifCond .ne 5, 3, 9, 0, .null, [], []),
  (7, .iconst (-1), 1, 0, 0, .int (-1), [], []),
  (8, .ireturn, 1, 0, 0, .int 0, [], []),
  (9, .aload_n 0, 1, 0, 0, .null, [], []),
  (10, .getfield 76, 3, 10, 9, .null, [], [112]),
  (13, .iload_n 1, 1, 1, 0, .null, [], []),
  (14, .aaload, 1, 0, 0, .null, [], []),
  (15, .invokevirtual 97, 12, 97, 0, .int 0, [], [84]),
  (18, .ifCond .eq 6, 3, 24, 0, .null, [], []),
  (21, .bipush (-11), 2, 0, 0, .int (-11), [], []),
  (23, .ireturn, 1, 0, 0, .int 0, [], []),
  (24, .aload_n 0, 1, 0, 0, .null, [], []),
  (25, .getfield 76, 3, 10, 9, .null, [], [112]),
  (28, .iload_n 1, 1, 1, 0, .null, [], []),
  (29, .aaload, 1, 0, 0, .null, [], []),
  (30, .iconst 1, 1, 0, 0, .int 1, [], []),
  (31, .invokevirtual 101, 12, 99, 1, .int 0, [], [85]),
  (34, .ifCond .eq 7, 3, 41, 0, .null, [], []),
  (37, .iconst 0, 1, 0, 0, .int 0, [], []),
  (38, .goto 5, 3, 43, 0, .null, [], []),
  (41, .bipush (-12), 2, 0, 0, .int (-12), [], []),
  (43, .ireturn, 1, 0, 0, .int 0, [], [])],
  [], 2)
/-- 154: LeastPays.fraction(JJI)J -/
def kX10_fraction : j_K := ([
  (0, .lload_n 0, 1, 0, 0, .null, [], []),
  (1, .lstore 5, 2, 5, 0, .null, [], []),
  (3, .lload_n 2, 1, 2, 0, .null, [], []),
  (4, .lstore 7, 2, 7, 0, .null, [], []),
  (6, .iconst 0, 1, 0, 0, .int 0, [], []),
  (7, .istore 9, 2, 9, 0, .null, [], []),
  (9, .iload 9, 2, 9, 0, .null, [], []),
  (11, .sipush 200, 3, 0, 0, .int 200, [], []),
  (14, .if_icmp .ge 31, 3, 45, 0, .null, [], []),
  (17, .lload 7, 2, 7, 0, .null, [], []),
  (19, .lconst 0, 1, 0, 0, .long 0, [], []),
  (20, .lcmp, 1, 0, 0, .null, [], []),
  (21, .ifCond .eq 24, 3, 45, 0, .null, [], []),
  (24, .lload 5, 2, 5, 0, .null, [], []),
  (26, .lload 7, 2, 7, 0, .null, [], []),
  (28, .lrem, 1, 0, 0, .null, [], []),
  (29, .lstore 10, 2, 10, 0, .null, [], []),
  (31, .lload 7, 2, 7, 0, .null, [], []),
  (33, .lstore 5, 2, 5, 0, .null, [], []),
  (35, .lload 10, 2, 10, 0, .null, [], []),
  (37, .lstore 7, 2, 7, 0, .null, [], []),
  (39, .iinc 9 1, 3, 9, 0, .int 1, [], []),
  (42, .goto (-33), 3, 9, 0, .null, [], []),
  (45, .iload 4, 2, 4, 0, .null, [], []),
  (47, .ifCond .ne 7, 3, 54, 0, .null, [], []),
  (50, .lload_n 0, 1, 0, 0, .null, [], []),
  (51, .goto 4, 3, 55, 0, .null, [], []),
  (54, .lload_n 2, 1, 2, 0, .null, [], []),
  (55, .lstore 9, 2, 9, 0, .null, [], []),
  (57, .lload 5, 2, 5, 0, .null, [], []),
  (59, .lconst 0, 1, 0, 0, .long 0, [], []),
  (60, .lcmp, 1, 0, 0, .null, [], []),
  (61, .ifCond .ne 8, 3, 69, 0, .null, [], []),
  (64, .lload 9, 2, 9, 0, .null, [], []),
  (66, .goto 8, 3, 74, 0, .null, [], []),
  (69, .lload 9, 2, 9, 0, .null, [], []),
  (71, .lload 5, 2, 5, 0, .null, [], []),
  (73, .ldiv, 1, 0, 0, .null, [], []),
  (74, .lreturn, 1, 0, 0, .null, [], [])],
  [(9, [true, false, true, false, true, true, false, true, false, true, false, false]), (45, [true, false, true, false, true, true, false, false, false, false, false, false])], 12)
/-- 155: LeastPaysModel.within(JJJ)Z -/
def kX11_within : j_K := ([
  (0, .lload_n 0, 1, 0, 0, .null, [], []),
  (1, .lload_n 2, 1, 2, 0, .null, [], []),
  (2, .lcmp, 1, 0, 0, .null, [], []),
  (3, .ifCond .lt 14, 3, 17, 0, .null, [], []),
  (6, .lload_n 0, 1, 0, 0, .null, [], []),
  (7, .lload 4, 2, 4, 0, .null, [], []),
  (9, .lcmp, 1, 0, 0, .null, [], []),
  (10, .ifCond .gt 7, 3, 17, 0, .null, [], []),
  (13, .iconst 1, 1, 0, 0, .int 1, [], []),
  (14, .goto 4, 3, 18, 0, .null, [], []),
  (17, .iconst 0, 1, 0, 0, .int 0, [], []),
  (18, .ireturn, 1, 0, 0, .long 0, [], [])],
  [], 6)
/-- 156: LeastPaysModel.<init>()V -/
def kX11_init : j_K := ([
  (0, .aload_n 0, 1, 0, 0, .null, [], []),
  (1, .invokespecial 3, 3, 999, 0, .null, [], [11]),
  (4, .aload_n 0, 1, 0, 0, .null, [], []),
  (5, .bipush 27, 2, 0, 0, .int 27, [], []),
  (7, .newarray .int, 2, 0, 0, .int 0, [], []),
  (9, .putfield 9, 3, 11, 0, .null, [], [148]),
  (12, .aload_n 0, 1, 0, 0, .null, [], []),
  (13, .bipush 40, 2, 0, 0, .int 40, [], []),
  (15, .newarray .int, 2, 0, 0, .int 0, [], []),
  (17, .putfield 13, 3, 11, 1, .null, [], [149]),
  (20, .aload_n 0, 1, 0, 0, .null, [], []),
  (21, .bipush 40, 2, 0, 0, .int 40, [], []),
  (23, .newarray .int, 2, 0, 0, .int 0, [], []),
  (25, .putfield 16, 3, 11, 2, .null, [], [150]),
  (28, .aload_n 0, 1, 0, 0, .null, [], []),
  (29, .bipush 40, 2, 0, 0, .int 40, [], []),
  (31, .newarray .int, 2, 0, 0, .int 0, [], []),
  (33, .putfield 19, 3, 11, 3, .null, [], [151]),
  (36, .aload_n 0, 1, 0, 0, .null, [], []),
  (37, .bipush 6, 2, 0, 0, .int 6, [], []),
  (39, .newarray .int, 2, 0, 0, .int 0, [], []),
  (41, .putfield 22, 3, 11, 7, .null, [], [152]),
  (44, .aload_n 0, 1, 0, 0, .null, [], []),
  (45, .bipush 6, 2, 0, 0, .int 6, [], []),
  (47, .newarray .int, 2, 0, 0, .int 0, [], []),
  (49, .putfield 25, 3, 11, 8, .null, [], [153]),
  (52, .aload_n 0, 1, 0, 0, .null, [], []),
  (53, .bipush 7, 2, 0, 0, .int 7, [], []),
  (55, .newarray .int, 2, 0, 0, .int 0, [], []),
  (57, .putfield 28, 3, 11, 11, .null, [], [154]),
  (60, .aload_n 0, 1, 0, 0, .null, [], []),
  (61, .bipush 7, 2, 0, 0, .int 7, [], []),
  (63, .newarray .int, 2, 0, 0, .int 0, [], []),
  (65, .putfield 31, 3, 11, 13, .null, [], [155]),
  (68, .aload_n 0, 1, 0, 0, .null, [], []),
  (69, .bipush 7, 2, 0, 0, .int 7, [], []),
  (71, .newarray .int, 2, 0, 0, .int 0, [], []),
  (73, .putfield 34, 3, 11, 14, .null, [], [156]),
  (76, .aload_n 0, 1, 0, 0, .null, [], []),
  (77, .iconst 3, 1, 0, 0, .int 3, [], []),
  (78, .newarray .int, 2, 0, 0, .int 0, [], []),
  (80, .putfield 37, 3, 11, 18, .null, [], [157]),
  (83, .aload_n 0, 1, 0, 0, .null, [], []),
  (84, .bipush 18, 2, 0, 0, .int 18, [], []),
  (86, .newarray .int, 2, 0, 0, .int 0, [], []),
  (88, .putfield 40, 3, 11, 19, .null, [], [158]),
  (91, .aload_n 0, 1, 0, 0, .null, [], []),
  (92, .bipush 6, 2, 0, 0, .int 6, [], []),
  (94, .newarray .int, 2, 0, 0, .int 0, [], []),
  (96, .putfield 43, 3, 11, 20, .null, [], [159]),
  (99, .aload_n 0, 1, 0, 0, .null, [], []),
  (100, .bipush 120, 2, 0, 0, .int 120, [], []),
  (102, .newarray .int, 2, 0, 0, .int 0, [], []),
  (104, .putfield 46, 3, 11, 21, .null, [], [160]),
  (107, .aload_n 0, 1, 0, 0, .null, [], []),
  (108, .bipush 120, 2, 0, 0, .int 120, [], []),
  (110, .newarray .int, 2, 0, 0, .int 0, [], []),
  (112, .putfield 49, 3, 11, 23, .null, [], [161]),
  (115, .aload_n 0, 1, 0, 0, .null, [], []),
  (116, .iconst 5, 1, 0, 0, .int 5, [], []),
  (117, .newarray .int, 2, 0, 0, .int 0, [], []),
  (119, .putfield 52, 3, 11, 30, .null, [], [162]),
  (122, .aload_n 0, 1, 0, 0, .null, [], []),
  (123, .bipush 6, 2, 0, 0, .int 6, [], []),
  (125, .newarray .int, 2, 0, 0, .int 0, [], []),
  (127, .putfield 55, 3, 11, 35, .null, [], [163]),
  (130, .aload_n 0, 1, 0, 0, .null, [], []),
  (131, .bipush 6, 2, 0, 0, .int 6, [], []),
  (133, .newarray .int, 2, 0, 0, .int 0, [], []),
  (135, .putfield 58, 3, 11, 36, .null, [], [164]),
  (138, .aload_n 0, 1, 0, 0, .null, [], []),
  (139, .bipush 50, 2, 0, 0, .int 50, [], []),
  (141, .newarray .int, 2, 0, 0, .int 0, [], []),
  (143, .putfield 61, 3, 11, 38, .null, [], [165]),
  (146, .aload_n 0, 1, 0, 0, .null, [], []),
  (147, .bipush 24, 2, 0, 0, .int 24, [], []),
  (149, .newarray .int, 2, 0, 0, .int 0, [], []),
  (151, .putfield 64, 3, 11, 39, .null, [], [166]),
  (154, .aload_n 0, 1, 0, 0, .null, [], []),
  (155, .bipush 6, 2, 0, 0, .int 6, [], []),
  (157, .newarray .int, 2, 0, 0, .int 0, [], []),
  (159, .putfield 67, 3, 11, 43, .null, [], [167]),
  (162, .aload_n 0, 1, 0, 0, .null, [], []),
  (163, .bipush 6, 2, 0, 0, .int 6, [], []),
  (165, .newarray .int, 2, 0, 0, .int 0, [], []),
  (167, .putfield 70, 3, 11, 44, .null, [], [168]),
  (170, .aload_n 0, 1, 0, 0, .null, [], []),
  (171, .sipush 360, 3, 0, 0, .int 360, [], []),
  (174, .newarray .long, 2, 0, 0, .long 0, [], []),
  (176, .putfield 73, 3, 11, 45, .null, [], [169]),
  (179, .aload_n 0, 1, 0, 0, .null, [], []),
  (180, .bipush 60, 2, 0, 0, .int 60, [], []),
  (182, .newarray .long, 2, 0, 0, .long 0, [], []),
  (184, .putfield 77, 3, 11, 46, .null, [], [170]),
  (187, .iconst 0, 1, 0, 0, .int 0, [], []),
  (188, .istore_n 1, 1, 1, 0, .null, [], []),
  (189, .iload_n 1, 1, 1, 0, .null, [], []),
  (190, .bipush 6, 2, 0, 0, .int 6, [], []),
  (192, .if_icmp .ge 16, 3, 208, 0, .null, [], []),
  (195, .aload_n 0, 1, 0, 0, .null, [], []),
  (196, .getfield 67, 3, 11, 43, .null, [], [167]),
  (199, .iload_n 1, 1, 1, 0, .null, [], []),
  (200, .iconst (-1), 1, 0, 0, .int (-1), [], []),
  (201, .iastore, 1, 0, 0, .null, [], []),
  (202, .iinc 1 1, 3, 1, 0, .int 1, [], []),
  (205, .goto (-16), 3, 189, 0, .null, [], []),
  (208, .aload_n 0, 1, 0, 0, .null, [], []),
  (209, .iconst (-1), 1, 0, 0, .int (-1), [], []),
  (210, .putfield 80, 3, 11, 24, .int 0, [], [171]),
  (213, .aload_n 0, 1, 0, 0, .null, [], []),
  (214, .getfield 9, 3, 11, 0, .null, [], [148]),
  (217, .bipush 24, 2, 0, 0, .int 24, [], []),
  (219, .bipush 60, 2, 0, 0, .int 60, [], []),
  (221, .iastore, 1, 0, 0, .null, [], []),
  (222, .aload_n 0, 1, 0, 0, .null, [], []),
  (223, .getfield 9, 3, 11, 0, .null, [], [148]),
  (226, .bipush 26, 2, 0, 0, .int 26, [], []),
  (228, .bipush 10, 2, 0, 0, .int 10, [], []),
  (230, .iastore, 1, 0, 0, .null, [], []),
  (231, .iconst 0, 1, 0, 0, .int 0, [], []),
  (232, .istore_n 1, 1, 1, 0, .null, [], []),
  (233, .iload_n 1, 1, 1, 0, .null, [], []),
  (234, .bipush 6, 2, 0, 0, .int 6, [], []),
  (236, .if_icmp .ge 16, 3, 252, 0, .null, [], []),
  (239, .aload_n 0, 1, 0, 0, .null, [], []),
  (240, .getfield 22, 3, 11, 7, .null, [], [152]),
  (243, .iload_n 1, 1, 1, 0, .null, [], []),
  (244, .iconst (-1), 1, 0, 0, .int (-1), [], []),
  (245, .iastore, 1, 0, 0, .null, [], []),
  (246, .iinc 1 1, 3, 1, 0, .int 1, [], []),
  (249, .goto (-16), 3, 233, 0, .null, [], []),
  (252, .return_, 1, 0, 0, .null, [], [])],
  [(189, [true, true]), (233, [true, true])], 2)
/-- 157: LeastPaysModel.becomes(II)I -/
def kX11_becomes : j_K := ([
  (0, .aload_n 0, 1, 0, 0, .null, [], []),
  (1, .getfield 9, 3, 11, 0, .null, [], [148]),
  (4, .iload_n 1, 1, 1, 0, .null, [], []),
  (5, .iaload, 1, 0, 0, .null, [], []),
  (6, .istore_n 3, 1, 3, 0, .null, [], []),
  (7, .iload_n 3, 1, 3, 0, .null, [], []),
  (8, .iload_n 2, 1, 2, 0, .null, [], []),
  (9, .if_icmp .ne 5, 3, 14, 0, .null, [], []),
  (12, .iload_n 3, 1, 3, 0, .null, [], []),
  (13, .ireturn, 1, 0, 0, .int 0, [], []),
  (14, .aload_n 0, 1, 0, 0, .null, [], []),
  (15, .getfield 84, 3, 11, 5, .int 0, [], [172]),
  (18, .bipush 40, 2, 0, 0, .int 40, [], []),
  (20, .if_icmp .ne 77, 3, 97, 0, .null, [], []),
  (23, .iconst 1, 1, 0, 0, .int 1, [], []),
  (24, .istore 4, 2, 4, 0, .null, [], []),
  (26, .iload 4, 2, 4, 0, .null, [], []),
  (28, .bipush 40, 2, 0, 0, .int 40, [], []),
  (30, .if_icmp .ge 57, 3, 87, 0, .null, [], []),
  (33, .aload_n 0, 1, 0, 0, .null, [], []),
  (34, .getfield 13, 3, 11, 1, .null, [], [149]),
  (37, .iload 4, 2, 4, 0, .null, [], []),
  (39, .iconst 1, 1, 0, 0, .int 1, [], []),
  (40, .isub, 1, 0, 0, .null, [], []),
  (41, .aload_n 0, 1, 0, 0, .null, [], []),
  (42, .getfield 13, 3, 11, 1, .null, [], [149]),
  (45, .iload 4, 2, 4, 0, .null, [], []),
  (47, .iaload, 1, 0, 0, .null, [], []),
  (48, .iastore, 1, 0, 0, .null, [], []),
  (49, .aload_n 0, 1, 0, 0, .null, [], []),
  (50, .getfield 16, 3, 11, 2, .null, [], [150]),
  (53, .iload 4, 2, 4, 0, .null, [], []),
  (55, .iconst 1, 1, 0, 0, .int 1, [], []),
  (56, .isub, 1, 0, 0, .null, [], []),
  (57, .aload_n 0, 1, 0, 0, .null, [], []),
  (58, .getfield 16, 3, 11, 2, .null, [], [150]),
  (61, .iload 4, 2, 4, 0, .null, [], []),
  (63, .iaload, 1, 0, 0, .null, [], []),
  (64, .iastore, 1, 0, 0, .null, [], []),
  (65, .aload_n 0, 1, 0, 0, .null, [], []),
  (66, .getfield 19, 3, 11, 3, .null, [], [151]),
  (69, .iload 4, 2, 4, 0, .null, [], []),
  (71, .iconst 1, 1, 0, 0, .int 1, [], []),
  (72, .isub, 1, 0, 0, .null, [], []),
  (73, .aload_n 0, 1, 0, 0, .null, [], []),
  (74, .getfield 19, 3, 11, 3, .null, [], [151]),
  (77, .iload 4, 2, 4, 0, .null, [], []),
  (79, .iaload, 1, 0, 0, .null, [], []),
  (80, .iastore, 1, 0, 0, .null, [], []),
  (81, .iinc 4 1, 3, 4, 0, .int 1, [], []),
  (84, .goto (-58), 3, 26, 0, .null, [], []),
  (87, .aload_n 0, 1, 0, 0, .null, [], []),
  (88, .dup, 1, 0, 0, .null, [], []),
  (89, .getfield 84, 3, 11, 5, .int 0, [], [172]),
  (92, .iconst 1, 1, 0, 0, .int 1, [], []),
  (93, .isub, 1, 0, 0, .null, [], []),
  (94, .putfield 84, 3, 11, 5, .int 0, [], [172]),
  (97, .aload_n 0, 1, 0, 0, .null, [], []),
  (98, .getfield 13, 3, 11, 1, .null, [], [149]),
  (101, .aload_n 0, 1, 0, 0, .null, [], []),
  (102, .getfield 84, 3, 11, 5, .int 0, [], [172]),
  (105, .iload_n 1, 1, 1, 0, .null, [], []),
  (106, .iastore, 1, 0, 0, .null, [], []),
  (107, .aload_n 0, 1, 0, 0, .null, [], []),
  (108, .getfield 16, 3, 11, 2, .null, [], [150]),
  (111, .aload_n 0, 1, 0, 0, .null, [], []),
  (112, .getfield 84, 3, 11, 5, .int 0, [], [172]),
  (115, .iload_n 3, 1, 3, 0, .null, [], []),
  (116, .iastore, 1, 0, 0, .null, [], []),
  (117, .aload_n 0, 1, 0, 0, .null, [], []),
  (118, .getfield 19, 3, 11, 3, .null, [], [151]),
  (121, .aload_n 0, 1, 0, 0, .null, [], []),
  (122, .getfield 84, 3, 11, 5, .int 0, [], [172]),
  (125, .iload_n 2, 1, 2, 0, .null, [], []),
  (126, .iastore, 1, 0, 0, .null, [], []),
  (127, .aload_n 0, 1, 0, 0, .null, [], []),
  (128, .dup, 1, 0, 0, .null, [], []),
  (129, .getfield 84, 3, 11, 5, .int 0, [], [172]),
  (132, .iconst 1, 1, 0, 0, .int 1, [], []),
  (133, .iadd, 1, 0, 0, .null, [], []),
  (134, .putfield 84, 3, 11, 5, .int 0, [], [172]),
  (137, .aload_n 0, 1, 0, 0, .null, [], []),
  (138, .aload_n 0, 1, 0, 0, .null, [], []),
  (139, .getfield 84, 3, 11, 5, .int 0, [], [172]),
  (142, .putfield 87, 3, 11, 4, .int 0, [], [173]),
  (145, .aload_n 0, 1, 0, 0, .null, [], []),
  (146, .getfield 9, 3, 11, 0, .null, [], [148]),
  (149, .iload_n 1, 1, 1, 0, .null, [], []),
  (150, .iload_n 2, 1, 2, 0, .null, [], []),
  (151, .iastore, 1, 0, 0, .null, [], []),
  (152, .iload_n 3, 1, 3, 0, .null, [], []),
  (153, .ireturn, 1, 0, 0, .int 0, [], [])],
  [(26, [true, true, true, true, true]), (97, [true, true, true, true, false])], 5)
/-- 158: LeastPaysModel.undo()I -/
def kX11_undo : j_K := ([
  (0, .aload_n 0, 1, 0, 0, .null, [], []),
  (1, .getfield 84, 3, 11, 5, .int 0, [], [172]),
  (4, .ifCond .ne 6, 3, 10, 0, .null, [], []),
  (7, .bipush (-5), 2, 0, 0, .int (-5), [], []),
  (9, .ireturn, 1, 0, 0, .int 0, [], []),
  (10, .aload_n 0, 1, 0, 0, .null, [], []),
  (11, .dup, 1, 0, 0, .null, [], []),
  (12, .getfield 84, 3, 11, 5, .int 0, [], [172]),
  (15, .iconst 1, 1, 0, 0, .int 1, [], []),
  (16, .isub, 1, 0, 0, .null, [], []),
  (17, .putfield 84, 3, 11, 5, .int 0, [], [172]),
  (20, .aload_n 0, 1, 0, 0, .null, [], []),
  (21, .getfield 9, 3, 11, 0, .null, [], [148]),
  (24, .aload_n 0, 1, 0, 0, .null, [], []),
  (25, .getfield 13, 3, 11, 1, .null, [], [149]),
  (28, .aload_n 0, 1, 0, 0, .null, [], []),
  (29, .getfield 84, 3, 11, 5, .int 0, [], [172]),
  (32, .iaload, 1, 0, 0, .null, [], []),
  (33, .aload_n 0, 1, 0, 0, .null, [], []),
  (34, .getfield 16, 3, 11, 2, .null, [], [150]),
  (37, .aload_n 0, 1, 0, 0, .null, [], []),
  (38, .getfield 84, 3, 11, 5, .int 0, [], [172]),
  (41, .iaload, 1, 0, 0, .null, [], []),
  (42, .iastore, 1, 0, 0, .null, [], []),
  (43, .aload_n 0, 1, 0, 0, .null, [], []),
  (44, .getfield 84, 3, 11, 5, .int 0, [], [172]),
  (47, .ireturn, 1, 0, 0, .int 0, [], [])],
  [], 1)
/-- 159: LeastPaysModel.redo()I -/
def kX11_redo : j_K := ([
  (0, .aload_n 0, 1, 0, 0, .null, [], []),
  (1, .getfield 84, 3, 11, 5, .int 0, [], [172]),
  (4, .aload_n 0, 1, 0, 0, .null, [], []),
  (5, .getfield 87, 3, 11, 4, .int 0, [], [173]),
  (8, .if_icmp .ne 6, 3, 14, 0, .null, [], []),
  (11, .bipush (-5), 2, 0, 0, .int (-5), [], []),
  (13, .ireturn, 1, 0, 0, .int 0, [], []),
  (14, .aload_n 0, 1, 0, 0, .null, [], []),
  (15, .getfield 9, 3, 11, 0, .null, [], [148]),
  (18, .aload_n 0, 1, 0, 0, .null, [], []),
  (19, .getfield 13, 3, 11, 1, .null, [], [149]),
  (22, .aload_n 0, 1, 0, 0, .null, [], []),
  (23, .getfield 84, 3, 11, 5, .int 0, [], [172]),
  (26, .iaload, 1, 0, 0, .null, [], []),
  (27, .aload_n 0, 1, 0, 0, .null, [], []),
  (28, .getfield 19, 3, 11, 3, .null, [], [151]),
  (31, .aload_n 0, 1, 0, 0, .null, [], []),
  (32, .getfield 84, 3, 11, 5, .int 0, [], [172]),
  (35, .iaload, 1, 0, 0, .null, [], []),
  (36, .iastore, 1, 0, 0, .null, [], []),
  (37, .aload_n 0, 1, 0, 0, .null, [], []),
  (38, .dup, 1, 0, 0, .null, [], []),
  (39, .getfield 84, 3, 11, 5, .int 0, [], [172]),
  (42, .iconst 1, 1, 0, 0, .int 1, [], []),
  (43, .iadd, 1, 0, 0, .null, [], []),
  (44, .putfield 84, 3, 11, 5, .int 0, [], [172]),
  (47, .aload_n 0, 1, 0, 0, .null, [], []),
  (48, .getfield 87, 3, 11, 4, .int 0, [], [173]),
  (51, .aload_n 0, 1, 0, 0, .null, [], []),
  (52, .getfield 84, 3, 11, 5, .int 0, [], [172]),
  (55, .isub, 1, 0, 0, .null, [], []),
  (56, .ireturn, 1, 0, 0, .int 0, [], [])],
  [], 1)
/-- 160: LeastPaysModel.isGuest(I)Z -/
def kX11_isGuest : j_K := ([
  (0, .iload_n 1, 1, 1, 0, .null, [], []),
  (1, .i2l, 1, 0, 0, .null, [], []),
  (2, .lconst 0, 1, 0, 0, .long 0, [], []),
  (3, .aload_n 0, 1, 0, 0, .null, [], []),
  (4, .getfield 90, 3, 11, 6, .int 0, [], [174]),
  (7, .iconst 1, 1, 0, 0, .int 1, [], []),
  (8, .isub, 1, 0, 0, .null, [], []),
  (9, .i2l, 1, 0, 0, .null, [], []),
  (10, .invokestatic 93, 3, 155, 3, .int 0, [], [140]),
  (13, .ireturn, 1, 0, 0, .long 0, [], [])],
  [], 2)
/-- 161: LeastPaysModel.guest(I)I -/
def kX11_guest : j_K := ([
  (0, .iload_n 1, 1, 1, 0, .null, [], []),
  (1, .i2l, 1, 0, 0, .null, [], []),
  (2, .lconst 0, 1, 0, 0, .long 0, [], []),
  (3, .ldc2_w 97, 3, 0, 0, .long 99, [], [5]),
  (6, .invokestatic 93, 3, 155, 3, .int 0, [], [140]),
  (9, .ifCond .ne 5, 3, 14, 0, .null, [], []),
  (12, .iconst (-1), 1, 0, 0, .int (-1), [], []),
  (13, .ireturn, 1, 0, 0, .int 0, [], []),
  (14, .aload_n 0, 1, 0, 0, .null, [], []),
  (15, .getfield 90, 3, 11, 6, .int 0, [], [174]),
  (18, .bipush 6, 2, 0, 0, .int 6, [], []),
  (20, .if_icmp .ne 6, 3, 26, 0, .null, [], []),
  (23, .bipush (-3), 2, 0, 0, .int (-3), [], []),
  (25, .ireturn, 1, 0, 0, .int 0, [], []),
  (26, .aload_n 0, 1, 0, 0, .null, [], []),
  (27, .getfield 9, 3, 11, 0, .null, [], [148]),
  (30, .aload_n 0, 1, 0, 0, .null, [], []),
  (31, .getfield 90, 3, 11, 6, .int 0, [], [174]),
  (34, .iload_n 1, 1, 1, 0, .null, [], []),
  (35, .iastore, 1, 0, 0, .null, [], []),
  (36, .aload_n 0, 1, 0, 0, .null, [], []),
  (37, .dup, 1, 0, 0, .null, [], []),
  (38, .getfield 90, 3, 11, 6, .int 0, [], [174]),
  (41, .iconst 1, 1, 0, 0, .int 1, [], []),
  (42, .iadd, 1, 0, 0, .null, [], []),
  (43, .putfield 90, 3, 11, 6, .int 0, [], [174]),
  (46, .aload_n 0, 1, 0, 0, .null, [], []),
  (47, .getfield 90, 3, 11, 6, .int 0, [], [174]),
  (50, .iconst 1, 1, 0, 0, .int 1, [], []),
  (51, .isub, 1, 0, 0, .null, [], []),
  (52, .ireturn, 1, 0, 0, .int 0, [], [])],
  [], 2)
/-- 162: LeastPaysModel.guests(III)I -/
def kX11_guests : j_K := ([
  (0, .iload_n 1, 1, 1, 0, .null, [], []),
  (1, .invokestatic 99, 3, 235, 1, .int 0, [], [141]),
  (4, .ifCond .eq 15, 3, 19, 0, .null, [], []),
  (7, .iload_n 3, 1, 3, 0, .null, [], []),
  (8, .i2l, 1, 0, 0, .null, [], []),
  (9, .lconst 1, 1, 0, 0, .long 1, [], []),
  (10, .ldc2_w 103, 3, 0, 0, .long 6, [], [6]),
  (13, .invokestatic 93, 3, 155, 3, .int 0, [], [140]),
  (16, .ifCond .ne 5, 3, 21, 0, .null, [], []),
  (19, .iconst (-1), 1, 0, 0, .int (-1), [], []),
  (20, .ireturn, 1, 0, 0, .int 0, [], []),
  (21, .aload_n 0, 1, 0, 0, .null, [], []),
  (22, .getfield 67, 3, 11, 43, .null, [], [167]),
  (25, .iload_n 1, 1, 1, 0, .null, [], []),
  (26, .iaload, 1, 0, 0, .null, [], []),
  (27, .ifCond .lt 17, 3, 44, 0, .null, [], []),
  (30, .aload_n 0, 1, 0, 0, .null, [], []),
  (31, .getfield 67, 3, 11, 43, .null, [], [167]),
  (34, .iload_n 1, 1, 1, 0, .null, [], []),
  (35, .iaload, 1, 0, 0, .null, [], []),
  (36, .bipush 50, 2, 0, 0, .int 50, [], []),
  (38, .if_icmp .eq 6, 3, 44, 0, .null, [], []),
  (41, .bipush (-12), 2, 0, 0, .int (-12), [], []),
  (43, .ireturn, 1, 0, 0, .int 0, [], []),
  (44, .iconst 0, 1, 0, 0, .int 0, [], []),
  (45, .istore 4, 2, 4, 0, .null, [], []),
  (47, .aload_n 0, 1, 0, 0, .null, [], []),
  (48, .getfield 67, 3, 11, 43, .null, [], [167]),
  (51, .iload_n 1, 1, 1, 0, .null, [], []),
  (52, .iaload, 1, 0, 0, .null, [], []),
  (53, .bipush 50, 2, 0, 0, .int 50, [], []),
  (55, .if_icmp .ne 11, 3, 66, 0, .null, [], []),
  (58, .iload_n 2, 1, 2, 0, .null, [], []),
  (59, .ifCond .lt 7, 3, 66, 0, .null, [], []),
  (62, .iconst 1, 1, 0, 0, .int 1, [], []),
  (63, .goto 4, 3, 67, 0, .null, [], []),
  (66, .iconst 0, 1, 0, 0, .int 0, [], []),
  (67, .istore 5, 2, 5, 0, .null, [], []),
  (69, .iload 5, 2, 5, 0, .null, [], []),
  (71, .ifCond .eq 167, 3, 238, 0, .null, [], []),
  (74, .iload 4, 2, 4, 0, .null, [], []),
  (76, .iload_n 3, 1, 3, 0, .null, [], []),
  (77, .if_icmp .ge 161, 3, 238, 0, .null, [], []),
  (80, .iload_n 2, 1, 2, 0, .null, [], []),
  (81, .aload_n 0, 1, 0, 0, .null, [], []),
  (82, .getfield 70, 3, 11, 44, .null, [], [168]),
  (85, .iload_n 1, 1, 1, 0, .null, [], []),
  (86, .iaload, 1, 0, 0, .null, [], []),
  (87, .iconst 2, 1, 0, 0, .int 2, [], []),
  (88, .isub, 1, 0, 0, .null, [], []),
  (89, .iconst 2, 1, 0, 0, .int 2, [], []),
  (90, .iload 4, 2, 4, 0, .null, [], []),
  (92, .imul, 1, 0, 0, .null, [], []),
  (93, .isub, 1, 0, 0, .null, [], []),
  (94, .if_icmp .gt 16, 3, 110, 0, .null, [], []),
  (97, .aload_n 0, 1, 0, 0, .null, [], []),
  (98, .getfield 90, 3, 11, 6, .int 0, [], [174]),
  (101, .bipush 6, 2, 0, 0, .int 6, [], []),
  (103, .if_icmp .ge 7, 3, 110, 0, .null, [], []),
  (106, .iconst 1, 1, 0, 0, .int 1, [], []),
  (107, .goto 4, 3, 111, 0, .null, [], []),
  (110, .iconst 0, 1, 0, 0, .int 0, [], []),
  (111, .istore 5, 2, 5, 0, .null, [], []),
  (113, .bipush 60, 2, 0, 0, .int 60, [], []),
  (115, .iload_n 1, 1, 1, 0, .null, [], []),
  (116, .imul, 1, 0, 0, .null, [], []),
  (117, .iload_n 2, 1, 2, 0, .null, [], []),
  (118, .iadd, 1, 0, 0, .null, [], []),
  (119, .iconst 2, 1, 0, 0, .int 2, [], []),
  (120, .iload 4, 2, 4, 0, .null, [], []),
  (122, .imul, 1, 0, 0, .null, [], []),
  (123, .iadd, 1, 0, 0, .null, [], []),
  (124, .istore 6, 2, 6, 0, .null, [], []),
  (126, .iload 5, 2, 5, 0, .null, [], []),
  (128, .ifCond .eq 47, 3, 175, 0, .null, [], []),
  (131, .aload_n 0, 1, 0, 0, .null, [], []),
  (132, .getfield 73, 3, 11, 45, .null, [], [169]),
  (135, .iload 6, 2, 6, 0, .null, [], []),
  (137, .laload, 1, 0, 0, .null, [], []),
  (138, .lconst 0, 1, 0, 0, .long 0, [], []),
  (139, .ldc2_w 97, 3, 0, 0, .long 99, [], [5]),
  (142, .invokestatic 93, 3, 155, 3, .int 0, [], [140]),
  (145, .ifCond .eq 30, 3, 175, 0, .null, [], []),
  (148, .aload_n 0, 1, 0, 0, .null, [], []),
  (149, .getfield 73, 3, 11, 45, .null, [], [169]),
  (152, .iload 6, 2, 6, 0, .null, [], []),
  (154, .iconst 1, 1, 0, 0, .int 1, [], []),
  (155, .iadd, 1, 0, 0, .null, [], []),
  (156, .laload, 1, 0, 0, .null, [], []),
  (157, .lconst 0, 1, 0, 0, .long 0, [], []),
  (158, .aload_n 0, 1, 0, 0, .null, [], []),
  (159, .getfield 73, 3, 11, 45, .null, [], [169]),
  (162, .iload 6, 2, 6, 0, .null, [], []),
  (164, .laload, 1, 0, 0, .null, [], []),
  (165, .invokestatic 93, 3, 155, 3, .int 0, [], [140]),
  (168, .ifCond .eq 7, 3, 175, 0, .null, [], []),
  (171, .iconst 1, 1, 0, 0, .int 1, [], []),
  (172, .goto 4, 3, 176, 0, .null, [], []),
  (175, .iconst 0, 1, 0, 0, .int 0, [], []),
  (176, .istore 5, 2, 5, 0, .null, [], []),
  (178, .iload 5, 2, 5, 0, .null, [], []),
  (180, .ifCond .eq 55, 3, 235, 0, .null, [], []),
  (183, .aload_n 0, 1, 0, 0, .null, [], []),
  (184, .getfield 9, 3, 11, 0, .null, [], [148]),
  (187, .aload_n 0, 1, 0, 0, .null, [], []),
  (188, .getfield 90, 3, 11, 6, .int 0, [], [174]),
  (191, .aload_n 0, 1, 0, 0, .null, [], []),
  (192, .getfield 73, 3, 11, 45, .null, [], [169]),
  (195, .iload 6, 2, 6, 0, .null, [], []),
  (197, .laload, 1, 0, 0, .null, [], []),
  (198, .l2i, 1, 0, 0, .null, [], []),
  (199, .iastore, 1, 0, 0, .null, [], []),
  (200, .aload_n 0, 1, 0, 0, .null, [], []),
  (201, .getfield 9, 3, 11, 0, .null, [], [148]),
  (204, .bipush 6, 2, 0, 0, .int 6, [], []),
  (206, .aload_n 0, 1, 0, 0, .null, [], []),
  (207, .getfield 90, 3, 11, 6, .int 0, [], [174]),
  (210, .iadd, 1, 0, 0, .null, [], []),
  (211, .aload_n 0, 1, 0, 0, .null, [], []),
  (212, .getfield 73, 3, 11, 45, .null, [], [169]),
  (215, .iload 6, 2, 6, 0, .null, [], []),
  (217, .iconst 1, 1, 0, 0, .int 1, [], []),
  (218, .iadd, 1, 0, 0, .null, [], []),
  (219, .laload, 1, 0, 0, .null, [], []),
  (220, .l2i, 1, 0, 0, .null, [], []),
  (221, .iastore, 1, 0, 0, .null, [], []),
  (222, .aload_n 0, 1, 0, 0, .null, [], []),
  (223, .dup, 1, 0, 0, .null, [], []),
  (224, .getfield 90, 3, 11, 6, .int 0, [], [174]),
  (227, .iconst 1, 1, 0, 0, .int 1, [], []),
  (228, .iadd, 1, 0, 0, .null, [], []),
  (229, .putfield 90, 3, 11, 6, .int 0, [], [174]),
  (232, .iinc 4 1, 3, 4, 0, .int 1, [], []),
  (235, .goto (-166), 3, 69, 0, .null, [], []),
  (238, .iload 4, 2, 4, 0, .null, [], []),
  (240, .ireturn, 1, 0, 0, .int 0, [], [])],
  [(69, [true, true, true, true, true, true, false]), (111, [true, true, true, true, true, false, false]), (176, [true, true, true, true, true, false, true])], 7)
/-- 163: LeastPaysModel.mend(III)I -/
def kX11_mend : j_K := ([
  (0, .iload_n 2, 1, 2, 0, .null, [], []),
  (1, .tableswitch 232 0 6 #[43, 74, 114, 74, 148, 176, 204], 43, 233, 0, .null, [(0, 44), (1, 75), (2, 115), (3, 75), (4, 149), (5, 177), (6, 205)], []),
  (44, .aload_n 0, 1, 0, 0, .null, [], []),
  (45, .iload_n 1, 1, 1, 0, .null, [], []),
  (46, .invokevirtual 105, 14, 160, 1, .int 0, [], [142]),
  (49, .ifCond .eq 24, 3, 73, 0, .null, [], []),
  (52, .iload_n 3, 1, 3, 0, .null, [], []),
  (53, .i2l, 1, 0, 0, .null, [], []),
  (54, .lconst 0, 1, 0, 0, .long 0, [], []),
  (55, .ldc2_w 97, 3, 0, 0, .long 99, [], [5]),
  (58, .invokestatic 93, 3, 155, 3, .int 0, [], [140]),
  (61, .ifCond .eq 12, 3, 73, 0, .null, [], []),
  (64, .aload_n 0, 1, 0, 0, .null, [], []),
  (65, .iload_n 1, 1, 1, 0, .null, [], []),
  (66, .iload_n 3, 1, 3, 0, .null, [], []),
  (67, .invokevirtual 108, 14, 157, 2, .int 0, [], [143]),
  (70, .goto 4, 3, 74, 0, .null, [], []),
  (73, .iconst (-1), 1, 0, 0, .int (-1), [], []),
  (74, .ireturn, 1, 0, 0, .int 0, [], []),
  (75, .aload_n 0, 1, 0, 0, .null, [], []),
  (76, .iload_n 1, 1, 1, 0, .null, [], []),
  (77, .invokevirtual 105, 14, 160, 1, .int 0, [], [142]),
  (80, .ifCond .eq 33, 3, 113, 0, .null, [], []),
  (83, .iload_n 3, 1, 3, 0, .null, [], []),
  (84, .i2l, 1, 0, 0, .null, [], []),
  (85, .lconst 0, 1, 0, 0, .long 0, [], []),
  (86, .aload_n 0, 1, 0, 0, .null, [], []),
  (87, .getfield 9, 3, 11, 0, .null, [], [148]),
  (90, .iload_n 1, 1, 1, 0, .null, [], []),
  (91, .iaload, 1, 0, 0, .null, [], []),
  (92, .i2l, 1, 0, 0, .null, [], []),
  (93, .invokestatic 93, 3, 155, 3, .int 0, [], [140]),
  (96, .ifCond .eq 17, 3, 113, 0, .null, [], []),
  (99, .aload_n 0, 1, 0, 0, .null, [], []),
  (100, .bipush 6, 2, 0, 0, .int 6, [], []),
  (102, .iload_n 2, 1, 2, 0, .null, [], []),
  (103, .imul, 1, 0, 0, .null, [], []),
  (104, .iload_n 1, 1, 1, 0, .null, [], []),
  (105, .iadd, 1, 0, 0, .null, [], []),
  (106, .iload_n 3, 1, 3, 0, .null, [], []),
  (107, .invokevirtual 108, 14, 157, 2, .int 0, [], [143]),
  (110, .goto 4, 3, 114, 0, .null, [], []),
  (113, .iconst (-1), 1, 0, 0, .int (-1), [], []),
  (114, .ireturn, 1, 0, 0, .int 0, [], []),
  (115, .aload_n 0, 1, 0, 0, .null, [], []),
  (116, .iload_n 1, 1, 1, 0, .null, [], []),
  (117, .invokevirtual 105, 14, 160, 1, .int 0, [], [142]),
  (120, .ifCond .eq 27, 3, 147, 0, .null, [], []),
  (123, .iload_n 3, 1, 3, 0, .null, [], []),
  (124, .i2l, 1, 0, 0, .null, [], []),
  (125, .lconst 0, 1, 0, 0, .long 0, [], []),
  (126, .ldc2_w 112, 3, 0, 0, .long 12, [], [7]),
  (129, .invokestatic 93, 3, 155, 3, .int 0, [], [140]),
  (132, .ifCond .eq 15, 3, 147, 0, .null, [], []),
  (135, .aload_n 0, 1, 0, 0, .null, [], []),
  (136, .bipush 12, 2, 0, 0, .int 12, [], []),
  (138, .iload_n 1, 1, 1, 0, .null, [], []),
  (139, .iadd, 1, 0, 0, .null, [], []),
  (140, .iload_n 3, 1, 3, 0, .null, [], []),
  (141, .invokevirtual 108, 14, 157, 2, .int 0, [], [143]),
  (144, .goto 4, 3, 148, 0, .null, [], []),
  (147, .iconst (-1), 1, 0, 0, .int (-1), [], []),
  (148, .ireturn, 1, 0, 0, .int 0, [], []),
  (149, .iload_n 1, 1, 1, 0, .null, [], []),
  (150, .ifCond .ne 25, 3, 175, 0, .null, [], []),
  (153, .iload_n 3, 1, 3, 0, .null, [], []),
  (154, .i2l, 1, 0, 0, .null, [], []),
  (155, .lconst 0, 1, 0, 0, .long 0, [], []),
  (156, .ldc2_w 114, 3, 0, 0, .long 599, [], [8]),
  (159, .invokestatic 93, 3, 155, 3, .int 0, [], [140]),
  (162, .ifCond .eq 13, 3, 175, 0, .null, [], []),
  (165, .aload_n 0, 1, 0, 0, .null, [], []),
  (166, .bipush 24, 2, 0, 0, .int 24, [], []),
  (168, .iload_n 3, 1, 3, 0, .null, [], []),
  (169, .invokevirtual 108, 14, 157, 2, .int 0, [], [143]),
  (172, .goto 4, 3, 176, 0, .null, [], []),
  (175, .iconst (-1), 1, 0, 0, .int (-1), [], []),
  (176, .ireturn, 1, 0, 0, .int 0, [], []),
  (177, .iload_n 1, 1, 1, 0, .null, [], []),
  (178, .ifCond .ne 25, 3, 203, 0, .null, [], []),
  (181, .iload_n 3, 1, 3, 0, .null, [], []),
  (182, .i2l, 1, 0, 0, .null, [], []),
  (183, .lconst 0, 1, 0, 0, .long 0, [], []),
  (184, .ldc2_w 116, 3, 0, 0, .long 4, [], [9]),
  (187, .invokestatic 93, 3, 155, 3, .int 0, [], [140]),
  (190, .ifCond .eq 13, 3, 203, 0, .null, [], []),
  (193, .aload_n 0, 1, 0, 0, .null, [], []),
  (194, .bipush 25, 2, 0, 0, .int 25, [], []),
  (196, .iload_n 3, 1, 3, 0, .null, [], []),
  (197, .invokevirtual 108, 14, 157, 2, .int 0, [], [143]),
  (200, .goto 4, 3, 204, 0, .null, [], []),
  (203, .iconst (-1), 1, 0, 0, .int (-1), [], []),
  (204, .ireturn, 1, 0, 0, .int 0, [], []),
  (205, .iload_n 1, 1, 1, 0, .null, [], []),
  (206, .ifCond .ne 25, 3, 231, 0, .null, [], []),
  (209, .iload_n 3, 1, 3, 0, .null, [], []),
  (210, .i2l, 1, 0, 0, .null, [], []),
  (211, .lconst 1, 1, 0, 0, .long 1, [], []),
  (212, .ldc2_w 97, 3, 0, 0, .long 99, [], [5]),
  (215, .invokestatic 93, 3, 155, 3, .int 0, [], [140]),
  (218, .ifCond .eq 13, 3, 231, 0, .null, [], []),
  (221, .aload_n 0, 1, 0, 0, .null, [], []),
  (222, .bipush 26, 2, 0, 0, .int 26, [], []),
  (224, .iload_n 3, 1, 3, 0, .null, [], []),
  (225, .invokevirtual 108, 14, 157, 2, .int 0, [], [143]),
  (228, .goto 4, 3, 232, 0, .null, [], []),
  (231, .iconst (-1), 1, 0, 0, .int (-1), [], []),
  (232, .ireturn, 1, 0, 0, .int 0, [], []),
  (233, .iconst (-1), 1, 0, 0, .int (-1), [], []),
  (234, .ireturn, 1, 0, 0, .int 0, [], [])],
  [], 4)
/-- 164: LeastPaysModel.ofGuest(II)I -/
def kX11_ofGuest : j_K := ([
  (0, .iload_n 2, 1, 2, 0, .null, [], []),
  (1, .tableswitch 47 4 6 #[27, 33, 40], 27, 48, 0, .null, [(4, 28), (5, 34), (6, 41)], []),
  (28, .aload_n 0, 1, 0, 0, .null, [], []),
  (29, .iload_n 1, 1, 1, 0, .null, [], []),
  (30, .invokevirtual 118, 14, 175, 1, .int 0, [], [144]),
  (33, .ireturn, 1, 0, 0, .int 0, [], []),
  (34, .aload_n 0, 1, 0, 0, .null, [], []),
  (35, .getfield 25, 3, 11, 8, .null, [], [153]),
  (38, .iload_n 1, 1, 1, 0, .null, [], []),
  (39, .iaload, 1, 0, 0, .null, [], []),
  (40, .ireturn, 1, 0, 0, .int 0, [], []),
  (41, .aload_n 0, 1, 0, 0, .null, [], []),
  (42, .getfield 22, 3, 11, 7, .null, [], [152]),
  (45, .iload_n 1, 1, 1, 0, .null, [], []),
  (46, .iaload, 1, 0, 0, .null, [], []),
  (47, .ireturn, 1, 0, 0, .int 0, [], []),
  (48, .aload_n 0, 1, 0, 0, .null, [], []),
  (49, .getfield 9, 3, 11, 0, .null, [], [148]),
  (52, .bipush 6, 2, 0, 0, .int 6, [], []),
  (54, .iload_n 2, 1, 2, 0, .null, [], []),
  (55, .imul, 1, 0, 0, .null, [], []),
  (56, .iload_n 1, 1, 1, 0, .null, [], []),
  (57, .iadd, 1, 0, 0, .null, [], []),
  (58, .iaload, 1, 0, 0, .null, [], []),
  (59, .ireturn, 1, 0, 0, .int 0, [], [])],
  [], 3)
/-- 165: LeastPaysModel.of(II)I -/
def kX11_of : j_K := ([
  (0, .iload_n 2, 1, 2, 0, .null, [], []),
  (1, .i2l, 1, 0, 0, .null, [], []),
  (2, .lconst 0, 1, 0, 0, .long 0, [], []),
  (3, .ldc2_w 103, 3, 0, 0, .long 6, [], [6]),
  (6, .invokestatic 93, 3, 155, 3, .int 0, [], [140]),
  (9, .ifCond .eq 23, 3, 32, 0, .null, [], []),
  (12, .aload_n 0, 1, 0, 0, .null, [], []),
  (13, .iload_n 1, 1, 1, 0, .null, [], []),
  (14, .invokevirtual 105, 14, 160, 1, .int 0, [], [142]),
  (17, .ifCond .eq 12, 3, 29, 0, .null, [], []),
  (20, .aload_n 0, 1, 0, 0, .null, [], []),
  (21, .iload_n 1, 1, 1, 0, .null, [], []),
  (22, .iload_n 2, 1, 2, 0, .null, [], []),
  (23, .invokevirtual 122, 14, 164, 2, .int 0, [], [145]),
  (26, .goto 5, 3, 31, 0, .null, [], []),
  (29, .ldc 125, 2, 0, 0, .int (-2000000000), [], [3]),
  (31, .ireturn, 1, 0, 0, .int 0, [], []),
  (32, .iload_n 1, 1, 1, 0, .null, [], []),
  (33, .ifCond .eq 6, 3, 39, 0, .null, [], []),
  (36, .ldc 125, 2, 0, 0, .int (-2000000000), [], [3]),
  (38, .ireturn, 1, 0, 0, .int 0, [], []),
  (39, .iconst 0, 1, 0, 0, .int 0, [], []),
  (40, .istore_n 3, 1, 3, 0, .null, [], []),
  (41, .iconst 0, 1, 0, 0, .int 0, [], []),
  (42, .istore 4, 2, 4, 0, .null, [], []),
  (44, .iload 4, 2, 4, 0, .null, [], []),
  (46, .aload_n 0, 1, 0, 0, .null, [], []),
  (47, .getfield 90, 3, 11, 6, .int 0, [], [174]),
  (50, .if_icmp .ge 22, 3, 72, 0, .null, [], []),
  (53, .iload_n 3, 1, 3, 0, .null, [], []),
  (54, .aload_n 0, 1, 0, 0, .null, [], []),
  (55, .getfield 9, 3, 11, 0, .null, [], [148]),
  (58, .bipush 6, 2, 0, 0, .int 6, [], []),
  (60, .iload 4, 2, 4, 0, .null, [], []),
  (62, .iadd, 1, 0, 0, .null, [], []),
  (63, .iaload, 1, 0, 0, .null, [], []),
  (64, .iadd, 1, 0, 0, .null, [], []),
  (65, .istore_n 3, 1, 3, 0, .null, [], []),
  (66, .iinc 4 1, 3, 4, 0, .int 1, [], []),
  (69, .goto (-25), 3, 44, 0, .null, [], []),
  (72, .aload_n 0, 1, 0, 0, .null, [], []),
  (73, .getfield 9, 3, 11, 0, .null, [], [148]),
  (76, .bipush 24, 2, 0, 0, .int 24, [], []),
  (78, .iaload, 1, 0, 0, .null, [], []),
  (79, .iload_n 3, 1, 3, 0, .null, [], []),
  (80, .isub, 1, 0, 0, .null, [], []),
  (81, .istore 4, 2, 4, 0, .null, [], []),
  (83, .iload_n 2, 1, 2, 0, .null, [], []),
  (84, .tableswitch 98 10 17 #[48, 48, 48, 61, 63, 75, 88, 93], 48, 182, 0, .null, [(10, 132), (11, 132), (12, 132), (13, 145), (14, 147), (15, 159), (16, 172), (17, 177)], []),
  (132, .aload_n 0, 1, 0, 0, .null, [], []),
  (133, .getfield 9, 3, 11, 0, .null, [], [148]),
  (136, .bipush 24, 2, 0, 0, .int 24, [], []),
  (138, .iload_n 2, 1, 2, 0, .null, [], []),
  (139, .iadd, 1, 0, 0, .null, [], []),
  (140, .bipush 10, 2, 0, 0, .int 10, [], []),
  (142, .isub, 1, 0, 0, .null, [], []),
  (143, .iaload, 1, 0, 0, .null, [], []),
  (144, .ireturn, 1, 0, 0, .int 0, [], []),
  (145, .iload_n 3, 1, 3, 0, .null, [], []),
  (146, .ireturn, 1, 0, 0, .int 0, [], []),
  (147, .iload 4, 2, 4, 0, .null, [], []),
  (149, .ifCond .le 8, 3, 157, 0, .null, [], []),
  (152, .iload 4, 2, 4, 0, .null, [], []),
  (154, .goto 4, 3, 158, 0, .null, [], []),
  (157, .iconst 0, 1, 0, 0, .int 0, [], []),
  (158, .ireturn, 1, 0, 0, .int 0, [], []),
  (159, .iload 4, 2, 4, 0, .null, [], []),
  (161, .ifCond .ge 9, 3, 170, 0, .null, [], []),
  (164, .iload 4, 2, 4, 0, .null, [], []),
  (166, .ineg, 1, 0, 0, .null, [], []),
  (167, .goto 4, 3, 171, 0, .null, [], []),
  (170, .iconst 0, 1, 0, 0, .int 0, [], []),
  (171, .ireturn, 1, 0, 0, .int 0, [], []),
  (172, .aload_n 0, 1, 0, 0, .null, [], []),
  (173, .getfield 126, 3, 11, 10, .int 0, [], [175]),
  (176, .ireturn, 1, 0, 0, .int 0, [], []),
  (177, .aload_n 0, 1, 0, 0, .null, [], []),
  (178, .getfield 129, 3, 11, 9, .int 0, [], [176]),
  (181, .ireturn, 1, 0, 0, .int 0, [], []),
  (182, .ldc 125, 2, 0, 0, .int (-2000000000), [], [3]),
  (184, .ireturn, 1, 0, 0, .int 0, [], [])],
  [(44, [true, false, true, true, true])], 5)
/-- 166: LeastPaysModel.think(II)I -/
def kX11_think : j_K := ([
  (0, .aload_n 0, 1, 0, 0, .null, [], []),
  (1, .iload_n 1, 1, 1, 0, .null, [], []),
  (2, .invokevirtual 105, 14, 160, 1, .int 0, [], [142]),
  (5, .ifCond .eq 17, 3, 22, 0, .null, [], []),
  (8, .iload_n 2, 1, 2, 0, .null, [], []),
  (9, .i2l, 1, 0, 0, .null, [], []),
  (10, .ldc2_w 132, 3, 0, 0, .long (-1), [], [10]),
  (13, .ldc2_w 114, 3, 0, 0, .long 599, [], [8]),
  (16, .invokestatic 93, 3, 155, 3, .int 0, [], [140]),
  (19, .ifCond .ne 6, 3, 25, 0, .null, [], []),
  (22, .ldc 125, 2, 0, 0, .int (-2000000000), [], [3]),
  (24, .ireturn, 1, 0, 0, .int 0, [], []),
  (25, .aload_n 0, 1, 0, 0, .null, [], []),
  (26, .getfield 22, 3, 11, 7, .null, [], [152]),
  (29, .iload_n 1, 1, 1, 0, .null, [], []),
  (30, .iaload, 1, 0, 0, .null, [], []),
  (31, .istore_n 3, 1, 3, 0, .null, [], []),
  (32, .aload_n 0, 1, 0, 0, .null, [], []),
  (33, .getfield 22, 3, 11, 7, .null, [], [152]),
  (36, .iload_n 1, 1, 1, 0, .null, [], []),
  (37, .iload_n 2, 1, 2, 0, .null, [], []),
  (38, .iastore, 1, 0, 0, .null, [], []),
  (39, .iload_n 3, 1, 3, 0, .null, [], []),
  (40, .ireturn, 1, 0, 0, .int 0, [], [])],
  [], 4)
/-- 167: LeastPaysModel.laysOut()V -/
def kX11_laysOut : j_K := ([
  (0, .aload_n 0, 1, 0, 0, .null, [], []),
  (1, .aload_n 0, 1, 0, 0, .null, [], []),
  (2, .getfield 90, 3, 11, 6, .int 0, [], [174]),
  (5, .putfield 134, 3, 11, 12, .int 0, [], [177]),
  (8, .iconst 0, 1, 0, 0, .int 0, [], []),
  (9, .istore_n 1, 1, 1, 0, .null, [], []),
  (10, .iload_n 1, 1, 1, 0, .null, [], []),
  (11, .aload_n 0, 1, 0, 0, .null, [], []),
  (12, .getfield 90, 3, 11, 6, .int 0, [], [174]),
  (15, .if_icmp .ge 24, 3, 39, 0, .null, [], []),
  (18, .aload_n 0, 1, 0, 0, .null, [], []),
  (19, .getfield 28, 3, 11, 11, .null, [], [154]),
  (22, .iload_n 1, 1, 1, 0, .null, [], []),
  (23, .aload_n 0, 1, 0, 0, .null, [], []),
  (24, .getfield 9, 3, 11, 0, .null, [], [148]),
  (27, .bipush 6, 2, 0, 0, .int 6, [], []),
  (29, .iload_n 1, 1, 1, 0, .null, [], []),
  (30, .iadd, 1, 0, 0, .null, [], []),
  (31, .iaload, 1, 0, 0, .null, [], []),
  (32, .iastore, 1, 0, 0, .null, [], []),
  (33, .iinc 1 1, 3, 1, 0, .int 1, [], []),
  (36, .goto (-26), 3, 10, 0, .null, [], []),
  (39, .return_, 1, 0, 0, .null, [], [])],
  [(10, [true, true])], 2)
/-- 168: LeastPaysModel.leastBut(I)I -/
def kX11_leastBut : j_K := ([
  (0, .iconst (-1), 1, 0, 0, .int (-1), [], []),
  (1, .istore_n 2, 1, 2, 0, .null, [], []),
  (2, .iconst 0, 1, 0, 0, .int 0, [], []),
  (3, .istore_n 3, 1, 3, 0, .null, [], []),
  (4, .iload_n 3, 1, 3, 0, .null, [], []),
  (5, .aload_n 0, 1, 0, 0, .null, [], []),
  (6, .getfield 134, 3, 11, 12, .int 0, [], [177]),
  (9, .if_icmp .ge 39, 3, 48, 0, .null, [], []),
  (12, .iload_n 3, 1, 3, 0, .null, [], []),
  (13, .iload_n 1, 1, 1, 0, .null, [], []),
  (14, .if_icmp .eq 26, 3, 40, 0, .null, [], []),
  (17, .iload_n 2, 1, 2, 0, .null, [], []),
  (18, .ifCond .lt 18, 3, 36, 0, .null, [], []),
  (21, .aload_n 0, 1, 0, 0, .null, [], []),
  (22, .getfield 28, 3, 11, 11, .null, [], [154]),
  (25, .iload_n 3, 1, 3, 0, .null, [], []),
  (26, .iaload, 1, 0, 0, .null, [], []),
  (27, .aload_n 0, 1, 0, 0, .null, [], []),
  (28, .getfield 28, 3, 11, 11, .null, [], [154]),
  (31, .iload_n 2, 1, 2, 0, .null, [], []),
  (32, .iaload, 1, 0, 0, .null, [], []),
  (33, .if_icmp .ge 7, 3, 40, 0, .null, [], []),
  (36, .iload_n 3, 1, 3, 0, .null, [], []),
  (37, .goto 4, 3, 41, 0, .null, [], []),
  (40, .iload_n 2, 1, 2, 0, .null, [], []),
  (41, .istore_n 2, 1, 2, 0, .null, [], []),
  (42, .iinc 3 1, 3, 3, 0, .int 1, [], []),
  (45, .goto (-41), 3, 4, 0, .null, [], []),
  (48, .iload_n 2, 1, 2, 0, .null, [], []),
  (49, .ireturn, 1, 0, 0, .int 0, [], [])],
  [(4, [true, true, true, true])], 4)
/-- 169: LeastPaysModel.alikePay(I)V -/
def kX11_alikePay : j_K := ([
  (0, .aload_n 0, 1, 0, 0, .null, [], []),
  (1, .getfield 28, 3, 11, 11, .null, [], [154]),
  (4, .aload_n 0, 1, 0, 0, .null, [], []),
  (5, .iconst (-1), 1, 0, 0, .int (-1), [], []),
  (6, .invokevirtual 137, 14, 168, 1, .int 0, [], [146]),
  (9, .iaload, 1, 0, 0, .null, [], []),
  (10, .istore_n 2, 1, 2, 0, .null, [], []),
  (11, .iconst 0, 1, 0, 0, .int 0, [], []),
  (12, .istore_n 3, 1, 3, 0, .null, [], []),
  (13, .iconst 0, 1, 0, 0, .int 0, [], []),
  (14, .istore 4, 2, 4, 0, .null, [], []),
  (16, .iload 4, 2, 4, 0, .null, [], []),
  (18, .aload_n 0, 1, 0, 0, .null, [], []),
  (19, .getfield 134, 3, 11, 12, .int 0, [], [177]),
  (22, .if_icmp .ge 28, 3, 50, 0, .null, [], []),
  (25, .iload_n 3, 1, 3, 0, .null, [], []),
  (26, .aload_n 0, 1, 0, 0, .null, [], []),
  (27, .getfield 28, 3, 11, 11, .null, [], [154]),
  (30, .iload 4, 2, 4, 0, .null, [], []),
  (32, .iaload, 1, 0, 0, .null, [], []),
  (33, .iload_n 2, 1, 2, 0, .null, [], []),
  (34, .if_icmp .ne 7, 3, 41, 0, .null, [], []),
  (37, .iconst 1, 1, 0, 0, .int 1, [], []),
  (38, .goto 4, 3, 42, 0, .null, [], []),
  (41, .iconst 0, 1, 0, 0, .int 0, [], []),
  (42, .iadd, 1, 0, 0, .null, [], []),
  (43, .istore_n 3, 1, 3, 0, .null, [], []),
  (44, .iinc 4 1, 3, 4, 0, .int 1, [], []),
  (47, .goto (-31), 3, 16, 0, .null, [], []),
  (50, .iload_n 1, 1, 1, 0, .null, [], []),
  (51, .iload_n 3, 1, 3, 0, .null, [], []),
  (52, .irem, 1, 0, 0, .null, [], []),
  (53, .istore 4, 2, 4, 0, .null, [], []),
  (55, .iconst 0, 1, 0, 0, .int 0, [], []),
  (56, .istore 5, 2, 5, 0, .null, [], []),
  (58, .iload 5, 2, 5, 0, .null, [], []),
  (60, .aload_n 0, 1, 0, 0, .null, [], []),
  (61, .getfield 134, 3, 11, 12, .int 0, [], [177]),
  (64, .if_icmp .ge 44, 3, 108, 0, .null, [], []),
  (67, .aload_n 0, 1, 0, 0, .null, [], []),
  (68, .getfield 28, 3, 11, 11, .null, [], [154]),
  (71, .iload 5, 2, 5, 0, .null, [], []),
  (73, .iaload, 1, 0, 0, .null, [], []),
  (74, .iload_n 2, 1, 2, 0, .null, [], []),
  (75, .if_icmp .ne 27, 3, 102, 0, .null, [], []),
  (78, .aload_n 0, 1, 0, 0, .null, [], []),
  (79, .getfield 31, 3, 11, 13, .null, [], [155]),
  (82, .iload 5, 2, 5, 0, .null, [], []),
  (84, .iload_n 1, 1, 1, 0, .null, [], []),
  (85, .iload_n 3, 1, 3, 0, .null, [], []),
  (86, .idiv, 1, 0, 0, .null, [], []),
  (87, .iload 4, 2, 4, 0, .null, [], []),
  (89, .ifCond .le 7, 3, 96, 0, .null, [], []),
  (92, .iconst 1, 1, 0, 0, .int 1, [], []),
  (93, .goto 4, 3, 97, 0, .null, [], []),
  (96, .iconst 0, 1, 0, 0, .int 0, [], []),
  (97, .iadd, 1, 0, 0, .null, [], []),
  (98, .iastore, 1, 0, 0, .null, [], []),
  (99, .iinc 4 (-1), 3, 4, 0, .int (-1), [], []),
  (102, .iinc 5 1, 3, 5, 0, .int 1, [], []),
  (105, .goto (-47), 3, 58, 0, .null, [], []),
  (108, .return_, 1, 0, 0, .null, [], [])],
  [(16, [true, true, true, true, true, false]), (58, [true, true, true, true, true, true])], 6)
/-- 170: LeastPaysModel.twoPay(I)V -/
def kX11_twoPay : j_K := ([
  (0, .aload_n 0, 1, 0, 0, .null, [], []),
  (1, .iconst (-1), 1, 0, 0, .int (-1), [], []),
  (2, .invokevirtual 137, 14, 168, 1, .int 0, [], [146]),
  (5, .istore_n 2, 1, 2, 0, .null, [], []),
  (6, .aload_n 0, 1, 0, 0, .null, [], []),
  (7, .iload_n 2, 1, 2, 0, .null, [], []),
  (8, .invokevirtual 137, 14, 168, 1, .int 0, [], [146]),
  (11, .istore_n 3, 1, 3, 0, .null, [], []),
  (12, .aload_n 0, 1, 0, 0, .null, [], []),
  (13, .getfield 31, 3, 11, 13, .null, [], [155]),
  (16, .iload_n 2, 1, 2, 0, .null, [], []),
  (17, .iload_n 3, 1, 3, 0, .null, [], []),
  (18, .ifCond .ge 7, 3, 25, 0, .null, [], []),
  (21, .iload_n 1, 1, 1, 0, .null, [], []),
  (22, .goto 8, 3, 30, 0, .null, [], []),
  (25, .iload_n 1, 1, 1, 0, .null, [], []),
  (26, .iload_n 1, 1, 1, 0, .null, [], []),
  (27, .iconst 2, 1, 0, 0, .int 2, [], []),
  (28, .idiv, 1, 0, 0, .null, [], []),
  (29, .isub, 1, 0, 0, .null, [], []),
  (30, .iastore, 1, 0, 0, .null, [], []),
  (31, .iload_n 3, 1, 3, 0, .null, [], []),
  (32, .ifCond .lt 12, 3, 44, 0, .null, [], []),
  (35, .aload_n 0, 1, 0, 0, .null, [], []),
  (36, .getfield 31, 3, 11, 13, .null, [], [155]),
  (39, .iload_n 3, 1, 3, 0, .null, [], []),
  (40, .iload_n 1, 1, 1, 0, .null, [], []),
  (41, .iconst 2, 1, 0, 0, .int 2, [], []),
  (42, .idiv, 1, 0, 0, .null, [], []),
  (43, .iastore, 1, 0, 0, .null, [], []),
  (44, .return_, 1, 0, 0, .null, [], [])],
  [], 4)
/-- 171: LeastPaysModel.givesBack(I)V -/
def kX11_givesBack : j_K := ([
  (0, .iconst 0, 1, 0, 0, .int 0, [], []),
  (1, .istore_n 2, 1, 2, 0, .null, [], []),
  (2, .iconst 1, 1, 0, 0, .int 1, [], []),
  (3, .istore_n 3, 1, 3, 0, .null, [], []),
  (4, .iload_n 3, 1, 3, 0, .null, [], []),
  (5, .aload_n 0, 1, 0, 0, .null, [], []),
  (6, .getfield 134, 3, 11, 12, .int 0, [], [177]),
  (9, .if_icmp .ge 30, 3, 39, 0, .null, [], []),
  (12, .aload_n 0, 1, 0, 0, .null, [], []),
  (13, .getfield 28, 3, 11, 11, .null, [], [154]),
  (16, .iload_n 3, 1, 3, 0, .null, [], []),
  (17, .iaload, 1, 0, 0, .null, [], []),
  (18, .aload_n 0, 1, 0, 0, .null, [], []),
  (19, .getfield 28, 3, 11, 11, .null, [], [154]),
  (22, .iload_n 2, 1, 2, 0, .null, [], []),
  (23, .iaload, 1, 0, 0, .null, [], []),
  (24, .if_icmp .le 7, 3, 31, 0, .null, [], []),
  (27, .iload_n 3, 1, 3, 0, .null, [], []),
  (28, .goto 4, 3, 32, 0, .null, [], []),
  (31, .iload_n 2, 1, 2, 0, .null, [], []),
  (32, .istore_n 2, 1, 2, 0, .null, [], []),
  (33, .iinc 3 1, 3, 3, 0, .int 1, [], []),
  (36, .goto (-32), 3, 4, 0, .null, [], []),
  (39, .aload_n 0, 1, 0, 0, .null, [], []),
  (40, .getfield 34, 3, 11, 14, .null, [], [156]),
  (43, .iload_n 2, 1, 2, 0, .null, [], []),
  (44, .iload_n 1, 1, 1, 0, .null, [], []),
  (45, .aload_n 0, 1, 0, 0, .null, [], []),
  (46, .getfield 28, 3, 11, 11, .null, [], [154]),
  (49, .iload_n 2, 1, 2, 0, .null, [], []),
  (50, .iaload, 1, 0, 0, .null, [], []),
  (51, .if_icmp .ge 7, 3, 58, 0, .null, [], []),
  (54, .iload_n 1, 1, 1, 0, .null, [], []),
  (55, .goto 9, 3, 64, 0, .null, [], []),
  (58, .aload_n 0, 1, 0, 0, .null, [], []),
  (59, .getfield 28, 3, 11, 11, .null, [], [154]),
  (62, .iload_n 2, 1, 2, 0, .null, [], []),
  (63, .iaload, 1, 0, 0, .null, [], []),
  (64, .iastore, 1, 0, 0, .null, [], []),
  (65, .aload_n 0, 1, 0, 0, .null, [], []),
  (66, .iload_n 1, 1, 1, 0, .null, [], []),
  (67, .aload_n 0, 1, 0, 0, .null, [], []),
  (68, .getfield 34, 3, 11, 14, .null, [], [156]),
  (71, .iload_n 2, 1, 2, 0, .null, [], []),
  (72, .iaload, 1, 0, 0, .null, [], []),
  (73, .isub, 1, 0, 0, .null, [], []),
  (74, .putfield 140, 3, 11, 15, .int 0, [], [178]),
  (77, .return_, 1, 0, 0, .null, [], [])],
  [(4, [true, true, true, true])], 4)
/-- 172: LeastPaysModel.nightBy(II)V -/
def kX11_nightBy : j_K := ([
  (0, .iconst 0, 1, 0, 0, .int 0, [], []),
  (1, .istore_n 3, 1, 3, 0, .null, [], []),
  (2, .iconst 0, 1, 0, 0, .int 0, [], []),
  (3, .istore 4, 2, 4, 0, .null, [], []),
  (5, .iload 4, 2, 4, 0, .null, [], []),
  (7, .aload_n 0, 1, 0, 0, .null, [], []),
  (8, .getfield 134, 3, 11, 12, .int 0, [], [177]),
  (11, .if_icmp .ge 35, 3, 46, 0, .null, [], []),
  (14, .iload_n 3, 1, 3, 0, .null, [], []),
  (15, .aload_n 0, 1, 0, 0, .null, [], []),
  (16, .getfield 28, 3, 11, 11, .null, [], [154]),
  (19, .iload 4, 2, 4, 0, .null, [], []),
  (21, .iaload, 1, 0, 0, .null, [], []),
  (22, .iadd, 1, 0, 0, .null, [], []),
  (23, .istore_n 3, 1, 3, 0, .null, [], []),
  (24, .aload_n 0, 1, 0, 0, .null, [], []),
  (25, .getfield 31, 3, 11, 13, .null, [], [155]),
  (28, .iload 4, 2, 4, 0, .null, [], []),
  (30, .iconst 0, 1, 0, 0, .int 0, [], []),
  (31, .iastore, 1, 0, 0, .null, [], []),
  (32, .aload_n 0, 1, 0, 0, .null, [], []),
  (33, .getfield 34, 3, 11, 14, .null, [], [156]),
  (36, .iload 4, 2, 4, 0, .null, [], []),
  (38, .iconst 0, 1, 0, 0, .int 0, [], []),
  (39, .iastore, 1, 0, 0, .null, [], []),
  (40, .iinc 4 1, 3, 4, 0, .int 1, [], []),
  (43, .goto (-38), 3, 5, 0, .null, [], []),
  (46, .iload_n 1, 1, 1, 0, .null, [], []),
  (47, .iload_n 3, 1, 3, 0, .null, [], []),
  (48, .if_icmp .le 9, 3, 57, 0, .null, [], []),
  (51, .iload_n 1, 1, 1, 0, .null, [], []),
  (52, .iload_n 3, 1, 3, 0, .null, [], []),
  (53, .isub, 1, 0, 0, .null, [], []),
  (54, .goto 4, 3, 58, 0, .null, [], []),
  (57, .iconst 0, 1, 0, 0, .int 0, [], []),
  (58, .istore 4, 2, 4, 0, .null, [], []),
  (60, .iload_n 3, 1, 3, 0, .null, [], []),
  (61, .iload_n 1, 1, 1, 0, .null, [], []),
  (62, .if_icmp .le 9, 3, 71, 0, .null, [], []),
  (65, .iload_n 3, 1, 3, 0, .null, [], []),
  (66, .iload_n 1, 1, 1, 0, .null, [], []),
  (67, .isub, 1, 0, 0, .null, [], []),
  (68, .goto 4, 3, 72, 0, .null, [], []),
  (71, .iconst 0, 1, 0, 0, .int 0, [], []),
  (72, .istore 5, 2, 5, 0, .null, [], []),
  (74, .aload_n 0, 1, 0, 0, .null, [], []),
  (75, .iload 5, 2, 5, 0, .null, [], []),
  (77, .putfield 140, 3, 11, 15, .int 0, [], [178]),
  (80, .aload_n 0, 1, 0, 0, .null, [], []),
  (81, .getfield 134, 3, 11, 12, .int 0, [], [177]),
  (84, .ifCond .ne 4, 3, 88, 0, .null, [], []),
  (87, .return_, 1, 0, 0, .null, [], []),
  (88, .aload_n 0, 1, 0, 0, .null, [], []),
  (89, .iconst (-1), 1, 0, 0, .int (-1), [], []),
  (90, .invokevirtual 137, 14, 168, 1, .int 0, [], [146]),
  (93, .istore 6, 2, 6, 0, .null, [], []),
  (95, .iload_n 2, 1, 2, 0, .null, [], []),
  (96, .ifCond .ne 12, 3, 108, 0, .null, [], []),
  (99, .aload_n 0, 1, 0, 0, .null, [], []),
  (100, .iload 4, 2, 4, 0, .null, [], []),
  (102, .invokevirtual 143, 14, 169, 1, .null, [], [147]),
  (105, .goto 68, 3, 173, 0, .null, [], []),
  (108, .iload_n 2, 1, 2, 0, .null, [], []),
  (109, .iconst 2, 1, 0, 0, .int 2, [], []),
  (110, .if_icmp .ne 12, 3, 122, 0, .null, [], []),
  (113, .aload_n 0, 1, 0, 0, .null, [], []),
  (114, .iload 4, 2, 4, 0, .null, [], []),
  (116, .invokevirtual 147, 14, 170, 1, .null, [], [148]),
  (119, .goto 54, 3, 173, 0, .null, [], []),
  (122, .aload_n 0, 1, 0, 0, .null, [], []),
  (123, .getfield 31, 3, 11, 13, .null, [], [155]),
  (126, .iload 6, 2, 6, 0, .null, [], []),
  (128, .iload 4, 2, 4, 0, .null, [], []),
  (130, .iload_n 2, 1, 2, 0, .null, [], []),
  (131, .iconst 3, 1, 0, 0, .int 3, [], []),
  (132, .if_icmp .ne 13, 3, 145, 0, .null, [], []),
  (135, .aload_n 0, 1, 0, 0, .null, [], []),
  (136, .getfield 28, 3, 11, 11, .null, [], [154]),
  (139, .iload 6, 2, 6, 0, .null, [], []),
  (141, .iaload, 1, 0, 0, .null, [], []),
  (142, .goto 4, 3, 146, 0, .null, [], []),
  (145, .iconst 0, 1, 0, 0, .int 0, [], []),
  (146, .iadd, 1, 0, 0, .null, [], []),
  (147, .iastore, 1, 0, 0, .null, [], []),
  (148, .aload_n 0, 1, 0, 0, .null, [], []),
  (149, .dup, 1, 0, 0, .null, [], []),
  (150, .getfield 140, 3, 11, 15, .int 0, [], [178]),
  (153, .iload_n 2, 1, 2, 0, .null, [], []),
  (154, .iconst 3, 1, 0, 0, .int 3, [], []),
  (155, .if_icmp .ne 13, 3, 168, 0, .null, [], []),
  (158, .aload_n 0, 1, 0, 0, .null, [], []),
  (159, .getfield 28, 3, 11, 11, .null, [], [154]),
  (162, .iload 6, 2, 6, 0, .null, [], []),
  (164, .iaload, 1, 0, 0, .null, [], []),
  (165, .goto 4, 3, 169, 0, .null, [], []),
  (168, .iconst 0, 1, 0, 0, .int 0, [], []),
  (169, .iadd, 1, 0, 0, .null, [], []),
  (170, .putfield 140, 3, 11, 15, .int 0, [], [178]),
  (173, .iload_n 2, 1, 2, 0, .null, [], []),
  (174, .iconst 4, 1, 0, 0, .int 4, [], []),
  (175, .if_icmp .ne 9, 3, 184, 0, .null, [], []),
  (178, .aload_n 0, 1, 0, 0, .null, [], []),
  (179, .iload 5, 2, 5, 0, .null, [], []),
  (181, .invokevirtual 150, 14, 171, 1, .null, [], [149]),
  (184, .return_, 1, 0, 0, .null, [], [])],
  [(5, [true, true, true, true, true, false, false]), (72, [true, false, true, false, true, false, false]), (146, [true, false, true, false, false, true, true])], 7)
/-- 173: LeastPaysModel.nightAsIs()V -/
def kX11_nightAsIs : j_K := ([
  (0, .aload_n 0, 1, 0, 0, .null, [], []),
  (1, .aload_n 0, 1, 0, 0, .null, [], []),
  (2, .getfield 9, 3, 11, 0, .null, [], [148]),
  (5, .bipush 24, 2, 0, 0, .int 24, [], []),
  (7, .iaload, 1, 0, 0, .null, [], []),
  (8, .aload_n 0, 1, 0, 0, .null, [], []),
  (9, .getfield 9, 3, 11, 0, .null, [], [148]),
  (12, .bipush 25, 2, 0, 0, .int 25, [], []),
  (14, .iaload, 1, 0, 0, .null, [], []),
  (15, .invokevirtual 153, 14, 172, 2, .null, [], [150]),
  (18, .return_, 1, 0, 0, .null, [], [])],
  [], 1)
/-- 174: LeastPaysModel.costIn(I)I -/
def kX11_costIn : j_K := ([
  (0, .aload_n 0, 1, 0, 0, .null, [], []),
  (1, .getfield 28, 3, 11, 11, .null, [], [154]),
  (4, .iload_n 1, 1, 1, 0, .null, [], []),
  (5, .iaload, 1, 0, 0, .null, [], []),
  (6, .aload_n 0, 1, 0, 0, .null, [], []),
  (7, .getfield 31, 3, 11, 13, .null, [], [155]),
  (10, .iload_n 1, 1, 1, 0, .null, [], []),
  (11, .iaload, 1, 0, 0, .null, [], []),
  (12, .iadd, 1, 0, 0, .null, [], []),
  (13, .aload_n 0, 1, 0, 0, .null, [], []),
  (14, .getfield 34, 3, 11, 14, .null, [], [156]),
  (17, .iload_n 1, 1, 1, 0, .null, [], []),
  (18, .iaload, 1, 0, 0, .null, [], []),
  (19, .isub, 1, 0, 0, .null, [], []),
  (20, .ireturn, 1, 0, 0, .int 0, [], [])],
  [], 2)
/-- 175: LeastPaysModel.costNow(I)I -/
def kX11_costNow : j_K := ([
  (0, .aload_n 0, 1, 0, 0, .null, [], []),
  (1, .invokevirtual 157, 14, 167, 0, .null, [], [151]),
  (4, .aload_n 0, 1, 0, 0, .null, [], []),
  (5, .invokevirtual 160, 14, 173, 0, .null, [], [152]),
  (8, .aload_n 0, 1, 0, 0, .null, [], []),
  (9, .iload_n 1, 1, 1, 0, .null, [], []),
  (10, .invokevirtual 163, 14, 174, 1, .int 0, [], [153]),
  (13, .ireturn, 1, 0, 0, .int 0, [], [])],
  [], 2)
/-- 176: LeastPaysModel.costBy(II)I -/
def kX11_costBy : j_K := ([
  (0, .aload_n 0, 1, 0, 0, .null, [], []),
  (1, .getfield 28, 3, 11, 11, .null, [], [154]),
  (4, .iload_n 1, 1, 1, 0, .null, [], []),
  (5, .iaload, 1, 0, 0, .null, [], []),
  (6, .istore_n 3, 1, 3, 0, .null, [], []),
  (7, .aload_n 0, 1, 0, 0, .null, [], []),
  (8, .getfield 28, 3, 11, 11, .null, [], [154]),
  (11, .iload_n 1, 1, 1, 0, .null, [], []),
  (12, .iload_n 2, 1, 2, 0, .null, [], []),
  (13, .iastore, 1, 0, 0, .null, [], []),
  (14, .aload_n 0, 1, 0, 0, .null, [], []),
  (15, .invokevirtual 160, 14, 173, 0, .null, [], [152]),
  (18, .aload_n 0, 1, 0, 0, .null, [], []),
  (19, .iload_n 1, 1, 1, 0, .null, [], []),
  (20, .invokevirtual 163, 14, 174, 1, .int 0, [], [153]),
  (23, .istore 4, 2, 4, 0, .null, [], []),
  (25, .aload_n 0, 1, 0, 0, .null, [], []),
  (26, .getfield 28, 3, 11, 11, .null, [], [154]),
  (29, .iload_n 1, 1, 1, 0, .null, [], []),
  (30, .iload_n 3, 1, 3, 0, .null, [], []),
  (31, .iastore, 1, 0, 0, .null, [], []),
  (32, .iload 4, 2, 4, 0, .null, [], []),
  (34, .ireturn, 1, 0, 0, .int 0, [], [])],
  [], 5)
/-- 177: LeastPaysModel.leastCost(I)I -/
def kX11_leastCost : j_K := ([
  (0, .iconst (-1), 1, 0, 0, .int (-1), [], []),
  (1, .istore_n 2, 1, 2, 0, .null, [], []),
  (2, .iconst 0, 1, 0, 0, .int 0, [], []),
  (3, .istore_n 3, 1, 3, 0, .null, [], []),
  (4, .iload_n 3, 1, 3, 0, .null, [], []),
  (5, .aload_n 0, 1, 0, 0, .null, [], []),
  (6, .getfield 9, 3, 11, 0, .null, [], [148]),
  (9, .iload_n 1, 1, 1, 0, .null, [], []),
  (10, .iaload, 1, 0, 0, .null, [], []),
  (11, .if_icmp .gt 42, 3, 53, 0, .null, [], []),
  (14, .aload_n 0, 1, 0, 0, .null, [], []),
  (15, .iload_n 1, 1, 1, 0, .null, [], []),
  (16, .iload_n 3, 1, 3, 0, .null, [], []),
  (17, .invokevirtual 166, 14, 176, 2, .int 0, [], [154]),
  (20, .istore 4, 2, 4, 0, .null, [], []),
  (22, .iload_n 2, 1, 2, 0, .null, [], []),
  (23, .ifCond .lt 9, 3, 32, 0, .null, [], []),
  (26, .iload 4, 2, 4, 0, .null, [], []),
  (28, .iload_n 2, 1, 2, 0, .null, [], []),
  (29, .if_icmp .ge 11, 3, 40, 0, .null, [], []),
  (32, .iload 4, 2, 4, 0, .null, [], []),
  (34, .istore_n 2, 1, 2, 0, .null, [], []),
  (35, .aload_n 0, 1, 0, 0, .null, [], []),
  (36, .iload_n 3, 1, 3, 0, .null, [], []),
  (37, .putfield 169, 3, 11, 16, .int 0, [], [179]),
  (40, .iload_n 3, 1, 3, 0, .null, [], []),
  (41, .aload_n 0, 1, 0, 0, .null, [], []),
  (42, .getfield 9, 3, 11, 0, .null, [], [148]),
  (45, .bipush 26, 2, 0, 0, .int 26, [], []),
  (47, .iaload, 1, 0, 0, .null, [], []),
  (48, .iadd, 1, 0, 0, .null, [], []),
  (49, .istore_n 3, 1, 3, 0, .null, [], []),
  (50, .goto (-46), 3, 4, 0, .null, [], []),
  (53, .iload_n 2, 1, 2, 0, .null, [], []),
  (54, .ireturn, 1, 0, 0, .int 0, [], [])],
  [(4, [true, true, true, true, false])], 5)
/-- 178: LeastPaysModel.putIn(II)I -/
def kX11_putIn : j_K := ([
  (0, .aload_n 0, 1, 0, 0, .null, [], []),
  (1, .iload_n 1, 1, 1, 0, .null, [], []),
  (2, .invokevirtual 105, 14, 160, 1, .int 0, [], [142]),
  (5, .ifCond .eq 13, 3, 18, 0, .null, [], []),
  (8, .iload_n 2, 1, 2, 0, .null, [], []),
  (9, .i2l, 1, 0, 0, .null, [], []),
  (10, .lconst 0, 1, 0, 0, .long 0, [], []),
  (11, .lconst 1, 1, 0, 0, .long 1, [], []),
  (12, .invokestatic 93, 3, 155, 3, .int 0, [], [140]),
  (15, .ifCond .ne 6, 3, 21, 0, .null, [], []),
  (18, .ldc 125, 2, 0, 0, .int (-2000000000), [], [3]),
  (20, .ireturn, 1, 0, 0, .int 0, [], []),
  (21, .aload_n 0, 1, 0, 0, .null, [], []),
  (22, .invokevirtual 157, 14, 167, 0, .null, [], [151]),
  (25, .aload_n 0, 1, 0, 0, .null, [], []),
  (26, .iload_n 1, 1, 1, 0, .null, [], []),
  (27, .invokevirtual 172, 14, 177, 1, .int 0, [], [155]),
  (30, .istore_n 3, 1, 3, 0, .null, [], []),
  (31, .iload_n 2, 1, 2, 0, .null, [], []),
  (32, .ifCond .ne 10, 3, 42, 0, .null, [], []),
  (35, .aload_n 0, 1, 0, 0, .null, [], []),
  (36, .getfield 169, 3, 11, 16, .int 0, [], [179]),
  (39, .goto 4, 3, 43, 0, .null, [], []),
  (42, .iload_n 3, 1, 3, 0, .null, [], []),
  (43, .ireturn, 1, 0, 0, .int 0, [], [])],
  [], 4)
/-- 179: LeastPaysModel.common(JJ)J -/
def kX11_common : j_K := ([
  (0, .lload_n 0, 1, 0, 0, .null, [], []),
  (1, .lstore 4, 2, 4, 0, .null, [], []),
  (3, .lload_n 2, 1, 2, 0, .null, [], []),
  (4, .lstore 6, 2, 6, 0, .null, [], []),
  (6, .lload 6, 2, 6, 0, .null, [], []),
  (8, .lconst 0, 1, 0, 0, .long 0, [], []),
  (9, .lcmp, 1, 0, 0, .null, [], []),
  (10, .ifCond .eq 21, 3, 31, 0, .null, [], []),
  (13, .lload 4, 2, 4, 0, .null, [], []),
  (15, .lload 6, 2, 6, 0, .null, [], []),
  (17, .lrem, 1, 0, 0, .null, [], []),
  (18, .lstore 8, 2, 8, 0, .null, [], []),
  (20, .lload 6, 2, 6, 0, .null, [], []),
  (22, .lstore 4, 2, 4, 0, .null, [], []),
  (24, .lload 8, 2, 8, 0, .null, [], []),
  (26, .lstore 6, 2, 6, 0, .null, [], []),
  (28, .goto (-22), 3, 6, 0, .null, [], []),
  (31, .lload 4, 2, 4, 0, .null, [], []),
  (33, .lreturn, 1, 0, 0, .null, [], [])],
  [(6, [false, false, false, false, true, false, true, false, false, false])], 10)
/-- 180: LeastPaysModel.partOf(JJI)J -/
def kX11_partOf : j_K := ([
  (0, .lload_n 0, 1, 0, 0, .null, [], []),
  (1, .lconst 0, 1, 0, 0, .long 0, [], []),
  (2, .lcmp, 1, 0, 0, .null, [], []),
  (3, .ifCond .ne 7, 3, 10, 0, .null, [], []),
  (6, .iload 4, 2, 4, 0, .null, [], []),
  (8, .i2l, 1, 0, 0, .null, [], []),
  (9, .lreturn, 1, 0, 0, .null, [], []),
  (10, .lload_n 0, 1, 0, 0, .null, [], []),
  (11, .lload_n 2, 1, 2, 0, .null, [], []),
  (12, .invokestatic 175, 3, 179, 2, .long 0, [], [156]),
  (15, .lstore 5, 2, 5, 0, .null, [], []),
  (17, .iload 4, 2, 4, 0, .null, [], []),
  (19, .ifCond .ne 10, 3, 29, 0, .null, [], []),
  (22, .lload_n 0, 1, 0, 0, .null, [], []),
  (23, .lload 5, 2, 5, 0, .null, [], []),
  (25, .ldiv, 1, 0, 0, .null, [], []),
  (26, .goto 7, 3, 33, 0, .null, [], []),
  (29, .lload_n 2, 1, 2, 0, .null, [], []),
  (30, .lload 5, 2, 5, 0, .null, [], []),
  (32, .ldiv, 1, 0, 0, .null, [], []),
  (33, .lreturn, 1, 0, 0, .null, [], [])],
  [], 7)
/-- 181: LeastPaysModel.meanOf(II)J -/
def kX11_meanOf : j_K := ([
  (0, .lconst 0, 1, 0, 0, .long 0, [], []),
  (1, .lstore_n 3, 1, 3, 0, .null, [], []),
  (2, .iconst 0, 1, 0, 0, .int 0, [], []),
  (3, .istore 5, 2, 5, 0, .null, [], []),
  (5, .iload 5, 2, 5, 0, .null, [], []),
  (7, .iconst 1, 1, 0, 0, .int 1, [], []),
  (8, .aload_n 0, 1, 0, 0, .null, [], []),
  (9, .getfield 90, 3, 11, 6, .int 0, [], [174]),
  (12, .ishl, 1, 0, 0, .null, [], []),
  (13, .if_icmp .ge 169, 3, 182, 0, .null, [], []),
  (16, .iload 5, 2, 5, 0, .null, [], []),
  (18, .iload_n 1, 1, 1, 0, .null, [], []),
  (19, .ishr, 1, 0, 0, .null, [], []),
  (20, .iconst 1, 1, 0, 0, .int 1, [], []),
  (21, .iand, 1, 0, 0, .null, [], []),
  (22, .iconst 1, 1, 0, 0, .int 1, [], []),
  (23, .if_icmp .ne 6, 3, 29, 0, .null, [], []),
  (26, .goto 150, 3, 176, 0, .null, [], []),
  (29, .aload_n 0, 1, 0, 0, .null, [], []),
  (30, .invokevirtual 157, 14, 167, 0, .null, [], [151]),
  (33, .lconst 1, 1, 0, 0, .long 1, [], []),
  (34, .lstore 6, 2, 6, 0, .null, [], []),
  (36, .iconst 0, 1, 0, 0, .int 0, [], []),
  (37, .istore 8, 2, 8, 0, .null, [], []),
  (39, .iload 8, 2, 8, 0, .null, [], []),
  (41, .aload_n 0, 1, 0, 0, .null, [], []),
  (42, .getfield 90, 3, 11, 6, .int 0, [], [174]),
  (45, .if_icmp .ge 107, 3, 152, 0, .null, [], []),
  (48, .iload 5, 2, 5, 0, .null, [], []),
  (50, .iload 8, 2, 8, 0, .null, [], []),
  (52, .ishr, 1, 0, 0, .null, [], []),
  (53, .iconst 1, 1, 0, 0, .int 1, [], []),
  (54, .iand, 1, 0, 0, .null, [], []),
  (55, .iconst 1, 1, 0, 0, .int 1, [], []),
  (56, .if_icmp .ne 7, 3, 63, 0, .null, [], []),
  (59, .iconst 1, 1, 0, 0, .int 1, [], []),
  (60, .goto 4, 3, 64, 0, .null, [], []),
  (63, .iconst 0, 1, 0, 0, .int 0, [], []),
  (64, .istore 9, 2, 9, 0, .null, [], []),
  (66, .aload_n 0, 1, 0, 0, .null, [], []),
  (67, .getfield 28, 3, 11, 11, .null, [], [154]),
  (70, .iload 8, 2, 8, 0, .null, [], []),
  (72, .iload 9, 2, 9, 0, .null, [], []),
  (74, .ifCond .eq 16, 3, 90, 0, .null, [], []),
  (77, .aload_n 0, 1, 0, 0, .null, [], []),
  (78, .getfield 9, 3, 11, 0, .null, [], [148]),
  (81, .bipush 18, 2, 0, 0, .int 18, [], []),
  (83, .iload 8, 2, 8, 0, .null, [], []),
  (85, .iadd, 1, 0, 0, .null, [], []),
  (86, .iaload, 1, 0, 0, .null, [], []),
  (87, .goto 10, 3, 97, 0, .null, [], []),
  (90, .aload_n 0, 1, 0, 0, .null, [], []),
  (91, .getfield 28, 3, 11, 11, .null, [], [154]),
  (94, .iload 8, 2, 8, 0, .null, [], []),
  (96, .iaload, 1, 0, 0, .null, [], []),
  (97, .iastore, 1, 0, 0, .null, [], []),
  (98, .lload 6, 2, 6, 0, .null, [], []),
  (100, .iload 8, 2, 8, 0, .null, [], []),
  (102, .iload_n 1, 1, 1, 0, .null, [], []),
  (103, .if_icmp .ne 7, 3, 110, 0, .null, [], []),
  (106, .lconst 1, 1, 0, 0, .long 1, [], []),
  (107, .goto 36, 3, 143, 0, .null, [], []),
  (110, .iload 9, 2, 9, 0, .null, [], []),
  (112, .ifCond .eq 17, 3, 129, 0, .null, [], []),
  (115, .aload_n 0, 1, 0, 0, .null, [], []),
  (116, .getfield 9, 3, 11, 0, .null, [], [148]),
  (119, .bipush 12, 2, 0, 0, .int 12, [], []),
  (121, .iload 8, 2, 8, 0, .null, [], []),
  (123, .iadd, 1, 0, 0, .null, [], []),
  (124, .iaload, 1, 0, 0, .null, [], []),
  (125, .i2l, 1, 0, 0, .null, [], []),
  (126, .goto 17, 3, 143, 0, .null, [], []),
  (129, .bipush 12, 2, 0, 0, .int 12, [], []),
  (131, .aload_n 0, 1, 0, 0, .null, [], []),
  (132, .getfield 9, 3, 11, 0, .null, [], [148]),
  (135, .bipush 12, 2, 0, 0, .int 12, [], []),
  (137, .iload 8, 2, 8, 0, .null, [], []),
  (139, .iadd, 1, 0, 0, .null, [], []),
  (140, .iaload, 1, 0, 0, .null, [], []),
  (141, .isub, 1, 0, 0, .null, [], []),
  (142, .i2l, 1, 0, 0, .null, [], []),
  (143, .lmul, 1, 0, 0, .null, [], []),
  (144, .lstore 6, 2, 6, 0, .null, [], []),
  (146, .iinc 8 1, 3, 8, 0, .int 1, [], []),
  (149, .goto (-110), 3, 39, 0, .null, [], []),
  (152, .lload_n 3, 1, 3, 0, .null, [], []),
  (153, .lload 6, 2, 6, 0, .null, [], []),
  (155, .lconst 0, 1, 0, 0, .long 0, [], []),
  (156, .lcmp, 1, 0, 0, .null, [], []),
  (157, .ifCond .ne 7, 3, 164, 0, .null, [], []),
  (160, .lconst 0, 1, 0, 0, .long 0, [], []),
  (161, .goto 13, 3, 174, 0, .null, [], []),
  (164, .lload 6, 2, 6, 0, .null, [], []),
  (166, .aload_n 0, 1, 0, 0, .null, [], []),
  (167, .iload_n 1, 1, 1, 0, .null, [], []),
  (168, .iload_n 2, 1, 2, 0, .null, [], []),
  (169, .invokevirtual 166, 14, 176, 2, .int 0, [], [154]),
  (172, .i2l, 1, 0, 0, .null, [], []),
  (173, .lmul, 1, 0, 0, .null, [], []),
  (174, .ladd, 1, 0, 0, .null, [], []),
  (175, .lstore_n 3, 1, 3, 0, .null, [], []),
  (176, .iinc 5 1, 3, 5, 0, .int 1, [], []),
  (179, .goto (-174), 3, 5, 0, .null, [], []),
  (182, .lload_n 3, 1, 3, 0, .null, [], []),
  (183, .lreturn, 1, 0, 0, .null, [], [])],
  [(5, [true, true, true, true, false, true, false, false, false, false]), (39, [true, true, true, true, false, true, true, false, true, false]), (97, [true, true, true, true, false, true, true, false, true, true])], 10)
/-- 182: LeastPaysModel.wholeOf()J -/
def kX11_wholeOf : j_K := ([
  (0, .lconst 1, 1, 0, 0, .long 1, [], []),
  (1, .lstore_n 1, 1, 1, 0, .null, [], []),
  (2, .iconst 1, 1, 0, 0, .int 1, [], []),
  (3, .istore_n 3, 1, 3, 0, .null, [], []),
  (4, .iload_n 3, 1, 3, 0, .null, [], []),
  (5, .aload_n 0, 1, 0, 0, .null, [], []),
  (6, .getfield 90, 3, 11, 6, .int 0, [], [174]),
  (9, .if_icmp .ge 15, 3, 24, 0, .null, [], []),
  (12, .lload_n 1, 1, 1, 0, .null, [], []),
  (13, .ldc2_w 112, 3, 0, 0, .long 12, [], [7]),
  (16, .lmul, 1, 0, 0, .null, [], []),
  (17, .lstore_n 1, 1, 1, 0, .null, [], []),
  (18, .iinc 3 1, 3, 3, 0, .int 1, [], []),
  (21, .goto (-17), 3, 4, 0, .null, [], []),
  (24, .lload_n 1, 1, 1, 0, .null, [], []),
  (25, .lreturn, 1, 0, 0, .null, [], [])],
  [(4, [true, true, false, true])], 4)
/-- 183: LeastPaysModel.mean(III)J -/
def kX11_mean : j_K := ([
  (0, .aload_n 0, 1, 0, 0, .null, [], []),
  (1, .iload_n 1, 1, 1, 0, .null, [], []),
  (2, .invokevirtual 105, 14, 160, 1, .int 0, [], [142]),
  (5, .ifCond .eq 29, 3, 34, 0, .null, [], []),
  (8, .iload_n 2, 1, 2, 0, .null, [], []),
  (9, .i2l, 1, 0, 0, .null, [], []),
  (10, .lconst 0, 1, 0, 0, .long 0, [], []),
  (11, .aload_n 0, 1, 0, 0, .null, [], []),
  (12, .getfield 9, 3, 11, 0, .null, [], [148]),
  (15, .iload_n 1, 1, 1, 0, .null, [], []),
  (16, .iaload, 1, 0, 0, .null, [], []),
  (17, .i2l, 1, 0, 0, .null, [], []),
  (18, .invokestatic 93, 3, 155, 3, .int 0, [], [140]),
  (21, .ifCond .eq 13, 3, 34, 0, .null, [], []),
  (24, .iload_n 3, 1, 3, 0, .null, [], []),
  (25, .i2l, 1, 0, 0, .null, [], []),
  (26, .lconst 0, 1, 0, 0, .long 0, [], []),
  (27, .lconst 1, 1, 0, 0, .long 1, [], []),
  (28, .invokestatic 93, 3, 155, 3, .int 0, [], [140]),
  (31, .ifCond .ne 7, 3, 38, 0, .null, [], []),
  (34, .ldc2_w 181, 3, 0, 0, .long (-9223372036854775808), [], [11]),
  (37, .lreturn, 1, 0, 0, .null, [], []),
  (38, .aload_n 0, 1, 0, 0, .null, [], []),
  (39, .iload_n 1, 1, 1, 0, .null, [], []),
  (40, .iload_n 2, 1, 2, 0, .null, [], []),
  (41, .invokevirtual 183, 14, 181, 2, .long 0, [], [157]),
  (44, .aload_n 0, 1, 0, 0, .null, [], []),
  (45, .invokevirtual 187, 14, 182, 0, .long 0, [], [158]),
  (48, .iload_n 3, 1, 3, 0, .null, [], []),
  (49, .invokestatic 191, 3, 180, 3, .long 0, [], [159]),
  (52, .lreturn, 1, 0, 0, .null, [], [])],
  [], 4)
/-- 184: LeastPaysModel.bestMean(I)I -/
def kX11_bestMean : j_K := ([
  (0, .aload_n 0, 1, 0, 0, .null, [], []),
  (1, .iload_n 1, 1, 1, 0, .null, [], []),
  (2, .invokevirtual 105, 14, 160, 1, .int 0, [], [142]),
  (5, .ifCond .ne 5, 3, 10, 0, .null, [], []),
  (8, .iconst (-1), 1, 0, 0, .int (-1), [], []),
  (9, .ireturn, 1, 0, 0, .int 0, [], []),
  (10, .iconst 0, 1, 0, 0, .int 0, [], []),
  (11, .istore_n 2, 1, 2, 0, .null, [], []),
  (12, .aload_n 0, 1, 0, 0, .null, [], []),
  (13, .iload_n 1, 1, 1, 0, .null, [], []),
  (14, .iconst 0, 1, 0, 0, .int 0, [], []),
  (15, .invokevirtual 183, 14, 181, 2, .long 0, [], [157]),
  (18, .lstore_n 3, 1, 3, 0, .null, [], []),
  (19, .aload_n 0, 1, 0, 0, .null, [], []),
  (20, .getfield 9, 3, 11, 0, .null, [], [148]),
  (23, .bipush 26, 2, 0, 0, .int 26, [], []),
  (25, .iaload, 1, 0, 0, .null, [], []),
  (26, .istore 5, 2, 5, 0, .null, [], []),
  (28, .iload 5, 2, 5, 0, .null, [], []),
  (30, .aload_n 0, 1, 0, 0, .null, [], []),
  (31, .getfield 9, 3, 11, 0, .null, [], [148]),
  (34, .iload_n 1, 1, 1, 0, .null, [], []),
  (35, .iaload, 1, 0, 0, .null, [], []),
  (36, .if_icmp .gt 55, 3, 91, 0, .null, [], []),
  (39, .aload_n 0, 1, 0, 0, .null, [], []),
  (40, .iload_n 1, 1, 1, 0, .null, [], []),
  (41, .iload 5, 2, 5, 0, .null, [], []),
  (43, .invokevirtual 183, 14, 181, 2, .long 0, [], [157]),
  (46, .lstore 6, 2, 6, 0, .null, [], []),
  (48, .lload 6, 2, 6, 0, .null, [], []),
  (50, .lload_n 3, 1, 3, 0, .null, [], []),
  (51, .lcmp, 1, 0, 0, .null, [], []),
  (52, .ifCond .ge 8, 3, 60, 0, .null, [], []),
  (55, .iload 5, 2, 5, 0, .null, [], []),
  (57, .goto 4, 3, 61, 0, .null, [], []),
  (60, .iload_n 2, 1, 2, 0, .null, [], []),
  (61, .istore_n 2, 1, 2, 0, .null, [], []),
  (62, .lload 6, 2, 6, 0, .null, [], []),
  (64, .lload_n 3, 1, 3, 0, .null, [], []),
  (65, .lcmp, 1, 0, 0, .null, [], []),
  (66, .ifCond .ge 8, 3, 74, 0, .null, [], []),
  (69, .lload 6, 2, 6, 0, .null, [], []),
  (71, .goto 4, 3, 75, 0, .null, [], []),
  (74, .lload_n 3, 1, 3, 0, .null, [], []),
  (75, .lstore_n 3, 1, 3, 0, .null, [], []),
  (76, .iload 5, 2, 5, 0, .null, [], []),
  (78, .aload_n 0, 1, 0, 0, .null, [], []),
  (79, .getfield 9, 3, 11, 0, .null, [], [148]),
  (82, .bipush 26, 2, 0, 0, .int 26, [], []),
  (84, .iaload, 1, 0, 0, .null, [], []),
  (85, .iadd, 1, 0, 0, .null, [], []),
  (86, .istore 5, 2, 5, 0, .null, [], []),
  (88, .goto (-60), 3, 28, 0, .null, [], []),
  (91, .iload_n 2, 1, 2, 0, .null, [], []),
  (92, .ireturn, 1, 0, 0, .int 0, [], [])],
  [(28, [true, true, true, true, false, true, false, false])], 8)
/-- 185: LeastPaysModel.wouldChange(I)Z -/
def kX11_wouldChange : j_K := ([
  (0, .aload_n 0, 1, 0, 0, .null, [], []),
  (1, .iload_n 1, 1, 1, 0, .null, [], []),
  (2, .invokevirtual 172, 14, 177, 1, .int 0, [], [155]),
  (5, .aload_n 0, 1, 0, 0, .null, [], []),
  (6, .iload_n 1, 1, 1, 0, .null, [], []),
  (7, .aload_n 0, 1, 0, 0, .null, [], []),
  (8, .getfield 28, 3, 11, 11, .null, [], [154]),
  (11, .iload_n 1, 1, 1, 0, .null, [], []),
  (12, .iaload, 1, 0, 0, .null, [], []),
  (13, .invokevirtual 166, 14, 176, 2, .int 0, [], [154]),
  (16, .if_icmp .ge 7, 3, 23, 0, .null, [], []),
  (19, .iconst 1, 1, 0, 0, .int 1, [], []),
  (20, .goto 4, 3, 24, 0, .null, [], []),
  (23, .iconst 0, 1, 0, 0, .int 0, [], []),
  (24, .ireturn, 1, 0, 0, .long 0, [], [])],
  [], 2)
/-- 186: LeastPaysModel.firstWho()I -/
def kX11_firstWho : j_K := ([
  (0, .iconst 0, 1, 0, 0, .int 0, [], []),
  (1, .istore_n 1, 1, 1, 0, .null, [], []),
  (2, .iload_n 1, 1, 1, 0, .null, [], []),
  (3, .aload_n 0, 1, 0, 0, .null, [], []),
  (4, .getfield 90, 3, 11, 6, .int 0, [], [174]),
  (7, .if_icmp .ge 19, 3, 26, 0, .null, [], []),
  (10, .aload_n 0, 1, 0, 0, .null, [], []),
  (11, .iload_n 1, 1, 1, 0, .null, [], []),
  (12, .invokevirtual 195, 14, 185, 1, .int 0, [], [160]),
  (15, .ifCond .eq 5, 3, 20, 0, .null, [], []),
  (18, .iload_n 1, 1, 1, 0, .null, [], []),
  (19, .ireturn, 1, 0, 0, .int 0, [], []),
  (20, .iinc 1 1, 3, 1, 0, .int 1, [], []),
  (23, .goto (-21), 3, 2, 0, .null, [], []),
  (26, .bipush (-2), 2, 0, 0, .int (-2), [], []),
  (28, .ireturn, 1, 0, 0, .int 0, [], [])],
  [(2, [true, true])], 2)
/-- 187: LeastPaysModel.rest(I)I -/
def kX11_rest : j_K := ([
  (0, .iload_n 1, 1, 1, 0, .null, [], []),
  (1, .i2l, 1, 0, 0, .null, [], []),
  (2, .lconst 0, 1, 0, 0, .long 0, [], []),
  (3, .lconst 1, 1, 0, 0, .long 1, [], []),
  (4, .invokestatic 93, 3, 155, 3, .int 0, [], [140]),
  (7, .ifCond .ne 5, 3, 12, 0, .null, [], []),
  (10, .iconst (-1), 1, 0, 0, .int (-1), [], []),
  (11, .ireturn, 1, 0, 0, .int 0, [], []),
  (12, .aload_n 0, 1, 0, 0, .null, [], []),
  (13, .invokevirtual 157, 14, 167, 0, .null, [], [151]),
  (16, .aload_n 0, 1, 0, 0, .null, [], []),
  (17, .invokevirtual 198, 14, 186, 0, .int 0, [], [161]),
  (20, .istore_n 2, 1, 2, 0, .null, [], []),
  (21, .iload_n 1, 1, 1, 0, .null, [], []),
  (22, .iconst 1, 1, 0, 0, .int 1, [], []),
  (23, .if_icmp .ne 7, 3, 30, 0, .null, [], []),
  (26, .iload_n 2, 1, 2, 0, .null, [], []),
  (27, .goto 12, 3, 39, 0, .null, [], []),
  (30, .iload_n 2, 1, 2, 0, .null, [], []),
  (31, .ifCond .ge 7, 3, 38, 0, .null, [], []),
  (34, .iconst 1, 1, 0, 0, .int 1, [], []),
  (35, .goto 4, 3, 39, 0, .null, [], []),
  (38, .iconst 0, 1, 0, 0, .int 0, [], []),
  (39, .ireturn, 1, 0, 0, .int 0, [], [])],
  [], 3)
/-- 188: LeastPaysModel.sumsOf(I)I -/
def kX11_sumsOf : j_K := ([
  (0, .aload_n 0, 1, 0, 0, .null, [], []),
  (1, .getfield 9, 3, 11, 0, .null, [], [148]),
  (4, .iload_n 1, 1, 1, 0, .null, [], []),
  (5, .iaload, 1, 0, 0, .null, [], []),
  (6, .aload_n 0, 1, 0, 0, .null, [], []),
  (7, .getfield 9, 3, 11, 0, .null, [], [148]),
  (10, .bipush 26, 2, 0, 0, .int 26, [], []),
  (12, .iaload, 1, 0, 0, .null, [], []),
  (13, .idiv, 1, 0, 0, .null, [], []),
  (14, .iconst 1, 1, 0, 0, .int 1, [], []),
  (15, .iadd, 1, 0, 0, .null, [], []),
  (16, .ireturn, 1, 0, 0, .int 0, [], [])],
  [], 2)
/-- 189: LeastPaysModel.rests(I)I -/
def kX11_rests : j_K := ([
  (0, .iload_n 1, 1, 1, 0, .null, [], []),
  (1, .iconst (-1), 1, 0, 0, .int (-1), [], []),
  (2, .if_icmp .eq 13, 3, 15, 0, .null, [], []),
  (5, .aload_n 0, 1, 0, 0, .null, [], []),
  (6, .iload_n 1, 1, 1, 0, .null, [], []),
  (7, .invokevirtual 105, 14, 160, 1, .int 0, [], [142]),
  (10, .ifCond .ne 5, 3, 15, 0, .null, [], []),
  (13, .iconst (-1), 1, 0, 0, .int (-1), [], []),
  (14, .ireturn, 1, 0, 0, .int 0, [], []),
  (15, .iconst 1, 1, 0, 0, .int 1, [], []),
  (16, .istore_n 2, 1, 2, 0, .null, [], []),
  (17, .iconst 0, 1, 0, 0, .int 0, [], []),
  (18, .istore_n 3, 1, 3, 0, .null, [], []),
  (19, .iload_n 3, 1, 3, 0, .null, [], []),
  (20, .aload_n 0, 1, 0, 0, .null, [], []),
  (21, .getfield 90, 3, 11, 6, .int 0, [], [174]),
  (24, .if_icmp .ge 27, 3, 51, 0, .null, [], []),
  (27, .iload_n 2, 1, 2, 0, .null, [], []),
  (28, .aload_n 0, 1, 0, 0, .null, [], []),
  (29, .iload_n 3, 1, 3, 0, .null, [], []),
  (30, .invokevirtual 202, 14, 188, 1, .int 0, [], [162]),
  (33, .imul, 1, 0, 0, .null, [], []),
  (34, .istore_n 2, 1, 2, 0, .null, [], []),
  (35, .iload_n 2, 1, 2, 0, .null, [], []),
  (36, .sipush 4096, 3, 0, 0, .int 4096, [], []),
  (39, .if_icmp .le 6, 3, 45, 0, .null, [], []),
  (42, .bipush (-5), 2, 0, 0, .int (-5), [], []),
  (44, .ireturn, 1, 0, 0, .int 0, [], []),
  (45, .iinc 3 1, 3, 3, 0, .int 1, [], []),
  (48, .goto (-29), 3, 19, 0, .null, [], []),
  (51, .aload_n 0, 1, 0, 0, .null, [], []),
  (52, .aload_n 0, 1, 0, 0, .null, [], []),
  (53, .getfield 90, 3, 11, 6, .int 0, [], [174]),
  (56, .putfield 134, 3, 11, 12, .int 0, [], [177]),
  (59, .iconst 0, 1, 0, 0, .int 0, [], []),
  (60, .istore_n 3, 1, 3, 0, .null, [], []),
  (61, .bipush (-2), 2, 0, 0, .int (-2), [], []),
  (63, .istore 4, 2, 4, 0, .null, [], []),
  (65, .iconst 0, 1, 0, 0, .int 0, [], []),
  (66, .istore 5, 2, 5, 0, .null, [], []),
  (68, .iload 5, 2, 5, 0, .null, [], []),
  (70, .iload_n 2, 1, 2, 0, .null, [], []),
  (71, .if_icmp .ge 98, 3, 169, 0, .null, [], []),
  (74, .iload 5, 2, 5, 0, .null, [], []),
  (76, .istore 6, 2, 6, 0, .null, [], []),
  (78, .aload_n 0, 1, 0, 0, .null, [], []),
  (79, .getfield 90, 3, 11, 6, .int 0, [], [174]),
  (82, .iconst 1, 1, 0, 0, .int 1, [], []),
  (83, .isub, 1, 0, 0, .null, [], []),
  (84, .istore 7, 2, 7, 0, .null, [], []),
  (86, .iload 7, 2, 7, 0, .null, [], []),
  (88, .ifCond .lt 44, 3, 132, 0, .null, [], []),
  (91, .aload_n 0, 1, 0, 0, .null, [], []),
  (92, .getfield 28, 3, 11, 11, .null, [], [154]),
  (95, .iload 7, 2, 7, 0, .null, [], []),
  (97, .iload 6, 2, 6, 0, .null, [], []),
  (99, .aload_n 0, 1, 0, 0, .null, [], []),
  (100, .iload 7, 2, 7, 0, .null, [], []),
  (102, .invokevirtual 202, 14, 188, 1, .int 0, [], [162]),
  (105, .irem, 1, 0, 0, .null, [], []),
  (106, .aload_n 0, 1, 0, 0, .null, [], []),
  (107, .getfield 9, 3, 11, 0, .null, [], [148]),
  (110, .bipush 26, 2, 0, 0, .int 26, [], []),
  (112, .iaload, 1, 0, 0, .null, [], []),
  (113, .imul, 1, 0, 0, .null, [], []),
  (114, .iastore, 1, 0, 0, .null, [], []),
  (115, .iload 6, 2, 6, 0, .null, [], []),
  (117, .aload_n 0, 1, 0, 0, .null, [], []),
  (118, .iload 7, 2, 7, 0, .null, [], []),
  (120, .invokevirtual 202, 14, 188, 1, .int 0, [], [162]),
  (123, .idiv, 1, 0, 0, .null, [], []),
  (124, .istore 6, 2, 6, 0, .null, [], []),
  (126, .iinc 7 (-1), 3, 7, 0, .int (-1), [], []),
  (129, .goto (-43), 3, 86, 0, .null, [], []),
  (132, .aload_n 0, 1, 0, 0, .null, [], []),
  (133, .invokevirtual 198, 14, 186, 0, .int 0, [], [161]),
  (136, .ifCond .ge 27, 3, 163, 0, .null, [], []),
  (139, .iload_n 3, 1, 3, 0, .null, [], []),
  (140, .ifCond .ne 16, 3, 156, 0, .null, [], []),
  (143, .iload_n 1, 1, 1, 0, .null, [], []),
  (144, .ifCond .lt 12, 3, 156, 0, .null, [], []),
  (147, .aload_n 0, 1, 0, 0, .null, [], []),
  (148, .getfield 28, 3, 11, 11, .null, [], [154]),
  (151, .iload_n 1, 1, 1, 0, .null, [], []),
  (152, .iaload, 1, 0, 0, .null, [], []),
  (153, .goto 5, 3, 158, 0, .null, [], []),
  (156, .iload 4, 2, 4, 0, .null, [], []),
  (158, .istore 4, 2, 4, 0, .null, [], []),
  (160, .iinc 3 1, 3, 3, 0, .int 1, [], []),
  (163, .iinc 5 1, 3, 5, 0, .int 1, [], []),
  (166, .goto (-98), 3, 68, 0, .null, [], []),
  (169, .iload_n 1, 1, 1, 0, .null, [], []),
  (170, .ifCond .ge 7, 3, 177, 0, .null, [], []),
  (173, .iload_n 3, 1, 3, 0, .null, [], []),
  (174, .goto 5, 3, 179, 0, .null, [], []),
  (177, .iload 4, 2, 4, 0, .null, [], []),
  (179, .ireturn, 1, 0, 0, .int 0, [], [])],
  [(19, [true, true, true, true, false, false, false, false]), (68, [true, true, true, true, true, true, false, false]), (86, [true, true, true, true, true, true, true, true])], 8)
/-- 190: LeastPaysModel.turns(I)I -/
def kX11_turns : j_K := ([
  (0, .iload_n 1, 1, 1, 0, .null, [], []),
  (1, .iconst (-1), 1, 0, 0, .int (-1), [], []),
  (2, .if_icmp .eq 13, 3, 15, 0, .null, [], []),
  (5, .aload_n 0, 1, 0, 0, .null, [], []),
  (6, .iload_n 1, 1, 1, 0, .null, [], []),
  (7, .invokevirtual 105, 14, 160, 1, .int 0, [], [142]),
  (10, .ifCond .ne 5, 3, 15, 0, .null, [], []),
  (13, .iconst (-1), 1, 0, 0, .int (-1), [], []),
  (14, .ireturn, 1, 0, 0, .int 0, [], []),
  (15, .aload_n 0, 1, 0, 0, .null, [], []),
  (16, .invokevirtual 157, 14, 167, 0, .null, [], [151]),
  (19, .iconst 0, 1, 0, 0, .int 0, [], []),
  (20, .istore_n 2, 1, 2, 0, .null, [], []),
  (21, .iconst 0, 1, 0, 0, .int 0, [], []),
  (22, .istore_n 3, 1, 3, 0, .null, [], []),
  (23, .iconst 0, 1, 0, 0, .int 0, [], []),
  (24, .istore 4, 2, 4, 0, .null, [], []),
  (26, .iload_n 3, 1, 3, 0, .null, [], []),
  (27, .aload_n 0, 1, 0, 0, .null, [], []),
  (28, .getfield 90, 3, 11, 6, .int 0, [], [174]),
  (31, .if_icmp .ge 75, 3, 106, 0, .null, [], []),
  (34, .aload_n 0, 1, 0, 0, .null, [], []),
  (35, .iload 4, 2, 4, 0, .null, [], []),
  (37, .invokevirtual 195, 14, 185, 1, .int 0, [], [160]),
  (40, .ifCond .eq 49, 3, 89, 0, .null, [], []),
  (43, .iload_n 2, 1, 2, 0, .null, [], []),
  (44, .bipush 60, 2, 0, 0, .int 60, [], []),
  (46, .if_icmp .ne 19, 3, 65, 0, .null, [], []),
  (49, .iload_n 1, 1, 1, 0, .null, [], []),
  (50, .ifCond .ge 8, 3, 58, 0, .null, [], []),
  (53, .bipush (-2), 2, 0, 0, .int (-2), [], []),
  (55, .goto 9, 3, 64, 0, .null, [], []),
  (58, .aload_n 0, 1, 0, 0, .null, [], []),
  (59, .getfield 28, 3, 11, 11, .null, [], [154]),
  (62, .iload_n 1, 1, 1, 0, .null, [], []),
  (63, .iaload, 1, 0, 0, .null, [], []),
  (64, .ireturn, 1, 0, 0, .int 0, [], []),
  (65, .aload_n 0, 1, 0, 0, .null, [], []),
  (66, .iload 4, 2, 4, 0, .null, [], []),
  (68, .invokevirtual 172, 14, 177, 1, .int 0, [], [155]),
  (71, .istore 5, 2, 5, 0, .null, [], []),
  (73, .aload_n 0, 1, 0, 0, .null, [], []),
  (74, .getfield 28, 3, 11, 11, .null, [], [154]),
  (77, .iload 4, 2, 4, 0, .null, [], []),
  (79, .aload_n 0, 1, 0, 0, .null, [], []),
  (80, .getfield 169, 3, 11, 16, .int 0, [], [179]),
  (83, .iastore, 1, 0, 0, .null, [], []),
  (84, .iinc 2 1, 3, 2, 0, .int 1, [], []),
  (87, .iconst 0, 1, 0, 0, .int 0, [], []),
  (88, .istore_n 3, 1, 3, 0, .null, [], []),
  (89, .iinc 3 1, 3, 3, 0, .int 1, [], []),
  (92, .iload 4, 2, 4, 0, .null, [], []),
  (94, .iconst 1, 1, 0, 0, .int 1, [], []),
  (95, .iadd, 1, 0, 0, .null, [], []),
  (96, .aload_n 0, 1, 0, 0, .null, [], []),
  (97, .getfield 90, 3, 11, 6, .int 0, [], [174]),
  (100, .irem, 1, 0, 0, .null, [], []),
  (101, .istore 4, 2, 4, 0, .null, [], []),
  (103, .goto (-77), 3, 26, 0, .null, [], []),
  (106, .iload_n 1, 1, 1, 0, .null, [], []),
  (107, .ifCond .ge 7, 3, 114, 0, .null, [], []),
  (110, .iload_n 2, 1, 2, 0, .null, [], []),
  (111, .goto 9, 3, 120, 0, .null, [], []),
  (114, .aload_n 0, 1, 0, 0, .null, [], []),
  (115, .getfield 28, 3, 11, 11, .null, [], [154]),
  (118, .iload_n 1, 1, 1, 0, .null, [], []),
  (119, .iaload, 1, 0, 0, .null, [], []),
  (120, .ireturn, 1, 0, 0, .int 0, [], [])],
  [(26, [true, true, true, true, true, false])], 6)
/-- 191: LeastPaysModel.agree(II)I -/
def kX11_agree : j_K := ([
  (0, .iload_n 1, 1, 1, 0, .null, [], []),
  (1, .ifCond .lt 48, 3, 49, 0, .null, [], []),
  (4, .aload_n 0, 1, 0, 0, .null, [], []),
  (5, .iload_n 1, 1, 1, 0, .null, [], []),
  (6, .bipush 10, 2, 0, 0, .int 10, [], []),
  (8, .idiv, 1, 0, 0, .null, [], []),
  (9, .invokevirtual 105, 14, 160, 1, .int 0, [], [142]),
  (12, .ifCond .eq 37, 3, 49, 0, .null, [], []),
  (15, .aload_n 0, 1, 0, 0, .null, [], []),
  (16, .iload_n 1, 1, 1, 0, .null, [], []),
  (17, .bipush 10, 2, 0, 0, .int 10, [], []),
  (19, .irem, 1, 0, 0, .null, [], []),
  (20, .invokevirtual 105, 14, 160, 1, .int 0, [], [142]),
  (23, .ifCond .eq 26, 3, 49, 0, .null, [], []),
  (26, .iload_n 1, 1, 1, 0, .null, [], []),
  (27, .bipush 10, 2, 0, 0, .int 10, [], []),
  (29, .idiv, 1, 0, 0, .null, [], []),
  (30, .iload_n 1, 1, 1, 0, .null, [], []),
  (31, .bipush 10, 2, 0, 0, .int 10, [], []),
  (33, .irem, 1, 0, 0, .null, [], []),
  (34, .if_icmp .ge 15, 3, 49, 0, .null, [], []),
  (37, .iload_n 2, 1, 2, 0, .null, [], []),
  (38, .i2l, 1, 0, 0, .null, [], []),
  (39, .lconst 0, 1, 0, 0, .long 0, [], []),
  (40, .ldc2_w 205, 3, 0, 0, .long 3, [], [12]),
  (43, .invokestatic 93, 3, 155, 3, .int 0, [], [140]),
  (46, .ifCond .ne 6, 3, 52, 0, .null, [], []),
  (49, .ldc 125, 2, 0, 0, .int (-2000000000), [], [3]),
  (51, .ireturn, 1, 0, 0, .int 0, [], []),
  (52, .iload_n 1, 1, 1, 0, .null, [], []),
  (53, .bipush 10, 2, 0, 0, .int 10, [], []),
  (55, .idiv, 1, 0, 0, .null, [], []),
  (56, .istore_n 3, 1, 3, 0, .null, [], []),
  (57, .iload_n 1, 1, 1, 0, .null, [], []),
  (58, .bipush 10, 2, 0, 0, .int 10, [], []),
  (60, .irem, 1, 0, 0, .null, [], []),
  (61, .istore 4, 2, 4, 0, .null, [], []),
  (63, .aload_n 0, 1, 0, 0, .null, [], []),
  (64, .invokevirtual 157, 14, 167, 0, .null, [], [151]),
  (67, .iconst (-1), 1, 0, 0, .int (-1), [], []),
  (68, .istore 5, 2, 5, 0, .null, [], []),
  (70, .iconst 0, 1, 0, 0, .int 0, [], []),
  (71, .istore 6, 2, 6, 0, .null, [], []),
  (73, .iconst 0, 1, 0, 0, .int 0, [], []),
  (74, .istore 7, 2, 7, 0, .null, [], []),
  (76, .iconst 0, 1, 0, 0, .int 0, [], []),
  (77, .istore 8, 2, 8, 0, .null, [], []),
  (79, .iload 8, 2, 8, 0, .null, [], []),
  (81, .aload_n 0, 1, 0, 0, .null, [], []),
  (82, .getfield 9, 3, 11, 0, .null, [], [148]),
  (85, .iload_n 3, 1, 3, 0, .null, [], []),
  (86, .iaload, 1, 0, 0, .null, [], []),
  (87, .if_icmp .gt 107, 3, 194, 0, .null, [], []),
  (90, .iconst 0, 1, 0, 0, .int 0, [], []),
  (91, .istore 9, 2, 9, 0, .null, [], []),
  (93, .iload 9, 2, 9, 0, .null, [], []),
  (95, .aload_n 0, 1, 0, 0, .null, [], []),
  (96, .getfield 9, 3, 11, 0, .null, [], [148]),
  (99, .iload 4, 2, 4, 0, .null, [], []),
  (101, .iaload, 1, 0, 0, .null, [], []),
  (102, .if_icmp .gt 77, 3, 179, 0, .null, [], []),
  (105, .aload_n 0, 1, 0, 0, .null, [], []),
  (106, .getfield 28, 3, 11, 11, .null, [], [154]),
  (109, .iload_n 3, 1, 3, 0, .null, [], []),
  (110, .iload 8, 2, 8, 0, .null, [], []),
  (112, .iastore, 1, 0, 0, .null, [], []),
  (113, .aload_n 0, 1, 0, 0, .null, [], []),
  (114, .getfield 28, 3, 11, 11, .null, [], [154]),
  (117, .iload 4, 2, 4, 0, .null, [], []),
  (119, .iload 9, 2, 9, 0, .null, [], []),
  (121, .iastore, 1, 0, 0, .null, [], []),
  (122, .aload_n 0, 1, 0, 0, .null, [], []),
  (123, .invokevirtual 160, 14, 173, 0, .null, [], [152]),
  (126, .aload_n 0, 1, 0, 0, .null, [], []),
  (127, .iload_n 3, 1, 3, 0, .null, [], []),
  (128, .invokevirtual 163, 14, 174, 1, .int 0, [], [153]),
  (131, .aload_n 0, 1, 0, 0, .null, [], []),
  (132, .iload 4, 2, 4, 0, .null, [], []),
  (134, .invokevirtual 163, 14, 174, 1, .int 0, [], [153]),
  (137, .iadd, 1, 0, 0, .null, [], []),
  (138, .istore 10, 2, 10, 0, .null, [], []),
  (140, .iload 5, 2, 5, 0, .null, [], []),
  (142, .ifCond .lt 10, 3, 152, 0, .null, [], []),
  (145, .iload 10, 2, 10, 0, .null, [], []),
  (147, .iload 5, 2, 5, 0, .null, [], []),
  (149, .if_icmp .ge 15, 3, 164, 0, .null, [], []),
  (152, .iload 10, 2, 10, 0, .null, [], []),
  (154, .istore 5, 2, 5, 0, .null, [], []),
  (156, .iload 8, 2, 8, 0, .null, [], []),
  (158, .istore 6, 2, 6, 0, .null, [], []),
  (160, .iload 9, 2, 9, 0, .null, [], []),
  (162, .istore 7, 2, 7, 0, .null, [], []),
  (164, .iload 9, 2, 9, 0, .null, [], []),
  (166, .aload_n 0, 1, 0, 0, .null, [], []),
  (167, .getfield 9, 3, 11, 0, .null, [], [148]),
  (170, .bipush 26, 2, 0, 0, .int 26, [], []),
  (172, .iaload, 1, 0, 0, .null, [], []),
  (173, .iadd, 1, 0, 0, .null, [], []),
  (174, .istore 9, 2, 9, 0, .null, [], []),
  (176, .goto (-83), 3, 93, 0, .null, [], []),
  (179, .iload 8, 2, 8, 0, .null, [], []),
  (181, .aload_n 0, 1, 0, 0, .null, [], []),
  (182, .getfield 9, 3, 11, 0, .null, [], [148]),
  (185, .bipush 26, 2, 0, 0, .int 26, [], []),
  (187, .iaload, 1, 0, 0, .null, [], []),
  (188, .iadd, 1, 0, 0, .null, [], []),
  (189, .istore 8, 2, 8, 0, .null, [], []),
  (191, .goto (-112), 3, 79, 0, .null, [], []),
  (194, .iload_n 2, 1, 2, 0, .null, [], []),
  (195, .iconst 3, 1, 0, 0, .int 3, [], []),
  (196, .if_icmp .ge 25, 3, 221, 0, .null, [], []),
  (199, .iload_n 2, 1, 2, 0, .null, [], []),
  (200, .ifCond .ne 8, 3, 208, 0, .null, [], []),
  (203, .iload 5, 2, 5, 0, .null, [], []),
  (205, .goto 15, 3, 220, 0, .null, [], []),
  (208, .iload_n 2, 1, 2, 0, .null, [], []),
  (209, .iconst 1, 1, 0, 0, .int 1, [], []),
  (210, .if_icmp .ne 8, 3, 218, 0, .null, [], []),
  (213, .iload 6, 2, 6, 0, .null, [], []),
  (215, .goto 5, 3, 220, 0, .null, [], []),
  (218, .iload 7, 2, 7, 0, .null, [], []),
  (220, .ireturn, 1, 0, 0, .int 0, [], []),
  (221, .aload_n 0, 1, 0, 0, .null, [], []),
  (222, .getfield 28, 3, 11, 11, .null, [], [154]),
  (225, .iload_n 3, 1, 3, 0, .null, [], []),
  (226, .iload 6, 2, 6, 0, .null, [], []),
  (228, .iastore, 1, 0, 0, .null, [], []),
  (229, .aload_n 0, 1, 0, 0, .null, [], []),
  (230, .getfield 28, 3, 11, 11, .null, [], [154]),
  (233, .iload 4, 2, 4, 0, .null, [], []),
  (235, .iload 7, 2, 7, 0, .null, [], []),
  (237, .iastore, 1, 0, 0, .null, [], []),
  (238, .aload_n 0, 1, 0, 0, .null, [], []),
  (239, .invokevirtual 160, 14, 173, 0, .null, [], [152]),
  (242, .iconst 0, 1, 0, 0, .int 0, [], []),
  (243, .istore 8, 2, 8, 0, .null, [], []),
  (245, .iload 8, 2, 8, 0, .null, [], []),
  (247, .aload_n 0, 1, 0, 0, .null, [], []),
  (248, .getfield 90, 3, 11, 6, .int 0, [], [174]),
  (251, .if_icmp .ge 35, 3, 286, 0, .null, [], []),
  (254, .iload 8, 2, 8, 0, .null, [], []),
  (256, .iload_n 3, 1, 3, 0, .null, [], []),
  (257, .if_icmp .eq 23, 3, 280, 0, .null, [], []),
  (260, .iload 8, 2, 8, 0, .null, [], []),
  (262, .iload 4, 2, 4, 0, .null, [], []),
  (264, .if_icmp .eq 16, 3, 280, 0, .null, [], []),
  (267, .aload_n 0, 1, 0, 0, .null, [], []),
  (268, .getfield 31, 3, 11, 13, .null, [], [155]),
  (271, .iload 8, 2, 8, 0, .null, [], []),
  (273, .iaload, 1, 0, 0, .null, [], []),
  (274, .ifCond .le 6, 3, 280, 0, .null, [], []),
  (277, .iload 8, 2, 8, 0, .null, [], []),
  (279, .ireturn, 1, 0, 0, .int 0, [], []),
  (280, .iinc 8 1, 3, 8, 0, .int 1, [], []),
  (283, .goto (-38), 3, 245, 0, .null, [], []),
  (286, .bipush (-2), 2, 0, 0, .int (-2), [], []),
  (288, .ireturn, 1, 0, 0, .int 0, [], [])],
  [(79, [true, false, true, true, true, true, true, true, true, false, false]), (93, [true, false, true, true, true, true, true, true, true, true, false]), (245, [true, false, false, true, true, false, false, false, true, false, false])], 11)
/-- 192: LeastPaysModel.dish(I)I -/
def kX11_dish : j_K := ([
  (0, .iload_n 1, 1, 1, 0, .null, [], []),
  (1, .i2l, 1, 0, 0, .null, [], []),
  (2, .lconst 0, 1, 0, 0, .long 0, [], []),
  (3, .ldc2_w 97, 3, 0, 0, .long 99, [], [5]),
  (6, .invokestatic 93, 3, 155, 3, .int 0, [], [140]),
  (9, .ifCond .ne 5, 3, 14, 0, .null, [], []),
  (12, .iconst (-1), 1, 0, 0, .int (-1), [], []),
  (13, .ireturn, 1, 0, 0, .int 0, [], []),
  (14, .aload_n 0, 1, 0, 0, .null, [], []),
  (15, .getfield 207, 3, 11, 17, .int 0, [], [180]),
  (18, .iconst 3, 1, 0, 0, .int 3, [], []),
  (19, .if_icmp .ne 6, 3, 25, 0, .null, [], []),
  (22, .bipush (-3), 2, 0, 0, .int (-3), [], []),
  (24, .ireturn, 1, 0, 0, .int 0, [], []),
  (25, .aload_n 0, 1, 0, 0, .null, [], []),
  (26, .getfield 37, 3, 11, 18, .null, [], [157]),
  (29, .aload_n 0, 1, 0, 0, .null, [], []),
  (30, .getfield 207, 3, 11, 17, .int 0, [], [180]),
  (33, .iload_n 1, 1, 1, 0, .null, [], []),
  (34, .iastore, 1, 0, 0, .null, [], []),
  (35, .aload_n 0, 1, 0, 0, .null, [], []),
  (36, .dup, 1, 0, 0, .null, [], []),
  (37, .getfield 207, 3, 11, 17, .int 0, [], [180]),
  (40, .iconst 1, 1, 0, 0, .int 1, [], []),
  (41, .iadd, 1, 0, 0, .null, [], []),
  (42, .putfield 207, 3, 11, 17, .int 0, [], [180]),
  (45, .aload_n 0, 1, 0, 0, .null, [], []),
  (46, .getfield 207, 3, 11, 17, .int 0, [], [180]),
  (49, .iconst 1, 1, 0, 0, .int 1, [], []),
  (50, .isub, 1, 0, 0, .null, [], []),
  (51, .ireturn, 1, 0, 0, .int 0, [], [])],
  [], 2)
/-- 193: LeastPaysModel.joy(II)I -/
def kX11_joy : j_K := ([
  (0, .iload_n 1, 1, 1, 0, .null, [], []),
  (1, .ifCond .lt 45, 3, 46, 0, .null, [], []),
  (4, .aload_n 0, 1, 0, 0, .null, [], []),
  (5, .iload_n 1, 1, 1, 0, .null, [], []),
  (6, .bipush 10, 2, 0, 0, .int 10, [], []),
  (8, .idiv, 1, 0, 0, .null, [], []),
  (9, .invokevirtual 105, 14, 160, 1, .int 0, [], [142]),
  (12, .ifCond .eq 34, 3, 46, 0, .null, [], []),
  (15, .iload_n 1, 1, 1, 0, .null, [], []),
  (16, .bipush 10, 2, 0, 0, .int 10, [], []),
  (18, .irem, 1, 0, 0, .null, [], []),
  (19, .i2l, 1, 0, 0, .null, [], []),
  (20, .lconst 0, 1, 0, 0, .long 0, [], []),
  (21, .aload_n 0, 1, 0, 0, .null, [], []),
  (22, .getfield 207, 3, 11, 17, .int 0, [], [180]),
  (25, .iconst 1, 1, 0, 0, .int 1, [], []),
  (26, .isub, 1, 0, 0, .null, [], []),
  (27, .i2l, 1, 0, 0, .null, [], []),
  (28, .invokestatic 93, 3, 155, 3, .int 0, [], [140]),
  (31, .ifCond .eq 15, 3, 46, 0, .null, [], []),
  (34, .iload_n 2, 1, 2, 0, .null, [], []),
  (35, .i2l, 1, 0, 0, .null, [], []),
  (36, .lconst 0, 1, 0, 0, .long 0, [], []),
  (37, .ldc2_w 97, 3, 0, 0, .long 99, [], [5]),
  (40, .invokestatic 93, 3, 155, 3, .int 0, [], [140]),
  (43, .ifCond .ne 5, 3, 48, 0, .null, [], []),
  (46, .iconst (-1), 1, 0, 0, .int (-1), [], []),
  (47, .ireturn, 1, 0, 0, .int 0, [], []),
  (48, .iconst 3, 1, 0, 0, .int 3, [], []),
  (49, .iload_n 1, 1, 1, 0, .null, [], []),
  (50, .bipush 10, 2, 0, 0, .int 10, [], []),
  (52, .idiv, 1, 0, 0, .null, [], []),
  (53, .imul, 1, 0, 0, .null, [], []),
  (54, .iload_n 1, 1, 1, 0, .null, [], []),
  (55, .bipush 10, 2, 0, 0, .int 10, [], []),
  (57, .irem, 1, 0, 0, .null, [], []),
  (58, .iadd, 1, 0, 0, .null, [], []),
  (59, .istore_n 3, 1, 3, 0, .null, [], []),
  (60, .aload_n 0, 1, 0, 0, .null, [], []),
  (61, .getfield 40, 3, 11, 19, .null, [], [158]),
  (64, .iload_n 3, 1, 3, 0, .null, [], []),
  (65, .iaload, 1, 0, 0, .null, [], []),
  (66, .istore 4, 2, 4, 0, .null, [], []),
  (68, .aload_n 0, 1, 0, 0, .null, [], []),
  (69, .getfield 40, 3, 11, 19, .null, [], [158]),
  (72, .iload_n 3, 1, 3, 0, .null, [], []),
  (73, .iload_n 2, 1, 2, 0, .null, [], []),
  (74, .iastore, 1, 0, 0, .null, [], []),
  (75, .iload 4, 2, 4, 0, .null, [], []),
  (77, .ireturn, 1, 0, 0, .int 0, [], [])],
  [], 5)
/-- 194: LeastPaysModel.joyOf(II)I -/
def kX11_joyOf : j_K := ([
  (0, .iload_n 2, 1, 2, 0, .null, [], []),
  (1, .ifCond .ge 7, 3, 8, 0, .null, [], []),
  (4, .iconst 0, 1, 0, 0, .int 0, [], []),
  (5, .goto 13, 3, 18, 0, .null, [], []),
  (8, .aload_n 0, 1, 0, 0, .null, [], []),
  (9, .getfield 40, 3, 11, 19, .null, [], [158]),
  (12, .iconst 3, 1, 0, 0, .int 3, [], []),
  (13, .iload_n 1, 1, 1, 0, .null, [], []),
  (14, .imul, 1, 0, 0, .null, [], []),
  (15, .iload_n 2, 1, 2, 0, .null, [], []),
  (16, .iadd, 1, 0, 0, .null, [], []),
  (17, .iaload, 1, 0, 0, .null, [], []),
  (18, .ireturn, 1, 0, 0, .int 0, [], [])],
  [], 3)
/-- 195: LeastPaysModel.billFrom(II)I -/
def kX11_billFrom : j_K := ([
  (0, .iload_n 1, 1, 1, 0, .null, [], []),
  (1, .aload_n 0, 1, 0, 0, .null, [], []),
  (2, .getfield 90, 3, 11, 6, .int 0, [], [174]),
  (5, .if_icmp .ne 5, 3, 10, 0, .null, [], []),
  (8, .iload_n 2, 1, 2, 0, .null, [], []),
  (9, .ireturn, 1, 0, 0, .int 0, [], []),
  (10, .bipush (-2), 2, 0, 0, .int (-2), [], []),
  (12, .istore_n 3, 1, 3, 0, .null, [], []),
  (13, .iconst 0, 1, 0, 0, .int 0, [], []),
  (14, .istore 4, 2, 4, 0, .null, [], []),
  (16, .iconst (-1), 1, 0, 0, .int (-1), [], []),
  (17, .istore 5, 2, 5, 0, .null, [], []),
  (19, .iload 5, 2, 5, 0, .null, [], []),
  (21, .aload_n 0, 1, 0, 0, .null, [], []),
  (22, .getfield 207, 3, 11, 17, .int 0, [], [180]),
  (25, .if_icmp .ge 84, 3, 109, 0, .null, [], []),
  (28, .aload_n 0, 1, 0, 0, .null, [], []),
  (29, .iload_n 1, 1, 1, 0, .null, [], []),
  (30, .iconst 1, 1, 0, 0, .int 1, [], []),
  (31, .iadd, 1, 0, 0, .null, [], []),
  (32, .iload_n 2, 1, 2, 0, .null, [], []),
  (33, .iload 5, 2, 5, 0, .null, [], []),
  (35, .ifCond .ge 7, 3, 42, 0, .null, [], []),
  (38, .iconst 0, 1, 0, 0, .int 0, [], []),
  (39, .goto 10, 3, 49, 0, .null, [], []),
  (42, .aload_n 0, 1, 0, 0, .null, [], []),
  (43, .getfield 37, 3, 11, 18, .null, [], [157]),
  (46, .iload 5, 2, 5, 0, .null, [], []),
  (48, .iaload, 1, 0, 0, .null, [], []),
  (49, .iadd, 1, 0, 0, .null, [], []),
  (50, .invokevirtual 210, 14, 195, 2, .int 0, [], [163]),
  (53, .istore 6, 2, 6, 0, .null, [], []),
  (55, .aload_n 0, 1, 0, 0, .null, [], []),
  (56, .iload 6, 2, 6, 0, .null, [], []),
  (58, .aload_n 0, 1, 0, 0, .null, [], []),
  (59, .getfield 9, 3, 11, 0, .null, [], [148]),
  (62, .bipush 25, 2, 0, 0, .int 25, [], []),
  (64, .iaload, 1, 0, 0, .null, [], []),
  (65, .invokevirtual 153, 14, 172, 2, .null, [], [150]),
  (68, .aload_n 0, 1, 0, 0, .null, [], []),
  (69, .iload_n 1, 1, 1, 0, .null, [], []),
  (70, .iload 5, 2, 5, 0, .null, [], []),
  (72, .invokevirtual 213, 14, 194, 2, .int 0, [], [164]),
  (75, .aload_n 0, 1, 0, 0, .null, [], []),
  (76, .iload_n 1, 1, 1, 0, .null, [], []),
  (77, .invokevirtual 163, 14, 174, 1, .int 0, [], [153]),
  (80, .isub, 1, 0, 0, .null, [], []),
  (81, .istore 7, 2, 7, 0, .null, [], []),
  (83, .iload_n 3, 1, 3, 0, .null, [], []),
  (84, .bipush (-2), 2, 0, 0, .int (-2), [], []),
  (86, .if_icmp .eq 10, 3, 96, 0, .null, [], []),
  (89, .iload 7, 2, 7, 0, .null, [], []),
  (91, .iload 4, 2, 4, 0, .null, [], []),
  (93, .if_icmp .le 10, 3, 103, 0, .null, [], []),
  (96, .iload 5, 2, 5, 0, .null, [], []),
  (98, .istore_n 3, 1, 3, 0, .null, [], []),
  (99, .iload 7, 2, 7, 0, .null, [], []),
  (101, .istore 4, 2, 4, 0, .null, [], []),
  (103, .iinc 5 1, 3, 5, 0, .int 1, [], []),
  (106, .goto (-87), 3, 19, 0, .null, [], []),
  (109, .aload_n 0, 1, 0, 0, .null, [], []),
  (110, .iload_n 1, 1, 1, 0, .null, [], []),
  (111, .iconst 1, 1, 0, 0, .int 1, [], []),
  (112, .iadd, 1, 0, 0, .null, [], []),
  (113, .iload_n 2, 1, 2, 0, .null, [], []),
  (114, .iload_n 3, 1, 3, 0, .null, [], []),
  (115, .ifCond .ge 7, 3, 122, 0, .null, [], []),
  (118, .iconst 0, 1, 0, 0, .int 0, [], []),
  (119, .goto 9, 3, 128, 0, .null, [], []),
  (122, .aload_n 0, 1, 0, 0, .null, [], []),
  (123, .getfield 37, 3, 11, 18, .null, [], [157]),
  (126, .iload_n 3, 1, 3, 0, .null, [], []),
  (127, .iaload, 1, 0, 0, .null, [], []),
  (128, .iadd, 1, 0, 0, .null, [], []),
  (129, .invokevirtual 210, 14, 195, 2, .int 0, [], [163]),
  (132, .istore 5, 2, 5, 0, .null, [], []),
  (134, .aload_n 0, 1, 0, 0, .null, [], []),
  (135, .getfield 43, 3, 11, 20, .null, [], [159]),
  (138, .iload_n 1, 1, 1, 0, .null, [], []),
  (139, .iload_n 3, 1, 3, 0, .null, [], []),
  (140, .iastore, 1, 0, 0, .null, [], []),
  (141, .iload 5, 2, 5, 0, .null, [], []),
  (143, .ireturn, 1, 0, 0, .int 0, [], [])],
  [(19, [true, true, true, true, true, true, false, false]), (49, [true, true, true, true, true, true, false, false])], 8)
/-- 196: LeastPaysModel.ordered(II)I -/
def kX11_ordered : j_K := ([
  (0, .aload_n 0, 1, 0, 0, .null, [], []),
  (1, .iload_n 1, 1, 1, 0, .null, [], []),
  (2, .invokevirtual 105, 14, 160, 1, .int 0, [], [142]),
  (5, .ifCond .eq 24, 3, 29, 0, .null, [], []),
  (8, .iload_n 2, 1, 2, 0, .null, [], []),
  (9, .i2l, 1, 0, 0, .null, [], []),
  (10, .lconst 0, 1, 0, 0, .long 0, [], []),
  (11, .ldc2_w 216, 3, 0, 0, .long 2, [], [13]),
  (14, .invokestatic 93, 3, 155, 3, .int 0, [], [140]),
  (17, .ifCond .eq 12, 3, 29, 0, .null, [], []),
  (20, .iload_n 2, 1, 2, 0, .null, [], []),
  (21, .iconst 2, 1, 0, 0, .int 2, [], []),
  (22, .if_icmp .ne 10, 3, 32, 0, .null, [], []),
  (25, .iload_n 1, 1, 1, 0, .null, [], []),
  (26, .ifCond .eq 6, 3, 32, 0, .null, [], []),
  (29, .ldc 125, 2, 0, 0, .int (-2000000000), [], [3]),
  (31, .ireturn, 1, 0, 0, .int 0, [], []),
  (32, .aload_n 0, 1, 0, 0, .null, [], []),
  (33, .invokevirtual 157, 14, 167, 0, .null, [], [151]),
  (36, .aload_n 0, 1, 0, 0, .null, [], []),
  (37, .iconst 0, 1, 0, 0, .int 0, [], []),
  (38, .iconst 0, 1, 0, 0, .int 0, [], []),
  (39, .invokevirtual 210, 14, 195, 2, .int 0, [], [163]),
  (42, .istore_n 3, 1, 3, 0, .null, [], []),
  (43, .iload_n 2, 1, 2, 0, .null, [], []),
  (44, .iconst 1, 1, 0, 0, .int 1, [], []),
  (45, .if_icmp .eq 33, 3, 78, 0, .null, [], []),
  (48, .iload_n 2, 1, 2, 0, .null, [], []),
  (49, .iconst 2, 1, 0, 0, .int 2, [], []),
  (50, .if_icmp .ne 7, 3, 57, 0, .null, [], []),
  (53, .iload_n 3, 1, 3, 0, .null, [], []),
  (54, .goto 23, 3, 77, 0, .null, [], []),
  (57, .aload_n 0, 1, 0, 0, .null, [], []),
  (58, .getfield 43, 3, 11, 20, .null, [], [159]),
  (61, .iload_n 1, 1, 1, 0, .null, [], []),
  (62, .iaload, 1, 0, 0, .null, [], []),
  (63, .ifCond .ge 8, 3, 71, 0, .null, [], []),
  (66, .bipush (-2), 2, 0, 0, .int (-2), [], []),
  (68, .goto 9, 3, 77, 0, .null, [], []),
  (71, .aload_n 0, 1, 0, 0, .null, [], []),
  (72, .getfield 43, 3, 11, 20, .null, [], [159]),
  (75, .iload_n 1, 1, 1, 0, .null, [], []),
  (76, .iaload, 1, 0, 0, .null, [], []),
  (77, .ireturn, 1, 0, 0, .int 0, [], []),
  (78, .aload_n 0, 1, 0, 0, .null, [], []),
  (79, .iload_n 3, 1, 3, 0, .null, [], []),
  (80, .aload_n 0, 1, 0, 0, .null, [], []),
  (81, .getfield 9, 3, 11, 0, .null, [], [148]),
  (84, .bipush 25, 2, 0, 0, .int 25, [], []),
  (86, .iaload, 1, 0, 0, .null, [], []),
  (87, .invokevirtual 153, 14, 172, 2, .null, [], [150]),
  (90, .aload_n 0, 1, 0, 0, .null, [], []),
  (91, .iload_n 1, 1, 1, 0, .null, [], []),
  (92, .aload_n 0, 1, 0, 0, .null, [], []),
  (93, .getfield 43, 3, 11, 20, .null, [], [159]),
  (96, .iload_n 1, 1, 1, 0, .null, [], []),
  (97, .iaload, 1, 0, 0, .null, [], []),
  (98, .invokevirtual 213, 14, 194, 2, .int 0, [], [164]),
  (101, .aload_n 0, 1, 0, 0, .null, [], []),
  (102, .iload_n 1, 1, 1, 0, .null, [], []),
  (103, .invokevirtual 163, 14, 174, 1, .int 0, [], [153]),
  (106, .isub, 1, 0, 0, .null, [], []),
  (107, .ireturn, 1, 0, 0, .int 0, [], [])],
  [(32, [true, true, true, false])], 4)
/-- 197: LeastPaysModel.feed(I)I -/
def kX11_feed : j_K := ([
  (0, .iload_n 1, 1, 1, 0, .null, [], []),
  (1, .i2l, 1, 0, 0, .null, [], []),
  (2, .lconst 0, 1, 0, 0, .long 0, [], []),
  (3, .ldc2_w 218, 3, 0, 0, .long 255, [], [14]),
  (6, .invokestatic 93, 3, 155, 3, .int 0, [], [140]),
  (9, .ifCond .ne 5, 3, 14, 0, .null, [], []),
  (12, .iconst (-1), 1, 0, 0, .int (-1), [], []),
  (13, .ireturn, 1, 0, 0, .int 0, [], []),
  (14, .aload_n 0, 1, 0, 0, .null, [], []),
  (15, .getfield 220, 3, 11, 22, .int 0, [], [181]),
  (18, .bipush 120, 2, 0, 0, .int 120, [], []),
  (20, .if_icmp .ne 6, 3, 26, 0, .null, [], []),
  (23, .bipush (-3), 2, 0, 0, .int (-3), [], []),
  (25, .ireturn, 1, 0, 0, .int 0, [], []),
  (26, .aload_n 0, 1, 0, 0, .null, [], []),
  (27, .getfield 46, 3, 11, 21, .null, [], [160]),
  (30, .aload_n 0, 1, 0, 0, .null, [], []),
  (31, .getfield 220, 3, 11, 22, .int 0, [], [181]),
  (34, .iload_n 1, 1, 1, 0, .null, [], []),
  (35, .iastore, 1, 0, 0, .null, [], []),
  (36, .aload_n 0, 1, 0, 0, .null, [], []),
  (37, .dup, 1, 0, 0, .null, [], []),
  (38, .getfield 220, 3, 11, 22, .int 0, [], [181]),
  (41, .iconst 1, 1, 0, 0, .int 1, [], []),
  (42, .iadd, 1, 0, 0, .null, [], []),
  (43, .putfield 220, 3, 11, 22, .int 0, [], [181]),
  (46, .aload_n 0, 1, 0, 0, .null, [], []),
  (47, .getfield 220, 3, 11, 22, .int 0, [], [181]),
  (50, .ireturn, 1, 0, 0, .int 0, [], [])],
  [], 2)
/-- 198: LeastPaysModel.byteAt()I -/
def kX11_byteAt : j_K := ([
  (0, .aload_n 0, 1, 0, 0, .null, [], []),
  (1, .getfield 223, 3, 11, 26, .int 0, [], [182]),
  (4, .aload_n 0, 1, 0, 0, .null, [], []),
  (5, .getfield 226, 3, 11, 27, .int 0, [], [183]),
  (8, .if_icmp .ge 39, 3, 47, 0, .null, [], []),
  (11, .aload_n 0, 1, 0, 0, .null, [], []),
  (12, .getfield 229, 3, 11, 25, .int 0, [], [184]),
  (15, .ifCond .ge 15, 3, 30, 0, .null, [], []),
  (18, .aload_n 0, 1, 0, 0, .null, [], []),
  (19, .getfield 46, 3, 11, 21, .null, [], [160]),
  (22, .aload_n 0, 1, 0, 0, .null, [], []),
  (23, .getfield 223, 3, 11, 26, .int 0, [], [182]),
  (26, .iaload, 1, 0, 0, .null, [], []),
  (27, .goto 21, 3, 48, 0, .null, [], []),
  (30, .aload_n 0, 1, 0, 0, .null, [], []),
  (31, .getfield 49, 3, 11, 23, .null, [], [161]),
  (34, .aload_n 0, 1, 0, 0, .null, [], []),
  (35, .getfield 229, 3, 11, 25, .int 0, [], [184]),
  (38, .aload_n 0, 1, 0, 0, .null, [], []),
  (39, .getfield 223, 3, 11, 26, .int 0, [], [182]),
  (42, .iadd, 1, 0, 0, .null, [], []),
  (43, .iaload, 1, 0, 0, .null, [], []),
  (44, .goto 4, 3, 48, 0, .null, [], []),
  (47, .iconst 0, 1, 0, 0, .int 0, [], []),
  (48, .ireturn, 1, 0, 0, .int 0, [], [])],
  [], 1)
/-- 199: LeastPaysModel.wrong()I -/
def kX11_wrong : j_K := ([
  (0, .aload_n 0, 1, 0, 0, .null, [], []),
  (1, .aload_n 0, 1, 0, 0, .null, [], []),
  (2, .getfield 232, 3, 11, 28, .int 0, [], [185]),
  (5, .ifCond .ge 10, 3, 15, 0, .null, [], []),
  (8, .aload_n 0, 1, 0, 0, .null, [], []),
  (9, .getfield 223, 3, 11, 26, .int 0, [], [182]),
  (12, .goto 7, 3, 19, 0, .null, [], []),
  (15, .aload_n 0, 1, 0, 0, .null, [], []),
  (16, .getfield 232, 3, 11, 28, .int 0, [], [185]),
  (19, .putfield 232, 3, 11, 28, .int 0, [], [185]),
  (22, .iconst 0, 1, 0, 0, .int 0, [], []),
  (23, .ireturn, 1, 0, 0, .int 0, [], [])],
  [], 1)
/-- 200: LeastPaysModel.takes(I)Z -/
def kX11_takes : j_K := ([
  (0, .aload_n 0, 1, 0, 0, .null, [], []),
  (1, .getfield 232, 3, 11, 28, .int 0, [], [185]),
  (4, .ifCond .ge 11, 3, 15, 0, .null, [], []),
  (7, .aload_n 0, 1, 0, 0, .null, [], []),
  (8, .invokevirtual 235, 14, 198, 0, .int 0, [], [165]),
  (11, .iload_n 1, 1, 1, 0, .null, [], []),
  (12, .if_icmp .eq 5, 3, 17, 0, .null, [], []),
  (15, .iconst 0, 1, 0, 0, .int 0, [], []),
  (16, .ireturn, 1, 0, 0, .long 0, [], []),
  (17, .aload_n 0, 1, 0, 0, .null, [], []),
  (18, .dup, 1, 0, 0, .null, [], []),
  (19, .getfield 223, 3, 11, 26, .int 0, [], [182]),
  (22, .iconst 1, 1, 0, 0, .int 1, [], []),
  (23, .iadd, 1, 0, 0, .null, [], []),
  (24, .putfield 223, 3, 11, 26, .int 0, [], [182]),
  (27, .iconst 1, 1, 0, 0, .int 1, [], []),
  (28, .ireturn, 1, 0, 0, .long 0, [], [])],
  [], 2)
/-- 201: LeastPaysModel.either()I -/
def kX11_either : j_K := ([
  (0, .aload_n 0, 1, 0, 0, .null, [], []),
  (1, .invokevirtual 238, 14, 202, 0, .int 0, [], [166]),
  (4, .istore_n 1, 1, 1, 0, .null, [], []),
  (5, .aload_n 0, 1, 0, 0, .null, [], []),
  (6, .bipush 124, 2, 0, 0, .int 124, [], []),
  (8, .invokevirtual 241, 14, 200, 1, .int 0, [], [167]),
  (11, .ifCond .eq 25, 3, 36, 0, .null, [], []),
  (14, .aload_n 0, 1, 0, 0, .null, [], []),
  (15, .invokevirtual 238, 14, 202, 0, .int 0, [], [166]),
  (18, .istore_n 2, 1, 2, 0, .null, [], []),
  (19, .iload_n 1, 1, 1, 0, .null, [], []),
  (20, .ifCond .ne 7, 3, 27, 0, .null, [], []),
  (23, .iload_n 2, 1, 2, 0, .null, [], []),
  (24, .ifCond .eq 7, 3, 31, 0, .null, [], []),
  (27, .iconst 1, 1, 0, 0, .int 1, [], []),
  (28, .goto 4, 3, 32, 0, .null, [], []),
  (31, .iconst 0, 1, 0, 0, .int 0, [], []),
  (32, .istore_n 1, 1, 1, 0, .null, [], []),
  (33, .goto (-28), 3, 5, 0, .null, [], []),
  (36, .iload_n 1, 1, 1, 0, .null, [], []),
  (37, .ireturn, 1, 0, 0, .int 0, [], [])],
  [(5, [true, true, false])], 3)
/-- 202: LeastPaysModel.both()I -/
def kX11_both : j_K := ([
  (0, .aload_n 0, 1, 0, 0, .null, [], []),
  (1, .invokevirtual 244, 14, 203, 0, .int 0, [], [168]),
  (4, .istore_n 1, 1, 1, 0, .null, [], []),
  (5, .aload_n 0, 1, 0, 0, .null, [], []),
  (6, .bipush 38, 2, 0, 0, .int 38, [], []),
  (8, .invokevirtual 241, 14, 200, 1, .int 0, [], [167]),
  (11, .ifCond .eq 25, 3, 36, 0, .null, [], []),
  (14, .aload_n 0, 1, 0, 0, .null, [], []),
  (15, .invokevirtual 244, 14, 203, 0, .int 0, [], [168]),
  (18, .istore_n 2, 1, 2, 0, .null, [], []),
  (19, .iload_n 1, 1, 1, 0, .null, [], []),
  (20, .ifCond .eq 11, 3, 31, 0, .null, [], []),
  (23, .iload_n 2, 1, 2, 0, .null, [], []),
  (24, .ifCond .eq 7, 3, 31, 0, .null, [], []),
  (27, .iconst 1, 1, 0, 0, .int 1, [], []),
  (28, .goto 4, 3, 32, 0, .null, [], []),
  (31, .iconst 0, 1, 0, 0, .int 0, [], []),
  (32, .istore_n 1, 1, 1, 0, .null, [], []),
  (33, .goto (-28), 3, 5, 0, .null, [], []),
  (36, .iload_n 1, 1, 1, 0, .null, [], []),
  (37, .ireturn, 1, 0, 0, .int 0, [], [])],
  [(5, [true, true, false])], 3)
/-- 203: LeastPaysModel.compared()I -/
def kX11_compared : j_K := ([
  (0, .aload_n 0, 1, 0, 0, .null, [], []),
  (1, .invokevirtual 247, 14, 204, 0, .int 0, [], [169]),
  (4, .istore_n 1, 1, 1, 0, .null, [], []),
  (5, .aload_n 0, 1, 0, 0, .null, [], []),
  (6, .invokevirtual 235, 14, 198, 0, .int 0, [], [165]),
  (9, .istore_n 2, 1, 2, 0, .null, [], []),
  (10, .aload_n 0, 1, 0, 0, .null, [], []),
  (11, .getfield 232, 3, 11, 28, .int 0, [], [185]),
  (14, .ifCond .ge 21, 3, 35, 0, .null, [], []),
  (17, .iload_n 2, 1, 2, 0, .null, [], []),
  (18, .bipush 60, 2, 0, 0, .int 60, [], []),
  (20, .if_icmp .eq 17, 3, 37, 0, .null, [], []),
  (23, .iload_n 2, 1, 2, 0, .null, [], []),
  (24, .bipush 61, 2, 0, 0, .int 61, [], []),
  (26, .if_icmp .eq 11, 3, 37, 0, .null, [], []),
  (29, .iload_n 2, 1, 2, 0, .null, [], []),
  (30, .bipush 62, 2, 0, 0, .int 62, [], []),
  (32, .if_icmp .eq 5, 3, 37, 0, .null, [], []),
  (35, .iload_n 1, 1, 1, 0, .null, [], []),
  (36, .ireturn, 1, 0, 0, .int 0, [], []),
  (37, .aload_n 0, 1, 0, 0, .null, [], []),
  (38, .dup, 1, 0, 0, .null, [], []),
  (39, .getfield 223, 3, 11, 26, .int 0, [], [182]),
  (42, .iconst 1, 1, 0, 0, .int 1, [], []),
  (43, .iadd, 1, 0, 0, .null, [], []),
  (44, .putfield 223, 3, 11, 26, .int 0, [], [182]),
  (47, .aload_n 0, 1, 0, 0, .null, [], []),
  (48, .invokevirtual 247, 14, 204, 0, .int 0, [], [169]),
  (51, .istore_n 3, 1, 3, 0, .null, [], []),
  (52, .iload_n 2, 1, 2, 0, .null, [], []),
  (53, .bipush 60, 2, 0, 0, .int 60, [], []),
  (55, .if_icmp .ne 11, 3, 66, 0, .null, [], []),
  (58, .iload_n 1, 1, 1, 0, .null, [], []),
  (59, .iload_n 3, 1, 3, 0, .null, [], []),
  (60, .if_icmp .ge 29, 3, 89, 0, .null, [], []),
  (63, .goto 22, 3, 85, 0, .null, [], []),
  (66, .iload_n 2, 1, 2, 0, .null, [], []),
  (67, .bipush 61, 2, 0, 0, .int 61, [], []),
  (69, .if_icmp .ne 11, 3, 80, 0, .null, [], []),
  (72, .iload_n 1, 1, 1, 0, .null, [], []),
  (73, .iload_n 3, 1, 3, 0, .null, [], []),
  (74, .if_icmp .ne 15, 3, 89, 0, .null, [], []),
  (77, .goto 8, 3, 85, 0, .null, [], []),
  (80, .iload_n 1, 1, 1, 0, .null, [], []),
  (81, .iload_n 3, 1, 3, 0, .null, [], []),
  (82, .if_icmp .le 7, 3, 89, 0, .null, [], []),
  (85, .iconst 1, 1, 0, 0, .int 1, [], []),
  (86, .goto 4, 3, 90, 0, .null, [], []),
  (89, .iconst 0, 1, 0, 0, .int 0, [], []),
  (90, .ireturn, 1, 0, 0, .int 0, [], [])],
  [(37, [true, true, true, false])], 4)
/-- 204: LeastPaysModel.sums()I -/
def kX11_sums : j_K := ([
  (0, .aload_n 0, 1, 0, 0, .null, [], []),
  (1, .invokevirtual 250, 14, 205, 0, .int 0, [], [170]),
  (4, .istore_n 1, 1, 1, 0, .null, [], []),
  (5, .aload_n 0, 1, 0, 0, .null, [], []),
  (6, .getfield 232, 3, 11, 28, .int 0, [], [185]),
  (9, .ifCond .ge 68, 3, 77, 0, .null, [], []),
  (12, .aload_n 0, 1, 0, 0, .null, [], []),
  (13, .invokevirtual 235, 14, 198, 0, .int 0, [], [165]),
  (16, .bipush 43, 2, 0, 0, .int 43, [], []),
  (18, .if_icmp .eq 12, 3, 30, 0, .null, [], []),
  (21, .aload_n 0, 1, 0, 0, .null, [], []),
  (22, .invokevirtual 235, 14, 198, 0, .int 0, [], [165]),
  (25, .bipush 45, 2, 0, 0, .int 45, [], []),
  (27, .if_icmp .ne 50, 3, 77, 0, .null, [], []),
  (30, .aload_n 0, 1, 0, 0, .null, [], []),
  (31, .invokevirtual 235, 14, 198, 0, .int 0, [], [165]),
  (34, .bipush 43, 2, 0, 0, .int 43, [], []),
  (36, .if_icmp .ne 7, 3, 43, 0, .null, [], []),
  (39, .iconst 1, 1, 0, 0, .int 1, [], []),
  (40, .goto 4, 3, 44, 0, .null, [], []),
  (43, .iconst 0, 1, 0, 0, .int 0, [], []),
  (44, .istore_n 2, 1, 2, 0, .null, [], []),
  (45, .aload_n 0, 1, 0, 0, .null, [], []),
  (46, .dup, 1, 0, 0, .null, [], []),
  (47, .getfield 223, 3, 11, 26, .int 0, [], [182]),
  (50, .iconst 1, 1, 0, 0, .int 1, [], []),
  (51, .iadd, 1, 0, 0, .null, [], []),
  (52, .putfield 223, 3, 11, 26, .int 0, [], [182]),
  (55, .aload_n 0, 1, 0, 0, .null, [], []),
  (56, .invokevirtual 250, 14, 205, 0, .int 0, [], [170]),
  (59, .istore_n 3, 1, 3, 0, .null, [], []),
  (60, .iload_n 2, 1, 2, 0, .null, [], []),
  (61, .ifCond .eq 9, 3, 70, 0, .null, [], []),
  (64, .iload_n 1, 1, 1, 0, .null, [], []),
  (65, .iload_n 3, 1, 3, 0, .null, [], []),
  (66, .iadd, 1, 0, 0, .null, [], []),
  (67, .goto 6, 3, 73, 0, .null, [], []),
  (70, .iload_n 1, 1, 1, 0, .null, [], []),
  (71, .iload_n 3, 1, 3, 0, .null, [], []),
  (72, .isub, 1, 0, 0, .null, [], []),
  (73, .istore_n 1, 1, 1, 0, .null, [], []),
  (74, .goto (-69), 3, 5, 0, .null, [], []),
  (77, .iload_n 1, 1, 1, 0, .null, [], []),
  (78, .ireturn, 1, 0, 0, .int 0, [], [])],
  [(5, [true, true, false, false]), (30, [true, true, false, false])], 4)
/-- 205: LeastPaysModel.product()I -/
def kX11_product : j_K := ([
  (0, .aload_n 0, 1, 0, 0, .null, [], []),
  (1, .invokevirtual 253, 14, 207, 0, .int 0, [], [171]),
  (4, .istore_n 1, 1, 1, 0, .null, [], []),
  (5, .aload_n 0, 1, 0, 0, .null, [], []),
  (6, .invokevirtual 235, 14, 198, 0, .int 0, [], [165]),
  (9, .istore_n 2, 1, 2, 0, .null, [], []),
  (10, .aload_n 0, 1, 0, 0, .null, [], []),
  (11, .getfield 232, 3, 11, 28, .int 0, [], [185]),
  (14, .ifCond .ge 80, 3, 94, 0, .null, [], []),
  (17, .iload_n 2, 1, 2, 0, .null, [], []),
  (18, .bipush 42, 2, 0, 0, .int 42, [], []),
  (20, .if_icmp .eq 15, 3, 35, 0, .null, [], []),
  (23, .iload_n 2, 1, 2, 0, .null, [], []),
  (24, .bipush 47, 2, 0, 0, .int 47, [], []),
  (26, .if_icmp .eq 9, 3, 35, 0, .null, [], []),
  (29, .iload_n 2, 1, 2, 0, .null, [], []),
  (30, .bipush 37, 2, 0, 0, .int 37, [], []),
  (32, .if_icmp .ne 62, 3, 94, 0, .null, [], []),
  (35, .aload_n 0, 1, 0, 0, .null, [], []),
  (36, .dup, 1, 0, 0, .null, [], []),
  (37, .getfield 223, 3, 11, 26, .int 0, [], [182]),
  (40, .iconst 1, 1, 0, 0, .int 1, [], []),
  (41, .iadd, 1, 0, 0, .null, [], []),
  (42, .putfield 223, 3, 11, 26, .int 0, [], [182]),
  (45, .aload_n 0, 1, 0, 0, .null, [], []),
  (46, .invokevirtual 253, 14, 207, 0, .int 0, [], [171]),
  (49, .istore_n 3, 1, 3, 0, .null, [], []),
  (50, .iload_n 2, 1, 2, 0, .null, [], []),
  (51, .bipush 42, 2, 0, 0, .int 42, [], []),
  (53, .if_icmp .ne 9, 3, 62, 0, .null, [], []),
  (56, .iload_n 1, 1, 1, 0, .null, [], []),
  (57, .iload_n 3, 1, 3, 0, .null, [], []),
  (58, .imul, 1, 0, 0, .null, [], []),
  (59, .goto 26, 3, 85, 0, .null, [], []),
  (62, .iload_n 3, 1, 3, 0, .null, [], []),
  (63, .ifCond .ne 7, 3, 70, 0, .null, [], []),
  (66, .iconst 0, 1, 0, 0, .int 0, [], []),
  (67, .goto 18, 3, 85, 0, .null, [], []),
  (70, .iload_n 2, 1, 2, 0, .null, [], []),
  (71, .bipush 47, 2, 0, 0, .int 47, [], []),
  (73, .if_icmp .ne 9, 3, 82, 0, .null, [], []),
  (76, .iload_n 1, 1, 1, 0, .null, [], []),
  (77, .iload_n 3, 1, 3, 0, .null, [], []),
  (78, .idiv, 1, 0, 0, .null, [], []),
  (79, .goto 6, 3, 85, 0, .null, [], []),
  (82, .iload_n 1, 1, 1, 0, .null, [], []),
  (83, .iload_n 3, 1, 3, 0, .null, [], []),
  (84, .irem, 1, 0, 0, .null, [], []),
  (85, .istore_n 1, 1, 1, 0, .null, [], []),
  (86, .aload_n 0, 1, 0, 0, .null, [], []),
  (87, .invokevirtual 235, 14, 198, 0, .int 0, [], [165]),
  (90, .istore_n 2, 1, 2, 0, .null, [], []),
  (91, .goto (-81), 3, 10, 0, .null, [], []),
  (94, .iload_n 1, 1, 1, 0, .null, [], []),
  (95, .ireturn, 1, 0, 0, .int 0, [], [])],
  [(10, [true, true, true, false]), (35, [true, true, true, false])], 4)
/-- 206: LeastPaysModel.nameOf(I)I -/
def kX11_nameOf : j_K := ([
  (0, .iload_n 0, 1, 0, 0, .null, [], []),
  (1, .lookupswitch 61 #[(98, 51), (107, 57), (110, 55), (112, 53), (114, 59)], 51, 62, 0, .null, [(98, 52), (107, 58), (110, 56), (112, 54), (114, 60)], []),
  (52, .iconst 0, 1, 0, 0, .int 0, [], []),
  (53, .ireturn, 1, 0, 0, .int 0, [], []),
  (54, .iconst 1, 1, 0, 0, .int 1, [], []),
  (55, .ireturn, 1, 0, 0, .int 0, [], []),
  (56, .iconst 2, 1, 0, 0, .int 2, [], []),
  (57, .ireturn, 1, 0, 0, .int 0, [], []),
  (58, .iconst 3, 1, 0, 0, .int 3, [], []),
  (59, .ireturn, 1, 0, 0, .int 0, [], []),
  (60, .iconst 4, 1, 0, 0, .int 4, [], []),
  (61, .ireturn, 1, 0, 0, .int 0, [], []),
  (62, .iconst (-1), 1, 0, 0, .int (-1), [], []),
  (63, .ireturn, 1, 0, 0, .int 0, [], [])],
  [], 1)
/-- 207: LeastPaysModel.one()I -/
def kX11_one : j_K := ([
  (0, .aload_n 0, 1, 0, 0, .null, [], []),
  (1, .getfield 232, 3, 11, 28, .int 0, [], [185]),
  (4, .ifCond .lt 5, 3, 9, 0, .null, [], []),
  (7, .iconst 0, 1, 0, 0, .int 0, [], []),
  (8, .ireturn, 1, 0, 0, .int 0, [], []),
  (9, .aload_n 0, 1, 0, 0, .null, [], []),
  (10, .invokevirtual 235, 14, 198, 0, .int 0, [], [165]),
  (13, .istore_n 1, 1, 1, 0, .null, [], []),
  (14, .iload_n 1, 1, 1, 0, .null, [], []),
  (15, .bipush 33, 2, 0, 0, .int 33, [], []),
  (17, .if_icmp .eq 15, 3, 32, 0, .null, [], []),
  (20, .iload_n 1, 1, 1, 0, .null, [], []),
  (21, .bipush 45, 2, 0, 0, .int 45, [], []),
  (23, .if_icmp .eq 9, 3, 32, 0, .null, [], []),
  (26, .iload_n 1, 1, 1, 0, .null, [], []),
  (27, .bipush 40, 2, 0, 0, .int 40, [], []),
  (29, .if_icmp .ne 116, 3, 145, 0, .null, [], []),
  (32, .aload_n 0, 1, 0, 0, .null, [], []),
  (33, .getfield 256, 3, 11, 29, .int 0, [], [186]),
  (36, .bipush 6, 2, 0, 0, .int 6, [], []),
  (38, .if_icmp .ne 8, 3, 46, 0, .null, [], []),
  (41, .aload_n 0, 1, 0, 0, .null, [], []),
  (42, .invokevirtual 259, 14, 199, 0, .int 0, [], [172]),
  (45, .ireturn, 1, 0, 0, .int 0, [], []),
  (46, .aload_n 0, 1, 0, 0, .null, [], []),
  (47, .dup, 1, 0, 0, .null, [], []),
  (48, .getfield 256, 3, 11, 29, .int 0, [], [186]),
  (51, .iconst 1, 1, 0, 0, .int 1, [], []),
  (52, .iadd, 1, 0, 0, .null, [], []),
  (53, .putfield 256, 3, 11, 29, .int 0, [], [186]),
  (56, .aload_n 0, 1, 0, 0, .null, [], []),
  (57, .dup, 1, 0, 0, .null, [], []),
  (58, .getfield 223, 3, 11, 26, .int 0, [], [182]),
  (61, .iconst 1, 1, 0, 0, .int 1, [], []),
  (62, .iadd, 1, 0, 0, .null, [], []),
  (63, .putfield 223, 3, 11, 26, .int 0, [], [182]),
  (66, .iload_n 1, 1, 1, 0, .null, [], []),
  (67, .bipush 40, 2, 0, 0, .int 40, [], []),
  (69, .if_icmp .ne 10, 3, 79, 0, .null, [], []),
  (72, .aload_n 0, 1, 0, 0, .null, [], []),
  (73, .invokevirtual 262, 14, 201, 0, .int 0, [], [173]),
  (76, .goto 7, 3, 83, 0, .null, [], []),
  (79, .aload_n 0, 1, 0, 0, .null, [], []),
  (80, .invokevirtual 253, 14, 207, 0, .int 0, [], [171]),
  (83, .istore_n 2, 1, 2, 0, .null, [], []),
  (84, .iload_n 1, 1, 1, 0, .null, [], []),
  (85, .bipush 40, 2, 0, 0, .int 40, [], []),
  (87, .if_icmp .ne 17, 3, 104, 0, .null, [], []),
  (90, .aload_n 0, 1, 0, 0, .null, [], []),
  (91, .bipush 41, 2, 0, 0, .int 41, [], []),
  (93, .invokevirtual 241, 14, 200, 1, .int 0, [], [167]),
  (96, .ifCond .ne 8, 3, 104, 0, .null, [], []),
  (99, .aload_n 0, 1, 0, 0, .null, [], []),
  (100, .invokevirtual 259, 14, 199, 0, .int 0, [], [172]),
  (103, .ireturn, 1, 0, 0, .int 0, [], []),
  (104, .aload_n 0, 1, 0, 0, .null, [], []),
  (105, .dup, 1, 0, 0, .null, [], []),
  (106, .getfield 256, 3, 11, 29, .int 0, [], [186]),
  (109, .iconst 1, 1, 0, 0, .int 1, [], []),
  (110, .isub, 1, 0, 0, .null, [], []),
  (111, .putfield 256, 3, 11, 29, .int 0, [], [186]),
  (114, .iload_n 1, 1, 1, 0, .null, [], []),
  (115, .bipush 40, 2, 0, 0, .int 40, [], []),
  (117, .if_icmp .ne 7, 3, 124, 0, .null, [], []),
  (120, .iload_n 2, 1, 2, 0, .null, [], []),
  (121, .goto 23, 3, 144, 0, .null, [], []),
  (124, .iload_n 1, 1, 1, 0, .null, [], []),
  (125, .bipush 45, 2, 0, 0, .int 45, [], []),
  (127, .if_icmp .ne 8, 3, 135, 0, .null, [], []),
  (130, .iload_n 2, 1, 2, 0, .null, [], []),
  (131, .ineg, 1, 0, 0, .null, [], []),
  (132, .goto 12, 3, 144, 0, .null, [], []),
  (135, .iload_n 2, 1, 2, 0, .null, [], []),
  (136, .ifCond .ne 7, 3, 143, 0, .null, [], []),
  (139, .iconst 1, 1, 0, 0, .int 1, [], []),
  (140, .goto 4, 3, 144, 0, .null, [], []),
  (143, .iconst 0, 1, 0, 0, .int 0, [], []),
  (144, .ireturn, 1, 0, 0, .int 0, [], []),
  (145, .iload_n 1, 1, 1, 0, .null, [], []),
  (146, .invokestatic 265, 3, 206, 1, .int 0, [], [174]),
  (149, .istore_n 2, 1, 2, 0, .null, [], []),
  (150, .iload_n 2, 1, 2, 0, .null, [], []),
  (151, .ifCond .lt 20, 3, 171, 0, .null, [], []),
  (154, .aload_n 0, 1, 0, 0, .null, [], []),
  (155, .dup, 1, 0, 0, .null, [], []),
  (156, .getfield 223, 3, 11, 26, .int 0, [], [182]),
  (159, .iconst 1, 1, 0, 0, .int 1, [], []),
  (160, .iadd, 1, 0, 0, .null, [], []),
  (161, .putfield 223, 3, 11, 26, .int 0, [], [182]),
  (164, .aload_n 0, 1, 0, 0, .null, [], []),
  (165, .getfield 52, 3, 11, 30, .null, [], [162]),
  (168, .iload_n 2, 1, 2, 0, .null, [], []),
  (169, .iaload, 1, 0, 0, .null, [], []),
  (170, .ireturn, 1, 0, 0, .int 0, [], []),
  (171, .iconst 0, 1, 0, 0, .int 0, [], []),
  (172, .istore_n 3, 1, 3, 0, .null, [], []),
  (173, .iconst 0, 1, 0, 0, .int 0, [], []),
  (174, .istore 4, 2, 4, 0, .null, [], []),
  (176, .iload 4, 2, 4, 0, .null, [], []),
  (178, .iconst 4, 1, 0, 0, .int 4, [], []),
  (179, .if_icmp .ge 50, 3, 229, 0, .null, [], []),
  (182, .aload_n 0, 1, 0, 0, .null, [], []),
  (183, .invokevirtual 235, 14, 198, 0, .int 0, [], [165]),
  (186, .bipush 48, 2, 0, 0, .int 48, [], []),
  (188, .if_icmp .lt 41, 3, 229, 0, .null, [], []),
  (191, .aload_n 0, 1, 0, 0, .null, [], []),
  (192, .invokevirtual 235, 14, 198, 0, .int 0, [], [165]),
  (195, .bipush 57, 2, 0, 0, .int 57, [], []),
  (197, .if_icmp .gt 32, 3, 229, 0, .null, [], []),
  (200, .bipush 10, 2, 0, 0, .int 10, [], []),
  (202, .iload_n 3, 1, 3, 0, .null, [], []),
  (203, .imul, 1, 0, 0, .null, [], []),
  (204, .aload_n 0, 1, 0, 0, .null, [], []),
  (205, .invokevirtual 235, 14, 198, 0, .int 0, [], [165]),
  (208, .iadd, 1, 0, 0, .null, [], []),
  (209, .bipush 48, 2, 0, 0, .int 48, [], []),
  (211, .isub, 1, 0, 0, .null, [], []),
  (212, .istore_n 3, 1, 3, 0, .null, [], []),
  (213, .iinc 4 1, 3, 4, 0, .int 1, [], []),
  (216, .aload_n 0, 1, 0, 0, .null, [], []),
  (217, .dup, 1, 0, 0, .null, [], []),
  (218, .getfield 223, 3, 11, 26, .int 0, [], [182]),
  (221, .iconst 1, 1, 0, 0, .int 1, [], []),
  (222, .iadd, 1, 0, 0, .null, [], []),
  (223, .putfield 223, 3, 11, 26, .int 0, [], [182]),
  (226, .goto (-50), 3, 176, 0, .null, [], []),
  (229, .iload 4, 2, 4, 0, .null, [], []),
  (231, .ifCond .ne 10, 3, 241, 0, .null, [], []),
  (234, .aload_n 0, 1, 0, 0, .null, [], []),
  (235, .invokevirtual 259, 14, 199, 0, .int 0, [], [172]),
  (238, .goto 4, 3, 242, 0, .null, [], []),
  (241, .iload_n 3, 1, 3, 0, .null, [], []),
  (242, .ireturn, 1, 0, 0, .int 0, [], [])],
  [(32, [true, true, false, false, false]), (83, [true, true, false, false, false]), (176, [true, false, false, true, true])], 5)
/-- 208: LeastPaysModel.workOut(II)I -/
def kX11_workOut : j_K := ([
  (0, .aload_n 0, 1, 0, 0, .null, [], []),
  (1, .iload_n 1, 1, 1, 0, .null, [], []),
  (2, .putfield 229, 3, 11, 25, .int 0, [], [184]),
  (5, .aload_n 0, 1, 0, 0, .null, [], []),
  (6, .iconst 0, 1, 0, 0, .int 0, [], []),
  (7, .putfield 223, 3, 11, 26, .int 0, [], [182]),
  (10, .aload_n 0, 1, 0, 0, .null, [], []),
  (11, .iload_n 2, 1, 2, 0, .null, [], []),
  (12, .putfield 226, 3, 11, 27, .int 0, [], [183]),
  (15, .aload_n 0, 1, 0, 0, .null, [], []),
  (16, .iconst (-1), 1, 0, 0, .int (-1), [], []),
  (17, .putfield 232, 3, 11, 28, .int 0, [], [185]),
  (20, .aload_n 0, 1, 0, 0, .null, [], []),
  (21, .iconst 0, 1, 0, 0, .int 0, [], []),
  (22, .putfield 256, 3, 11, 29, .int 0, [], [186]),
  (25, .iconst 0, 1, 0, 0, .int 0, [], []),
  (26, .istore_n 3, 1, 3, 0, .null, [], []),
  (27, .iconst 0, 1, 0, 0, .int 0, [], []),
  (28, .istore 4, 2, 4, 0, .null, [], []),
  (30, .iconst 1, 1, 0, 0, .int 1, [], []),
  (31, .istore 5, 2, 5, 0, .null, [], []),
  (33, .iload 5, 2, 5, 0, .null, [], []),
  (35, .ifCond .eq 72, 3, 107, 0, .null, [], []),
  (38, .aload_n 0, 1, 0, 0, .null, [], []),
  (39, .invokevirtual 262, 14, 201, 0, .int 0, [], [173]),
  (42, .istore 6, 2, 6, 0, .null, [], []),
  (44, .iconst 1, 1, 0, 0, .int 1, [], []),
  (45, .istore 7, 2, 7, 0, .null, [], []),
  (47, .aload_n 0, 1, 0, 0, .null, [], []),
  (48, .bipush 63, 2, 0, 0, .int 63, [], []),
  (50, .invokevirtual 241, 14, 200, 1, .int 0, [], [167]),
  (53, .ifCond .eq 21, 3, 74, 0, .null, [], []),
  (56, .iload 6, 2, 6, 0, .null, [], []),
  (58, .ifCond .eq 7, 3, 65, 0, .null, [], []),
  (61, .iconst 1, 1, 0, 0, .int 1, [], []),
  (62, .goto 4, 3, 66, 0, .null, [], []),
  (65, .iconst 0, 1, 0, 0, .int 0, [], []),
  (66, .istore 7, 2, 7, 0, .null, [], []),
  (68, .aload_n 0, 1, 0, 0, .null, [], []),
  (69, .invokevirtual 262, 14, 201, 0, .int 0, [], [173]),
  (72, .istore 6, 2, 6, 0, .null, [], []),
  (74, .aload_n 0, 1, 0, 0, .null, [], []),
  (75, .getfield 232, 3, 11, 28, .int 0, [], [185]),
  (78, .ifCond .ge 18, 3, 96, 0, .null, [], []),
  (81, .iload 7, 2, 7, 0, .null, [], []),
  (83, .ifCond .eq 13, 3, 96, 0, .null, [], []),
  (86, .iload_n 3, 1, 3, 0, .null, [], []),
  (87, .ifCond .ne 9, 3, 96, 0, .null, [], []),
  (90, .iconst 1, 1, 0, 0, .int 1, [], []),
  (91, .istore_n 3, 1, 3, 0, .null, [], []),
  (92, .iload 6, 2, 6, 0, .null, [], []),
  (94, .istore 4, 2, 4, 0, .null, [], []),
  (96, .aload_n 0, 1, 0, 0, .null, [], []),
  (97, .bipush 59, 2, 0, 0, .int 59, [], []),
  (99, .invokevirtual 241, 14, 200, 1, .int 0, [], [167]),
  (102, .istore 5, 2, 5, 0, .null, [], []),
  (104, .goto (-71), 3, 33, 0, .null, [], []),
  (107, .aload_n 0, 1, 0, 0, .null, [], []),
  (108, .getfield 232, 3, 11, 28, .int 0, [], [185]),
  (111, .ifCond .ge 19, 3, 130, 0, .null, [], []),
  (114, .aload_n 0, 1, 0, 0, .null, [], []),
  (115, .getfield 223, 3, 11, 26, .int 0, [], [182]),
  (118, .aload_n 0, 1, 0, 0, .null, [], []),
  (119, .getfield 226, 3, 11, 27, .int 0, [], [183]),
  (122, .if_icmp .ge 8, 3, 130, 0, .null, [], []),
  (125, .aload_n 0, 1, 0, 0, .null, [], []),
  (126, .invokevirtual 259, 14, 199, 0, .int 0, [], [172]),
  (129, .ireturn, 1, 0, 0, .int 0, [], []),
  (130, .iload 4, 2, 4, 0, .null, [], []),
  (132, .ireturn, 1, 0, 0, .int 0, [], [])],
  [(33, [true, false, false, true, true, true, false, false]), (74, [true, false, false, true, true, false, true, true])], 8)
/-- 209: LeastPaysModel.law()I -/
def kX11_law : j_K := ([
  (0, .aload_n 0, 1, 0, 0, .null, [], []),
  (1, .iconst (-1), 1, 0, 0, .int (-1), [], []),
  (2, .aload_n 0, 1, 0, 0, .null, [], []),
  (3, .getfield 220, 3, 11, 22, .int 0, [], [181]),
  (6, .invokevirtual 268, 14, 208, 2, .int 0, [], [175]),
  (9, .istore_n 1, 1, 1, 0, .null, [], []),
  (10, .aload_n 0, 1, 0, 0, .null, [], []),
  (11, .getfield 220, 3, 11, 22, .int 0, [], [181]),
  (14, .istore_n 2, 1, 2, 0, .null, [], []),
  (15, .aload_n 0, 1, 0, 0, .null, [], []),
  (16, .iconst 0, 1, 0, 0, .int 0, [], []),
  (17, .putfield 220, 3, 11, 22, .int 0, [], [181]),
  (20, .aload_n 0, 1, 0, 0, .null, [], []),
  (21, .getfield 232, 3, 11, 28, .int 0, [], [185]),
  (24, .ifCond .lt 11, 3, 35, 0, .null, [], []),
  (27, .bipush (-100), 2, 0, 0, .int (-100), [], []),
  (29, .aload_n 0, 1, 0, 0, .null, [], []),
  (30, .getfield 232, 3, 11, 28, .int 0, [], [185]),
  (33, .isub, 1, 0, 0, .null, [], []),
  (34, .ireturn, 1, 0, 0, .int 0, [], []),
  (35, .iconst 0, 1, 0, 0, .int 0, [], []),
  (36, .istore_n 3, 1, 3, 0, .null, [], []),
  (37, .iload_n 3, 1, 3, 0, .null, [], []),
  (38, .iload_n 2, 1, 2, 0, .null, [], []),
  (39, .if_icmp .ge 21, 3, 60, 0, .null, [], []),
  (42, .aload_n 0, 1, 0, 0, .null, [], []),
  (43, .getfield 49, 3, 11, 23, .null, [], [161]),
  (46, .iload_n 3, 1, 3, 0, .null, [], []),
  (47, .aload_n 0, 1, 0, 0, .null, [], []),
  (48, .getfield 46, 3, 11, 21, .null, [], [160]),
  (51, .iload_n 3, 1, 3, 0, .null, [], []),
  (52, .iaload, 1, 0, 0, .null, [], []),
  (53, .iastore, 1, 0, 0, .null, [], []),
  (54, .iinc 3 1, 3, 3, 0, .int 1, [], []),
  (57, .goto (-20), 3, 37, 0, .null, [], []),
  (60, .aload_n 0, 1, 0, 0, .null, [], []),
  (61, .iload_n 2, 1, 2, 0, .null, [], []),
  (62, .putfield 80, 3, 11, 24, .int 0, [], [171]),
  (65, .iconst 1, 1, 0, 0, .int 1, [], []),
  (66, .ireturn, 1, 0, 0, .int 0, [], [])],
  [(37, [true, false, true, true])], 4)
/-- 210: LeastPaysModel.wouldGive(II)I -/
def kX11_wouldGive : j_K := ([
  (0, .iload_n 2, 1, 2, 0, .null, [], []),
  (1, .aload_n 0, 1, 0, 0, .null, [], []),
  (2, .getfield 90, 3, 11, 6, .int 0, [], [174]),
  (5, .idiv, 1, 0, 0, .null, [], []),
  (6, .istore_n 3, 1, 3, 0, .null, [], []),
  (7, .aload_n 0, 1, 0, 0, .null, [], []),
  (8, .getfield 80, 3, 11, 24, .int 0, [], [171]),
  (11, .ifCond .lt 62, 3, 73, 0, .null, [], []),
  (14, .aload_n 0, 1, 0, 0, .null, [], []),
  (15, .getfield 52, 3, 11, 30, .null, [], [162]),
  (18, .iconst 0, 1, 0, 0, .int 0, [], []),
  (19, .iload_n 2, 1, 2, 0, .null, [], []),
  (20, .iastore, 1, 0, 0, .null, [], []),
  (21, .aload_n 0, 1, 0, 0, .null, [], []),
  (22, .getfield 52, 3, 11, 30, .null, [], [162]),
  (25, .iconst 1, 1, 0, 0, .int 1, [], []),
  (26, .aload_n 0, 1, 0, 0, .null, [], []),
  (27, .getfield 9, 3, 11, 0, .null, [], [148]),
  (30, .iload_n 1, 1, 1, 0, .null, [], []),
  (31, .iaload, 1, 0, 0, .null, [], []),
  (32, .iastore, 1, 0, 0, .null, [], []),
  (33, .aload_n 0, 1, 0, 0, .null, [], []),
  (34, .getfield 52, 3, 11, 30, .null, [], [162]),
  (37, .iconst 2, 1, 0, 0, .int 2, [], []),
  (38, .iload_n 1, 1, 1, 0, .null, [], []),
  (39, .iastore, 1, 0, 0, .null, [], []),
  (40, .aload_n 0, 1, 0, 0, .null, [], []),
  (41, .getfield 52, 3, 11, 30, .null, [], [162]),
  (44, .iconst 3, 1, 0, 0, .int 3, [], []),
  (45, .aload_n 0, 1, 0, 0, .null, [], []),
  (46, .getfield 90, 3, 11, 6, .int 0, [], [174]),
  (49, .iastore, 1, 0, 0, .null, [], []),
  (50, .aload_n 0, 1, 0, 0, .null, [], []),
  (51, .getfield 52, 3, 11, 30, .null, [], [162]),
  (54, .iconst 4, 1, 0, 0, .int 4, [], []),
  (55, .aload_n 0, 1, 0, 0, .null, [], []),
  (56, .getfield 9, 3, 11, 0, .null, [], [148]),
  (59, .bipush 25, 2, 0, 0, .int 25, [], []),
  (61, .iaload, 1, 0, 0, .null, [], []),
  (62, .iastore, 1, 0, 0, .null, [], []),
  (63, .aload_n 0, 1, 0, 0, .null, [], []),
  (64, .iconst 0, 1, 0, 0, .int 0, [], []),
  (65, .aload_n 0, 1, 0, 0, .null, [], []),
  (66, .getfield 80, 3, 11, 24, .int 0, [], [171]),
  (69, .invokevirtual 268, 14, 208, 2, .int 0, [], [175]),
  (72, .istore_n 3, 1, 3, 0, .null, [], []),
  (73, .iload_n 3, 1, 3, 0, .null, [], []),
  (74, .ifCond .ge 7, 3, 81, 0, .null, [], []),
  (77, .iconst 0, 1, 0, 0, .int 0, [], []),
  (78, .goto 23, 3, 101, 0, .null, [], []),
  (81, .iload_n 3, 1, 3, 0, .null, [], []),
  (82, .aload_n 0, 1, 0, 0, .null, [], []),
  (83, .getfield 9, 3, 11, 0, .null, [], [148]),
  (86, .iload_n 1, 1, 1, 0, .null, [], []),
  (87, .iaload, 1, 0, 0, .null, [], []),
  (88, .if_icmp .le 12, 3, 100, 0, .null, [], []),
  (91, .aload_n 0, 1, 0, 0, .null, [], []),
  (92, .getfield 9, 3, 11, 0, .null, [], [148]),
  (95, .iload_n 1, 1, 1, 0, .null, [], []),
  (96, .iaload, 1, 0, 0, .null, [], []),
  (97, .goto 4, 3, 101, 0, .null, [], []),
  (100, .iload_n 3, 1, 3, 0, .null, [], []),
  (101, .ireturn, 1, 0, 0, .int 0, [], [])],
  [], 4)
/-- 211: LeastPaysModel.thought(III)I -/
def kX11_thought : j_K := ([
  (0, .aload_n 0, 1, 0, 0, .null, [], []),
  (1, .iload_n 1, 1, 1, 0, .null, [], []),
  (2, .invokevirtual 105, 14, 160, 1, .int 0, [], [142]),
  (5, .ifCond .eq 25, 3, 30, 0, .null, [], []),
  (8, .iload_n 2, 1, 2, 0, .null, [], []),
  (9, .i2l, 1, 0, 0, .null, [], []),
  (10, .lconst 0, 1, 0, 0, .long 0, [], []),
  (11, .ldc2_w 97, 3, 0, 0, .long 99, [], [5]),
  (14, .invokestatic 93, 3, 155, 3, .int 0, [], [140]),
  (17, .ifCond .eq 13, 3, 30, 0, .null, [], []),
  (20, .iload_n 3, 1, 3, 0, .null, [], []),
  (21, .i2l, 1, 0, 0, .null, [], []),
  (22, .lconst 0, 1, 0, 0, .long 0, [], []),
  (23, .lconst 1, 1, 0, 0, .long 1, [], []),
  (24, .invokestatic 93, 3, 155, 3, .int 0, [], [140]),
  (27, .ifCond .ne 5, 3, 32, 0, .null, [], []),
  (30, .iconst (-1), 1, 0, 0, .int (-1), [], []),
  (31, .ireturn, 1, 0, 0, .int 0, [], []),
  (32, .bipush (-2), 2, 0, 0, .int (-2), [], []),
  (34, .istore 4, 2, 4, 0, .null, [], []),
  (36, .bipush (-2), 2, 0, 0, .int (-2), [], []),
  (38, .istore 5, 2, 5, 0, .null, [], []),
  (40, .iconst 0, 1, 0, 0, .int 0, [], []),
  (41, .istore 6, 2, 6, 0, .null, [], []),
  (43, .iload 6, 2, 6, 0, .null, [], []),
  (45, .sipush 599, 3, 0, 0, .int 599, [], []),
  (48, .if_icmp .gt 38, 3, 86, 0, .null, [], []),
  (51, .aload_n 0, 1, 0, 0, .null, [], []),
  (52, .iload_n 1, 1, 1, 0, .null, [], []),
  (53, .iload 6, 2, 6, 0, .null, [], []),
  (55, .invokevirtual 271, 14, 210, 2, .int 0, [], [176]),
  (58, .iload_n 2, 1, 2, 0, .null, [], []),
  (59, .if_icmp .ne 21, 3, 80, 0, .null, [], []),
  (62, .iload 4, 2, 4, 0, .null, [], []),
  (64, .ifCond .ge 8, 3, 72, 0, .null, [], []),
  (67, .iload 6, 2, 6, 0, .null, [], []),
  (69, .goto 5, 3, 74, 0, .null, [], []),
  (72, .iload 4, 2, 4, 0, .null, [], []),
  (74, .istore 4, 2, 4, 0, .null, [], []),
  (76, .iload 6, 2, 6, 0, .null, [], []),
  (78, .istore 5, 2, 5, 0, .null, [], []),
  (80, .iinc 6 1, 3, 6, 0, .int 1, [], []),
  (83, .goto (-40), 3, 43, 0, .null, [], []),
  (86, .iload_n 3, 1, 3, 0, .null, [], []),
  (87, .ifCond .ne 8, 3, 95, 0, .null, [], []),
  (90, .iload 4, 2, 4, 0, .null, [], []),
  (92, .goto 5, 3, 97, 0, .null, [], []),
  (95, .iload 5, 2, 5, 0, .null, [], []),
  (97, .ireturn, 1, 0, 0, .int 0, [], [])],
  [(43, [true, true, true, true, true, true, true])], 7)
/-- 212: LeastPaysModel.givenBy(I)I -/
def kX11_givenBy : j_K := ([
  (0, .aload_n 0, 1, 0, 0, .null, [], []),
  (1, .iload_n 1, 1, 1, 0, .null, [], []),
  (2, .aload_n 0, 1, 0, 0, .null, [], []),
  (3, .getfield 22, 3, 11, 7, .null, [], [152]),
  (6, .iload_n 1, 1, 1, 0, .null, [], []),
  (7, .iaload, 1, 0, 0, .null, [], []),
  (8, .ifCond .ge 13, 3, 21, 0, .null, [], []),
  (11, .aload_n 0, 1, 0, 0, .null, [], []),
  (12, .getfield 9, 3, 11, 0, .null, [], [148]),
  (15, .bipush 24, 2, 0, 0, .int 24, [], []),
  (17, .iaload, 1, 0, 0, .null, [], []),
  (18, .goto 9, 3, 27, 0, .null, [], []),
  (21, .aload_n 0, 1, 0, 0, .null, [], []),
  (22, .getfield 22, 3, 11, 7, .null, [], [152]),
  (25, .iload_n 1, 1, 1, 0, .null, [], []),
  (26, .iaload, 1, 0, 0, .null, [], []),
  (27, .invokevirtual 271, 14, 210, 2, .int 0, [], [176]),
  (30, .ireturn, 1, 0, 0, .int 0, [], [])],
  [], 2)
/-- 213: LeastPaysModel.given(I)I -/
def kX11_given : j_K := ([
  (0, .iload_n 1, 1, 1, 0, .null, [], []),
  (1, .iconst (-1), 1, 0, 0, .int (-1), [], []),
  (2, .if_icmp .eq 13, 3, 15, 0, .null, [], []),
  (5, .aload_n 0, 1, 0, 0, .null, [], []),
  (6, .iload_n 1, 1, 1, 0, .null, [], []),
  (7, .invokevirtual 105, 14, 160, 1, .int 0, [], [142]),
  (10, .ifCond .ne 5, 3, 15, 0, .null, [], []),
  (13, .iconst (-1), 1, 0, 0, .int (-1), [], []),
  (14, .ireturn, 1, 0, 0, .int 0, [], []),
  (15, .iload_n 1, 1, 1, 0, .null, [], []),
  (16, .ifCond .lt 9, 3, 25, 0, .null, [], []),
  (19, .aload_n 0, 1, 0, 0, .null, [], []),
  (20, .iload_n 1, 1, 1, 0, .null, [], []),
  (21, .invokevirtual 274, 14, 212, 1, .int 0, [], [177]),
  (24, .ireturn, 1, 0, 0, .int 0, [], []),
  (25, .iconst 0, 1, 0, 0, .int 0, [], []),
  (26, .istore_n 2, 1, 2, 0, .null, [], []),
  (27, .iconst 0, 1, 0, 0, .int 0, [], []),
  (28, .istore_n 3, 1, 3, 0, .null, [], []),
  (29, .iload_n 3, 1, 3, 0, .null, [], []),
  (30, .aload_n 0, 1, 0, 0, .null, [], []),
  (31, .getfield 90, 3, 11, 6, .int 0, [], [174]),
  (34, .if_icmp .ge 17, 3, 51, 0, .null, [], []),
  (37, .iload_n 2, 1, 2, 0, .null, [], []),
  (38, .aload_n 0, 1, 0, 0, .null, [], []),
  (39, .iload_n 3, 1, 3, 0, .null, [], []),
  (40, .invokevirtual 274, 14, 212, 1, .int 0, [], [177]),
  (43, .iadd, 1, 0, 0, .null, [], []),
  (44, .istore_n 2, 1, 2, 0, .null, [], []),
  (45, .iinc 3 1, 3, 3, 0, .int 1, [], []),
  (48, .goto (-19), 3, 29, 0, .null, [], []),
  (51, .iload_n 2, 1, 2, 0, .null, [], []),
  (52, .ireturn, 1, 0, 0, .int 0, [], [])],
  [(29, [true, false, true, true])], 4)
/-- 214: LeastPaysModel.stranger(III)J -/
def kX11_stranger : j_K := ([
  (0, .aload_n 0, 1, 0, 0, .null, [], []),
  (1, .iload_n 1, 1, 1, 0, .null, [], []),
  (2, .invokevirtual 105, 14, 160, 1, .int 0, [], [142]),
  (5, .ifCond .eq 26, 3, 31, 0, .null, [], []),
  (8, .iload_n 2, 1, 2, 0, .null, [], []),
  (9, .ifCond .lt 22, 3, 31, 0, .null, [], []),
  (12, .iload_n 2, 1, 2, 0, .null, [], []),
  (13, .bipush 100, 2, 0, 0, .int 100, [], []),
  (15, .idiv, 1, 0, 0, .null, [], []),
  (16, .bipush 12, 2, 0, 0, .int 12, [], []),
  (18, .if_icmp .gt 13, 3, 31, 0, .null, [], []),
  (21, .iload_n 3, 1, 3, 0, .null, [], []),
  (22, .i2l, 1, 0, 0, .null, [], []),
  (23, .lconst 0, 1, 0, 0, .long 0, [], []),
  (24, .lconst 1, 1, 0, 0, .long 1, [], []),
  (25, .invokestatic 93, 3, 155, 3, .int 0, [], [140]),
  (28, .ifCond .ne 7, 3, 35, 0, .null, [], []),
  (31, .ldc2_w 181, 3, 0, 0, .long (-9223372036854775808), [], [11]),
  (34, .lreturn, 1, 0, 0, .null, [], []),
  (35, .iload_n 2, 1, 2, 0, .null, [], []),
  (36, .bipush 100, 2, 0, 0, .int 100, [], []),
  (38, .idiv, 1, 0, 0, .null, [], []),
  (39, .istore 4, 2, 4, 0, .null, [], []),
  (41, .aload_n 0, 1, 0, 0, .null, [], []),
  (42, .invokevirtual 157, 14, 167, 0, .null, [], [151]),
  (45, .aload_n 0, 1, 0, 0, .null, [], []),
  (46, .invokevirtual 160, 14, 173, 0, .null, [], [152]),
  (49, .aload_n 0, 1, 0, 0, .null, [], []),
  (50, .iload_n 1, 1, 1, 0, .null, [], []),
  (51, .invokevirtual 163, 14, 174, 1, .int 0, [], [153]),
  (54, .i2l, 1, 0, 0, .null, [], []),
  (55, .lstore 5, 2, 5, 0, .null, [], []),
  (57, .aload_n 0, 1, 0, 0, .null, [], []),
  (58, .getfield 28, 3, 11, 11, .null, [], [154]),
  (61, .aload_n 0, 1, 0, 0, .null, [], []),
  (62, .getfield 90, 3, 11, 6, .int 0, [], [174]),
  (65, .iload_n 2, 1, 2, 0, .null, [], []),
  (66, .bipush 100, 2, 0, 0, .int 100, [], []),
  (68, .irem, 1, 0, 0, .null, [], []),
  (69, .iastore, 1, 0, 0, .null, [], []),
  (70, .aload_n 0, 1, 0, 0, .null, [], []),
  (71, .aload_n 0, 1, 0, 0, .null, [], []),
  (72, .getfield 90, 3, 11, 6, .int 0, [], [174]),
  (75, .iconst 1, 1, 0, 0, .int 1, [], []),
  (76, .iadd, 1, 0, 0, .null, [], []),
  (77, .putfield 134, 3, 11, 12, .int 0, [], [177]),
  (80, .aload_n 0, 1, 0, 0, .null, [], []),
  (81, .invokevirtual 160, 14, 173, 0, .null, [], [152]),
  (84, .iload 4, 2, 4, 0, .null, [], []),
  (86, .aload_n 0, 1, 0, 0, .null, [], []),
  (87, .iload_n 1, 1, 1, 0, .null, [], []),
  (88, .invokevirtual 163, 14, 174, 1, .int 0, [], [153]),
  (91, .imul, 1, 0, 0, .null, [], []),
  (92, .i2l, 1, 0, 0, .null, [], []),
  (93, .bipush 12, 2, 0, 0, .int 12, [], []),
  (95, .iload 4, 2, 4, 0, .null, [], []),
  (97, .isub, 1, 0, 0, .null, [], []),
  (98, .i2l, 1, 0, 0, .null, [], []),
  (99, .lload 5, 2, 5, 0, .null, [], []),
  (101, .lmul, 1, 0, 0, .null, [], []),
  (102, .ladd, 1, 0, 0, .null, [], []),
  (103, .ldc2_w 112, 3, 0, 0, .long 12, [], [7]),
  (106, .iload_n 3, 1, 3, 0, .null, [], []),
  (107, .invokestatic 191, 3, 180, 3, .long 0, [], [159]),
  (110, .lreturn, 1, 0, 0, .null, [], [])],
  [], 7)
/-- 215: LeastPaysModel.night()I -/
def kX11_night : j_K := ([
  (0, .aload_n 0, 1, 0, 0, .null, [], []),
  (1, .getfield 90, 3, 11, 6, .int 0, [], [174]),
  (4, .ifCond .ne 6, 3, 10, 0, .null, [], []),
  (7, .bipush (-5), 2, 0, 0, .int (-5), [], []),
  (9, .ireturn, 1, 0, 0, .int 0, [], []),
  (10, .aload_n 0, 1, 0, 0, .null, [], []),
  (11, .invokevirtual 157, 14, 167, 0, .null, [], [151]),
  (14, .aload_n 0, 1, 0, 0, .null, [], []),
  (15, .invokevirtual 160, 14, 173, 0, .null, [], [152]),
  (18, .iconst 0, 1, 0, 0, .int 0, [], []),
  (19, .istore_n 1, 1, 1, 0, .null, [], []),
  (20, .iconst 0, 1, 0, 0, .int 0, [], []),
  (21, .istore_n 2, 1, 2, 0, .null, [], []),
  (22, .iload_n 2, 1, 2, 0, .null, [], []),
  (23, .aload_n 0, 1, 0, 0, .null, [], []),
  (24, .getfield 90, 3, 11, 6, .int 0, [], [174]),
  (27, .if_icmp .ge 31, 3, 58, 0, .null, [], []),
  (30, .iload_n 1, 1, 1, 0, .null, [], []),
  (31, .aload_n 0, 1, 0, 0, .null, [], []),
  (32, .iload_n 2, 1, 2, 0, .null, [], []),
  (33, .invokevirtual 163, 14, 174, 1, .int 0, [], [153]),
  (36, .iadd, 1, 0, 0, .null, [], []),
  (37, .istore_n 1, 1, 1, 0, .null, [], []),
  (38, .aload_n 0, 1, 0, 0, .null, [], []),
  (39, .getfield 25, 3, 11, 8, .null, [], [153]),
  (42, .iload_n 2, 1, 2, 0, .null, [], []),
  (43, .dup2, 1, 0, 0, .null, [], []),
  (44, .iaload, 1, 0, 0, .null, [], []),
  (45, .aload_n 0, 1, 0, 0, .null, [], []),
  (46, .iload_n 2, 1, 2, 0, .null, [], []),
  (47, .invokevirtual 163, 14, 174, 1, .int 0, [], [153]),
  (50, .iadd, 1, 0, 0, .null, [], []),
  (51, .iastore, 1, 0, 0, .null, [], []),
  (52, .iinc 2 1, 3, 2, 0, .int 1, [], []),
  (55, .goto (-33), 3, 22, 0, .null, [], []),
  (58, .aload_n 0, 1, 0, 0, .null, [], []),
  (59, .dup, 1, 0, 0, .null, [], []),
  (60, .getfield 129, 3, 11, 9, .int 0, [], [176]),
  (63, .iconst 1, 1, 0, 0, .int 1, [], []),
  (64, .iadd, 1, 0, 0, .null, [], []),
  (65, .putfield 129, 3, 11, 9, .int 0, [], [176]),
  (68, .aload_n 0, 1, 0, 0, .null, [], []),
  (69, .dup, 1, 0, 0, .null, [], []),
  (70, .getfield 126, 3, 11, 10, .int 0, [], [175]),
  (73, .aload_n 0, 1, 0, 0, .null, [], []),
  (74, .getfield 140, 3, 11, 15, .int 0, [], [178]),
  (77, .iadd, 1, 0, 0, .null, [], []),
  (78, .putfield 126, 3, 11, 10, .int 0, [], [175]),
  (81, .iload_n 1, 1, 1, 0, .null, [], []),
  (82, .ireturn, 1, 0, 0, .int 0, [], [])],
  [(22, [true, true, true])], 3)
/-- 216: LeastPaysModel.drawn(IIII)I -/
def kX11_drawn : j_K := ([
  (0, .iload_n 2, 1, 2, 0, .null, [], []),
  (1, .i2l, 1, 0, 0, .null, [], []),
  (2, .lconst 1, 1, 0, 0, .long 1, [], []),
  (3, .ldc2_w 277, 3, 0, 0, .long 50, [], [15]),
  (6, .invokestatic 93, 3, 155, 3, .int 0, [], [140]),
  (9, .ifCond .eq 22, 3, 31, 0, .null, [], []),
  (12, .aload_n 0, 1, 0, 0, .null, [], []),
  (13, .iload_n 3, 1, 3, 0, .null, [], []),
  (14, .invokevirtual 105, 14, 160, 1, .int 0, [], [142]),
  (17, .ifCond .eq 14, 3, 31, 0, .null, [], []),
  (20, .iload 4, 2, 4, 0, .null, [], []),
  (22, .i2l, 1, 0, 0, .null, [], []),
  (23, .lconst 0, 1, 0, 0, .long 0, [], []),
  (24, .lconst 1, 1, 0, 0, .long 1, [], []),
  (25, .invokestatic 93, 3, 155, 3, .int 0, [], [140]),
  (28, .ifCond .ne 6, 3, 34, 0, .null, [], []),
  (31, .ldc 125, 2, 0, 0, .int (-2000000000), [], [3]),
  (33, .ireturn, 1, 0, 0, .int 0, [], []),
  (34, .iload_n 1, 1, 1, 0, .null, [], []),
  (35, .istore 5, 2, 5, 0, .null, [], []),
  (37, .iconst 0, 1, 0, 0, .int 0, [], []),
  (38, .istore 6, 2, 6, 0, .null, [], []),
  (40, .iconst 0, 1, 0, 0, .int 0, [], []),
  (41, .istore 7, 2, 7, 0, .null, [], []),
  (43, .iconst 0, 1, 0, 0, .int 0, [], []),
  (44, .istore 8, 2, 8, 0, .null, [], []),
  (46, .iload 8, 2, 8, 0, .null, [], []),
  (48, .iload_n 2, 1, 2, 0, .null, [], []),
  (49, .if_icmp .ge 124, 3, 173, 0, .null, [], []),
  (52, .aload_n 0, 1, 0, 0, .null, [], []),
  (53, .invokevirtual 157, 14, 167, 0, .null, [], [151]),
  (56, .iconst 0, 1, 0, 0, .int 0, [], []),
  (57, .istore 9, 2, 9, 0, .null, [], []),
  (59, .iload 9, 2, 9, 0, .null, [], []),
  (61, .aload_n 0, 1, 0, 0, .null, [], []),
  (62, .getfield 90, 3, 11, 6, .int 0, [], [174]),
  (65, .if_icmp .ge 69, 3, 134, 0, .null, [], []),
  (68, .iload 5, 2, 5, 0, .null, [], []),
  (70, .ldc_w 279, 3, 0, 0, .int 1103515245, [], [4]),
  (73, .imul, 1, 0, 0, .null, [], []),
  (74, .sipush 12345, 3, 0, 0, .int 12345, [], []),
  (77, .iadd, 1, 0, 0, .null, [], []),
  (78, .istore 5, 2, 5, 0, .null, [], []),
  (80, .aload_n 0, 1, 0, 0, .null, [], []),
  (81, .getfield 28, 3, 11, 11, .null, [], [154]),
  (84, .iload 9, 2, 9, 0, .null, [], []),
  (86, .iload 5, 2, 5, 0, .null, [], []),
  (88, .bipush 8, 2, 0, 0, .int 8, [], []),
  (90, .iushr, 1, 0, 0, .null, [], []),
  (91, .bipush 12, 2, 0, 0, .int 12, [], []),
  (93, .irem, 1, 0, 0, .null, [], []),
  (94, .aload_n 0, 1, 0, 0, .null, [], []),
  (95, .getfield 9, 3, 11, 0, .null, [], [148]),
  (98, .bipush 12, 2, 0, 0, .int 12, [], []),
  (100, .iload 9, 2, 9, 0, .null, [], []),
  (102, .iadd, 1, 0, 0, .null, [], []),
  (103, .iaload, 1, 0, 0, .null, [], []),
  (104, .if_icmp .ge 16, 3, 120, 0, .null, [], []),
  (107, .aload_n 0, 1, 0, 0, .null, [], []),
  (108, .getfield 9, 3, 11, 0, .null, [], [148]),
  (111, .bipush 18, 2, 0, 0, .int 18, [], []),
  (113, .iload 9, 2, 9, 0, .null, [], []),
  (115, .iadd, 1, 0, 0, .null, [], []),
  (116, .iaload, 1, 0, 0, .null, [], []),
  (117, .goto 10, 3, 127, 0, .null, [], []),
  (120, .aload_n 0, 1, 0, 0, .null, [], []),
  (121, .getfield 28, 3, 11, 11, .null, [], [154]),
  (124, .iload 9, 2, 9, 0, .null, [], []),
  (126, .iaload, 1, 0, 0, .null, [], []),
  (127, .iastore, 1, 0, 0, .null, [], []),
  (128, .iinc 9 1, 3, 9, 0, .int 1, [], []),
  (131, .goto (-72), 3, 59, 0, .null, [], []),
  (134, .aload_n 0, 1, 0, 0, .null, [], []),
  (135, .invokevirtual 160, 14, 173, 0, .null, [], [152]),
  (138, .iload 6, 2, 6, 0, .null, [], []),
  (140, .aload_n 0, 1, 0, 0, .null, [], []),
  (141, .getfield 31, 3, 11, 13, .null, [], [155]),
  (144, .iload_n 3, 1, 3, 0, .null, [], []),
  (145, .iaload, 1, 0, 0, .null, [], []),
  (146, .ifCond .le 7, 3, 153, 0, .null, [], []),
  (149, .iconst 1, 1, 0, 0, .int 1, [], []),
  (150, .goto 4, 3, 154, 0, .null, [], []),
  (153, .iconst 0, 1, 0, 0, .int 0, [], []),
  (154, .iadd, 1, 0, 0, .null, [], []),
  (155, .istore 6, 2, 6, 0, .null, [], []),
  (157, .iload 7, 2, 7, 0, .null, [], []),
  (159, .aload_n 0, 1, 0, 0, .null, [], []),
  (160, .iload_n 3, 1, 3, 0, .null, [], []),
  (161, .invokevirtual 163, 14, 174, 1, .int 0, [], [153]),
  (164, .iadd, 1, 0, 0, .null, [], []),
  (165, .istore 7, 2, 7, 0, .null, [], []),
  (167, .iinc 8 1, 3, 8, 0, .int 1, [], []),
  (170, .goto (-124), 3, 46, 0, .null, [], []),
  (173, .iload 4, 2, 4, 0, .null, [], []),
  (175, .ifCond .ne 8, 3, 183, 0, .null, [], []),
  (178, .iload 6, 2, 6, 0, .null, [], []),
  (180, .goto 5, 3, 185, 0, .null, [], []),
  (183, .iload 7, 2, 7, 0, .null, [], []),
  (185, .ireturn, 1, 0, 0, .int 0, [], [])],
  [(46, [true, false, true, true, true, true, true, true, true, false]), (59, [true, false, true, true, true, true, true, true, true, true]), (73, [true, false, true, true, true, false, true, true, true, true]), (78, [true, false, true, true, true, false, true, true, true, true])], 10)
/-- 217: LeastPaysModel.hatIs(I)I -/
def kX11_hatIs : j_K := ([
  (0, .iload_n 1, 1, 1, 0, .null, [], []),
  (1, .invokestatic 99, 3, 235, 1, .int 0, [], [141]),
  (4, .ifCond .ne 7, 3, 11, 0, .null, [], []),
  (7, .iconst (-1), 1, 0, 0, .int (-1), [], []),
  (8, .goto 34, 3, 42, 0, .null, [], []),
  (11, .aload_n 0, 1, 0, 0, .null, [], []),
  (12, .getfield 67, 3, 11, 43, .null, [], [167]),
  (15, .iload_n 1, 1, 1, 0, .null, [], []),
  (16, .iaload, 1, 0, 0, .null, [], []),
  (17, .ifCond .ge 8, 3, 25, 0, .null, [], []),
  (20, .bipush (-11), 2, 0, 0, .int (-11), [], []),
  (22, .goto 20, 3, 42, 0, .null, [], []),
  (25, .aload_n 0, 1, 0, 0, .null, [], []),
  (26, .getfield 67, 3, 11, 43, .null, [], [167]),
  (29, .iload_n 1, 1, 1, 0, .null, [], []),
  (30, .iaload, 1, 0, 0, .null, [], []),
  (31, .bipush 51, 2, 0, 0, .int 51, [], []),
  (33, .if_icmp .ne 7, 3, 40, 0, .null, [], []),
  (36, .iconst 1, 1, 0, 0, .int 1, [], []),
  (37, .goto 5, 3, 42, 0, .null, [], []),
  (40, .bipush (-12), 2, 0, 0, .int (-12), [], []),
  (42, .ireturn, 1, 0, 0, .int 0, [], [])],
  [], 2)
/-- 218: LeastPaysModel.firstFalse(II)I -/
def kX11_firstFalse : j_K := ([
  (0, .aload_n 0, 1, 0, 0, .null, [], []),
  (1, .invokevirtual 157, 14, 167, 0, .null, [], [151]),
  (4, .aload_n 0, 1, 0, 0, .null, [], []),
  (5, .aload_n 0, 1, 0, 0, .null, [], []),
  (6, .getfield 9, 3, 11, 0, .null, [], [148]),
  (9, .bipush 24, 2, 0, 0, .int 24, [], []),
  (11, .iaload, 1, 0, 0, .null, [], []),
  (12, .iload_n 2, 1, 2, 0, .null, [], []),
  (13, .invokevirtual 153, 14, 172, 2, .null, [], [150]),
  (16, .iconst 0, 1, 0, 0, .int 0, [], []),
  (17, .istore_n 3, 1, 3, 0, .null, [], []),
  (18, .iload_n 3, 1, 3, 0, .null, [], []),
  (19, .aload_n 0, 1, 0, 0, .null, [], []),
  (20, .getfield 90, 3, 11, 6, .int 0, [], [174]),
  (23, .if_icmp .ge 42, 3, 65, 0, .null, [], []),
  (26, .iload_n 3, 1, 3, 0, .null, [], []),
  (27, .aload_n 0, 1, 0, 0, .null, [], []),
  (28, .getfield 70, 3, 11, 44, .null, [], [168]),
  (31, .iload_n 1, 1, 1, 0, .null, [], []),
  (32, .iaload, 1, 0, 0, .null, [], []),
  (33, .if_icmp .ge 32, 3, 65, 0, .null, [], []),
  (36, .aload_n 0, 1, 0, 0, .null, [], []),
  (37, .getfield 73, 3, 11, 45, .null, [], [169]),
  (40, .bipush 60, 2, 0, 0, .int 60, [], []),
  (42, .iload_n 1, 1, 1, 0, .null, [], []),
  (43, .imul, 1, 0, 0, .null, [], []),
  (44, .iload_n 3, 1, 3, 0, .null, [], []),
  (45, .iadd, 1, 0, 0, .null, [], []),
  (46, .laload, 1, 0, 0, .null, [], []),
  (47, .aload_n 0, 1, 0, 0, .null, [], []),
  (48, .iload_n 3, 1, 3, 0, .null, [], []),
  (49, .invokevirtual 163, 14, 174, 1, .int 0, [], [153]),
  (52, .i2l, 1, 0, 0, .null, [], []),
  (53, .lcmp, 1, 0, 0, .null, [], []),
  (54, .ifCond .eq 5, 3, 59, 0, .null, [], []),
  (57, .iload_n 3, 1, 3, 0, .null, [], []),
  (58, .ireturn, 1, 0, 0, .int 0, [], []),
  (59, .iinc 3 1, 3, 3, 0, .int 1, [], []),
  (62, .goto (-44), 3, 18, 0, .null, [], []),
  (65, .bipush (-2), 2, 0, 0, .int (-2), [], []),
  (67, .ireturn, 1, 0, 0, .int 0, [], [])],
  [(18, [true, true, false, true])], 4)
/-- 219: LeastPaysModel.judge(I)I -/
def kX11_judge : j_K := ([
  (0, .aload_n 0, 1, 0, 0, .null, [], []),
  (1, .iload_n 1, 1, 1, 0, .null, [], []),
  (2, .invokevirtual 280, 14, 217, 1, .int 0, [], [178]),
  (5, .ifCond .ge 11, 3, 16, 0, .null, [], []),
  (8, .aload_n 0, 1, 0, 0, .null, [], []),
  (9, .iload_n 1, 1, 1, 0, .null, [], []),
  (10, .invokevirtual 280, 14, 217, 1, .int 0, [], [178]),
  (13, .goto 15, 3, 28, 0, .null, [], []),
  (16, .aload_n 0, 1, 0, 0, .null, [], []),
  (17, .iload_n 1, 1, 1, 0, .null, [], []),
  (18, .aload_n 0, 1, 0, 0, .null, [], []),
  (19, .getfield 9, 3, 11, 0, .null, [], [148]),
  (22, .bipush 25, 2, 0, 0, .int 25, [], []),
  (24, .iaload, 1, 0, 0, .null, [], []),
  (25, .invokevirtual 283, 14, 218, 2, .int 0, [], [179]),
  (28, .ireturn, 1, 0, 0, .int 0, [], [])],
  [], 2)
/-- 220: LeastPaysModel.fits(I)I -/
def kX11_fits : j_K := ([
  (0, .aload_n 0, 1, 0, 0, .null, [], []),
  (1, .iload_n 1, 1, 1, 0, .null, [], []),
  (2, .invokevirtual 280, 14, 217, 1, .int 0, [], [178]),
  (5, .ifCond .ge 9, 3, 14, 0, .null, [], []),
  (8, .aload_n 0, 1, 0, 0, .null, [], []),
  (9, .iload_n 1, 1, 1, 0, .null, [], []),
  (10, .invokevirtual 280, 14, 217, 1, .int 0, [], [178]),
  (13, .ireturn, 1, 0, 0, .int 0, [], []),
  (14, .iconst 0, 1, 0, 0, .int 0, [], []),
  (15, .istore_n 2, 1, 2, 0, .null, [], []),
  (16, .iconst 0, 1, 0, 0, .int 0, [], []),
  (17, .istore_n 3, 1, 3, 0, .null, [], []),
  (18, .iload_n 3, 1, 3, 0, .null, [], []),
  (19, .iconst 5, 1, 0, 0, .int 5, [], []),
  (20, .if_icmp .ge 30, 3, 50, 0, .null, [], []),
  (23, .iload_n 2, 1, 2, 0, .null, [], []),
  (24, .aload_n 0, 1, 0, 0, .null, [], []),
  (25, .iload_n 1, 1, 1, 0, .null, [], []),
  (26, .iload_n 3, 1, 3, 0, .null, [], []),
  (27, .invokevirtual 283, 14, 218, 2, .int 0, [], [179]),
  (30, .bipush (-2), 2, 0, 0, .int (-2), [], []),
  (32, .if_icmp .ne 9, 3, 41, 0, .null, [], []),
  (35, .iconst 1, 1, 0, 0, .int 1, [], []),
  (36, .iload_n 3, 1, 3, 0, .null, [], []),
  (37, .ishl, 1, 0, 0, .null, [], []),
  (38, .goto 4, 3, 42, 0, .null, [], []),
  (41, .iconst 0, 1, 0, 0, .int 0, [], []),
  (42, .ior, 1, 0, 0, .null, [], []),
  (43, .istore_n 2, 1, 2, 0, .null, [], []),
  (44, .iinc 3 1, 3, 3, 0, .int 1, [], []),
  (47, .goto (-29), 3, 18, 0, .null, [], []),
  (50, .iload_n 2, 1, 2, 0, .null, [], []),
  (51, .ireturn, 1, 0, 0, .int 0, [], [])],
  [(18, [true, true, true, true])], 4)
/-- 221: LeastPaysModel.fair(I)I -/
def kX11_fair : j_K := ([
  (0, .iload_n 1, 1, 1, 0, .null, [], []),
  (1, .i2l, 1, 0, 0, .null, [], []),
  (2, .lconst 0, 1, 0, 0, .long 0, [], []),
  (3, .lconst 1, 1, 0, 0, .long 1, [], []),
  (4, .invokestatic 93, 3, 155, 3, .int 0, [], [140]),
  (7, .ifCond .ne 6, 3, 13, 0, .null, [], []),
  (10, .ldc 125, 2, 0, 0, .int (-2000000000), [], [3]),
  (12, .ireturn, 1, 0, 0, .int 0, [], []),
  (13, .aload_n 0, 1, 0, 0, .null, [], []),
  (14, .getfield 90, 3, 11, 6, .int 0, [], [174]),
  (17, .ifCond .ne 6, 3, 23, 0, .null, [], []),
  (20, .bipush (-5), 2, 0, 0, .int (-5), [], []),
  (22, .ireturn, 1, 0, 0, .int 0, [], []),
  (23, .aload_n 0, 1, 0, 0, .null, [], []),
  (24, .invokevirtual 157, 14, 167, 0, .null, [], [151]),
  (27, .iconst (-1), 1, 0, 0, .int (-1), [], []),
  (28, .istore_n 2, 1, 2, 0, .null, [], []),
  (29, .iconst 0, 1, 0, 0, .int 0, [], []),
  (30, .istore_n 3, 1, 3, 0, .null, [], []),
  (31, .iconst 0, 1, 0, 0, .int 0, [], []),
  (32, .istore 4, 2, 4, 0, .null, [], []),
  (34, .iload 4, 2, 4, 0, .null, [], []),
  (36, .iconst 5, 1, 0, 0, .int 5, [], []),
  (37, .if_icmp .ge 83, 3, 120, 0, .null, [], []),
  (40, .aload_n 0, 1, 0, 0, .null, [], []),
  (41, .aload_n 0, 1, 0, 0, .null, [], []),
  (42, .getfield 9, 3, 11, 0, .null, [], [148]),
  (45, .bipush 24, 2, 0, 0, .int 24, [], []),
  (47, .iaload, 1, 0, 0, .null, [], []),
  (48, .iload 4, 2, 4, 0, .null, [], []),
  (50, .invokevirtual 153, 14, 172, 2, .null, [], [150]),
  (53, .iconst 0, 1, 0, 0, .int 0, [], []),
  (54, .istore 5, 2, 5, 0, .null, [], []),
  (56, .iconst 0, 1, 0, 0, .int 0, [], []),
  (57, .istore 6, 2, 6, 0, .null, [], []),
  (59, .iload 6, 2, 6, 0, .null, [], []),
  (61, .aload_n 0, 1, 0, 0, .null, [], []),
  (62, .getfield 90, 3, 11, 6, .int 0, [], [174]),
  (65, .if_icmp .ge 33, 3, 98, 0, .null, [], []),
  (68, .aload_n 0, 1, 0, 0, .null, [], []),
  (69, .iload 6, 2, 6, 0, .null, [], []),
  (71, .invokevirtual 163, 14, 174, 1, .int 0, [], [153]),
  (74, .iload 5, 2, 5, 0, .null, [], []),
  (76, .if_icmp .le 12, 3, 88, 0, .null, [], []),
  (79, .aload_n 0, 1, 0, 0, .null, [], []),
  (80, .iload 6, 2, 6, 0, .null, [], []),
  (82, .invokevirtual 163, 14, 174, 1, .int 0, [], [153]),
  (85, .goto 5, 3, 90, 0, .null, [], []),
  (88, .iload 5, 2, 5, 0, .null, [], []),
  (90, .istore 5, 2, 5, 0, .null, [], []),
  (92, .iinc 6 1, 3, 6, 0, .int 1, [], []),
  (95, .goto (-36), 3, 59, 0, .null, [], []),
  (98, .iload_n 2, 1, 2, 0, .null, [], []),
  (99, .ifCond .lt 9, 3, 108, 0, .null, [], []),
  (102, .iload 5, 2, 5, 0, .null, [], []),
  (104, .iload_n 3, 1, 3, 0, .null, [], []),
  (105, .if_icmp .ge 9, 3, 114, 0, .null, [], []),
  (108, .iload 4, 2, 4, 0, .null, [], []),
  (110, .istore_n 2, 1, 2, 0, .null, [], []),
  (111, .iload 5, 2, 5, 0, .null, [], []),
  (113, .istore_n 3, 1, 3, 0, .null, [], []),
  (114, .iinc 4 1, 3, 4, 0, .int 1, [], []),
  (117, .goto (-83), 3, 34, 0, .null, [], []),
  (120, .iload_n 1, 1, 1, 0, .null, [], []),
  (121, .ifCond .ne 7, 3, 128, 0, .null, [], []),
  (124, .iload_n 2, 1, 2, 0, .null, [], []),
  (125, .goto 4, 3, 129, 0, .null, [], []),
  (128, .iload_n 3, 1, 3, 0, .null, [], []),
  (129, .ireturn, 1, 0, 0, .int 0, [], [])],
  [(34, [true, true, true, true, true, false, false]), (59, [true, true, true, true, true, true, true])], 7)
/-- 222: LeastPaysModel.image()I -/
def kX11_image : j_K := ([
  (0, .aload_n 0, 1, 0, 0, .null, [], []),
  (1, .iconst 1, 1, 0, 0, .int 1, [], []),
  (2, .putfield 286, 3, 11, 31, .long 0, [], [187]),
  (5, .aload_n 0, 1, 0, 0, .null, [], []),
  (6, .aload_n 0, 1, 0, 0, .null, [], []),
  (7, .getfield 90, 3, 11, 6, .int 0, [], [174]),
  (10, .putfield 290, 3, 11, 32, .int 0, [], [188]),
  (13, .aload_n 0, 1, 0, 0, .null, [], []),
  (14, .aload_n 0, 1, 0, 0, .null, [], []),
  (15, .getfield 129, 3, 11, 9, .int 0, [], [176]),
  (18, .putfield 293, 3, 11, 33, .int 0, [], [189]),
  (21, .aload_n 0, 1, 0, 0, .null, [], []),
  (22, .aload_n 0, 1, 0, 0, .null, [], []),
  (23, .getfield 126, 3, 11, 10, .int 0, [], [175]),
  (26, .putfield 296, 3, 11, 34, .int 0, [], [190]),
  (29, .iconst 0, 1, 0, 0, .int 0, [], []),
  (30, .istore_n 1, 1, 1, 0, .null, [], []),
  (31, .iload_n 1, 1, 1, 0, .null, [], []),
  (32, .bipush 6, 2, 0, 0, .int 6, [], []),
  (34, .if_icmp .ge 36, 3, 70, 0, .null, [], []),
  (37, .aload_n 0, 1, 0, 0, .null, [], []),
  (38, .getfield 55, 3, 11, 35, .null, [], [163]),
  (41, .iload_n 1, 1, 1, 0, .null, [], []),
  (42, .aload_n 0, 1, 0, 0, .null, [], []),
  (43, .getfield 9, 3, 11, 0, .null, [], [148]),
  (46, .bipush 6, 2, 0, 0, .int 6, [], []),
  (48, .iload_n 1, 1, 1, 0, .null, [], []),
  (49, .iadd, 1, 0, 0, .null, [], []),
  (50, .iaload, 1, 0, 0, .null, [], []),
  (51, .iastore, 1, 0, 0, .null, [], []),
  (52, .aload_n 0, 1, 0, 0, .null, [], []),
  (53, .getfield 58, 3, 11, 36, .null, [], [164]),
  (56, .iload_n 1, 1, 1, 0, .null, [], []),
  (57, .aload_n 0, 1, 0, 0, .null, [], []),
  (58, .getfield 25, 3, 11, 8, .null, [], [153]),
  (61, .iload_n 1, 1, 1, 0, .null, [], []),
  (62, .iaload, 1, 0, 0, .null, [], []),
  (63, .iastore, 1, 0, 0, .null, [], []),
  (64, .iinc 1 1, 3, 1, 0, .int 1, [], []),
  (67, .goto (-36), 3, 31, 0, .null, [], []),
  (70, .aload_n 0, 1, 0, 0, .null, [], []),
  (71, .getfield 129, 3, 11, 9, .int 0, [], [176]),
  (74, .ireturn, 1, 0, 0, .int 0, [], [])],
  [(31, [true, true])], 2)
/-- 223: LeastPaysModel.back()I -/
def kX11_back : j_K := ([
  (0, .aload_n 0, 1, 0, 0, .null, [], []),
  (1, .getfield 286, 3, 11, 31, .long 0, [], [187]),
  (4, .ifCond .ne 6, 3, 10, 0, .null, [], []),
  (7, .bipush (-5), 2, 0, 0, .int (-5), [], []),
  (9, .ireturn, 1, 0, 0, .int 0, [], []),
  (10, .aload_n 0, 1, 0, 0, .null, [], []),
  (11, .aload_n 0, 1, 0, 0, .null, [], []),
  (12, .getfield 293, 3, 11, 33, .int 0, [], [189]),
  (15, .putfield 129, 3, 11, 9, .int 0, [], [176]),
  (18, .aload_n 0, 1, 0, 0, .null, [], []),
  (19, .aload_n 0, 1, 0, 0, .null, [], []),
  (20, .getfield 296, 3, 11, 34, .int 0, [], [190]),
  (23, .putfield 126, 3, 11, 10, .int 0, [], [175]),
  (26, .iconst 0, 1, 0, 0, .int 0, [], []),
  (27, .istore_n 1, 1, 1, 0, .null, [], []),
  (28, .iload_n 1, 1, 1, 0, .null, [], []),
  (29, .aload_n 0, 1, 0, 0, .null, [], []),
  (30, .getfield 90, 3, 11, 6, .int 0, [], [174]),
  (33, .if_icmp .ge 68, 3, 101, 0, .null, [], []),
  (36, .aload_n 0, 1, 0, 0, .null, [], []),
  (37, .getfield 9, 3, 11, 0, .null, [], [148]),
  (40, .bipush 6, 2, 0, 0, .int 6, [], []),
  (42, .iload_n 1, 1, 1, 0, .null, [], []),
  (43, .iadd, 1, 0, 0, .null, [], []),
  (44, .iload_n 1, 1, 1, 0, .null, [], []),
  (45, .aload_n 0, 1, 0, 0, .null, [], []),
  (46, .getfield 290, 3, 11, 32, .int 0, [], [188]),
  (49, .if_icmp .ge 12, 3, 61, 0, .null, [], []),
  (52, .aload_n 0, 1, 0, 0, .null, [], []),
  (53, .getfield 55, 3, 11, 35, .null, [], [163]),
  (56, .iload_n 1, 1, 1, 0, .null, [], []),
  (57, .iaload, 1, 0, 0, .null, [], []),
  (58, .goto 12, 3, 70, 0, .null, [], []),
  (61, .aload_n 0, 1, 0, 0, .null, [], []),
  (62, .getfield 9, 3, 11, 0, .null, [], [148]),
  (65, .bipush 6, 2, 0, 0, .int 6, [], []),
  (67, .iload_n 1, 1, 1, 0, .null, [], []),
  (68, .iadd, 1, 0, 0, .null, [], []),
  (69, .iaload, 1, 0, 0, .null, [], []),
  (70, .iastore, 1, 0, 0, .null, [], []),
  (71, .aload_n 0, 1, 0, 0, .null, [], []),
  (72, .getfield 25, 3, 11, 8, .null, [], [153]),
  (75, .iload_n 1, 1, 1, 0, .null, [], []),
  (76, .iload_n 1, 1, 1, 0, .null, [], []),
  (77, .aload_n 0, 1, 0, 0, .null, [], []),
  (78, .getfield 290, 3, 11, 32, .int 0, [], [188]),
  (81, .if_icmp .ge 12, 3, 93, 0, .null, [], []),
  (84, .aload_n 0, 1, 0, 0, .null, [], []),
  (85, .getfield 58, 3, 11, 36, .null, [], [164]),
  (88, .iload_n 1, 1, 1, 0, .null, [], []),
  (89, .iaload, 1, 0, 0, .null, [], []),
  (90, .goto 4, 3, 94, 0, .null, [], []),
  (93, .iconst 0, 1, 0, 0, .int 0, [], []),
  (94, .iastore, 1, 0, 0, .null, [], []),
  (95, .iinc 1 1, 3, 1, 0, .int 1, [], []),
  (98, .goto (-70), 3, 28, 0, .null, [], []),
  (101, .aload_n 0, 1, 0, 0, .null, [], []),
  (102, .getfield 129, 3, 11, 9, .int 0, [], [176]),
  (105, .ireturn, 1, 0, 0, .int 0, [], [])],
  [(28, [true, true])], 2)
/-- 224: LeastPaysModel.isBody(I)Z -/
def kX11_isBody : j_K := ([
  (0, .iload_n 1, 1, 1, 0, .null, [], []),
  (1, .i2l, 1, 0, 0, .null, [], []),
  (2, .lconst 0, 1, 0, 0, .long 0, [], []),
  (3, .aload_n 0, 1, 0, 0, .null, [], []),
  (4, .getfield 299, 3, 11, 37, .int 0, [], [191]),
  (7, .iconst 1, 1, 0, 0, .int 1, [], []),
  (8, .isub, 1, 0, 0, .null, [], []),
  (9, .i2l, 1, 0, 0, .null, [], []),
  (10, .invokestatic 93, 3, 155, 3, .int 0, [], [140]),
  (13, .ireturn, 1, 0, 0, .long 0, [], [])],
  [], 2)
/-- 225: LeastPaysModel.kindOf(I)I -/
def kX11_kindOf : j_K := ([
  (0, .aload_n 0, 1, 0, 0, .null, [], []),
  (1, .getfield 61, 3, 11, 38, .null, [], [165]),
  (4, .iload_n 1, 1, 1, 0, .null, [], []),
  (5, .iaload, 1, 0, 0, .null, [], []),
  (6, .ireturn, 1, 0, 0, .int 0, [], [])],
  [], 2)
/-- 226: LeastPaysModel.body(I)I -/
def kX11_body : j_K := ([
  (0, .iload_n 1, 1, 1, 0, .null, [], []),
  (1, .i2l, 1, 0, 0, .null, [], []),
  (2, .lconst 0, 1, 0, 0, .long 0, [], []),
  (3, .ldc2_w 302, 3, 0, 0, .long 7, [], [16]),
  (6, .invokestatic 93, 3, 155, 3, .int 0, [], [140]),
  (9, .ifCond .ne 5, 3, 14, 0, .null, [], []),
  (12, .iconst (-1), 1, 0, 0, .int (-1), [], []),
  (13, .ireturn, 1, 0, 0, .int 0, [], []),
  (14, .aload_n 0, 1, 0, 0, .null, [], []),
  (15, .getfield 299, 3, 11, 37, .int 0, [], [191]),
  (18, .bipush 50, 2, 0, 0, .int 50, [], []),
  (20, .if_icmp .ne 6, 3, 26, 0, .null, [], []),
  (23, .bipush (-3), 2, 0, 0, .int (-3), [], []),
  (25, .ireturn, 1, 0, 0, .int 0, [], []),
  (26, .aload_n 0, 1, 0, 0, .null, [], []),
  (27, .getfield 61, 3, 11, 38, .null, [], [165]),
  (30, .aload_n 0, 1, 0, 0, .null, [], []),
  (31, .getfield 299, 3, 11, 37, .int 0, [], [191]),
  (34, .iload_n 1, 1, 1, 0, .null, [], []),
  (35, .iastore, 1, 0, 0, .null, [], []),
  (36, .aload_n 0, 1, 0, 0, .null, [], []),
  (37, .dup, 1, 0, 0, .null, [], []),
  (38, .getfield 299, 3, 11, 37, .int 0, [], [191]),
  (41, .iconst 1, 1, 0, 0, .int 1, [], []),
  (42, .iadd, 1, 0, 0, .null, [], []),
  (43, .putfield 299, 3, 11, 37, .int 0, [], [191]),
  (46, .aload_n 0, 1, 0, 0, .null, [], []),
  (47, .getfield 299, 3, 11, 37, .int 0, [], [191]),
  (50, .iconst 1, 1, 0, 0, .int 1, [], []),
  (51, .isub, 1, 0, 0, .null, [], []),
  (52, .ireturn, 1, 0, 0, .int 0, [], [])],
  [], 2)
/-- 227: LeastPaysModel.above(I)I -/
def kX11_above : j_K := ([
  (0, .iload_n 0, 1, 0, 0, .null, [], []),
  (1, .iconst 3, 1, 0, 0, .int 3, [], []),
  (2, .if_icmp .ne 7, 3, 9, 0, .null, [], []),
  (5, .iconst 2, 1, 0, 0, .int 2, [], []),
  (6, .goto 32, 3, 38, 0, .null, [], []),
  (9, .iload_n 0, 1, 0, 0, .null, [], []),
  (10, .iconst 4, 1, 0, 0, .int 4, [], []),
  (11, .if_icmp .ne 7, 3, 18, 0, .null, [], []),
  (14, .iconst 1, 1, 0, 0, .int 1, [], []),
  (15, .goto 23, 3, 38, 0, .null, [], []),
  (18, .iload_n 0, 1, 0, 0, .null, [], []),
  (19, .iconst 5, 1, 0, 0, .int 5, [], []),
  (20, .if_icmp .ne 7, 3, 27, 0, .null, [], []),
  (23, .iconst 3, 1, 0, 0, .int 3, [], []),
  (24, .goto 14, 3, 38, 0, .null, [], []),
  (27, .iload_n 0, 1, 0, 0, .null, [], []),
  (28, .bipush 7, 2, 0, 0, .int 7, [], []),
  (30, .if_icmp .ne 7, 3, 37, 0, .null, [], []),
  (33, .iconst 4, 1, 0, 0, .int 4, [], []),
  (34, .goto 4, 3, 38, 0, .null, [], []),
  (37, .iconst 0, 1, 0, 0, .int 0, [], []),
  (38, .ireturn, 1, 0, 0, .int 0, [], [])],
  [], 1)
/-- 228: LeastPaysModel.begins(I)V -/
def kX11_begins : j_K := ([
  (0, .aload_n 0, 1, 0, 0, .null, [], []),
  (1, .getfield 304, 3, 11, 40, .int 0, [], [192]),
  (4, .bipush 24, 2, 0, 0, .int 24, [], []),
  (6, .if_icmp .ge 13, 3, 19, 0, .null, [], []),
  (9, .aload_n 0, 1, 0, 0, .null, [], []),
  (10, .getfield 64, 3, 11, 39, .null, [], [166]),
  (13, .aload_n 0, 1, 0, 0, .null, [], []),
  (14, .getfield 304, 3, 11, 40, .int 0, [], [192]),
  (17, .iload_n 1, 1, 1, 0, .null, [], []),
  (18, .iastore, 1, 0, 0, .null, [], []),
  (19, .aload_n 0, 1, 0, 0, .null, [], []),
  (20, .dup, 1, 0, 0, .null, [], []),
  (21, .getfield 304, 3, 11, 40, .int 0, [], [192]),
  (24, .iconst 1, 1, 0, 0, .int 1, [], []),
  (25, .iadd, 1, 0, 0, .null, [], []),
  (26, .putfield 304, 3, 11, 40, .int 0, [], [192]),
  (29, .return_, 1, 0, 0, .null, [], [])],
  [], 2)
/-- 229: LeastPaysModel.givesAs(II)I -/
def kX11_givesAs : j_K := ([
  (0, .iload_n 1, 1, 1, 0, .null, [], []),
  (1, .iconst 1, 1, 0, 0, .int 1, [], []),
  (2, .if_icmp .eq 14, 3, 16, 0, .null, [], []),
  (5, .iload_n 1, 1, 1, 0, .null, [], []),
  (6, .iconst 4, 1, 0, 0, .int 4, [], []),
  (7, .if_icmp .eq 9, 3, 16, 0, .null, [], []),
  (10, .iload_n 1, 1, 1, 0, .null, [], []),
  (11, .bipush 7, 2, 0, 0, .int 7, [], []),
  (13, .if_icmp .ne 18, 3, 31, 0, .null, [], []),
  (16, .aload_n 0, 1, 0, 0, .null, [], []),
  (17, .bipush 20, 2, 0, 0, .int 20, [], []),
  (19, .invokevirtual 307, 14, 228, 1, .null, [], [180]),
  (22, .aload_n 0, 1, 0, 0, .null, [], []),
  (23, .iconst 0, 1, 0, 0, .int 0, [], []),
  (24, .iload_n 2, 1, 2, 0, .null, [], []),
  (25, .invokevirtual 310, 14, 229, 2, .int 0, [], [181]),
  (28, .iconst 3, 1, 0, 0, .int 3, [], []),
  (29, .iadd, 1, 0, 0, .null, [], []),
  (30, .ireturn, 1, 0, 0, .int 0, [], []),
  (31, .iload_n 1, 1, 1, 0, .null, [], []),
  (32, .bipush 6, 2, 0, 0, .int 6, [], []),
  (34, .if_icmp .ne 18, 3, 52, 0, .null, [], []),
  (37, .aload_n 0, 1, 0, 0, .null, [], []),
  (38, .bipush 70, 2, 0, 0, .int 70, [], []),
  (40, .invokevirtual 307, 14, 228, 1, .null, [], [180]),
  (43, .aload_n 0, 1, 0, 0, .null, [], []),
  (44, .iconst 0, 1, 0, 0, .int 0, [], []),
  (45, .iload_n 2, 1, 2, 0, .null, [], []),
  (46, .invokevirtual 310, 14, 229, 2, .int 0, [], [181]),
  (49, .iconst 2, 1, 0, 0, .int 2, [], []),
  (50, .imul, 1, 0, 0, .null, [], []),
  (51, .ireturn, 1, 0, 0, .int 0, [], []),
  (52, .aload_n 0, 1, 0, 0, .null, [], []),
  (53, .iconst 1, 1, 0, 0, .int 1, [], []),
  (54, .invokevirtual 307, 14, 228, 1, .null, [], [180]),
  (57, .iload_n 2, 1, 2, 0, .null, [], []),
  (58, .aload_n 0, 1, 0, 0, .null, [], []),
  (59, .getfield 313, 3, 11, 42, .int 0, [], [193]),
  (62, .iadd, 1, 0, 0, .null, [], []),
  (63, .ireturn, 1, 0, 0, .int 0, [], [])],
  [], 3)
/-- 230: LeastPaysModel.owesAs(II)I -/
def kX11_owesAs : j_K := ([
  (0, .iload_n 1, 1, 1, 0, .null, [], []),
  (1, .iconst 3, 1, 0, 0, .int 3, [], []),
  (2, .if_icmp .eq 8, 3, 10, 0, .null, [], []),
  (5, .iload_n 1, 1, 1, 0, .null, [], []),
  (6, .iconst 5, 1, 0, 0, .int 5, [], []),
  (7, .if_icmp .ne 18, 3, 25, 0, .null, [], []),
  (10, .aload_n 0, 1, 0, 0, .null, [], []),
  (11, .bipush 41, 2, 0, 0, .int 41, [], []),
  (13, .invokevirtual 307, 14, 228, 1, .null, [], [180]),
  (16, .aload_n 0, 1, 0, 0, .null, [], []),
  (17, .iconst 2, 1, 0, 0, .int 2, [], []),
  (18, .iload_n 2, 1, 2, 0, .null, [], []),
  (19, .iconst 1, 1, 0, 0, .int 1, [], []),
  (20, .iadd, 1, 0, 0, .null, [], []),
  (21, .invokevirtual 316, 14, 230, 2, .int 0, [], [182]),
  (24, .ireturn, 1, 0, 0, .int 0, [], []),
  (25, .iload_n 1, 1, 1, 0, .null, [], []),
  (26, .iconst 2, 1, 0, 0, .int 2, [], []),
  (27, .if_icmp .ne 17, 3, 44, 0, .null, [], []),
  (30, .aload_n 0, 1, 0, 0, .null, [], []),
  (31, .bipush 30, 2, 0, 0, .int 30, [], []),
  (33, .invokevirtual 307, 14, 228, 1, .null, [], [180]),
  (36, .aload_n 0, 1, 0, 0, .null, [], []),
  (37, .iconst 0, 1, 0, 0, .int 0, [], []),
  (38, .iload_n 2, 1, 2, 0, .null, [], []),
  (39, .invokevirtual 316, 14, 230, 2, .int 0, [], [182]),
  (42, .ineg, 1, 0, 0, .null, [], []),
  (43, .ireturn, 1, 0, 0, .int 0, [], []),
  (44, .iload_n 1, 1, 1, 0, .null, [], []),
  (45, .bipush 7, 2, 0, 0, .int 7, [], []),
  (47, .if_icmp .ne 28, 3, 75, 0, .null, [], []),
  (50, .aload_n 0, 1, 0, 0, .null, [], []),
  (51, .bipush 80, 2, 0, 0, .int 80, [], []),
  (53, .invokevirtual 307, 14, 228, 1, .null, [], [180]),
  (56, .aload_n 0, 1, 0, 0, .null, [], []),
  (57, .iconst 4, 1, 0, 0, .int 4, [], []),
  (58, .iload_n 2, 1, 2, 0, .null, [], []),
  (59, .invokevirtual 316, 14, 230, 2, .int 0, [], [182]),
  (62, .istore_n 3, 1, 3, 0, .null, [], []),
  (63, .iload_n 3, 1, 3, 0, .null, [], []),
  (64, .aload_n 0, 1, 0, 0, .null, [], []),
  (65, .aload_n 0, 1, 0, 0, .null, [], []),
  (66, .getfield 319, 3, 11, 41, .int 0, [], [194]),
  (69, .iconst 2, 1, 0, 0, .int 2, [], []),
  (70, .invokevirtual 322, 14, 231, 2, .int 0, [], [183]),
  (73, .iadd, 1, 0, 0, .null, [], []),
  (74, .ireturn, 1, 0, 0, .int 0, [], []),
  (75, .aload_n 0, 1, 0, 0, .null, [], []),
  (76, .bipush 10, 2, 0, 0, .int 10, [], []),
  (78, .invokevirtual 307, 14, 228, 1, .null, [], [180]),
  (81, .aload_n 0, 1, 0, 0, .null, [], []),
  (82, .aload_n 0, 1, 0, 0, .null, [], []),
  (83, .getfield 319, 3, 11, 41, .int 0, [], [194]),
  (86, .iload_n 2, 1, 2, 0, .null, [], []),
  (87, .invokevirtual 310, 14, 229, 2, .int 0, [], [181]),
  (90, .iconst 2, 1, 0, 0, .int 2, [], []),
  (91, .imul, 1, 0, 0, .null, [], []),
  (92, .ireturn, 1, 0, 0, .int 0, [], [])],
  [], 4)
/-- 231: LeastPaysModel.lacksAs(II)I -/
def kX11_lacksAs : j_K := ([
  (0, .iload_n 1, 1, 1, 0, .null, [], []),
  (1, .iconst 3, 1, 0, 0, .int 3, [], []),
  (2, .if_icmp .eq 8, 3, 10, 0, .null, [], []),
  (5, .iload_n 1, 1, 1, 0, .null, [], []),
  (6, .iconst 5, 1, 0, 0, .int 5, [], []),
  (7, .if_icmp .ne 18, 3, 25, 0, .null, [], []),
  (10, .aload_n 0, 1, 0, 0, .null, [], []),
  (11, .bipush 40, 2, 0, 0, .int 40, [], []),
  (13, .invokevirtual 307, 14, 228, 1, .null, [], [180]),
  (16, .aload_n 0, 1, 0, 0, .null, [], []),
  (17, .iconst 2, 1, 0, 0, .int 2, [], []),
  (18, .iload_n 2, 1, 2, 0, .null, [], []),
  (19, .invokevirtual 322, 14, 231, 2, .int 0, [], [183]),
  (22, .iconst 3, 1, 0, 0, .int 3, [], []),
  (23, .imul, 1, 0, 0, .null, [], []),
  (24, .ireturn, 1, 0, 0, .int 0, [], []),
  (25, .iload_n 1, 1, 1, 0, .null, [], []),
  (26, .iconst 4, 1, 0, 0, .int 4, [], []),
  (27, .if_icmp .eq 9, 3, 36, 0, .null, [], []),
  (30, .iload_n 1, 1, 1, 0, .null, [], []),
  (31, .bipush 7, 2, 0, 0, .int 7, [], []),
  (33, .if_icmp .ne 28, 3, 61, 0, .null, [], []),
  (36, .aload_n 0, 1, 0, 0, .null, [], []),
  (37, .bipush 50, 2, 0, 0, .int 50, [], []),
  (39, .invokevirtual 307, 14, 228, 1, .null, [], [180]),
  (42, .aload_n 0, 1, 0, 0, .null, [], []),
  (43, .iconst 1, 1, 0, 0, .int 1, [], []),
  (44, .iload_n 2, 1, 2, 0, .null, [], []),
  (45, .invokevirtual 322, 14, 231, 2, .int 0, [], [183]),
  (48, .istore_n 3, 1, 3, 0, .null, [], []),
  (49, .iload_n 3, 1, 3, 0, .null, [], []),
  (50, .aload_n 0, 1, 0, 0, .null, [], []),
  (51, .aload_n 0, 1, 0, 0, .null, [], []),
  (52, .getfield 319, 3, 11, 41, .int 0, [], [194]),
  (55, .iconst 2, 1, 0, 0, .int 2, [], []),
  (56, .invokevirtual 310, 14, 229, 2, .int 0, [], [181]),
  (59, .isub, 1, 0, 0, .null, [], []),
  (60, .ireturn, 1, 0, 0, .int 0, [], []),
  (61, .aload_n 0, 1, 0, 0, .null, [], []),
  (62, .bipush 11, 2, 0, 0, .int 11, [], []),
  (64, .invokevirtual 307, 14, 228, 1, .null, [], [180]),
  (67, .iload_n 2, 1, 2, 0, .null, [], []),
  (68, .aload_n 0, 1, 0, 0, .null, [], []),
  (69, .getfield 313, 3, 11, 42, .int 0, [], [193]),
  (72, .ixor, 1, 0, 0, .null, [], []),
  (73, .ireturn, 1, 0, 0, .int 0, [], [])],
  [], 4)
/-- 232: LeastPaysModel.tellsAs(II)I -/
def kX11_tellsAs : j_K := ([
  (0, .iload_n 1, 1, 1, 0, .null, [], []),
  (1, .iconst 5, 1, 0, 0, .int 5, [], []),
  (2, .if_icmp .ne 18, 3, 20, 0, .null, [], []),
  (5, .aload_n 0, 1, 0, 0, .null, [], []),
  (6, .bipush 60, 2, 0, 0, .int 60, [], []),
  (8, .invokevirtual 307, 14, 228, 1, .null, [], [180]),
  (11, .aload_n 0, 1, 0, 0, .null, [], []),
  (12, .iconst 3, 1, 0, 0, .int 3, [], []),
  (13, .iload_n 2, 1, 2, 0, .null, [], []),
  (14, .invokevirtual 325, 14, 232, 2, .int 0, [], [184]),
  (17, .iconst 5, 1, 0, 0, .int 5, [], []),
  (18, .ixor, 1, 0, 0, .null, [], []),
  (19, .ireturn, 1, 0, 0, .int 0, [], []),
  (20, .iload_n 1, 1, 1, 0, .null, [], []),
  (21, .bipush 7, 2, 0, 0, .int 7, [], []),
  (23, .if_icmp .ne 18, 3, 41, 0, .null, [], []),
  (26, .aload_n 0, 1, 0, 0, .null, [], []),
  (27, .bipush 81, 2, 0, 0, .int 81, [], []),
  (29, .invokevirtual 307, 14, 228, 1, .null, [], [180]),
  (32, .aload_n 0, 1, 0, 0, .null, [], []),
  (33, .iconst 4, 1, 0, 0, .int 4, [], []),
  (34, .iload_n 2, 1, 2, 0, .null, [], []),
  (35, .invokevirtual 325, 14, 232, 2, .int 0, [], [184]),
  (38, .iconst 1, 1, 0, 0, .int 1, [], []),
  (39, .isub, 1, 0, 0, .null, [], []),
  (40, .ireturn, 1, 0, 0, .int 0, [], []),
  (41, .aload_n 0, 1, 0, 0, .null, [], []),
  (42, .iconst 2, 1, 0, 0, .int 2, [], []),
  (43, .invokevirtual 307, 14, 228, 1, .null, [], [180]),
  (46, .aload_n 0, 1, 0, 0, .null, [], []),
  (47, .aload_n 0, 1, 0, 0, .null, [], []),
  (48, .getfield 319, 3, 11, 41, .int 0, [], [194]),
  (51, .iload_n 2, 1, 2, 0, .null, [], []),
  (52, .invokevirtual 316, 14, 230, 2, .int 0, [], [182]),
  (55, .istore_n 3, 1, 3, 0, .null, [], []),
  (56, .iload_n 3, 1, 3, 0, .null, [], []),
  (57, .aload_n 0, 1, 0, 0, .null, [], []),
  (58, .aload_n 0, 1, 0, 0, .null, [], []),
  (59, .getfield 319, 3, 11, 41, .int 0, [], [194]),
  (62, .iconst 1, 1, 0, 0, .int 1, [], []),
  (63, .invokevirtual 322, 14, 231, 2, .int 0, [], [183]),
  (66, .isub, 1, 0, 0, .null, [], []),
  (67, .ireturn, 1, 0, 0, .int 0, [], [])],
  [], 4)
/-- 233: LeastPaysModel.act(III)I -/
def kX11_act : j_K := ([
  (0, .aload_n 0, 1, 0, 0, .null, [], []),
  (1, .iconst 0, 1, 0, 0, .int 0, [], []),
  (2, .putfield 304, 3, 11, 40, .int 0, [], [192]),
  (5, .aload_n 0, 1, 0, 0, .null, [], []),
  (6, .iload_n 1, 1, 1, 0, .null, [], []),
  (7, .invokevirtual 328, 14, 224, 1, .int 0, [], [185]),
  (10, .ifCond .ne 5, 3, 15, 0, .null, [], []),
  (13, .iconst 0, 1, 0, 0, .int 0, [], []),
  (14, .ireturn, 1, 0, 0, .int 0, [], []),
  (15, .aload_n 0, 1, 0, 0, .null, [], []),
  (16, .aload_n 0, 1, 0, 0, .null, [], []),
  (17, .getfield 61, 3, 11, 38, .null, [], [165]),
  (20, .iload_n 1, 1, 1, 0, .null, [], []),
  (21, .iaload, 1, 0, 0, .null, [], []),
  (22, .putfield 319, 3, 11, 41, .int 0, [], [194]),
  (25, .aload_n 0, 1, 0, 0, .null, [], []),
  (26, .iload_n 1, 1, 1, 0, .null, [], []),
  (27, .putfield 313, 3, 11, 42, .int 0, [], [193]),
  (30, .iload_n 2, 1, 2, 0, .null, [], []),
  (31, .tableswitch 69 0 3 #[29, 39, 49, 59], 29, 100, 0, .null, [(0, 60), (1, 70), (2, 80), (3, 90)], []),
  (60, .aload_n 0, 1, 0, 0, .null, [], []),
  (61, .aload_n 0, 1, 0, 0, .null, [], []),
  (62, .getfield 319, 3, 11, 41, .int 0, [], [194]),
  (65, .iload_n 3, 1, 3, 0, .null, [], []),
  (66, .invokevirtual 310, 14, 229, 2, .int 0, [], [181]),
  (69, .ireturn, 1, 0, 0, .int 0, [], []),
  (70, .aload_n 0, 1, 0, 0, .null, [], []),
  (71, .aload_n 0, 1, 0, 0, .null, [], []),
  (72, .getfield 319, 3, 11, 41, .int 0, [], [194]),
  (75, .iload_n 3, 1, 3, 0, .null, [], []),
  (76, .invokevirtual 316, 14, 230, 2, .int 0, [], [182]),
  (79, .ireturn, 1, 0, 0, .int 0, [], []),
  (80, .aload_n 0, 1, 0, 0, .null, [], []),
  (81, .aload_n 0, 1, 0, 0, .null, [], []),
  (82, .getfield 319, 3, 11, 41, .int 0, [], [194]),
  (85, .iload_n 3, 1, 3, 0, .null, [], []),
  (86, .invokevirtual 322, 14, 231, 2, .int 0, [], [183]),
  (89, .ireturn, 1, 0, 0, .int 0, [], []),
  (90, .aload_n 0, 1, 0, 0, .null, [], []),
  (91, .aload_n 0, 1, 0, 0, .null, [], []),
  (92, .getfield 319, 3, 11, 41, .int 0, [], [194]),
  (95, .iload_n 3, 1, 3, 0, .null, [], []),
  (96, .invokevirtual 325, 14, 232, 2, .int 0, [], [184]),
  (99, .ireturn, 1, 0, 0, .int 0, [], []),
  (100, .iconst 0, 1, 0, 0, .int 0, [], []),
  (101, .ireturn, 1, 0, 0, .int 0, [], [])],
  [], 4)
/-- 234: LeastPaysModel.trace(I)I -/
def kX11_trace : j_K := ([
  (0, .iload_n 1, 1, 1, 0, .null, [], []),
  (1, .ifCond .lt 26, 3, 27, 0, .null, [], []),
  (4, .iload_n 1, 1, 1, 0, .null, [], []),
  (5, .aload_n 0, 1, 0, 0, .null, [], []),
  (6, .getfield 304, 3, 11, 40, .int 0, [], [192]),
  (9, .if_icmp .ge 18, 3, 27, 0, .null, [], []),
  (12, .iload_n 1, 1, 1, 0, .null, [], []),
  (13, .bipush 24, 2, 0, 0, .int 24, [], []),
  (15, .if_icmp .ge 12, 3, 27, 0, .null, [], []),
  (18, .aload_n 0, 1, 0, 0, .null, [], []),
  (19, .getfield 64, 3, 11, 39, .null, [], [166]),
  (22, .iload_n 1, 1, 1, 0, .null, [], []),
  (23, .iaload, 1, 0, 0, .null, [], []),
  (24, .goto 4, 3, 28, 0, .null, [], []),
  (27, .iconst (-1), 1, 0, 0, .int (-1), [], []),
  (28, .ireturn, 1, 0, 0, .int 0, [], [])],
  [], 2)
/-- 235: LeastPaysModel.isShelf(I)Z -/
def kX11_isShelf : j_K := ([
  (0, .iload_n 0, 1, 0, 0, .null, [], []),
  (1, .i2l, 1, 0, 0, .null, [], []),
  (2, .lconst 0, 1, 0, 0, .long 0, [], []),
  (3, .ldc2_w 331, 3, 0, 0, .long 5, [], [17]),
  (6, .invokestatic 93, 3, 155, 3, .int 0, [], [140]),
  (9, .ireturn, 1, 0, 0, .long 0, [], [])],
  [], 1)
/-- 236: LeastPaysModel.keep(II)I -/
def kX11_keep : j_K := ([
  (0, .iload_n 1, 1, 1, 0, .null, [], []),
  (1, .invokestatic 99, 3, 235, 1, .int 0, [], [141]),
  (4, .ifCond .eq 16, 3, 20, 0, .null, [], []),
  (7, .iload_n 2, 1, 2, 0, .null, [], []),
  (8, .iconst (-1), 1, 0, 0, .int (-1), [], []),
  (9, .if_icmp .eq 13, 3, 22, 0, .null, [], []),
  (12, .aload_n 0, 1, 0, 0, .null, [], []),
  (13, .iload_n 2, 1, 2, 0, .null, [], []),
  (14, .invokevirtual 328, 14, 224, 1, .int 0, [], [185]),
  (17, .ifCond .ne 5, 3, 22, 0, .null, [], []),
  (20, .iconst (-1), 1, 0, 0, .int (-1), [], []),
  (21, .ireturn, 1, 0, 0, .int 0, [], []),
  (22, .aload_n 0, 1, 0, 0, .null, [], []),
  (23, .getfield 67, 3, 11, 43, .null, [], [167]),
  (26, .iload_n 1, 1, 1, 0, .null, [], []),
  (27, .iload_n 2, 1, 2, 0, .null, [], []),
  (28, .iastore, 1, 0, 0, .null, [], []),
  (29, .aload_n 0, 1, 0, 0, .null, [], []),
  (30, .getfield 70, 3, 11, 44, .null, [], [168]),
  (33, .iload_n 1, 1, 1, 0, .null, [], []),
  (34, .iconst 0, 1, 0, 0, .int 0, [], []),
  (35, .iastore, 1, 0, 0, .null, [], []),
  (36, .iconst 1, 1, 0, 0, .int 1, [], []),
  (37, .ireturn, 1, 0, 0, .int 0, [], [])],
  [], 3)
/-- 237: LeastPaysModel.row(III)I -/
def kX11_row : j_K := ([
  (0, .iload_n 1, 1, 1, 0, .null, [], []),
  (1, .invokestatic 99, 3, 235, 1, .int 0, [], [141]),
  (4, .ifCond .eq 21, 3, 25, 0, .null, [], []),
  (7, .iload_n 2, 1, 2, 0, .null, [], []),
  (8, .i2l, 1, 0, 0, .null, [], []),
  (9, .lconst 0, 1, 0, 0, .long 0, [], []),
  (10, .ldc2_w 116, 3, 0, 0, .long 4, [], [9]),
  (13, .invokestatic 93, 3, 155, 3, .int 0, [], [140]),
  (16, .ifCond .eq 9, 3, 25, 0, .null, [], []),
  (19, .iload_n 3, 1, 3, 0, .null, [], []),
  (20, .bipush 60, 2, 0, 0, .int 60, [], []),
  (22, .if_icmp .le 5, 3, 27, 0, .null, [], []),
  (25, .iconst (-1), 1, 0, 0, .int (-1), [], []),
  (26, .ireturn, 1, 0, 0, .int 0, [], []),
  (27, .iload_n 3, 1, 3, 0, .null, [], []),
  (28, .ifCond .ge 6, 3, 34, 0, .null, [], []),
  (31, .bipush (-14), 2, 0, 0, .int (-14), [], []),
  (33, .ireturn, 1, 0, 0, .int 0, [], []),
  (34, .aload_n 0, 1, 0, 0, .null, [], []),
  (35, .getfield 67, 3, 11, 43, .null, [], [167]),
  (38, .iload_n 1, 1, 1, 0, .null, [], []),
  (39, .bipush 50, 2, 0, 0, .int 50, [], []),
  (41, .iload_n 2, 1, 2, 0, .null, [], []),
  (42, .iadd, 1, 0, 0, .null, [], []),
  (43, .iastore, 1, 0, 0, .null, [], []),
  (44, .aload_n 0, 1, 0, 0, .null, [], []),
  (45, .getfield 70, 3, 11, 44, .null, [], [168]),
  (48, .iload_n 1, 1, 1, 0, .null, [], []),
  (49, .iload_n 3, 1, 3, 0, .null, [], []),
  (50, .iastore, 1, 0, 0, .null, [], []),
  (51, .bipush 60, 2, 0, 0, .int 60, [], []),
  (53, .iload_n 1, 1, 1, 0, .null, [], []),
  (54, .imul, 1, 0, 0, .null, [], []),
  (55, .istore 4, 2, 4, 0, .null, [], []),
  (57, .iload 4, 2, 4, 0, .null, [], []),
  (59, .bipush 60, 2, 0, 0, .int 60, [], []),
  (61, .iload_n 1, 1, 1, 0, .null, [], []),
  (62, .imul, 1, 0, 0, .null, [], []),
  (63, .bipush 60, 2, 0, 0, .int 60, [], []),
  (65, .iadd, 1, 0, 0, .null, [], []),
  (66, .if_icmp .ge 17, 3, 83, 0, .null, [], []),
  (69, .aload_n 0, 1, 0, 0, .null, [], []),
  (70, .getfield 73, 3, 11, 45, .null, [], [169]),
  (73, .iload 4, 2, 4, 0, .null, [], []),
  (75, .lconst 0, 1, 0, 0, .long 0, [], []),
  (76, .lastore, 1, 0, 0, .null, [], []),
  (77, .iinc 4 1, 3, 4, 0, .int 1, [], []),
  (80, .goto (-23), 3, 57, 0, .null, [], []),
  (83, .iconst 1, 1, 0, 0, .int 1, [], []),
  (84, .ireturn, 1, 0, 0, .int 0, [], [])],
  [(57, [true, true, false, false, true])], 5)
/-- 238: LeastPaysModel.refusal(II)I -/
def kX11_refusal : j_K := ([
  (0, .iload_n 1, 1, 1, 0, .null, [], []),
  (1, .invokestatic 99, 3, 235, 1, .int 0, [], [141]),
  (4, .ifCond .ne 5, 3, 9, 0, .null, [], []),
  (7, .iconst (-1), 1, 0, 0, .int (-1), [], []),
  (8, .ireturn, 1, 0, 0, .int 0, [], []),
  (9, .aload_n 0, 1, 0, 0, .null, [], []),
  (10, .getfield 67, 3, 11, 43, .null, [], [167]),
  (13, .iload_n 1, 1, 1, 0, .null, [], []),
  (14, .iaload, 1, 0, 0, .null, [], []),
  (15, .ifCond .ge 6, 3, 21, 0, .null, [], []),
  (18, .bipush (-11), 2, 0, 0, .int (-11), [], []),
  (20, .ireturn, 1, 0, 0, .int 0, [], []),
  (21, .aload_n 0, 1, 0, 0, .null, [], []),
  (22, .getfield 67, 3, 11, 43, .null, [], [167]),
  (25, .iload_n 1, 1, 1, 0, .null, [], []),
  (26, .iaload, 1, 0, 0, .null, [], []),
  (27, .bipush 50, 2, 0, 0, .int 50, [], []),
  (29, .if_icmp .ge 6, 3, 35, 0, .null, [], []),
  (32, .bipush (-12), 2, 0, 0, .int (-12), [], []),
  (34, .ireturn, 1, 0, 0, .int 0, [], []),
  (35, .iload_n 2, 1, 2, 0, .null, [], []),
  (36, .ifCond .lt 17, 3, 53, 0, .null, [], []),
  (39, .iload_n 2, 1, 2, 0, .null, [], []),
  (40, .aload_n 0, 1, 0, 0, .null, [], []),
  (41, .getfield 70, 3, 11, 44, .null, [], [168]),
  (44, .iload_n 1, 1, 1, 0, .null, [], []),
  (45, .iaload, 1, 0, 0, .null, [], []),
  (46, .if_icmp .ge 7, 3, 53, 0, .null, [], []),
  (49, .iconst 0, 1, 0, 0, .int 0, [], []),
  (50, .goto 5, 3, 55, 0, .null, [], []),
  (53, .bipush (-13), 2, 0, 0, .int (-13), [], []),
  (55, .ireturn, 1, 0, 0, .int 0, [], [])],
  [], 3)
/-- 239: LeastPaysModel.asSort(IJ)J -/
def kX11_asSort : j_K := ([
  (0, .iload_n 0, 1, 0, 0, .null, [], []),
  (1, .ifCond .ne 10, 3, 11, 0, .null, [], []),
  (4, .lload_n 1, 1, 1, 0, .null, [], []),
  (5, .l2i, 1, 0, 0, .null, [], []),
  (6, .i2b, 1, 0, 0, .null, [], []),
  (7, .i2l, 1, 0, 0, .null, [], []),
  (8, .goto 46, 3, 54, 0, .null, [], []),
  (11, .iload_n 0, 1, 0, 0, .null, [], []),
  (12, .iconst 1, 1, 0, 0, .int 1, [], []),
  (13, .if_icmp .ne 10, 3, 23, 0, .null, [], []),
  (16, .lload_n 1, 1, 1, 0, .null, [], []),
  (17, .l2i, 1, 0, 0, .null, [], []),
  (18, .i2s, 1, 0, 0, .null, [], []),
  (19, .i2l, 1, 0, 0, .null, [], []),
  (20, .goto 34, 3, 54, 0, .null, [], []),
  (23, .iload_n 0, 1, 0, 0, .null, [], []),
  (24, .iconst 2, 1, 0, 0, .int 2, [], []),
  (25, .if_icmp .ne 9, 3, 34, 0, .null, [], []),
  (28, .lload_n 1, 1, 1, 0, .null, [], []),
  (29, .l2i, 1, 0, 0, .null, [], []),
  (30, .i2l, 1, 0, 0, .null, [], []),
  (31, .goto 23, 3, 54, 0, .null, [], []),
  (34, .iload_n 0, 1, 0, 0, .null, [], []),
  (35, .iconst 4, 1, 0, 0, .int 4, [], []),
  (36, .if_icmp .ne 17, 3, 53, 0, .null, [], []),
  (39, .lload_n 1, 1, 1, 0, .null, [], []),
  (40, .lconst 0, 1, 0, 0, .long 0, [], []),
  (41, .lcmp, 1, 0, 0, .null, [], []),
  (42, .ifCond .eq 7, 3, 49, 0, .null, [], []),
  (45, .lconst 1, 1, 0, 0, .long 1, [], []),
  (46, .goto 8, 3, 54, 0, .null, [], []),
  (49, .lconst 0, 1, 0, 0, .long 0, [], []),
  (50, .goto 4, 3, 54, 0, .null, [], []),
  (53, .lload_n 1, 1, 1, 0, .null, [], []),
  (54, .lreturn, 1, 0, 0, .null, [], [])],
  [], 3)
/-- 240: LeastPaysModel.put(IIJ)I -/
def kX11_put : j_K := ([
  (0, .aload_n 0, 1, 0, 0, .null, [], []),
  (1, .iload_n 1, 1, 1, 0, .null, [], []),
  (2, .iload_n 2, 1, 2, 0, .null, [], []),
  (3, .invokevirtual 333, 14, 238, 2, .int 0, [], [186]),
  (6, .istore 5, 2, 5, 0, .null, [], []),
  (8, .iload 5, 2, 5, 0, .null, [], []),
  (10, .ifCond .ne 27, 3, 37, 0, .null, [], []),
  (13, .aload_n 0, 1, 0, 0, .null, [], []),
  (14, .getfield 73, 3, 11, 45, .null, [], [169]),
  (17, .bipush 60, 2, 0, 0, .int 60, [], []),
  (19, .iload_n 1, 1, 1, 0, .null, [], []),
  (20, .imul, 1, 0, 0, .null, [], []),
  (21, .iload_n 2, 1, 2, 0, .null, [], []),
  (22, .iadd, 1, 0, 0, .null, [], []),
  (23, .aload_n 0, 1, 0, 0, .null, [], []),
  (24, .getfield 67, 3, 11, 43, .null, [], [167]),
  (27, .iload_n 1, 1, 1, 0, .null, [], []),
  (28, .iaload, 1, 0, 0, .null, [], []),
  (29, .bipush 50, 2, 0, 0, .int 50, [], []),
  (31, .isub, 1, 0, 0, .null, [], []),
  (32, .lload_n 3, 1, 3, 0, .null, [], []),
  (33, .invokestatic 336, 3, 239, 2, .long 0, [], [187]),
  (36, .lastore, 1, 0, 0, .null, [], []),
  (37, .iload 5, 2, 5, 0, .null, [], []),
  (39, .ifCond .ne 7, 3, 46, 0, .null, [], []),
  (42, .iconst 1, 1, 0, 0, .int 1, [], []),
  (43, .goto 5, 3, 48, 0, .null, [], []),
  (46, .iload 5, 2, 5, 0, .null, [], []),
  (48, .ireturn, 1, 0, 0, .int 0, [], [])],
  [], 6)
/-- 241: LeastPaysModel.element(II)J -/
def kX11_element : j_K := ([
  (0, .aload_n 0, 1, 0, 0, .null, [], []),
  (1, .iload_n 1, 1, 1, 0, .null, [], []),
  (2, .iload_n 2, 1, 2, 0, .null, [], []),
  (3, .invokevirtual 333, 14, 238, 2, .int 0, [], [186]),
  (6, .ifCond .eq 9, 3, 15, 0, .null, [], []),
  (9, .ldc2_w 181, 3, 0, 0, .long (-9223372036854775808), [], [11]),
  (12, .goto 14, 3, 26, 0, .null, [], []),
  (15, .aload_n 0, 1, 0, 0, .null, [], []),
  (16, .getfield 73, 3, 11, 45, .null, [], [169]),
  (19, .bipush 60, 2, 0, 0, .int 60, [], []),
  (21, .iload_n 1, 1, 1, 0, .null, [], []),
  (22, .imul, 1, 0, 0, .null, [], []),
  (23, .iload_n 2, 1, 2, 0, .null, [], []),
  (24, .iadd, 1, 0, 0, .null, [], []),
  (25, .laload, 1, 0, 0, .null, [], []),
  (26, .lreturn, 1, 0, 0, .null, [], [])],
  [], 3)
/-- 242: LeastPaysModel.shift(IIIII)I -/
def kX11_shift : j_K := ([
  (0, .iload_n 1, 1, 1, 0, .null, [], []),
  (1, .invokestatic 99, 3, 235, 1, .int 0, [], [141]),
  (4, .ifCond .eq 10, 3, 14, 0, .null, [], []),
  (7, .iload_n 3, 1, 3, 0, .null, [], []),
  (8, .invokestatic 99, 3, 235, 1, .int 0, [], [141]),
  (11, .ifCond .ne 5, 3, 16, 0, .null, [], []),
  (14, .iconst (-1), 1, 0, 0, .int (-1), [], []),
  (15, .ireturn, 1, 0, 0, .int 0, [], []),
  (16, .aload_n 0, 1, 0, 0, .null, [], []),
  (17, .getfield 67, 3, 11, 43, .null, [], [167]),
  (20, .iload_n 1, 1, 1, 0, .null, [], []),
  (21, .iaload, 1, 0, 0, .null, [], []),
  (22, .ifCond .lt 12, 3, 34, 0, .null, [], []),
  (25, .aload_n 0, 1, 0, 0, .null, [], []),
  (26, .getfield 67, 3, 11, 43, .null, [], [167]),
  (29, .iload_n 3, 1, 3, 0, .null, [], []),
  (30, .iaload, 1, 0, 0, .null, [], []),
  (31, .ifCond .ge 6, 3, 37, 0, .null, [], []),
  (34, .bipush (-11), 2, 0, 0, .int (-11), [], []),
  (36, .ireturn, 1, 0, 0, .int 0, [], []),
  (37, .aload_n 0, 1, 0, 0, .null, [], []),
  (38, .getfield 67, 3, 11, 43, .null, [], [167]),
  (41, .iload_n 1, 1, 1, 0, .null, [], []),
  (42, .iaload, 1, 0, 0, .null, [], []),
  (43, .bipush 50, 2, 0, 0, .int 50, [], []),
  (45, .if_icmp .lt 18, 3, 63, 0, .null, [], []),
  (48, .aload_n 0, 1, 0, 0, .null, [], []),
  (49, .getfield 67, 3, 11, 43, .null, [], [167]),
  (52, .iload_n 1, 1, 1, 0, .null, [], []),
  (53, .iaload, 1, 0, 0, .null, [], []),
  (54, .aload_n 0, 1, 0, 0, .null, [], []),
  (55, .getfield 67, 3, 11, 43, .null, [], [167]),
  (58, .iload_n 3, 1, 3, 0, .null, [], []),
  (59, .iaload, 1, 0, 0, .null, [], []),
  (60, .if_icmp .eq 6, 3, 66, 0, .null, [], []),
  (63, .bipush (-12), 2, 0, 0, .int (-12), [], []),
  (65, .ireturn, 1, 0, 0, .int 0, [], []),
  (66, .iload 5, 2, 5, 0, .null, [], []),
  (68, .ifCond .lt 39, 3, 107, 0, .null, [], []),
  (71, .iload_n 2, 1, 2, 0, .null, [], []),
  (72, .ifCond .lt 35, 3, 107, 0, .null, [], []),
  (75, .iload 4, 2, 4, 0, .null, [], []),
  (77, .ifCond .lt 30, 3, 107, 0, .null, [], []),
  (80, .iload_n 2, 1, 2, 0, .null, [], []),
  (81, .aload_n 0, 1, 0, 0, .null, [], []),
  (82, .getfield 70, 3, 11, 44, .null, [], [168]),
  (85, .iload_n 1, 1, 1, 0, .null, [], []),
  (86, .iaload, 1, 0, 0, .null, [], []),
  (87, .iload 5, 2, 5, 0, .null, [], []),
  (89, .isub, 1, 0, 0, .null, [], []),
  (90, .if_icmp .gt 17, 3, 107, 0, .null, [], []),
  (93, .iload 4, 2, 4, 0, .null, [], []),
  (95, .aload_n 0, 1, 0, 0, .null, [], []),
  (96, .getfield 70, 3, 11, 44, .null, [], [168]),
  (99, .iload_n 3, 1, 3, 0, .null, [], []),
  (100, .iaload, 1, 0, 0, .null, [], []),
  (101, .iload 5, 2, 5, 0, .null, [], []),
  (103, .isub, 1, 0, 0, .null, [], []),
  (104, .if_icmp .le 6, 3, 110, 0, .null, [], []),
  (107, .bipush (-13), 2, 0, 0, .int (-13), [], []),
  (109, .ireturn, 1, 0, 0, .int 0, [], []),
  (110, .iconst 0, 1, 0, 0, .int 0, [], []),
  (111, .istore 6, 2, 6, 0, .null, [], []),
  (113, .iload 6, 2, 6, 0, .null, [], []),
  (115, .iload 5, 2, 5, 0, .null, [], []),
  (117, .if_icmp .ge 30, 3, 147, 0, .null, [], []),
  (120, .aload_n 0, 1, 0, 0, .null, [], []),
  (121, .getfield 77, 3, 11, 46, .null, [], [170]),
  (124, .iload 6, 2, 6, 0, .null, [], []),
  (126, .aload_n 0, 1, 0, 0, .null, [], []),
  (127, .getfield 73, 3, 11, 45, .null, [], [169]),
  (130, .bipush 60, 2, 0, 0, .int 60, [], []),
  (132, .iload_n 1, 1, 1, 0, .null, [], []),
  (133, .imul, 1, 0, 0, .null, [], []),
  (134, .iload_n 2, 1, 2, 0, .null, [], []),
  (135, .iadd, 1, 0, 0, .null, [], []),
  (136, .iload 6, 2, 6, 0, .null, [], []),
  (138, .iadd, 1, 0, 0, .null, [], []),
  (139, .laload, 1, 0, 0, .null, [], []),
  (140, .lastore, 1, 0, 0, .null, [], []),
  (141, .iinc 6 1, 3, 6, 0, .int 1, [], []),
  (144, .goto (-31), 3, 113, 0, .null, [], []),
  (147, .iconst 0, 1, 0, 0, .int 0, [], []),
  (148, .istore 6, 2, 6, 0, .null, [], []),
  (150, .iload 6, 2, 6, 0, .null, [], []),
  (152, .iload 5, 2, 5, 0, .null, [], []),
  (154, .if_icmp .ge 31, 3, 185, 0, .null, [], []),
  (157, .aload_n 0, 1, 0, 0, .null, [], []),
  (158, .getfield 73, 3, 11, 45, .null, [], [169]),
  (161, .bipush 60, 2, 0, 0, .int 60, [], []),
  (163, .iload_n 3, 1, 3, 0, .null, [], []),
  (164, .imul, 1, 0, 0, .null, [], []),
  (165, .iload 4, 2, 4, 0, .null, [], []),
  (167, .iadd, 1, 0, 0, .null, [], []),
  (168, .iload 6, 2, 6, 0, .null, [], []),
  (170, .iadd, 1, 0, 0, .null, [], []),
  (171, .aload_n 0, 1, 0, 0, .null, [], []),
  (172, .getfield 77, 3, 11, 46, .null, [], [170]),
  (175, .iload 6, 2, 6, 0, .null, [], []),
  (177, .laload, 1, 0, 0, .null, [], []),
  (178, .lastore, 1, 0, 0, .null, [], []),
  (179, .iinc 6 1, 3, 6, 0, .int 1, [], []),
  (182, .goto (-32), 3, 150, 0, .null, [], []),
  (185, .iload 5, 2, 5, 0, .null, [], []),
  (187, .ireturn, 1, 0, 0, .int 0, [], [])],
  [(113, [true, true, true, true, true, true, true]), (150, [true, false, false, true, true, true, true])], 7)
/-- 243: LeastPaysModel.taken(II)I -/
def kX11_taken : j_K := ([
  (0, .iload_n 1, 1, 1, 0, .null, [], []),
  (1, .invokestatic 99, 3, 235, 1, .int 0, [], [141]),
  (4, .ifCond .eq 15, 3, 19, 0, .null, [], []),
  (7, .iload_n 2, 1, 2, 0, .null, [], []),
  (8, .i2l, 1, 0, 0, .null, [], []),
  (9, .lconst 0, 1, 0, 0, .long 0, [], []),
  (10, .ldc2_w 302, 3, 0, 0, .long 7, [], [16]),
  (13, .invokestatic 93, 3, 155, 3, .int 0, [], [140]),
  (16, .ifCond .ne 5, 3, 21, 0, .null, [], []),
  (19, .iconst (-1), 1, 0, 0, .int (-1), [], []),
  (20, .ireturn, 1, 0, 0, .int 0, [], []),
  (21, .aload_n 0, 1, 0, 0, .null, [], []),
  (22, .getfield 67, 3, 11, 43, .null, [], [167]),
  (25, .iload_n 1, 1, 1, 0, .null, [], []),
  (26, .iaload, 1, 0, 0, .null, [], []),
  (27, .ifCond .ge 6, 3, 33, 0, .null, [], []),
  (30, .bipush (-11), 2, 0, 0, .int (-11), [], []),
  (32, .ireturn, 1, 0, 0, .int 0, [], []),
  (33, .aload_n 0, 1, 0, 0, .null, [], []),
  (34, .getfield 67, 3, 11, 43, .null, [], [167]),
  (37, .iload_n 1, 1, 1, 0, .null, [], []),
  (38, .iaload, 1, 0, 0, .null, [], []),
  (39, .bipush 50, 2, 0, 0, .int 50, [], []),
  (41, .if_icmp .lt 6, 3, 47, 0, .null, [], []),
  (44, .bipush (-12), 2, 0, 0, .int (-12), [], []),
  (46, .ireturn, 1, 0, 0, .int 0, [], []),
  (47, .aload_n 0, 1, 0, 0, .null, [], []),
  (48, .aload_n 0, 1, 0, 0, .null, [], []),
  (49, .getfield 67, 3, 11, 43, .null, [], [167]),
  (52, .iload_n 1, 1, 1, 0, .null, [], []),
  (53, .iaload, 1, 0, 0, .null, [], []),
  (54, .invokevirtual 340, 14, 225, 1, .int 0, [], [188]),
  (57, .istore_n 3, 1, 3, 0, .null, [], []),
  (58, .iload_n 3, 1, 3, 0, .null, [], []),
  (59, .iload_n 2, 1, 2, 0, .null, [], []),
  (60, .if_icmp .eq 15, 3, 75, 0, .null, [], []),
  (63, .iload_n 3, 1, 3, 0, .null, [], []),
  (64, .ifCond .le 11, 3, 75, 0, .null, [], []),
  (67, .iload_n 3, 1, 3, 0, .null, [], []),
  (68, .invokestatic 343, 3, 227, 1, .int 0, [], [189]),
  (71, .istore_n 3, 1, 3, 0, .null, [], []),
  (72, .goto (-14), 3, 58, 0, .null, [], []),
  (75, .iload_n 3, 1, 3, 0, .null, [], []),
  (76, .iload_n 2, 1, 2, 0, .null, [], []),
  (77, .if_icmp .ne 16, 3, 93, 0, .null, [], []),
  (80, .aload_n 0, 1, 0, 0, .null, [], []),
  (81, .aload_n 0, 1, 0, 0, .null, [], []),
  (82, .getfield 67, 3, 11, 43, .null, [], [167]),
  (85, .iload_n 1, 1, 1, 0, .null, [], []),
  (86, .iaload, 1, 0, 0, .null, [], []),
  (87, .invokevirtual 340, 14, 225, 1, .int 0, [], [188]),
  (90, .goto 5, 3, 95, 0, .null, [], []),
  (93, .bipush (-12), 2, 0, 0, .int (-12), [], []),
  (95, .ireturn, 1, 0, 0, .int 0, [], [])],
  [(58, [true, true, true, true])], 4)
/-- 244: LeastPaysModel.count(I)I -/
def kX11_count : j_K := ([
  (0, .iload_n 1, 1, 1, 0, .null, [], []),
  (1, .tableswitch 69 0 5 #[39, 44, 49, 54, 59, 64], 39, 70, 0, .null, [(0, 40), (1, 45), (2, 50), (3, 55), (4, 60), (5, 65)], []),
  (40, .aload_n 0, 1, 0, 0, .null, [], []),
  (41, .getfield 90, 3, 11, 6, .int 0, [], [174]),
  (44, .ireturn, 1, 0, 0, .int 0, [], []),
  (45, .aload_n 0, 1, 0, 0, .null, [], []),
  (46, .getfield 207, 3, 11, 17, .int 0, [], [180]),
  (49, .ireturn, 1, 0, 0, .int 0, [], []),
  (50, .aload_n 0, 1, 0, 0, .null, [], []),
  (51, .getfield 220, 3, 11, 22, .int 0, [], [181]),
  (54, .ireturn, 1, 0, 0, .int 0, [], []),
  (55, .aload_n 0, 1, 0, 0, .null, [], []),
  (56, .getfield 84, 3, 11, 5, .int 0, [], [172]),
  (59, .ireturn, 1, 0, 0, .int 0, [], []),
  (60, .aload_n 0, 1, 0, 0, .null, [], []),
  (61, .getfield 299, 3, 11, 37, .int 0, [], [191]),
  (64, .ireturn, 1, 0, 0, .int 0, [], []),
  (65, .aload_n 0, 1, 0, 0, .null, [], []),
  (66, .getfield 304, 3, 11, 40, .int 0, [], [192]),
  (69, .ireturn, 1, 0, 0, .int 0, [], []),
  (70, .iconst (-1), 1, 0, 0, .int (-1), [], []),
  (71, .ireturn, 1, 0, 0, .int 0, [], [])],
  [], 2)
/-- 245: java/util/Arrays.fill([JJ)V -/
def kJ7_fill_d0a16 : j_K := ([
  (0, .iconst 0, 1, 0, 0, .int 0, [], []),
  (1, .istore_n 3, 1, 3, 0, .null, [], []),
  (2, .aload_n 0, 1, 0, 0, .null, [], []),
  (3, .arraylength, 1, 0, 0, .null, [], []),
  (4, .istore 4, 2, 4, 0, .null, [], []),
  (6, .iload_n 3, 1, 3, 0, .null, [], []),
  (7, .iload 4, 2, 4, 0, .null, [], []),
  (9, .if_icmp .ge 13, 3, 22, 0, .null, [], []),
  (12, .aload_n 0, 1, 0, 0, .null, [], []),
  (13, .iload_n 3, 1, 3, 0, .null, [], []),
  (14, .lload_n 1, 1, 1, 0, .null, [], []),
  (15, .lastore, 1, 0, 0, .null, [], []),
  (16, .iinc 3 1, 3, 3, 0, .int 1, [], []),
  (19, .goto (-13), 3, 6, 0, .null, [], []),
  (22, .return_, 1, 0, 0, .null, [], [])],
  [(6, [true, true, false, true, true])], 5)
/-- 246: java/util/Arrays.fill([II)V -/
def kJ7_fill_53178 : j_K := ([
  (0, .iconst 0, 1, 0, 0, .int 0, [], []),
  (1, .istore_n 2, 1, 2, 0, .null, [], []),
  (2, .aload_n 0, 1, 0, 0, .null, [], []),
  (3, .arraylength, 1, 0, 0, .null, [], []),
  (4, .istore_n 3, 1, 3, 0, .null, [], []),
  (5, .iload_n 2, 1, 2, 0, .null, [], []),
  (6, .iload_n 3, 1, 3, 0, .null, [], []),
  (7, .if_icmp .ge 13, 3, 20, 0, .null, [], []),
  (10, .aload_n 0, 1, 0, 0, .null, [], []),
  (11, .iload_n 2, 1, 2, 0, .null, [], []),
  (12, .iload_n 1, 1, 1, 0, .null, [], []),
  (13, .iastore, 1, 0, 0, .null, [], []),
  (14, .iinc 2 1, 3, 2, 0, .int 1, [], []),
  (17, .goto (-12), 3, 5, 0, .null, [], []),
  (20, .return_, 1, 0, 0, .null, [], [])],
  [(5, [true, true, true, true])], 4)
def j_meths : List j_K := [kX0_init, kX0_has, kX0_kindOf, kX0_add, kX0_isUnder, kX0_ranAt, kX0_perform, kX0_call, kX0_from, kX0_run, kX1_init, kX1_note, kX1_dropOldest, kX1_takeBack, kX1_doAgain, kX2_init, kX2_has, kX2_welcome, kX2_allows, kX2_told, kX2_tell, kX3_init, kX3_lay, kX3_join, kX3_weigh, kX3_charge, kX3_cost, kX3_besides, kX3_partAmongAlike, kX3_partOfTwo, kX3_givenBack, kX3_intoChest, kX4_init, kX4_add, kX4_enact, kX4_readLines, kX4_readLine, kX4_readEither, kX4_readBoth, kX4_readCompared, kX4_readSum, kX4_takesSumSign, kX4_readProduct, kX4_takesProductSign, kX4_readOperand, kX4_readNumber, kX4_letterHere, kX4_isDigit, kX4_nameOf, kX4_takes, kX4_fail, kX4_write, kX4_gift, kX4_shareOf, kX4_workOut, kX4_apply, kX4_push, kX4_pop, kX4_valueOf, kX4_joined, kX4_truth, kX5_init, kX5_has, kX5_add, kX5_enjoy, kX5_orderAll, kX5_playOut, kX5_priceOf, kX5_worth, kX6_init, kX6_costBy, kX6_search, kX6_wouldChange, kX6_firstRestless, kX6_sumsOf, kX6_ways, kX6_fewWays, kX6_goThroughWays, kX6_layWay, kX6_takeTurns, kX6_settle, kX6_victimOf, kX6_allWeights, kX6_weighedCost, kX6_layByChance, kX6_sumOfLeastMean, kX7_init, kX7_pass, kX7_draw, kX7_firstWrong, kX7_rulesThatFit, kX7_weighRules, kX7_greatestCost, kX8_init, kX8_take, kX8_layBack, kX9_init, kX9_holdsNothing, kX9_isRow, kX9_isRowOf, kX9_holdHat, kX9_holdRow, kX9_hasPlaces, kX9_refusalAt, kX9_get, kX9_set, kX9_lowestBits, kX10_init, kX10_guest, kX10_guests, kX10_mend, kX10_of, kX10_think, kX10_feed, kX10_law, kX10_putIn, kX10_mean, kX10_bestMean, kX10_rest, kX10_rests, kX10_turns, kX10_agree, kX10_dish, kX10_joy, kX10_ordered, kX10_thought, kX10_given, kX10_stranger, kX10_night, kX10_drawn, kX10_judge, kX10_fits, kX10_fair, kX10_image, kX10_back, kX10_undo, kX10_redo, kX10_body, kX10_act, kX10_trace, kX10_keep, kX10_row, kX10_put, kX10_element, kX10_shift, kX10_taken, kX10_count, kX10_within, kX10_isShelf, kX10_comesFrom, kX10_ofOne, kX10_ofTheTable, kX10_givenBy, kX10_refusalOfTold, kX10_fraction, kX11_within, kX11_init, kX11_becomes, kX11_undo, kX11_redo, kX11_isGuest, kX11_guest, kX11_guests, kX11_mend, kX11_ofGuest, kX11_of, kX11_think, kX11_laysOut, kX11_leastBut, kX11_alikePay, kX11_twoPay, kX11_givesBack, kX11_nightBy, kX11_nightAsIs, kX11_costIn, kX11_costNow, kX11_costBy, kX11_leastCost, kX11_putIn, kX11_common, kX11_partOf, kX11_meanOf, kX11_wholeOf, kX11_mean, kX11_bestMean, kX11_wouldChange, kX11_firstWho, kX11_rest, kX11_sumsOf, kX11_rests, kX11_turns, kX11_agree, kX11_dish, kX11_joy, kX11_joyOf, kX11_billFrom, kX11_ordered, kX11_feed, kX11_byteAt, kX11_wrong, kX11_takes, kX11_either, kX11_both, kX11_compared, kX11_sums, kX11_product, kX11_nameOf, kX11_one, kX11_workOut, kX11_law, kX11_wouldGive, kX11_thought, kX11_givenBy, kX11_given, kX11_stranger, kX11_night, kX11_drawn, kX11_hatIs, kX11_firstFalse, kX11_judge, kX11_fits, kX11_fair, kX11_image, kX11_back, kX11_isBody, kX11_kindOf, kX11_body, kX11_above, kX11_begins, kX11_givesAs, kX11_owesAs, kX11_lacksAs, kX11_tellsAs, kX11_act, kX11_trace, kX11_isShelf, kX11_keep, kX11_row, kX11_refusal, kX11_asSort, kX11_put, kX11_element, kX11_shift, kX11_taken, kX11_count, kJ7_fill_d0a16, kJ7_fill_53178]
abbrev j_cnt : Nat := 247
def j_mn : List j_K → Nat → j_K
  | [], _ => ([], [], 0)
  | x :: _, 0 => x
  | _ :: r, k + 1 => j_mn r k
def j_meth (i : Nat) : j_K := j_mn j_meths i
end
section
/-! ===== runs: with fuel, and without (own text) ===== -/
section JMAP
variable {α β : Type} (g : α → β)
theorem j_i0_map (ks : α) (f : Int32 → α) (st : List Value) : g (j_i0 ks f st) = j_i0 (g ks) (fun x => g (f x)) st := by unfold j_i0; split <;> rfl
theorem j_l0_map (ks : α) (f : Int64 → α) (st : List Value) : g (j_l0 ks f st) = j_l0 (g ks) (fun x => g (f x)) st := by unfold j_l0; split <;> rfl
theorem j_i1_map (ks : α) (f : Int32 → List Value → α) (st : List Value) : g (j_i1 ks f st) = j_i1 (g ks) (fun x r => g (f x r)) st := by unfold j_i1; split <;> rfl
theorem j_i2_map (ks : α) (f : Int32 → Int32 → List Value → α) (st : List Value) : g (j_i2 ks f st) = j_i2 (g ks) (fun x y r => g (f x y r)) st := by unfold j_i2; split <;> rfl
theorem j_l1_map (ks : α) (f : Int64 → List Value → α) (st : List Value) : g (j_l1 ks f st) = j_l1 (g ks) (fun x r => g (f x r)) st := by unfold j_l1; split <;> rfl
theorem j_l2_map (ks : α) (f : Int64 → Int64 → List Value → α) (st : List Value) : g (j_l2 ks f st) = j_l2 (g ks) (fun x y r => g (f x y r)) st := by unfold j_l2; split <;> rfl
theorem j_il_map (ks : α) (f : Int64 → Int32 → List Value → α) (st : List Value) : g (j_il ks f st) = j_il (g ks) (fun x y r => g (f x y r)) st := by unfold j_il; split <;> rfl
theorem j_r1_map (ks : α) (f : Nat → List Value → α) (st : List Value) : g (j_r1 ks f st) = j_r1 (g ks) (fun x r => g (f x r)) st := by unfold j_r1; split <;> rfl
theorem j_ri_map (ks : α) (f : Nat → Int32 → List Value → α) (st : List Value) : g (j_ri ks f st) = j_ri (g ks) (fun x y r => g (f x y r)) st := by unfold j_ri; split <;> rfl
theorem j_rI_map (ks : α) (f : Nat → Int32 → List Value → α) (st : List Value) : g (j_rI ks f st) = j_rI (g ks) (fun x y r => g (f x y r)) st := by unfold j_rI; split <;> rfl
theorem j_rii_map (ks : α) (f : Nat → Int32 → Int32 → List Value → α) (st : List Value) : g (j_rii ks f st) = j_rii (g ks) (fun x y z r => g (f x y z r)) st := by unfold j_rii; split <;> rfl
theorem j_ril_map (ks : α) (f : Nat → Int32 → Int64 → List Value → α) (st : List Value) : g (j_ril ks f st) = j_ril (g ks) (fun x y z r => g (f x y z r)) st := by unfold j_ril; split <;> rfl
theorem j_rir_map (ks : α) (f : Nat → Int32 → Nat → List Value → α) (st : List Value) : g (j_rir ks f st) = j_rir (g ks) (fun x y z r => g (f x y z r)) st := by unfold j_rir; split <;> rfl
theorem j_rr_map (ks : α) (f : Nat → Nat → List Value → α) (st : List Value) : g (j_rr ks f st) = j_rr (g ks) (fun x y r => g (f x y r)) st := by unfold j_rr; split <;> rfl
theorem j_c5_map (ks : α) (f : Nat → Int32 → Nat → Int32 → Int32 → List Value → α) (st : List Value) : g (j_c5 ks f st) = j_c5 (g ks) (fun a b c d e r => g (f a b c d e r)) st := by unfold j_c5; split <;> rfl
theorem j_v1_map (ks : α) (f : Value → List Value → α) (st : List Value) : g (j_v1 ks f st) = j_v1 (g ks) (fun x r => g (f x r)) st := by unfold j_v1; split <;> rfl
theorem j_v2_map (ks : α) (f : Value → Value → List Value → α) (st : List Value) : g (j_v2 ks f st) = j_v2 (g ks) (fun x y r => g (f x y r)) st := by unfold j_v2; simp only [j_v1_map g]
theorem j_vi_map (ks : α) (f : Int32 → α) (v : Value) : g (j_vi ks f v) = j_vi (g ks) (fun x => g (f x)) v := by unfold j_vi; split <;> rfl
theorem j_vl_map (ks : α) (f : Int64 → α) (v : Value) : g (j_vl ks f v) = j_vl (g ks) (fun x => g (f x)) v := by unfold j_vl; split <;> rfl
theorem j_vr_map (ks : α) (f : Nat → α) (v : Value) : g (j_vr ks f v) = j_vr (g ks) (fun x => g (f x)) v := by unfold j_vr; split <;> rfl
theorem j_sw_map (k : Nat → α) (d : Nat) (x : Int32) : ∀ ts : List (Int32 × Nat), g (j_sw k d x ts) = j_sw (fun t => g (k t)) d x ts
  | [] => rfl
  | (c, t) :: r => by
    unfold j_sw
    split
    · rfl
    · exact j_sw_map k d x r
theorem j_popk_map (ks : α) (f : List Value → List Value → α) : ∀ (n : Nat) (acc st : List Value), g (j_popk ks f n acc st) = j_popk (g ks) (fun x r => g (f x r)) n acc st
  | 0, _, _ => rfl
  | n + 1, acc, x :: r => j_popk_map ks f n (x :: acc) r
  | _ + 1, _, [] => rfl
theorem j_by_map (v : Value) (i l r : α) : g (j_by v i l r) = j_by v (g i) (g l) (g r) := by unfold j_by; split <;> rfl
theorem j_br_map (c : Jvm.ClassFile.Cond) (x : Int32) (t f : α) : g (j_br c x t f) = j_br c x (g t) (g f) := by unfold j_br; split <;> split <;> rfl
theorem j_bc_map (c : Jvm.ClassFile.Cond) (x y : Int32) (t f : α) : g (j_bc c x y t f) = j_bc c x y (g t) (g f) := by unfold j_bc; split <;> split <;> rfl
theorem j_cond_map (c : Bool) (t f : α) : g (bif c then t else f) = bif c then g t else g f := by cases c <;> rfl
theorem j_ite_map (c : Prop) (h : Decidable c) (t f : α) : g (@ite α c h t f) = @ite β c h (g t) (g f) := by split <;> rfl
theorem j_nat_map (kn : List Value → j_Me → α) (ks : α) (a : Nat) (st : List Value) (me : j_Me) : g (j_nat kn ks a st me) = j_nat (fun r me => g (kn r me)) (g ks) a st me := by
  unfold j_nat
  simp only [j_cond_map g, j_c5_map g, j_i2_map g, j_l2_map g]
theorem j_oi_map (ks : α) (f : Int32 → α) (o : Option Value) : g (j_oi ks f o) = j_oi (g ks) (fun x => g (f x)) o := by unfold j_oi; split <;> rfl
theorem j_ol_map (ks : α) (f : Int64 → α) (o : Option Value) : g (j_ol ks f o) = j_ol (g ks) (fun x => g (f x)) o := by unfold j_ol; split <;> rfl
theorem j_ov_map (ks : α) (f : α) (o : Option Value) : g (j_ov ks f o) = j_ov (g ks) (g f) o := by unfold j_ov; split <;> rfl
theorem j_res_map (ks : α) (v : Value) (f : List Value → α) (o : Option Value) : g (j_res ks v f o) = j_res (g ks) v (fun vs => g (f vs)) o := by
  unfold j_res
  simp only [j_by_map g, j_oi_map g, j_ol_map g, j_ov_map g]
theorem j_ret_map (kr : Option Value → j_Me → α) (ks : α) (st : List Value) (me : j_Me) : g (match st with | [] => kr none me | _ => ks) = (match st with | [] => g (kr none me) | _ => g ks) := by split <;> rfl
set_option maxHeartbeats 4000000 in
theorem j_st_map (kn : Nat → List Value → List Value → j_Me → α) (kc : Nat → Value → List Value → Nat → List Value → List Value → j_Me → α) (kcs : Nat → List Value → Nat → List Value → List Value → j_Me → α) (kr : Option Value → j_Me → α) (ks : α) (pc : Nat) (ins : Instr) (z a b : Nat) (v : Value) (ts : List (Int32 × Nat)) (L st : List Value) (me : j_Me) :
    g (j_st kn kc kcs kr ks pc ins z a b v ts L st me) = j_st (fun a b c d => g (kn a b c d)) (fun a b c d e f h => g (kc a b c d e f h)) (fun a b c d e f => g (kcs a b c d e f)) (fun a b => g (kr a b)) (g ks) pc ins z a b v ts L st me := by
  cases ins <;> first
    | rfl
    | (simp only [j_st, j_i0_map g, j_l0_map g, j_i1_map g, j_i2_map g, j_l1_map g, j_l2_map g, j_il_map g, j_r1_map g, j_ri_map g, j_rI_map g, j_rii_map g, j_ril_map g, j_rir_map g, j_rr_map g, j_c5_map g, j_v1_map g, j_v2_map g, j_vi_map g, j_vl_map g, j_vr_map g, j_sw_map g, j_popk_map g, j_by_map g, j_br_map g, j_bc_map g, j_cond_map g, j_ite_map g, j_nat_map g, j_ret_map g]; done)
    | (simp only [j_st]; split <;> rfl)
theorem j_go_map (kn : Nat → List Value → List Value → j_Me → α) (kc : Nat → Value → List Value → Nat → List Value → List Value → j_Me → α) (kcs : Nat → List Value → Nat → List Value → List Value → j_Me → α) (kr : Option Value → j_Me → α) (ks : α) (K : j_K) (pc : Nat) (L st : List Value) (me : j_Me) :
    g (j_go kn kc kcs kr ks K pc L st me) = j_go (fun a b c d => g (kn a b c d)) (fun a b c d e f h => g (kc a b c d e f h)) (fun a b c d e f => g (kcs a b c d e f)) (fun a b => g (kr a b)) (g ks) K pc L st me := by
  unfold j_go
  split
  · rfl
  · exact j_st_map g ..
end JMAP
/-- a call: its method begins with its arguments -/
def j_call (run : Nat → j_K → Nat → List Value → List Value → j_Me → Option j_R) (d i : Nat) (as : List Value) (me : j_Me) : Option j_R := match d with
  | 0 => none
  | d' + 1 => bif Nat.ble (j_ent as).length (j_meth i).2.2 && Nat.blt i j_cnt then run d' (j_meth i) 0 (j_pad (j_meth i).2.2 (j_ent as)) [] me else none
/-- behind a call that makes nothing -/
def j_bh (k : List Value → j_Me → Option j_R) (v : Value) (S : j_S) (q : j_R) : Option j_R := bif decide (q.2.1 = S) then j_res none v (fun vs => k vs (S, q.2.2)) q.1 else none
def j_bhs (k : j_Me → Option j_R) (q : j_R) : Option j_R := j_ov none (k q.2) q.1
def j_step (run : Nat → j_K → Nat → List Value → List Value → j_Me → Option j_R) (d : Nat) (K : j_K) (pc : Nat) (L st : List Value) (me : j_Me) : Option j_R :=
  j_go (fun pc' L' st' me' => run d K pc' (j_fg K.2.1 pc' L') st' me')
    (fun i v as pc' L' r me => (j_call run d i as me).bind (j_bh (fun vs me' => run d K pc' (j_fg K.2.1 pc' L') (vs ++ r) me') v me.1))
    (fun i as pc' L' r me => (j_call run d i as me).bind (j_bhs (fun me' => run d K pc' (j_fg K.2.1 pc' L') r me')))
    (fun v me => some (v, me)) none K pc L st me
def j_run : Nat → Nat → j_K → Nat → List Value → List Value → j_Me → Option j_R
  | 0, _, _, _, _, _, _ => none
  | n + 1, d, K, pc, L, st, me => j_step (j_run n) d K pc L st me
theorem j_bind_map {α β : Type} (o : Option α) (f : α → Option β) (r : β) : (o.bind f = some r) = (∃ q, o = some q ∧ f q = some r) := by
  cases o with
  | none => simp
  | some x => simp
/-- what a step that ends says, as propositions -/
theorem j_step_some (run : Nat → j_K → Nat → List Value → List Value → j_Me → Option j_R) (d : Nat) (K : j_K) (pc : Nat) (L st : List Value) (me : j_Me) (r : j_R) : (j_step run d K pc L st me = some r) =
    j_go (fun pc' L' st' me' => run d K pc' (j_fg K.2.1 pc' L') st' me' = some r)
      (fun i v as pc' L' rs me => ∃ q, j_call run d i as me = some q ∧ j_bh (fun vs me' => run d K pc' (j_fg K.2.1 pc' L') (vs ++ rs) me') v me.1 q = some r)
      (fun i as pc' L' rs me => ∃ q, j_call run d i as me = some q ∧ j_bhs (fun me' => run d K pc' (j_fg K.2.1 pc' L') rs me') q = some r)
      (fun v me => (some (v, me) : Option j_R) = some r) False K pc L st me := by
  have h := j_go_map (fun o : Option j_R => o = some r) (fun pc' L' st' me' => run d K pc' (j_fg K.2.1 pc' L') st' me')
    (fun i v as pc' L' rs me => (j_call run d i as me).bind (j_bh (fun vs me' => run d K pc' (j_fg K.2.1 pc' L') (vs ++ rs) me') v me.1))
    (fun i as pc' L' rs me => (j_call run d i as me).bind (j_bhs (fun me' => run d K pc' (j_fg K.2.1 pc' L') rs me')))
    (fun v me => some (v, me)) none K pc L st me
  simp only [j_bind_map] at h
  have e : ((none : Option j_R) = some r) = False := by simp
  rw [e] at h
  exact h
end
section
/-! ===== runs without fuel, and how they go on (own text) ===== -/
theorem j_go_rel {α β : Type} (Rel : α → β → Prop) {kn : Nat → List Value → List Value → j_Me → α} {kn' : Nat → List Value → List Value → j_Me → β} {kc : Nat → Value → List Value → Nat → List Value → List Value → j_Me → α} {kc' : Nat → Value → List Value → Nat → List Value → List Value → j_Me → β} {kcs : Nat → List Value → Nat → List Value → List Value → j_Me → α} {kcs' : Nat → List Value → Nat → List Value → List Value → j_Me → β} {kr : Option Value → j_Me → α} {kr' : Option Value → j_Me → β} {ks : α} {ks' : β}
    (hn : ∀ a b c d, Rel (kn a b c d) (kn' a b c d)) (hc : ∀ a b c d e f h, Rel (kc a b c d e f h) (kc' a b c d e f h)) (hcs : ∀ a b c d e f, Rel (kcs a b c d e f) (kcs' a b c d e f)) (hr : ∀ a b, Rel (kr a b) (kr' a b)) (hs : Rel ks ks') (K : j_K) (pc : Nat) (L st : List Value) (me : j_Me) :
    Rel (j_go kn kc kcs kr ks K pc L st me) (j_go kn' kc' kcs' kr' ks' K pc L st me) := by
  have h := (j_go (α := { p : α × β // Rel p.1 p.2 }) (fun a b c d => ⟨(kn a b c d, kn' a b c d), hn a b c d⟩) (fun a b c d e f h => ⟨(kc a b c d e f h, kc' a b c d e f h), hc a b c d e f h⟩) (fun a b c d e f => ⟨(kcs a b c d e f, kcs' a b c d e f), hcs a b c d e f⟩) (fun a b => ⟨(kr a b, kr' a b), hr a b⟩) ⟨(ks, ks'), hs⟩ K pc L st me).2
  have h1 := j_go_map (fun x : { p : α × β // Rel p.1 p.2 } => x.1.1) (fun a b c d => ⟨(kn a b c d, kn' a b c d), hn a b c d⟩) (fun a b c d e f h => ⟨(kc a b c d e f h, kc' a b c d e f h), hc a b c d e f h⟩) (fun a b c d e f => ⟨(kcs a b c d e f, kcs' a b c d e f), hcs a b c d e f⟩) (fun a b => ⟨(kr a b, kr' a b), hr a b⟩) ⟨(ks, ks'), hs⟩ K pc L st me
  have h2 := j_go_map (fun x : { p : α × β // Rel p.1 p.2 } => x.1.2) (fun a b c d => ⟨(kn a b c d, kn' a b c d), hn a b c d⟩) (fun a b c d e f h => ⟨(kc a b c d e f h, kc' a b c d e f h), hc a b c d e f h⟩) (fun a b c d e f => ⟨(kcs a b c d e f, kcs' a b c d e f), hcs a b c d e f⟩) (fun a b => ⟨(kr a b, kr' a b), hr a b⟩) ⟨(ks, ks'), hs⟩ K pc L st me
  dsimp only at h1 h2
  rw [h1, h2] at h
  exact h
abbrev j_Ru : Type := Nat → j_K → Nat → List Value → List Value → j_Me → Option j_R
def j_le (f g : j_Ru) : Prop := ∀ d K pc L st me r, f d K pc L st me = some r → g d K pc L st me = some r
theorem j_call_le {f g : j_Ru} (h : j_le f g) (d i : Nat) (as : List Value) (me : j_Me) (r : j_R) (hf : j_call f d i as me = some r) : j_call g d i as me = some r := by
  cases d with
  | zero => exact hf
  | succ d =>
    unfold j_call at hf ⊢
    dsimp only at hf ⊢
    cases hb : (Nat.ble (j_ent as).length (j_meth i).2.2 && Nat.blt i j_cnt) with
    | false => rw [hb] at hf; cases hf
    | true => rw [hb] at hf; exact h _ _ _ _ _ _ _ hf
theorem j_res_le {v : Value} {f g : List Value → Option j_R} {o : Option Value} {r : j_R} (h : ∀ vs, f vs = some r → g vs = some r) (hf : j_res none v f o = some r) : j_res none v g o = some r := by
  unfold j_res j_by j_oi j_ol j_ov at hf ⊢
  revert hf
  cases v <;> dsimp only <;> split <;> first | exact h _ | exact fun q => q
theorem j_bh_le {k k' : List Value → j_Me → Option j_R} {v : Value} {S : j_S} {q r : j_R} (h : ∀ vs me, k vs me = some r → k' vs me = some r) (hf : j_bh k v S q = some r) : j_bh k' v S q = some r := by
  unfold j_bh at hf ⊢
  cases hb : decide (q.2.1 = S) with
  | false => rw [hb] at hf; cases hf
  | true => rw [hb] at hf; exact j_res_le (fun vs => h vs _) hf
theorem j_bhs_le {k k' : j_Me → Option j_R} {q r : j_R} (h : ∀ me, k me = some r → k' me = some r) (hf : j_bhs k q = some r) : j_bhs k' q = some r := by
  unfold j_bhs j_ov at hf ⊢
  revert hf
  split
  · exact h _
  · exact fun q => q
theorem j_step_le {f g : j_Ru} (h : j_le f g) : j_le (j_step f) (j_step g) := by
  intro d K pc L st me r hf
  refine j_go_rel (fun a b : Option j_R => a = some r → b = some r) (fun _ _ _ _ => h _ _ _ _ _ _ _) (fun i v as pc' L' rs me => ?_) (fun i as pc' L' rs me => ?_) (fun _ _ q => q) (fun q => q) K pc L st me hf
  · intro hq
    rw [j_bind_map] at hq ⊢
    obtain ⟨q, h1, h2⟩ := hq
    exact ⟨q, j_call_le h _ _ _ _ _ h1, j_bh_le (fun vs me => h _ _ _ _ _ _ _) h2⟩
  · intro hq
    rw [j_bind_map] at hq ⊢
    obtain ⟨q, h1, h2⟩ := hq
    exact ⟨q, j_call_le h _ _ _ _ _ h1, j_bhs_le (fun me => h _ _ _ _ _ _ _) h2⟩
theorem j_run_le1 : ∀ n, j_le (j_run n) (j_run (n + 1))
  | 0 => fun _ _ _ _ _ _ _ h => by cases h
  | n + 1 => j_step_le (j_run_le1 n)
theorem j_run_le {n m : Nat} (h : n ≤ m) : j_le (j_run n) (j_run m) := by
  induction h with
  | refl => exact fun _ _ _ _ _ _ _ h => h
  | step _ ih => exact fun d K pc L st me r q => j_run_le1 _ d K pc L st me r (ih d K pc L st me r q)
noncomputable def R : j_Ru := fun d K pc L st me => @dite (Option j_R) (∃ r n, j_run n d K pc L st me = some r) (Classical.propDecidable _) (fun h => some h.choose) (fun _ => none)
theorem R_some {d : Nat} {K : j_K} {pc : Nat} {L st : List Value} {me : j_Me} {r : j_R} : R d K pc L st me = some r ↔ ∃ n, j_run n d K pc L st me = some r := by
  unfold R
  by_cases h : ∃ r n, j_run n d K pc L st me = some r
  · rw [dif_pos h]
    obtain ⟨n, hn⟩ := h.choose_spec
    constructor
    · intro e
      cases e
      exact ⟨n, hn⟩
    · rintro ⟨m, hm⟩
      have a := j_run_le (Nat.le_max_left n m) _ _ _ _ _ _ _ hn
      have b := j_run_le (Nat.le_max_right n m) _ _ _ _ _ _ _ hm
      rw [a] at b
      exact b
  · rw [dif_neg h]
    constructor
    · intro e
      cases e
    · rintro ⟨m, hm⟩
      exact absurd ⟨r, m, hm⟩ h
theorem j_run_R (n : Nat) : j_le (j_run n) R := fun _ _ _ _ _ _ _ h => R_some.mpr ⟨n, h⟩
theorem j_call_ex {d i : Nat} {as : List Value} {me : j_Me} {r : j_R} (h : j_call R d i as me = some r) : ∃ n, j_call (j_run n) d i as me = some r := by
  cases d with
  | zero => cases h
  | succ d =>
    unfold j_call at h ⊢
    dsimp only at h ⊢
    cases hb : (Nat.ble (j_ent as).length (j_meth i).2.2 && Nat.blt i j_cnt) with
    | false => rw [hb] at h; cases h
    | true => rw [hb] at h; exact R_some.mp h
theorem j_res_ex {v : Value} {f : List Value → Option j_R} {g : Nat → List Value → Option j_R} {o : Option Value} {r : j_R} (h : ∀ vs, f vs = some r → ∃ n, g n vs = some r) (hf : j_res none v f o = some r) : ∃ n, j_res none v (g n) o = some r := by
  unfold j_res j_by j_oi j_ol j_ov at hf ⊢
  revert hf
  cases v <;> dsimp only <;> split <;> first | exact h _ | exact fun q => by cases q
theorem j_step_ex {d : Nat} {K : j_K} {pc : Nat} {L st : List Value} {me : j_Me} {r : j_R} (h : j_step R d K pc L st me = some r) : ∃ n, j_step (j_run n) d K pc L st me = some r := by
  have key := j_go_rel (fun (a : Option j_R) (b : Nat → Option j_R) => a = some r → ∃ n, b n = some r)
    (kn := fun pc' L' st' me' => R d K pc' (j_fg K.2.1 pc' L') st' me') (kn' := fun pc' L' st' me' n => j_run n d K pc' (j_fg K.2.1 pc' L') st' me')
    (kc := fun i v as pc' L' r me => (j_call R d i as me).bind (j_bh (fun vs me' => R d K pc' (j_fg K.2.1 pc' L') (vs ++ r) me') v me.1))
    (kc' := fun i v as pc' L' r me n => (j_call (j_run n) d i as me).bind (j_bh (fun vs me' => j_run n d K pc' (j_fg K.2.1 pc' L') (vs ++ r) me') v me.1))
    (kcs := fun i as pc' L' r me => (j_call R d i as me).bind (j_bhs (fun me' => R d K pc' (j_fg K.2.1 pc' L') r me')))
    (kcs' := fun i as pc' L' r me n => (j_call (j_run n) d i as me).bind (j_bhs (fun me' => j_run n d K pc' (j_fg K.2.1 pc' L') r me')))
    (kr := fun v me => some (v, me)) (kr' := fun v me _ => some (v, me)) (ks := none) (ks' := fun _ => none)
    (fun _ _ _ _ => R_some.mp) (fun i v as pc' L' rs me => ?_) (fun i as pc' L' rs me => ?_) (fun _ _ q => ⟨0, q⟩) (fun q => by cases q) K pc L st me h
  · obtain ⟨n, hn⟩ := key
    refine ⟨n, ?_⟩
    rw [← hn]
    exact (j_go_map (fun f : Nat → Option j_R => f n) (fun pc' L' st' me' n => j_run n d K pc' (j_fg K.2.1 pc' L') st' me')
      (fun i v as pc' L' r me n => (j_call (j_run n) d i as me).bind (j_bh (fun vs me' => j_run n d K pc' (j_fg K.2.1 pc' L') (vs ++ r) me') v me.1))
      (fun i as pc' L' r me n => (j_call (j_run n) d i as me).bind (j_bhs (fun me' => j_run n d K pc' (j_fg K.2.1 pc' L') r me')))
      (fun v me _ => some (v, me)) (fun _ => none) K pc L st me).symm
  · intro hq
    rw [j_bind_map] at hq
    obtain ⟨q, h1, h2⟩ := hq
    obtain ⟨n1, e1⟩ := j_call_ex h1
    unfold j_bh at h2
    cases hb : decide (q.2.1 = me.1) with
    | false => rw [hb] at h2; cases h2
    | true =>
      rw [hb] at h2
      obtain ⟨n2, e2⟩ := j_res_ex (g := fun n vs => j_run n d K pc' (j_fg K.2.1 pc' L') (vs ++ rs) (me.1, q.2.2)) (fun vs => R_some.mp) h2
      refine ⟨max n1 n2, ?_⟩
      rw [j_bind_map]
      refine ⟨q, j_call_le (j_run_le (Nat.le_max_left n1 n2)) _ _ _ _ _ e1, ?_⟩
      unfold j_bh
      rw [hb]
      exact j_res_le (fun vs => j_run_le (Nat.le_max_right n1 n2) _ _ _ _ _ _ _) e2
  · intro hq
    rw [j_bind_map] at hq
    obtain ⟨q, h1, h2⟩ := hq
    obtain ⟨n1, e1⟩ := j_call_ex h1
    have h3 : q.1 = none ∧ R d K pc' (j_fg K.2.1 pc' L') rs q.2 = some r := by
      unfold j_bhs j_ov at h2
      revert h2
      split
      · next e => exact fun z => ⟨e, z⟩
      · exact fun z => by cases z
    obtain ⟨n2, e2⟩ := R_some.mp h3.2
    refine ⟨max n1 n2, ?_⟩
    rw [j_bind_map]
    refine ⟨q, j_call_le (j_run_le (Nat.le_max_left n1 n2)) _ _ _ _ _ e1, ?_⟩
    unfold j_bhs
    rw [h3.1]
    exact j_run_le (Nat.le_max_right n1 n2) _ _ _ _ _ _ _ e2
theorem R_eq (d : Nat) (K : j_K) (pc : Nat) (L st : List Value) (me : j_Me) : R d K pc L st me = j_step R d K pc L st me := by
  have key : ∀ r, R d K pc L st me = some r ↔ j_step R d K pc L st me = some r := by
    intro r
    constructor
    · intro h
      obtain ⟨n, hn⟩ := R_some.mp h
      cases n with
      | zero => cases hn
      | succ n => exact j_step_le (j_run_R n) _ _ _ _ _ _ _ hn
    · intro h
      obtain ⟨n, hn⟩ := j_step_ex h
      exact R_some.mpr ⟨n + 1, hn⟩
  cases h1 : R d K pc L st me with
  | some r => exact ((key r).mp h1).symm
  | none =>
    cases h2 : j_step R d K pc L st me with
    | none => rfl
    | some r => rw [(key r).mpr h2] at h1; cases h1
/-- a call that makes nothing: its answer, ints, longs -/
noncomputable def C (d i : Nat) (as : List Value) (S : j_S) (M : j_M) (N : j_N) : Option (Option Value × j_M × j_N) := (j_call R d i as (S, M, N)).bind fun q => bif decide (q.2.1 = S) then some (q.1, q.2.2) else none
theorem j_bh_C (d i : Nat) (as : List Value) (me : j_Me) (k : List Value → j_Me → Option j_R) (v : Value) : (j_call R d i as me).bind (j_bh k v me.1) = (C d i as me.1 me.2.1 me.2.2).bind fun q => j_res none v (fun vs => k vs (me.1, q.2)) q.1 := by
  unfold C
  show _ = ((j_call R d i as me).bind _).bind _
  cases j_call R d i as me with
  | none => rfl
  | some q =>
    simp only [Option.bind_some, j_bh]
    cases decide (q.2.1 = me.1) <;> rfl
noncomputable def j_ev (d : Nat) (K : j_K) : Nat → Nat → List Value → List Value → j_Me → Option j_R
  | 0, pc, L, st, me => R d K pc L st me
  | k + 1, pc, L, st, me => j_go (fun pc' L' st' me' => match j_lk K.2.1 pc' with
        | some m => R d K pc' (j_mask m L') st' me'
        | none => j_ev d K k pc' L' st' me')
      (fun i v as pc' L' r me => (C d i as me.1 me.2.1 me.2.2).bind fun q => j_res none v (fun vs => match j_lk K.2.1 pc' with
        | some m => R d K pc' (j_mask m L') (vs ++ r) (me.1, q.2)
        | none => j_ev d K k pc' L' (vs ++ r) (me.1, q.2)) q.1)
      (fun i as pc' L' r me => (j_call R d i as me).bind (j_bhs (fun me' => match j_lk K.2.1 pc' with
        | some m => R d K pc' (j_mask m L') r me'
        | none => j_ev d K k pc' L' r me')))
      (fun v me => some (v, me)) none K pc L st me
theorem R_ev (d : Nat) (K : j_K) : ∀ (k pc : Nat) (L st : List Value) (me : j_Me), R d K pc L st me = j_ev d K k pc L st me
  | 0, _, _, _, _ => rfl
  | k + 1, pc, L, st, me => by
    have e : ∀ pc' L' st' me', R d K pc' (j_fg K.2.1 pc' L') st' me' = (match j_lk K.2.1 pc' with
        | some m => R d K pc' (j_mask m L') st' me'
        | none => j_ev d K k pc' L' st' me') := by
      intro pc' L' st' me'
      unfold j_fg
      cases j_lk K.2.1 pc' with
      | some m => rfl
      | none => exact R_ev d K k pc' L' st' me'
    rw [R_eq]
    unfold j_step
    simp only [j_bh_C, e]
    rfl
theorem C_eq {d i : Nat} {as : List Value} {S : j_S} {M M' : j_M} {N N' : j_N} {v : Option Value} {K : j_K} {L : List Value} (hd : 1 ≤ d) (hi : i < j_cnt) (hK : j_meth i = K) (ha : (j_ent as).length ≤ K.2.2) (hL : j_pad K.2.2 (j_ent as) = L) (h : R (d - 1) K 0 L [] (S, M, N) = some (v, (S, M', N'))) : C d i as S M N = some (v, M', N') := by
  obtain ⟨d, rfl⟩ : ∃ e, d = e + 1 := ⟨d - 1, by omega⟩
  subst hK
  subst hL
  have hb : (Nat.ble (j_ent as).length (j_meth i).2.2 && Nat.blt i j_cnt) = true := by
    rw [Nat.ble_eq_true_of_le ha, Bool.true_and]
    exact Nat.ble_eq_true_of_le hi
  have hc : j_call R (d + 1) i as (S, M, N) = some (v, (S, M', N')) := by
    unfold j_call
    dsimp only
    rw [hb]
    exact h
  unfold C
  rw [hc]
  simp
end
section
/-! ===== the shape behind both constructors (printed by wip/whole) ===== -/
def S0 : j_S := [(13, 10, [some 1, some 8, some 10, some 12, some 16, some 21, some 22, some 27, some 30, some 33]), (5, 12, [some 2, some 3, some 4, some 5, some 6, some 7, none, none, none, none, none, none]), (0, 6, []), (0, 6, []), (0, 6, []), (0, 6, []), (0, 6, []), (0, 6, []), (6, 11, [some 9, none, none, none, none, none, none, none, none, none, none]), (0, 7, []), (9, 6, [some 1, some 8, some 11, none, none, none]), (0, 6, []), (8, 6, [some 1, some 8, some 13, some 14, some 15, none]), (0, 3, []), (0, 18, []), (0, 6, []), (7, 11, [some 17, some 18, some 19, some 20, none, none, none, none, none, none, none]), (0, 120, []), (0, 122, []), (0, 122, []), (0, 122, []), (10, 6, [some 1, some 8, none, none, none, none]), (4, 6, [some 23, some 24, some 25, some 26, none, none]), (0, 40, []), (0, 40, []), (0, 40, []), (0, 40, []), (11, 6, [some 28, some 29, none, none, none, none]), (0, 6, []), (0, 6, []), (3, 5, [some 31, some 32, none, none, none]), (0, 50, []), (0, 24, []), (2, 6, [some 34, some 36, some 38, some 40, some 42, some 44]), (12, 5, [some 35, none, none, none, none]), (1, 60, []), (12, 5, [some 37, none, none, none, none]), (1, 60, []), (12, 5, [some 39, none, none, none, none]), (1, 60, []), (12, 5, [some 41, none, none, none, none]), (1, 60, []), (12, 5, [some 43, none, none, none, none]), (1, 60, []), (12, 5, [some 45, none, none, none, none]), (1, 60, []), (14, 47, [some 47, some 48, some 49, some 50, none, none, none, some 51, some 52, none, none, some 53, none, some 54, some 55, none, none, none, some 56, some 57, some 58, some 59, none, some 60, none, none, none, none, none, none, some 61, none, none, none, none, some 62, some 63, none, some 64, some 65, none, none, none, some 66, some 67, some 68, some 69]), (0, 27, []), (0, 40, []), (0, 40, []), (0, 40, []), (0, 6, []), (0, 6, []), (0, 7, []), (0, 7, []), (0, 7, []), (0, 3, []), (0, 18, []), (0, 6, []), (0, 120, []), (0, 120, []), (0, 5, []), (0, 6, []), (0, 6, []), (0, 50, []), (0, 24, []), (0, 6, []), (0, 6, []), (1, 360, []), (1, 60, [])]
end
section
/-! ===== what the tables say of each instruction (own text; tables printed by wip/whole/gencheck.py) ===== -/
/-- name, bytes, locals, result, the class's number, parameters, kind (0 static, 1 virtual, 2 a constructor) -/
abbrev j_I : Type := MethodName × ByteArray × Nat × Option FieldType × Nat × Nat × Nat
def j_infs : List j_I := [(yX0_init, cX0_init, 1, none, 0, 0, 2), (yX0_has, cX0_has, 2, (some .boolean), 0, 1, 1), (yX0_kindOf, cX0_kindOf, 2, (some .int), 0, 1, 1), (yX0_add, cX0_add, 2, (some .int), 0, 1, 1), (yX0_isUnder, cX0_isUnder, 4, (some .boolean), 0, 2, 0), (yX0_ranAt, cX0_ranAt, 2, (some .int), 0, 1, 1), (yX0_perform, cX0_perform, 4, (some .int), 0, 3, 1), (yX0_call, cX0_call, 4, (some .int), 0, 3, 1), (yX0_from, cX0_from, 7, (some .int), 0, 4, 1), (yX0_run, cX0_run, 4, (some .int), 0, 3, 1), (yX1_init, cX1_init, 1, none, 1, 0, 2), (yX1_note, cX1_note, 5, none, 1, 4, 1), (yX1_dropOldest, cX1_dropOldest, 1, none, 1, 0, 1), (yX1_takeBack, cX1_takeBack, 2, (some .int), 1, 1, 1), (yX1_doAgain, cX1_doAgain, 2, (some .int), 1, 1, 1), (yX2_init, cX2_init, 1, none, 2, 0, 2), (yX2_has, cX2_has, 2, (some .boolean), 2, 1, 1), (yX2_welcome, cX2_welcome, 3, none, 2, 2, 1), (yX2_allows, cX2_allows, 4, (some .boolean), 2, 3, 1), (yX2_told, cX2_told, 3, (some .int), 2, 2, 1), (yX2_tell, cX2_tell, 4, none, 2, 3, 1), (yX3_init, cX3_init, 1, none, 3, 0, 2), (yX3_lay, cX3_lay, 2, none, 3, 1, 1), (yX3_join, cX3_join, 2, none, 3, 1, 1), (yX3_weigh, cX3_weigh, 3, none, 3, 0, 1), (yX3_charge, cX3_charge, 2, none, 3, 1, 1), (yX3_cost, cX3_cost, 2, (some .int), 3, 1, 1), (yX3_besides, cX3_besides, 2, (some .int), 3, 1, 1), (yX3_partAmongAlike, cX3_partAmongAlike, 4, (some .int), 3, 1, 1), (yX3_partOfTwo, cX3_partOfTwo, 3, (some .int), 3, 1, 1), (yX3_givenBack, cX3_givenBack, 2, (some .int), 3, 1, 1), (yX3_intoChest, cX3_intoChest, 1, (some .int), 3, 0, 1), (yX4_init, cX4_init, 1, none, 4, 0, 2), (yX4_add, cX4_add, 2, (some .int), 4, 1, 1), (yX4_enact, cX4_enact, 1, (some .int), 4, 0, 1), (yX4_readLines, cX4_readLines, 2, none, 4, 0, 1), (yX4_readLine, cX4_readLine, 1, none, 4, 0, 1), (yX4_readEither, cX4_readEither, 3, none, 4, 1, 1), (yX4_readBoth, cX4_readBoth, 3, none, 4, 1, 1), (yX4_readCompared, cX4_readCompared, 3, none, 4, 1, 1), (yX4_readSum, cX4_readSum, 4, none, 4, 1, 1), (yX4_takesSumSign, cX4_takesSumSign, 1, (some .int), 4, 0, 1), (yX4_readProduct, cX4_readProduct, 4, none, 4, 1, 1), (yX4_takesProductSign, cX4_takesProductSign, 1, (some .int), 4, 0, 1), (yX4_readOperand, cX4_readOperand, 4, none, 4, 1, 1), (yX4_readNumber, cX4_readNumber, 3, none, 4, 0, 1), (yX4_letterHere, cX4_letterHere, 1, (some .int), 4, 0, 1), (yX4_isDigit, cX4_isDigit, 1, (some .boolean), 4, 1, 0), (yX4_nameOf, cX4_nameOf, 1, (some .int), 4, 1, 0), (yX4_takes, cX4_takes, 2, (some .boolean), 4, 1, 1), (yX4_fail, cX4_fail, 1, none, 4, 0, 1), (yX4_write, cX4_write, 2, none, 4, 1, 1), (yX4_gift, cX4_gift, 5, (some .int), 4, 3, 1), (yX4_shareOf, cX4_shareOf, 2, (some .int), 4, 2, 0), (yX4_workOut, cX4_workOut, 7, (some .int), 4, 3, 1), (yX4_apply, cX4_apply, 4, none, 4, 1, 1), (yX4_push, cX4_push, 2, none, 4, 1, 1), (yX4_pop, cX4_pop, 1, (some .int), 4, 0, 1), (yX4_valueOf, cX4_valueOf, 4, (some .int), 4, 4, 0), (yX4_joined, cX4_joined, 3, (some .int), 4, 3, 0), (yX4_truth, cX4_truth, 1, (some .int), 4, 1, 0), (yX5_init, cX5_init, 3, none, 5, 2, 2), (yX5_has, cX5_has, 2, (some .boolean), 5, 1, 1), (yX5_add, cX5_add, 2, (some .int), 5, 1, 1), (yX5_enjoy, cX5_enjoy, 6, (some .int), 5, 3, 1), (yX5_orderAll, cX5_orderAll, 3, (some .int), 5, 0, 1), (yX5_playOut, cX5_playOut, 9, (some .int), 5, 2, 1), (yX5_priceOf, cX5_priceOf, 2, (some .int), 5, 1, 1), (yX5_worth, cX5_worth, 5, (some .int), 5, 3, 1), (yX6_init, cX6_init, 3, none, 6, 2, 2), (yX6_costBy, cX6_costBy, 3, (some .int), 6, 2, 1), (yX6_search, cX6_search, 7, none, 6, 1, 1), (yX6_wouldChange, cX6_wouldChange, 7, (some .boolean), 6, 1, 1), (yX6_firstRestless, cX6_firstRestless, 2, (some .int), 6, 0, 1), (yX6_sumsOf, cX6_sumsOf, 2, (some .int), 6, 1, 1), (yX6_ways, cX6_ways, 4, (some .long), 6, 0, 1), (yX6_fewWays, cX6_fewWays, 1, (some .boolean), 6, 0, 1), (yX6_goThroughWays, cX6_goThroughWays, 4, (some .int), 6, 0, 1), (yX6_layWay, cX6_layWay, 5, none, 6, 1, 1), (yX6_takeTurns, cX6_takeTurns, 6, (some .int), 6, 0, 1), (yX6_settle, cX6_settle, 8, none, 6, 2, 1), (yX6_victimOf, cX6_victimOf, 4, (some .int), 6, 2, 1), (yX6_allWeights, cX6_allWeights, 4, (some .long), 6, 0, 1), (yX6_weighedCost, cX6_weighedCost, 8, (some .long), 6, 2, 1), (yX6_layByChance, cX6_layByChance, 7, (some .long), 6, 2, 1), (yX6_sumOfLeastMean, cX6_sumOfLeastMean, 9, (some .int), 6, 1, 1), (yX7_init, cX7_init, 3, none, 7, 2, 2), (yX7_pass, cX7_pass, 4, (some .int), 7, 0, 1), (yX7_draw, cX7_draw, 8, none, 7, 3, 1), (yX7_firstWrong, cX7_firstWrong, 4, (some .int), 7, 2, 1), (yX7_rulesThatFit, cX7_rulesThatFit, 4, (some .int), 7, 1, 1), (yX7_weighRules, cX7_weighRules, 3, none, 7, 0, 1), (yX7_greatestCost, cX7_greatestCost, 3, (some .int), 7, 0, 1), (yX8_init, cX8_init, 1, none, 8, 0, 2), (yX8_take, cX8_take, 2, none, 8, 1, 1), (yX8_layBack, cX8_layBack, 2, none, 8, 1, 1), (yX9_init, cX9_init, 1, none, 9, 0, 2), (yX9_holdsNothing, cX9_holdsNothing, 1, (some .boolean), 9, 0, 1), (yX9_isRow, cX9_isRow, 1, (some .boolean), 9, 0, 1), (yX9_isRowOf, cX9_isRowOf, 2, (some .boolean), 9, 1, 1), (yX9_holdHat, cX9_holdHat, 2, none, 9, 1, 1), (yX9_holdRow, cX9_holdRow, 3, none, 9, 2, 1), (yX9_hasPlaces, cX9_hasPlaces, 3, (some .boolean), 9, 2, 1), (yX9_refusalAt, cX9_refusalAt, 2, (some .int), 9, 1, 1), (yX9_get, cX9_get, 2, (some .long), 9, 1, 1), (yX9_set, cX9_set, 4, none, 9, 2, 1), (yX9_lowestBits, cX9_lowestBits, 3, (some .long), 9, 1, 1), (yX10_init, cX10_init, 2, none, 10, 0, 2), (yX10_guest, cX10_guest, 2, (some .int), 10, 1, 1), (yX10_guests, cX10_guests, 6, (some .int), 10, 3, 1), (yX10_mend, cX10_mend, 5, (some .int), 10, 3, 1), (yX10_of, cX10_of, 3, (some .int), 10, 2, 1), (yX10_think, cX10_think, 4, (some .int), 10, 2, 1), (yX10_feed, cX10_feed, 2, (some .int), 10, 1, 1), (yX10_law, cX10_law, 1, (some .int), 10, 0, 1), (yX10_putIn, cX10_putIn, 3, (some .int), 10, 2, 1), (yX10_mean, cX10_mean, 4, (some .long), 10, 3, 1), (yX10_bestMean, cX10_bestMean, 2, (some .int), 10, 1, 1), (yX10_rest, cX10_rest, 3, (some .int), 10, 1, 1), (yX10_rests, cX10_rests, 3, (some .int), 10, 1, 1), (yX10_turns, cX10_turns, 3, (some .int), 10, 1, 1), (yX10_agree, cX10_agree, 5, (some .int), 10, 2, 1), (yX10_dish, cX10_dish, 2, (some .int), 10, 1, 1), (yX10_joy, cX10_joy, 5, (some .int), 10, 2, 1), (yX10_ordered, cX10_ordered, 4, (some .int), 10, 2, 1), (yX10_thought, cX10_thought, 6, (some .int), 10, 3, 1), (yX10_given, cX10_given, 4, (some .int), 10, 1, 1), (yX10_stranger, cX10_stranger, 9, (some .long), 10, 3, 1), (yX10_night, cX10_night, 1, (some .int), 10, 0, 1), (yX10_drawn, cX10_drawn, 5, (some .int), 10, 4, 1), (yX10_judge, cX10_judge, 3, (some .int), 10, 1, 1), (yX10_fits, cX10_fits, 3, (some .int), 10, 1, 1), (yX10_fair, cX10_fair, 2, (some .int), 10, 1, 1), (yX10_image, cX10_image, 1, (some .int), 10, 0, 1), (yX10_back, cX10_back, 1, (some .int), 10, 0, 1), (yX10_undo, cX10_undo, 1, (some .int), 10, 0, 1), (yX10_redo, cX10_redo, 1, (some .int), 10, 0, 1), (yX10_body, cX10_body, 2, (some .int), 10, 1, 1), (yX10_act, cX10_act, 4, (some .int), 10, 3, 1), (yX10_trace, cX10_trace, 2, (some .int), 10, 1, 1), (yX10_keep, cX10_keep, 3, (some .int), 10, 2, 1), (yX10_row, cX10_row, 4, (some .int), 10, 3, 1), (yX10_put, cX10_put, 6, (some .int), 10, 3, 1), (yX10_element, cX10_element, 3, (some .long), 10, 2, 1), (yX10_shift, cX10_shift, 8, (some .int), 10, 5, 1), (yX10_taken, cX10_taken, 5, (some .int), 10, 2, 1), (yX10_count, cX10_count, 2, (some .int), 10, 1, 1), (yX10_within, cX10_within, 3, (some .boolean), 10, 3, 0), (yX10_isShelf, cX10_isShelf, 1, (some .boolean), 10, 1, 0), (yX10_comesFrom, cX10_comesFrom, 6, (some .boolean), 10, 2, 1), (yX10_ofOne, cX10_ofOne, 3, (some .int), 10, 2, 1), (yX10_ofTheTable, cX10_ofTheTable, 2, (some .int), 10, 1, 1), (yX10_givenBy, cX10_givenBy, 3, (some .int), 10, 1, 1), (yX10_refusalOfTold, cX10_refusalOfTold, 2, (some .int), 10, 1, 1), (yX10_fraction, cX10_fraction, 12, (some .long), 10, 3, 0), (yX11_within, cX11_within, 6, (some .boolean), 11, 3, 0), (yX11_init, cX11_init, 2, none, 11, 0, 2), (yX11_becomes, cX11_becomes, 5, (some .int), 11, 2, 1), (yX11_undo, cX11_undo, 1, (some .int), 11, 0, 1), (yX11_redo, cX11_redo, 1, (some .int), 11, 0, 1), (yX11_isGuest, cX11_isGuest, 2, (some .boolean), 11, 1, 1), (yX11_guest, cX11_guest, 2, (some .int), 11, 1, 1), (yX11_guests, cX11_guests, 7, (some .int), 11, 3, 1), (yX11_mend, cX11_mend, 4, (some .int), 11, 3, 1), (yX11_ofGuest, cX11_ofGuest, 3, (some .int), 11, 2, 1), (yX11_of, cX11_of, 5, (some .int), 11, 2, 1), (yX11_think, cX11_think, 4, (some .int), 11, 2, 1), (yX11_laysOut, cX11_laysOut, 2, none, 11, 0, 1), (yX11_leastBut, cX11_leastBut, 4, (some .int), 11, 1, 1), (yX11_alikePay, cX11_alikePay, 6, none, 11, 1, 1), (yX11_twoPay, cX11_twoPay, 4, none, 11, 1, 1), (yX11_givesBack, cX11_givesBack, 4, none, 11, 1, 1), (yX11_nightBy, cX11_nightBy, 7, none, 11, 2, 1), (yX11_nightAsIs, cX11_nightAsIs, 1, none, 11, 0, 1), (yX11_costIn, cX11_costIn, 2, (some .int), 11, 1, 1), (yX11_costNow, cX11_costNow, 2, (some .int), 11, 1, 1), (yX11_costBy, cX11_costBy, 5, (some .int), 11, 2, 1), (yX11_leastCost, cX11_leastCost, 5, (some .int), 11, 1, 1), (yX11_putIn, cX11_putIn, 4, (some .int), 11, 2, 1), (yX11_common, cX11_common, 10, (some .long), 11, 2, 0), (yX11_partOf, cX11_partOf, 7, (some .long), 11, 3, 0), (yX11_meanOf, cX11_meanOf, 10, (some .long), 11, 2, 1), (yX11_wholeOf, cX11_wholeOf, 4, (some .long), 11, 0, 1), (yX11_mean, cX11_mean, 4, (some .long), 11, 3, 1), (yX11_bestMean, cX11_bestMean, 8, (some .int), 11, 1, 1), (yX11_wouldChange, cX11_wouldChange, 2, (some .boolean), 11, 1, 1), (yX11_firstWho, cX11_firstWho, 2, (some .int), 11, 0, 1), (yX11_rest, cX11_rest, 3, (some .int), 11, 1, 1), (yX11_sumsOf, cX11_sumsOf, 2, (some .int), 11, 1, 1), (yX11_rests, cX11_rests, 8, (some .int), 11, 1, 1), (yX11_turns, cX11_turns, 6, (some .int), 11, 1, 1), (yX11_agree, cX11_agree, 11, (some .int), 11, 2, 1), (yX11_dish, cX11_dish, 2, (some .int), 11, 1, 1), (yX11_joy, cX11_joy, 5, (some .int), 11, 2, 1), (yX11_joyOf, cX11_joyOf, 3, (some .int), 11, 2, 1), (yX11_billFrom, cX11_billFrom, 8, (some .int), 11, 2, 1), (yX11_ordered, cX11_ordered, 4, (some .int), 11, 2, 1), (yX11_feed, cX11_feed, 2, (some .int), 11, 1, 1), (yX11_byteAt, cX11_byteAt, 1, (some .int), 11, 0, 1), (yX11_wrong, cX11_wrong, 1, (some .int), 11, 0, 1), (yX11_takes, cX11_takes, 2, (some .boolean), 11, 1, 1), (yX11_either, cX11_either, 3, (some .int), 11, 0, 1), (yX11_both, cX11_both, 3, (some .int), 11, 0, 1), (yX11_compared, cX11_compared, 4, (some .int), 11, 0, 1), (yX11_sums, cX11_sums, 4, (some .int), 11, 0, 1), (yX11_product, cX11_product, 4, (some .int), 11, 0, 1), (yX11_nameOf, cX11_nameOf, 1, (some .int), 11, 1, 0), (yX11_one, cX11_one, 5, (some .int), 11, 0, 1), (yX11_workOut, cX11_workOut, 8, (some .int), 11, 2, 1), (yX11_law, cX11_law, 4, (some .int), 11, 0, 1), (yX11_wouldGive, cX11_wouldGive, 4, (some .int), 11, 2, 1), (yX11_thought, cX11_thought, 7, (some .int), 11, 3, 1), (yX11_givenBy, cX11_givenBy, 2, (some .int), 11, 1, 1), (yX11_given, cX11_given, 4, (some .int), 11, 1, 1), (yX11_stranger, cX11_stranger, 7, (some .long), 11, 3, 1), (yX11_night, cX11_night, 3, (some .int), 11, 0, 1), (yX11_drawn, cX11_drawn, 10, (some .int), 11, 4, 1), (yX11_hatIs, cX11_hatIs, 2, (some .int), 11, 1, 1), (yX11_firstFalse, cX11_firstFalse, 4, (some .int), 11, 2, 1), (yX11_judge, cX11_judge, 2, (some .int), 11, 1, 1), (yX11_fits, cX11_fits, 4, (some .int), 11, 1, 1), (yX11_fair, cX11_fair, 7, (some .int), 11, 1, 1), (yX11_image, cX11_image, 2, (some .int), 11, 0, 1), (yX11_back, cX11_back, 2, (some .int), 11, 0, 1), (yX11_isBody, cX11_isBody, 2, (some .boolean), 11, 1, 1), (yX11_kindOf, cX11_kindOf, 2, (some .int), 11, 1, 1), (yX11_body, cX11_body, 2, (some .int), 11, 1, 1), (yX11_above, cX11_above, 1, (some .int), 11, 1, 0), (yX11_begins, cX11_begins, 2, none, 11, 1, 1), (yX11_givesAs, cX11_givesAs, 3, (some .int), 11, 2, 1), (yX11_owesAs, cX11_owesAs, 4, (some .int), 11, 2, 1), (yX11_lacksAs, cX11_lacksAs, 4, (some .int), 11, 2, 1), (yX11_tellsAs, cX11_tellsAs, 4, (some .int), 11, 2, 1), (yX11_act, cX11_act, 4, (some .int), 11, 3, 1), (yX11_trace, cX11_trace, 2, (some .int), 11, 1, 1), (yX11_isShelf, cX11_isShelf, 1, (some .boolean), 11, 1, 0), (yX11_keep, cX11_keep, 3, (some .int), 11, 2, 1), (yX11_row, cX11_row, 5, (some .int), 11, 3, 1), (yX11_refusal, cX11_refusal, 3, (some .int), 11, 2, 1), (yX11_asSort, cX11_asSort, 3, (some .long), 11, 2, 0), (yX11_put, cX11_put, 6, (some .int), 11, 3, 1), (yX11_element, cX11_element, 3, (some .long), 11, 2, 1), (yX11_shift, cX11_shift, 7, (some .int), 11, 5, 1), (yX11_taken, cX11_taken, 4, (some .int), 11, 2, 1), (yX11_count, cX11_count, 2, (some .int), 11, 1, 1), (yJ7_fill_d0a16, cJ7_fill_d0a16, 5, none, 12, 2, 0), (yJ7_fill_53178, cJ7_fill_53178, 4, none, 12, 2, 0)]
def j_in_ : List j_I → Nat → j_I
  | [], _ => (⟨"", "", ""⟩, ⟨#[]⟩, 0, none, 99, 0, 0)
  | x :: _, 0 => x
  | _ :: r, k + 1 => j_in_ r k
def j_info (i : Nat) : j_I := j_in_ j_infs i
def j_cn : Nat → String
  | 0 => RX0
  | 1 => RX1
  | 2 => RX2
  | 3 => RX3
  | 4 => RX4
  | 5 => RX5
  | 6 => RX6
  | 7 => RX7
  | 8 => RX8
  | 9 => RX9
  | 10 => RX10
  | 11 => RX11
  | _ => RJ7
def j_T : Nat → u_T
  | 0 => TX0
  | 1 => TX1
  | 2 => TX2
  | 3 => TX3
  | 4 => TX4
  | 5 => TX5
  | 6 => TX6
  | 7 => TX7
  | 8 => TX8
  | 9 => TX9
  | 10 => TX10
  | _ => TX11
def j_ty : Nat → Nat → FieldType
  | 0 => tyX0
  | 1 => tyX1
  | 2 => tyX2
  | 3 => tyX3
  | 4 => tyX4
  | 5 => tyX5
  | 6 => tyX6
  | 7 => tyX7
  | 8 => tyX8
  | 9 => tyX9
  | 10 => tyX10
  | _ => tyX11
def j_Nf : Nat → Nat
  | 0 => 5
  | 1 => 6
  | 2 => 12
  | 3 => 11
  | 4 => 11
  | 5 => 6
  | 6 => 6
  | 7 => 6
  | 8 => 6
  | 9 => 5
  | 10 => 10
  | _ => 47
def j_FL : List (Nat × Nat × Nat × Nat) := [(0, 11, 0, 0), (0, 15, 0, 1), (0, 18, 0, 2), (0, 29, 0, 3), (0, 32, 0, 4), (1, 11, 1, 0), (1, 15, 1, 1), (1, 18, 1, 2), (1, 21, 1, 3), (1, 24, 1, 4), (1, 31, 1, 5), (2, 9, 2, 0), (2, 15, 2, 1), (2, 18, 2, 2), (2, 21, 2, 3), (2, 24, 2, 4), (2, 27, 2, 5), (2, 30, 2, 7), (2, 34, 2, 8), (2, 37, 2, 9), (2, 40, 2, 6), (3, 9, 3, 0), (3, 15, 2, 6), (3, 21, 3, 1), (3, 22, 2, 8), (3, 25, 3, 2), (3, 26, 2, 7), (3, 29, 3, 3), (3, 30, 2, 1), (3, 42, 3, 4), (3, 45, 3, 7), (3, 48, 3, 8), (3, 51, 3, 9), (3, 54, 3, 10), (3, 67, 3, 5), (3, 70, 3, 6), (4, 11, 4, 0), (4, 15, 4, 1), (4, 18, 4, 2), (4, 21, 4, 3), (4, 24, 4, 4), (4, 31, 4, 6), (4, 34, 4, 7), (4, 43, 4, 8), (4, 46, 4, 9), (4, 50, 4, 5), (4, 110, 2, 6), (4, 119, 2, 0), (4, 130, 4, 10), (4, 154, 2, 8), (5, 11, 5, 2), (5, 15, 5, 3), (5, 18, 5, 4), (5, 21, 5, 0), (5, 25, 5, 1), (5, 29, 5, 5), (5, 39, 2, 6), (6, 9, 6, 2), (6, 15, 6, 0), (6, 19, 6, 1), (6, 23, 3, 0), (6, 35, 6, 3), (6, 40, 6, 4), (6, 46, 2, 9), (6, 55, 3, 1), (6, 62, 2, 0), (6, 65, 2, 6), (6, 99, 6, 5), (6, 111, 2, 3), (6, 114, 2, 1), (6, 117, 2, 2), (7, 9, 7, 0), (7, 15, 7, 1), (7, 25, 2, 6), (7, 35, 2, 5), (7, 39, 2, 10), (7, 46, 2, 11), (7, 49, 7, 2), (7, 52, 7, 3), (7, 56, 2, 2), (7, 59, 3, 0), (7, 62, 2, 3), (7, 65, 2, 1), (7, 74, 3, 2), (7, 77, 9, 2), (7, 93, 7, 5), (7, 96, 7, 4), (8, 9, 8, 0), (8, 15, 8, 1), (8, 18, 8, 5), (8, 22, 2, 6), (8, 28, 8, 2), (8, 29, 2, 11), (8, 32, 8, 3), (8, 33, 2, 10), (8, 36, 8, 4), (8, 37, 2, 1), (8, 44, 2, 5), (9, 9, 9, 0), (9, 15, 9, 4), (9, 19, 9, 1), (9, 22, 9, 3), (9, 25, 9, 2), (10, 10, 10, 0), (10, 19, 10, 1), (10, 28, 10, 2), (10, 35, 10, 3), (10, 42, 10, 4), (10, 49, 10, 5), (10, 56, 10, 6), (10, 63, 10, 7), (10, 70, 10, 8), (10, 76, 10, 9), (10, 85, 2, 6), (10, 136, 2, 4), (10, 155, 6, 3), (10, 158, 6, 4), (10, 161, 2, 0), (10, 190, 6, 2), (10, 196, 3, 0), (10, 202, 6, 5), (10, 217, 5, 4), (10, 244, 7, 2), (10, 247, 7, 3), (10, 253, 2, 8), (10, 267, 7, 4), (10, 270, 7, 5), (10, 276, 2, 11), (10, 278, 8, 5), (10, 320, 9, 1), (10, 327, 9, 0), (10, 337, 9, 3), (10, 346, 5, 5), (10, 347, 4, 4), (10, 350, 1, 4), (10, 353, 0, 2), (10, 354, 0, 3), (10, 357, 9, 2), (10, 358, 2, 1), (10, 360, 2, 2), (10, 363, 2, 3), (10, 366, 2, 5), (10, 369, 2, 7), (10, 372, 2, 9), (10, 375, 3, 4), (10, 378, 3, 5), (10, 381, 3, 6), (10, 384, 2, 10), (11, 9, 11, 0), (11, 13, 11, 1), (11, 16, 11, 2), (11, 19, 11, 3), (11, 22, 11, 7), (11, 25, 11, 8), (11, 28, 11, 11), (11, 31, 11, 13), (11, 34, 11, 14), (11, 37, 11, 18), (11, 40, 11, 19), (11, 43, 11, 20), (11, 46, 11, 21), (11, 49, 11, 23), (11, 52, 11, 30), (11, 55, 11, 35), (11, 58, 11, 36), (11, 61, 11, 38), (11, 64, 11, 39), (11, 67, 11, 43), (11, 70, 11, 44), (11, 73, 11, 45), (11, 77, 11, 46), (11, 80, 11, 24), (11, 84, 11, 5), (11, 87, 11, 4), (11, 90, 11, 6), (11, 126, 11, 10), (11, 129, 11, 9), (11, 134, 11, 12), (11, 140, 11, 15), (11, 169, 11, 16), (11, 207, 11, 17), (11, 220, 11, 22), (11, 223, 11, 26), (11, 226, 11, 27), (11, 229, 11, 25), (11, 232, 11, 28), (11, 256, 11, 29), (11, 286, 11, 31), (11, 290, 11, 32), (11, 293, 11, 33), (11, 296, 11, 34), (11, 299, 11, 37), (11, 304, 11, 40), (11, 313, 11, 42), (11, 319, 11, 41)]
def j_FLp : List Nat := [420, 421, 422, 424, 426, 368, 369, 370, 371, 372, 374, 114, 118, 124, 128, 132, 134, 146, 149, 153, 139, 194, 138, 198, 150, 200, 147, 202, 119, 203, 209, 210, 211, 212, 205, 207, 298, 299, 300, 301, 302, 305, 306, 307, 308, 304, 145, 117, 309, 152, 273, 274, 275, 271, 272, 277, 143, 244, 242, 243, 195, 246, 248, 154, 199, 115, 144, 250, 130, 122, 126, 339, 340, 142, 135, 157, 160, 341, 343, 125, 196, 129, 121, 201, 449, 347, 345, 394, 395, 399, 140, 396, 159, 397, 156, 398, 120, 136, 445, 454, 447, 452, 450, 467, 468, 469, 470, 471, 472, 473, 474, 475, 476, 141, 133, 247, 249, 116, 245, 197, 251, 276, 342, 344, 151, 346, 348, 161, 400, 448, 446, 453, 278, 303, 373, 423, 425, 451, 123, 127, 131, 137, 148, 155, 204, 206, 208, 158, 1131, 1132, 1133, 1134, 1138, 1139, 1142, 1144, 1145, 1149, 1150, 1151, 1152, 1154, 1161, 1166, 1167, 1169, 1170, 1174, 1175, 1176, 1177, 1155, 1136, 1135, 1137, 1141, 1140, 1143, 1146, 1147, 1148, 1153, 1157, 1158, 1156, 1159, 1160, 1162, 1163, 1164, 1165, 1168, 1171, 1173, 1172]
def j_ML : List (Nat × Nat × Nat × Nat) := [(0, 22, 1, 0), (0, 35, 7, 0), (0, 39, 8, 0), (0, 46, 9, 0), (1, 28, 12, 0), (1, 40, 20, 0), (2, 43, 16, 0), (2, 47, 147, 1), (3, 39, 24, 0), (3, 57, 25, 0), (3, 73, 27, 0), (3, 77, 30, 0), (3, 80, 28, 0), (3, 83, 29, 0), (4, 28, 35, 0), (4, 53, 36, 0), (4, 56, 49, 0), (4, 60, 50, 0), (4, 63, 37, 0), (4, 67, 51, 0), (4, 70, 38, 0), (4, 73, 39, 0), (4, 76, 40, 0), (4, 79, 42, 0), (4, 82, 41, 0), (4, 86, 44, 0), (4, 89, 43, 0), (4, 92, 46, 0), (4, 95, 48, 0), (4, 99, 47, 0), (4, 103, 45, 0), (4, 106, 54, 0), (4, 115, 53, 0), (4, 133, 57, 0), (4, 136, 58, 0), (4, 140, 56, 0), (4, 143, 55, 0), (4, 146, 60, 0), (4, 150, 59, 0), (5, 33, 22, 0), (5, 42, 66, 0), (5, 46, 67, 0), (5, 50, 68, 0), (5, 54, 62, 0), (5, 58, 25, 0), (5, 62, 26, 0), (6, 28, 24, 0), (6, 31, 26, 0), (6, 43, 74, 0), (6, 51, 70, 0), (6, 58, 72, 0), (6, 66, 75, 0), (6, 72, 22, 0), (6, 82, 78, 0), (6, 86, 73, 0), (6, 96, 71, 0), (6, 102, 27, 0), (6, 107, 84, 0), (6, 120, 83, 0), (7, 19, 22, 0), (7, 31, 26, 0), (7, 42, 31, 0), (7, 68, 24, 0), (7, 71, 27, 0), (7, 82, 104, 0), (7, 86, 89, 0), (7, 90, 92, 0), (8, 45, 246, 0), (9, 28, 245, 0), (9, 34, 102, 0), (9, 38, 106, 0), (10, 9, 15, 1), (10, 18, 21, 1), (10, 25, 69, 0), (10, 34, 61, 0), (10, 41, 32, 1), (10, 48, 86, 0), (10, 55, 10, 1), (10, 62, 93, 1), (10, 69, 0, 1), (10, 80, 96, 1), (10, 81, 147, 0), (10, 89, 17, 0), (10, 93, 148, 0), (10, 97, 97, 0), (10, 101, 99, 0), (10, 106, 149, 0), (10, 110, 18, 0), (10, 113, 19, 0), (10, 117, 20, 0), (10, 121, 11, 0), (10, 125, 151, 0), (10, 130, 16, 0), (10, 133, 150, 0), (10, 140, 33, 0), (10, 143, 34, 0), (10, 147, 22, 0), (10, 151, 71, 0), (10, 166, 83, 0), (10, 170, 82, 0), (10, 174, 154, 0), (10, 178, 85, 0), (10, 181, 73, 0), (10, 184, 76, 0), (10, 187, 77, 0), (10, 193, 79, 0), (10, 199, 80, 0), (10, 205, 81, 0), (10, 208, 63, 0), (10, 209, 62, 0), (10, 210, 64, 0), (10, 214, 65, 0), (10, 220, 68, 0), (10, 223, 52, 0), (10, 227, 152, 0), (10, 230, 26, 0), (10, 233, 23, 0), (10, 238, 87, 0), (10, 241, 88, 0), (10, 250, 153, 0), (10, 256, 89, 0), (10, 260, 90, 0), (10, 264, 91, 0), (10, 273, 94, 0), (10, 282, 95, 0), (10, 285, 13, 0), (10, 289, 14, 0), (10, 292, 3, 0), (10, 293, 6, 0), (10, 296, 5, 0), (10, 299, 1, 0), (10, 300, 100, 0), (10, 303, 101, 0), (10, 306, 103, 0), (10, 309, 105, 0), (10, 313, 104, 0), (10, 317, 98, 0), (10, 323, 102, 0), (10, 340, 2, 0), (10, 343, 4, 0), (11, 93, 155, 0), (11, 99, 235, 0), (11, 105, 160, 0), (11, 108, 157, 0), (11, 118, 175, 0), (11, 122, 164, 0), (11, 137, 168, 0), (11, 143, 169, 0), (11, 147, 170, 0), (11, 150, 171, 0), (11, 153, 172, 0), (11, 157, 167, 0), (11, 160, 173, 0), (11, 163, 174, 0), (11, 166, 176, 0), (11, 172, 177, 0), (11, 175, 179, 0), (11, 183, 181, 0), (11, 187, 182, 0), (11, 191, 180, 0), (11, 195, 185, 0), (11, 198, 186, 0), (11, 202, 188, 0), (11, 210, 195, 0), (11, 213, 194, 0), (11, 235, 198, 0), (11, 238, 202, 0), (11, 241, 200, 0), (11, 244, 203, 0), (11, 247, 204, 0), (11, 250, 205, 0), (11, 253, 207, 0), (11, 259, 199, 0), (11, 262, 201, 0), (11, 265, 206, 0), (11, 268, 208, 0), (11, 271, 210, 0), (11, 274, 212, 0), (11, 280, 217, 0), (11, 283, 218, 0), (11, 307, 228, 0), (11, 310, 229, 0), (11, 316, 230, 0), (11, 322, 231, 0), (11, 325, 232, 0), (11, 328, 224, 0), (11, 333, 238, 0), (11, 336, 239, 0), (11, 340, 225, 0), (11, 343, 227, 0)]
def j_MLp : List Nat := [1032, 1036, 1040, 1048, 562, 1007, 545, 549, 582, 586, 603, 615, 607, 611, 642, 646, 696, 692, 650, 688, 654, 658, 662, 666, 704, 670, 700, 674, 678, 681, 684, 872, 897, 876, 880, 883, 887, 891, 894, 847, 848, 859, 852, 857, 856, 858, 726, 727, 718, 722, 767, 779, 737, 791, 795, 805, 818, 738, 758, 927, 928, 929, 942, 943, 956, 965, 974, 996, 1077, 533, 1092, 110, 190, 238, 267, 294, 335, 364, 390, 416, 441, 502, 505, 513, 516, 520, 525, 541, 550, 554, 558, 573, 594, 595, 630, 638, 577, 713, 733, 742, 747, 754, 763, 775, 784, 801, 810, 814, 823, 831, 835, 843, 863, 868, 906, 599, 914, 923, 937, 948, 952, 961, 970, 983, 992, 1003, 1012, 1020, 1028, 1056, 1064, 1065, 1073, 1084, 1088, 529, 1104, 1108, 1114, 1118, 1286, 1293, 1302, 1306, 1321, 1317, 1337, 1341, 1345, 1349, 1333, 1325, 1329, 1353, 1371, 1367, 1391, 1380, 1384, 1388, 1406, 1402, 1414, 1440, 1444, 1485, 1465, 1493, 1469, 1473, 1477, 1481, 1489, 1461, 1497, 1457, 1504, 1512, 1534, 1538, 1575, 1571, 1579, 1583, 1587, 1567, 1607, 1611, 1626, 1630]
def j_CL : List (Nat × Nat × Nat) := [(10, 7, 2), (10, 16, 3), (10, 23, 6), (10, 32, 5), (10, 39, 4), (10, 46, 7), (10, 53, 1), (10, 60, 8), (10, 67, 0), (10, 74, 9)]
def j_CLp : List Nat := [108, 188, 236, 265, 292, 333, 362, 388, 414, 438]
def j_KI : List (Nat × Nat × Int32) := [(6, 39, 1000000), (7, 55, 1103515245), (10, 129, (-2000000000)), (11, 125, (-2000000000)), (11, 279, 1103515245)]
def j_KIp : List Nat := [717, 941, 593, 1357, 1529]
def j_KL : List (Nat × Nat × Int64) := [(6, 70, 4096), (6, 105, 12), (10, 104, 2), (10, 164, (-9223372036854775808)), (10, 236, 12), (11, 97, 99), (11, 103, 6), (11, 112, 12), (11, 114, 599), (11, 116, 4), (11, 132, (-1)), (11, 181, (-9223372036854775808)), (11, 205, 3), (11, 216, 2), (11, 218, 255), (11, 277, 50), (11, 302, 7), (11, 331, 5)]
def j_KLp : List Nat := [783, 746, 524, 732, 918, 1285, 1297, 1310, 1311, 1312, 1362, 1379, 1426, 1439, 1452, 1528, 1562, 1296]
def j_NL : List (Nat × Nat × Nat) := [(1, 34, 1000), (3, 33, 1000), (3, 61, 1001), (3, 86, 1002), (4, 37, 1000), (4, 122, 1002), (4, 127, 1001), (6, 76, 1003), (6, 90, 1000), (7, 99, 1001), (8, 38, 1000), (10, 331, 1000)]
def j_NLp : List Nat := [566, 581, 590, 619, 708, 900, 901, 788, 796, 978, 987, 1109]
def j_OL : List (Nat × Nat) := [(0, 3), (1, 3), (2, 3), (3, 3), (4, 3), (5, 3), (6, 3), (7, 3), (8, 3), (9, 3), (10, 1), (11, 3)]
def j_OLp : List Nat := [419, 367, 113, 193, 297, 270, 241, 338, 393, 444, 105, 1130]
def j_SL : List (Nat × Nat × Nat) := [(0, 26, 1000), (0, 43, 1001)]
def j_SLp : List Nat := [1046, 1044]
def j_isref : FieldType → Bool
  | .object _ => true
  | .array _ => true
  | _ => false
def j_hn (p : Nat) (w : Cond) : Bool := decide (lw_tbl[p]? = some w)
def j_hw (p : Nat) (w : Cond) : Bool := j_hn p w && goodWord w
def j_nn : Nat → MethodName
  | 1000 => arraycopyName
  | 1001 => Lib.Math.max.name
  | 1002 => Lib.Math.min.name
  | _ => Lib.MathLoose.min_long.x
def j_wFL (q : Nat × Nat × Nat × Nat) : Cond := .fieldLink (j_cn q.1) q.2.1 (j_T q.2.2.1 q.2.2.2).1 (j_T q.2.2.1 q.2.2.2).2.1 (j_T q.2.2.1 q.2.2.2).2.2.1
def j_wML (q : Nat × Nat × Nat × Nat) : Cond := bif Nat.beq q.2.2.2 0 then .methodLink (j_cn q.1) q.2.1 (j_info q.2.2.1).1 else .methodLinkNest (j_cn q.1) q.2.1 (j_info q.2.2.1).1 RX10
def j_wCL (q : Nat × Nat × Nat) : Cond := .classLink (j_cn q.1) q.2.1 (j_cn q.2.2)
def j_wKI (q : Nat × Nat × Int32) : Cond := .constant (j_cn q.1) q.2.1 q.2.2
def j_wKL (q : Nat × Nat × Int64) : Cond := .constantLong (j_cn q.1) q.2.1 q.2.2
def j_wNL (q : Nat × Nat × Nat) : Cond := .methodLink (j_cn q.1) q.2.1 (j_nn q.2.2)
def j_wOL (q : Nat × Nat) : Cond := .methodLink (j_cn q.1) q.2 objectInit
def j_wSL (q : Nat × Nat × Nat) : Cond := .fieldLink (j_cn q.1) q.2.1 RX0 (bif Nat.beq q.2.2 1000 then "ABOVE" else "OWN") "[I"
def j_tsok (pc : Nat) (lo : Int) (offs : List Int) (ts : List (Int32 × Nat)) : Bool := decide (ts = (List.range offs.length).map (fun j : Nat => (Int32.ofInt (lo + (j : Int)), ((pc : Int) + offs.getD j 0).toNat))) && offs.all (fun o => decide (0 ≤ (pc : Int) + o))
def j_lsok (pc : Nat) (ps : List (Int × Int)) (ts : List (Int32 × Nat)) : Bool := decide (ts = ps.map (fun q => (Int32.ofInt q.1, ((pc : Int) + q.2).toNat))) && ps.all (fun q => decide (0 ≤ (pc : Int) + q.2) && decide ((Int32.ofInt q.1).toInt = q.1)) && (ps.zip (ps.drop 1)).all (fun (a, next) => a.1 < next.1)
def j_p (ps : List Nat) : Nat := ps.headD 9999
/-- the words of a method: its code, that its class is ready, how it is called -/
def j_ws1 (I : j_I) : List Cond := [.code I.1 I.2.1 I.2.2.1 I.2.2.2.1, .initialized I.1.cls] ++ (bif Nat.beq I.2.2.2.2.2.2 0 then [.static I.1] else bif Nat.beq I.2.2.2.2.2.2 1 then [.instanceMethod I.1, .selects I.1.cls I.1 I.1] else [.instanceMethod I.1])
def j_wok : List Nat → List Cond → Bool
  | _, [] => true
  | p :: ps, w :: ws => j_hw p w && j_wok ps ws
  | [], _ :: _ => false
def j_mok (I : j_I) (ps : List Nat) : Bool := j_wok ps (j_ws1 I) && plainName I.1.cls && Nat.ble I.2.2.1 30 && decide (I.1.cls ≠ "java/lang/invoke/MethodHandle") && decide (I.1.cls ≠ "java/lang/invoke/VarHandle") && decide ((parseMethodDescriptor I.1.desc).map (fun d => d.parameters.length) = some I.2.2.2.2.2.1) && decide (I.1.cls = j_cn I.2.2.2.2.1) && (!(Nat.beq I.2.2.2.2.2.2 2) || (decide (I.1.name = "<init>") && decide (I.2.2.2.1 = none)))
def j_chk (I : j_I) (pc : Nat) (e : j_E) : Bool := match e with
  | (ins, z, a, b, v, ts, ps) =>
  let c := I.2.2.2.2.1
  let D := fun n => decide (decode I.2.1 pc = .ok (ins, n))
  match ins with
  | .iconst n => D 1 && decide (v = .int (Int32.ofInt n))
  | .bipush n => D 2 && decide (v = .int (Int8.ofInt n).toInt32)
  | .sipush n => D 3 && decide (v = .int (Int16.ofInt n).toInt32)
  | .ldc k => D 2 && j_vi false (fun x => decide (j_KI[j_p ps]? = some (c, k, x))) v
  | .ldc_w k => D 3 && j_vi false (fun x => decide (j_KI[j_p ps]? = some (c, k, x))) v
  | .lconst n => D 1 && decide (v = .long (Int64.ofNat n.val))
  | .ldc2_w k => D 3 && j_vl false (fun x => decide (j_KL[j_p ps]? = some (c, k, x))) v
  | .iload_n k => D 1 && decide (k.val = a)
  | .iload k => D 2 && decide (k = a)
  | .lload_n k => D 1 && decide (k.val = a)
  | .lload k => D 2 && decide (k = a)
  | .aload_n k => D 1 && decide (k.val = a)
  | .aload k => D 2 && decide (k = a)
  | .istore_n k => D 1 && decide (k.val = a) && decide (a < I.2.2.1)
  | .istore k => D 2 && decide (k = a) && decide (a < I.2.2.1)
  | .lstore_n k => D 1 && decide (k.val = a) && decide (a + 1 < I.2.2.1)
  | .lstore k => D 2 && decide (k = a) && decide (a + 1 < I.2.2.1)
  | .astore_n k => D 1 && decide (k.val = a) && decide (a < I.2.2.1)
  | .astore k => D 2 && decide (k = a) && decide (a < I.2.2.1)
  | .iinc k n => D 3 && decide (k = a) && decide (a < I.2.2.1) && decide (v = .int (Int32.ofInt n))
  | .ifCond _ off => D 3 && decide ((pc : Int) + off = (a : Int))
  | .if_icmp _ off => D 3 && decide ((pc : Int) + off = (a : Int))
  | .goto off => D 3 && decide ((pc : Int) + off = (a : Int))
  | .tableswitch d lo hi offs => D z && decide ((pc : Int) + d = (a : Int)) && decide (hi - lo + 1 = (offs.size : Int)) && decide (-2147483648 ≤ lo) && decide (hi ≤ 2147483647) && j_tsok pc lo offs.toList ts
  | .lookupswitch d prs => D z && decide ((pc : Int) + d = (a : Int)) && j_lsok pc prs.toList ts
  | .getfield k => D 3 && decide (a < 12) && decide (b < j_Nf a) && decide (j_FL[j_p ps]? = some (c, k, a, b)) && j_by v (decide (j_ty a b = .int)) (decide (j_ty a b = .boolean)) (j_isref (j_ty a b))
  | .putfield k => D 3 && decide (a < 12) && decide (b < j_Nf a) && decide (j_FL[j_p ps]? = some (c, k, a, b)) && j_by v (decide (j_ty a b = .int)) (decide (j_ty a b = .boolean)) (j_isref (j_ty a b)) && (!(j_T a b).2.2.2 || (Nat.beq I.2.2.2.2.2.2 2 && Nat.beq a c))
  | .getstatic k => D 3 && decide (j_SL[j_p ps]? = some (c, k, a)) && (Nat.beq a 1000 || Nat.beq a 1001)
  | .new k => D 3 && decide (a < 12) && decide (b = j_Nf a) && decide (j_CL[j_p ps]? = some (c, k, a))
  | .newarray t => D 2 && (match t with
    | .int => j_by v true false false
    | .long => j_by v false true false
    | _ => false)
  | .anewarray k => D 3 && decide (j_CL[j_p ps]? = some (c, k, 9))
  | .invokevirtual k => D 3 && decide (a < j_cnt) && decide (j_ML[j_p ps]? = some (c, k, a, 0)) && Nat.beq (j_info a).2.2.2.2.2.2 1 && Nat.beq (j_info a).2.2.2.2.2.1 b && Nat.beq z ((j_info a).2.2.2.2.1 + 3) && decide (z < 15)
  | .invokestatic k => D 3 && (bif Nat.ble 1000 a then decide (j_NL[j_p ps]? = some (c, k, a)) && Nat.ble a 1003
      else decide (a < j_cnt) && (decide (j_ML[j_p ps]? = some (c, k, a, 0)) || decide (j_ML[j_p ps]? = some (c, k, a, 1))) && Nat.beq (j_info a).2.2.2.2.2.2 0 && Nat.beq (j_info a).2.2.2.2.2.1 b)
  | .invokespecial k => D 3 && (bif Nat.beq a 999 then decide (j_OL[j_p ps]? = some (c, k))
      else decide (a < j_cnt) && (decide (j_ML[j_p ps]? = some (c, k, a, 0)) || decide (j_ML[j_p ps]? = some (c, k, a, 1))) && Nat.beq (j_info a).2.2.2.2.2.2 2 && Nat.beq (j_info a).2.2.2.2.2.1 b)
  | .ireturn => D 1 && j_by v (decide (I.2.2.2.1 = some .int)) (decide (I.2.2.2.1 = some .boolean)) false
  | .lreturn => D 1 && decide (I.2.2.2.1 = some .long)
  | .return_ => D 1 && decide (I.2.2.2.1 = none)
  | _ => D 1
def j_okm (i : Nat) : Bool := decide ((j_meth i).2.2 = (j_info i).2.2.1) && (j_meth i).1.all (fun q => j_chk (j_info i) q.1 q.2)
def j_zip {β : Type} (f : Nat → β → Bool) : List Nat → List β → Bool
  | _, [] => true
  | p :: ps, x :: xs => f p x && j_zip f ps xs
  | [], _ :: _ => false
end
section
/-! ===== the links stand in the tables (printed by wip/whole/gencheck.py) ===== -/
set_option maxRecDepth 100000 in
theorem j_FL_0 : j_zip (fun p q => j_hw p (j_wFL q)) ((j_FLp.drop 0).take 40) ((j_FL.drop 0).take 40) = true := by decide +kernel
set_option maxRecDepth 100000 in
theorem j_FL_40 : j_zip (fun p q => j_hw p (j_wFL q)) ((j_FLp.drop 40).take 40) ((j_FL.drop 40).take 40) = true := by decide +kernel
set_option maxRecDepth 100000 in
theorem j_FL_80 : j_zip (fun p q => j_hw p (j_wFL q)) ((j_FLp.drop 80).take 40) ((j_FL.drop 80).take 40) = true := by decide +kernel
set_option maxRecDepth 100000 in
theorem j_FL_120 : j_zip (fun p q => j_hw p (j_wFL q)) ((j_FLp.drop 120).take 40) ((j_FL.drop 120).take 40) = true := by decide +kernel
set_option maxRecDepth 100000 in
theorem j_FL_160 : j_zip (fun p q => j_hw p (j_wFL q)) ((j_FLp.drop 160).take 35) ((j_FL.drop 160).take 35) = true := by decide +kernel
set_option maxRecDepth 100000 in
theorem j_ML_0 : j_zip (fun p q => bif Nat.beq q.2.2.2 0 then j_hw p (j_wML q) else j_hn p (j_wML q)) ((j_MLp.drop 0).take 40) ((j_ML.drop 0).take 40) = true := by decide +kernel
set_option maxRecDepth 100000 in
theorem j_ML_40 : j_zip (fun p q => bif Nat.beq q.2.2.2 0 then j_hw p (j_wML q) else j_hn p (j_wML q)) ((j_MLp.drop 40).take 40) ((j_ML.drop 40).take 40) = true := by decide +kernel
set_option maxRecDepth 100000 in
theorem j_ML_80 : j_zip (fun p q => bif Nat.beq q.2.2.2 0 then j_hw p (j_wML q) else j_hn p (j_wML q)) ((j_MLp.drop 80).take 40) ((j_ML.drop 80).take 40) = true := by decide +kernel
set_option maxRecDepth 100000 in
theorem j_ML_120 : j_zip (fun p q => bif Nat.beq q.2.2.2 0 then j_hw p (j_wML q) else j_hn p (j_wML q)) ((j_MLp.drop 120).take 40) ((j_ML.drop 120).take 40) = true := by decide +kernel
set_option maxRecDepth 100000 in
theorem j_ML_160 : j_zip (fun p q => bif Nat.beq q.2.2.2 0 then j_hw p (j_wML q) else j_hn p (j_wML q)) ((j_MLp.drop 160).take 30) ((j_ML.drop 160).take 30) = true := by decide +kernel
set_option maxRecDepth 100000 in
theorem j_CL_0 : j_zip (fun p q => j_hw p (j_wCL q)) ((j_CLp.drop 0).take 10) ((j_CL.drop 0).take 10) = true := by decide +kernel
set_option maxRecDepth 100000 in
theorem j_KI_0 : j_zip (fun p q => j_hw p (j_wKI q)) ((j_KIp.drop 0).take 5) ((j_KI.drop 0).take 5) = true := by decide +kernel
set_option maxRecDepth 100000 in
theorem j_KL_0 : j_zip (fun p q => j_hw p (j_wKL q)) ((j_KLp.drop 0).take 18) ((j_KL.drop 0).take 18) = true := by decide +kernel
set_option maxRecDepth 100000 in
theorem j_NL_0 : j_zip (fun p q => j_hw p (j_wNL q)) ((j_NLp.drop 0).take 12) ((j_NL.drop 0).take 12) = true := by decide +kernel
set_option maxRecDepth 100000 in
theorem j_OL_0 : j_zip (fun p q => j_hw p (j_wOL q)) ((j_OLp.drop 0).take 12) ((j_OL.drop 0).take 12) = true := by decide +kernel
set_option maxRecDepth 100000 in
theorem j_SL_0 : j_zip (fun p q => j_hw p (j_wSL q)) ((j_SLp.drop 0).take 2) ((j_SL.drop 0).take 2) = true := by decide +kernel
def j_mps : List (List Nat) := [[418, 94, 417], [1035, 94, 1033, 1034], [1117, 94, 1115, 1116], [1023, 94, 1021, 1022], [1120, 94, 1119], [1059, 94, 1057, 1058], [1031, 94, 1029, 1030], [1039, 94, 1038, 37], [1043, 94, 1042, 38], [1051, 94, 1050, 39], [366, 92, 365], [561, 92, 559, 560], [565, 92, 564, 1], [1006, 92, 1004, 1005], [1015, 92, 1013, 1014], [112, 86, 111], [548, 86, 546, 547], [508, 86, 506, 507], [544, 86, 542, 543], [553, 86, 551, 552], [557, 86, 555, 556], [192, 87, 191], [580, 87, 578, 579], [917, 87, 915, 916], [585, 87, 583, 584], [589, 87, 587, 588], [602, 87, 600, 601], [606, 87, 604, 605], [610, 87, 609, 4], [614, 87, 613, 5], [618, 87, 617, 6], [932, 87, 930, 931], [296, 90, 295], [633, 90, 631, 632], [641, 90, 639, 640], [645, 90, 644, 7], [649, 90, 648, 8], [653, 90, 652, 9], [657, 90, 656, 10], [661, 90, 660, 11], [665, 90, 664, 12], [707, 90, 706, 21], [669, 90, 668, 13], [703, 90, 702, 20], [673, 90, 672, 14], [687, 90, 686, 16], [677, 90, 676, 15], [683, 90, 682], [680, 90, 679], [699, 90, 698, 19], [695, 90, 694, 18], [691, 90, 690, 17], [871, 90, 869, 870], [899, 90, 898], [875, 90, 874, 30], [890, 90, 889, 33], [886, 90, 885, 32], [879, 90, 878, 31], [882, 90, 881], [896, 90, 895], [893, 90, 892], [269, 89, 268], [834, 89, 832, 833], [826, 89, 824, 825], [838, 89, 836, 837], [846, 89, 844, 845], [851, 89, 850, 28], [862, 89, 861, 29], [855, 89, 853, 854], [240, 88, 239], [725, 88, 724, 23], [716, 88, 714, 715], [770, 88, 769, 25], [766, 88, 764, 765], [721, 88, 720, 22], [782, 88, 781, 26], [778, 88, 776, 777], [787, 88, 785, 786], [794, 88, 793, 27], [804, 88, 802, 803], [813, 88, 811, 812], [817, 88, 815, 816], [745, 88, 743, 744], [736, 88, 734, 735], [741, 88, 740, 24], [757, 88, 755, 756], [337, 91, 336], [926, 91, 924, 925], [940, 91, 938, 939], [955, 91, 953, 954], [964, 91, 962, 963], [973, 91, 971, 972], [977, 91, 976, 36], [392, 93, 391], [986, 93, 984, 985], [995, 93, 993, 994], [443, 95, 442], [519, 95, 517, 518], [1107, 95, 1105, 1106], [523, 95, 521, 522], [1068, 95, 1066, 1067], [1076, 95, 1074, 1075], [536, 95, 534, 535], [1087, 95, 1085, 1086], [532, 95, 530, 531], [1091, 95, 1089, 1090], [1095, 95, 1094, 40], [104, 85, 103], [501, 85, 499, 500], [512, 85, 510, 511], [540, 85, 538, 539], [572, 85, 570, 571], [625, 85, 623, 624], [629, 85, 627, 628], [637, 85, 635, 636], [712, 85, 710, 711], [731, 85, 729, 730], [753, 85, 751, 752], [762, 85, 760, 761], [774, 85, 772, 773], [800, 85, 798, 799], [809, 85, 807, 808], [822, 85, 820, 821], [830, 85, 828, 829], [842, 85, 840, 841], [867, 85, 865, 866], [905, 85, 903, 904], [913, 85, 911, 912], [922, 85, 920, 921], [936, 85, 934, 935], [947, 85, 945, 946], [960, 85, 958, 959], [969, 85, 967, 968], [982, 85, 980, 981], [991, 85, 989, 990], [1002, 85, 1000, 1001], [1011, 85, 1009, 1010], [1019, 85, 1017, 1018], [1027, 85, 1025, 1026], [1055, 85, 1053, 1054], [1063, 85, 1061, 1062], [1072, 85, 1070, 1071], [1083, 85, 1081, 1082], [1099, 85, 1097, 1098], [1103, 85, 1101, 1102], [1113, 85, 1111, 1112], [1124, 85, 1122, 1123], [504, 85, 503], [515, 85, 514], [528, 85, 527, 0], [598, 85, 597, 3], [576, 85, 575, 2], [909, 85, 908, 34], [951, 85, 950, 35], [749, 85, 748], [1288, 96, 1287], [1129, 96, 1128], [1309, 96, 1308, 42], [1276, 96, 1274, 1275], [1280, 96, 1278, 1279], [1305, 96, 1304, 41], [1284, 96, 1282, 1283], [1292, 96, 1290, 1291], [1301, 96, 1299, 1300], [1320, 96, 1319, 43], [1316, 96, 1314, 1315], [1361, 96, 1359, 1360], [1328, 96, 1327, 45], [1340, 96, 1339, 48], [1344, 96, 1343, 49], [1348, 96, 1347, 50], [1352, 96, 1351, 51], [1336, 96, 1335, 47], [1332, 96, 1331, 46], [1356, 96, 1355, 52], [1324, 96, 1323, 44], [1374, 96, 1373, 54], [1370, 96, 1369, 53], [1366, 96, 1364, 1365], [1393, 96, 1392], [1390, 96, 1389], [1383, 96, 1382, 55], [1387, 96, 1386, 56], [1378, 96, 1376, 1377], [1397, 96, 1395, 1396], [1409, 96, 1408, 58], [1405, 96, 1404, 57], [1401, 96, 1399, 1400], [1417, 96, 1416, 59], [1413, 96, 1411, 1412], [1421, 96, 1419, 1420], [1425, 96, 1423, 1424], [1430, 96, 1428, 1429], [1434, 96, 1432, 1433], [1447, 96, 1446, 61], [1443, 96, 1442, 60], [1438, 96, 1436, 1437], [1451, 96, 1449, 1450], [1488, 96, 1487, 69], [1492, 96, 1491, 70], [1496, 96, 1495, 71], [1464, 96, 1463, 63], [1468, 96, 1467, 64], [1472, 96, 1471, 65], [1476, 96, 1475, 66], [1480, 96, 1479, 67], [1499, 96, 1498], [1484, 96, 1483, 68], [1460, 96, 1459, 62], [1456, 96, 1454, 1455], [1507, 96, 1506, 72], [1503, 96, 1501, 1502], [1515, 96, 1514, 73], [1511, 96, 1509, 1510], [1519, 96, 1517, 1518], [1523, 96, 1521, 1522], [1527, 96, 1525, 1526], [1537, 96, 1536, 74], [1541, 96, 1540, 75], [1533, 96, 1531, 1532], [1545, 96, 1543, 1544], [1549, 96, 1547, 1548], [1553, 96, 1551, 1552], [1557, 96, 1555, 1556], [1570, 96, 1569, 76], [1629, 96, 1628, 83], [1561, 96, 1559, 1560], [1632, 96, 1631], [1578, 96, 1577, 78], [1574, 96, 1573, 77], [1582, 96, 1581, 79], [1586, 96, 1585, 80], [1590, 96, 1589, 81], [1566, 96, 1564, 1565], [1594, 96, 1592, 1593], [1295, 96, 1294], [1598, 96, 1596, 1597], [1602, 96, 1600, 1601], [1610, 96, 1609, 82], [1613, 96, 1612], [1606, 96, 1604, 1605], [1617, 96, 1615, 1616], [1621, 96, 1619, 1620], [1625, 96, 1623, 1624], [1636, 96, 1634, 1635], [1079, 99, 1078], [998, 99, 997]]
def j_mp : List (List Nat) → Nat → List Nat
  | [], _ => []
  | x :: _, 0 => x
  | _ :: r, k + 1 => j_mp r k
set_option maxRecDepth 100000 in
theorem j_mok_0 : ∀ i, i < 20 → j_mok (j_info (0 + i)) (j_mp j_mps (0 + i)) = true := by decide +kernel
set_option maxRecDepth 100000 in
theorem j_mok_20 : ∀ i, i < 20 → j_mok (j_info (20 + i)) (j_mp j_mps (20 + i)) = true := by decide +kernel
set_option maxRecDepth 100000 in
theorem j_mok_40 : ∀ i, i < 20 → j_mok (j_info (40 + i)) (j_mp j_mps (40 + i)) = true := by decide +kernel
set_option maxRecDepth 100000 in
theorem j_mok_60 : ∀ i, i < 20 → j_mok (j_info (60 + i)) (j_mp j_mps (60 + i)) = true := by decide +kernel
set_option maxRecDepth 100000 in
theorem j_mok_80 : ∀ i, i < 20 → j_mok (j_info (80 + i)) (j_mp j_mps (80 + i)) = true := by decide +kernel
set_option maxRecDepth 100000 in
theorem j_mok_100 : ∀ i, i < 20 → j_mok (j_info (100 + i)) (j_mp j_mps (100 + i)) = true := by decide +kernel
set_option maxRecDepth 100000 in
theorem j_mok_120 : ∀ i, i < 20 → j_mok (j_info (120 + i)) (j_mp j_mps (120 + i)) = true := by decide +kernel
set_option maxRecDepth 100000 in
theorem j_mok_140 : ∀ i, i < 20 → j_mok (j_info (140 + i)) (j_mp j_mps (140 + i)) = true := by decide +kernel
set_option maxRecDepth 100000 in
theorem j_mok_160 : ∀ i, i < 20 → j_mok (j_info (160 + i)) (j_mp j_mps (160 + i)) = true := by decide +kernel
set_option maxRecDepth 100000 in
theorem j_mok_180 : ∀ i, i < 20 → j_mok (j_info (180 + i)) (j_mp j_mps (180 + i)) = true := by decide +kernel
set_option maxRecDepth 100000 in
theorem j_mok_200 : ∀ i, i < 20 → j_mok (j_info (200 + i)) (j_mp j_mps (200 + i)) = true := by decide +kernel
set_option maxRecDepth 100000 in
theorem j_mok_220 : ∀ i, i < 20 → j_mok (j_info (220 + i)) (j_mp j_mps (220 + i)) = true := by decide +kernel
set_option maxRecDepth 100000 in
theorem j_mok_240 : ∀ i, i < 7 → j_mok (j_info (240 + i)) (j_mp j_mps (240 + i)) = true := by decide +kernel
theorem j_mok_all (i : Nat) (h : i < j_cnt) : j_mok (j_info i) (j_mp j_mps i) = true := by
  have h : i < 247 := h
  rcases Nat.lt_or_ge i 20 with h20 | h20
  · have e := j_mok_0 (i - 0) (by omega)
    rwa [show 0 + (i - 0) = i by omega] at e
  rcases Nat.lt_or_ge i 40 with h40 | h40
  · have e := j_mok_20 (i - 20) (by omega)
    rwa [show 20 + (i - 20) = i by omega] at e
  rcases Nat.lt_or_ge i 60 with h60 | h60
  · have e := j_mok_40 (i - 40) (by omega)
    rwa [show 40 + (i - 40) = i by omega] at e
  rcases Nat.lt_or_ge i 80 with h80 | h80
  · have e := j_mok_60 (i - 60) (by omega)
    rwa [show 60 + (i - 60) = i by omega] at e
  rcases Nat.lt_or_ge i 100 with h100 | h100
  · have e := j_mok_80 (i - 80) (by omega)
    rwa [show 80 + (i - 80) = i by omega] at e
  rcases Nat.lt_or_ge i 120 with h120 | h120
  · have e := j_mok_100 (i - 100) (by omega)
    rwa [show 100 + (i - 100) = i by omega] at e
  rcases Nat.lt_or_ge i 140 with h140 | h140
  · have e := j_mok_120 (i - 120) (by omega)
    rwa [show 120 + (i - 120) = i by omega] at e
  rcases Nat.lt_or_ge i 160 with h160 | h160
  · have e := j_mok_140 (i - 140) (by omega)
    rwa [show 140 + (i - 140) = i by omega] at e
  rcases Nat.lt_or_ge i 180 with h180 | h180
  · have e := j_mok_160 (i - 160) (by omega)
    rwa [show 160 + (i - 160) = i by omega] at e
  rcases Nat.lt_or_ge i 200 with h200 | h200
  · have e := j_mok_180 (i - 180) (by omega)
    rwa [show 180 + (i - 180) = i by omega] at e
  rcases Nat.lt_or_ge i 220 with h220 | h220
  · have e := j_mok_200 (i - 200) (by omega)
    rwa [show 200 + (i - 200) = i by omega] at e
  rcases Nat.lt_or_ge i 240 with h240 | h240
  · have e := j_mok_220 (i - 220) (by omega)
    rwa [show 220 + (i - 220) = i by omega] at e
  rcases Nat.lt_or_ge i 247 with h247 | h247
  · have e := j_mok_240 (i - 240) (by omega)
    rwa [show 240 + (i - 240) = i by omega] at e
  omega
set_option maxRecDepth 100000 in
theorem j_Tcls : ∀ a, a < 12 → ∀ b, b < j_Nf a → (j_T a b).1 = j_cn a := by decide +kernel
end
section
/-! ===== every instruction is as its table says (printed by wip/whole/gencheck.py) ===== -/
set_option maxRecDepth 100000 in
theorem j_ok_0 : ∀ i, i < 10 → j_okm (0 + i) = true := by decide +kernel
set_option maxRecDepth 100000 in
theorem j_ok_10 : ∀ i, i < 9 → j_okm (10 + i) = true := by decide +kernel
set_option maxRecDepth 100000 in
theorem j_ok_19 : ∀ i, i < 8 → j_okm (19 + i) = true := by decide +kernel
set_option maxRecDepth 100000 in
theorem j_ok_27 : ∀ i, i < 9 → j_okm (27 + i) = true := by decide +kernel
set_option maxRecDepth 100000 in
theorem j_ok_36 : ∀ i, i < 10 → j_okm (36 + i) = true := by decide +kernel
set_option maxRecDepth 100000 in
theorem j_ok_46 : ∀ i, i < 12 → j_okm (46 + i) = true := by decide +kernel
set_option maxRecDepth 100000 in
theorem j_ok_58 : ∀ i, i < 9 → j_okm (58 + i) = true := by decide +kernel
set_option maxRecDepth 100000 in
theorem j_ok_67 : ∀ i, i < 11 → j_okm (67 + i) = true := by decide +kernel
set_option maxRecDepth 100000 in
theorem j_ok_78 : ∀ i, i < 6 → j_okm (78 + i) = true := by decide +kernel
set_option maxRecDepth 100000 in
theorem j_ok_84 : ∀ i, i < 5 → j_okm (84 + i) = true := by decide +kernel
set_option maxRecDepth 100000 in
theorem j_ok_89 : ∀ i, i < 13 → j_okm (89 + i) = true := by decide +kernel
set_option maxRecDepth 100000 in
theorem j_ok_102 : ∀ i, i < 9 → j_okm (102 + i) = true := by decide +kernel
set_option maxRecDepth 100000 in
theorem j_ok_111 : ∀ i, i < 11 → j_okm (111 + i) = true := by decide +kernel
set_option maxRecDepth 100000 in
theorem j_ok_122 : ∀ i, i < 8 → j_okm (122 + i) = true := by decide +kernel
set_option maxRecDepth 100000 in
theorem j_ok_130 : ∀ i, i < 15 → j_okm (130 + i) = true := by decide +kernel
set_option maxRecDepth 100000 in
theorem j_ok_145 : ∀ i, i < 9 → j_okm (145 + i) = true := by decide +kernel
set_option maxRecDepth 100000 in
theorem j_ok_154 : ∀ i, i < 4 → j_okm (154 + i) = true := by decide +kernel
set_option maxRecDepth 100000 in
theorem j_ok_158 : ∀ i, i < 6 → j_okm (158 + i) = true := by decide +kernel
set_option maxRecDepth 100000 in
theorem j_ok_164 : ∀ i, i < 7 → j_okm (164 + i) = true := by decide +kernel
set_option maxRecDepth 100000 in
theorem j_ok_171 : ∀ i, i < 8 → j_okm (171 + i) = true := by decide +kernel
set_option maxRecDepth 100000 in
theorem j_ok_179 : ∀ i, i < 7 → j_okm (179 + i) = true := by decide +kernel
set_option maxRecDepth 100000 in
theorem j_ok_186 : ∀ i, i < 6 → j_okm (186 + i) = true := by decide +kernel
set_option maxRecDepth 100000 in
theorem j_ok_192 : ∀ i, i < 6 → j_okm (192 + i) = true := by decide +kernel
set_option maxRecDepth 100000 in
theorem j_ok_198 : ∀ i, i < 9 → j_okm (198 + i) = true := by decide +kernel
set_option maxRecDepth 100000 in
theorem j_ok_207 : ∀ i, i < 4 → j_okm (207 + i) = true := by decide +kernel
set_option maxRecDepth 100000 in
theorem j_ok_211 : ∀ i, i < 6 → j_okm (211 + i) = true := by decide +kernel
set_option maxRecDepth 100000 in
theorem j_ok_217 : ∀ i, i < 7 → j_okm (217 + i) = true := by decide +kernel
set_option maxRecDepth 100000 in
theorem j_ok_224 : ∀ i, i < 9 → j_okm (224 + i) = true := by decide +kernel
set_option maxRecDepth 100000 in
theorem j_ok_233 : ∀ i, i < 9 → j_okm (233 + i) = true := by decide +kernel
set_option maxRecDepth 100000 in
theorem j_ok_242 : ∀ i, i < 5 → j_okm (242 + i) = true := by decide +kernel
theorem j_ok (i : Nat) (h : i < j_cnt) : j_okm i = true := by
  have h : i < 247 := h
  rcases Nat.lt_or_ge i 10 with h10 | h10
  · have e := j_ok_0 (i - 0) (by omega)
    rwa [show 0 + (i - 0) = i by omega] at e
  rcases Nat.lt_or_ge i 19 with h19 | h19
  · have e := j_ok_10 (i - 10) (by omega)
    rwa [show 10 + (i - 10) = i by omega] at e
  rcases Nat.lt_or_ge i 27 with h27 | h27
  · have e := j_ok_19 (i - 19) (by omega)
    rwa [show 19 + (i - 19) = i by omega] at e
  rcases Nat.lt_or_ge i 36 with h36 | h36
  · have e := j_ok_27 (i - 27) (by omega)
    rwa [show 27 + (i - 27) = i by omega] at e
  rcases Nat.lt_or_ge i 46 with h46 | h46
  · have e := j_ok_36 (i - 36) (by omega)
    rwa [show 36 + (i - 36) = i by omega] at e
  rcases Nat.lt_or_ge i 58 with h58 | h58
  · have e := j_ok_46 (i - 46) (by omega)
    rwa [show 46 + (i - 46) = i by omega] at e
  rcases Nat.lt_or_ge i 67 with h67 | h67
  · have e := j_ok_58 (i - 58) (by omega)
    rwa [show 58 + (i - 58) = i by omega] at e
  rcases Nat.lt_or_ge i 78 with h78 | h78
  · have e := j_ok_67 (i - 67) (by omega)
    rwa [show 67 + (i - 67) = i by omega] at e
  rcases Nat.lt_or_ge i 84 with h84 | h84
  · have e := j_ok_78 (i - 78) (by omega)
    rwa [show 78 + (i - 78) = i by omega] at e
  rcases Nat.lt_or_ge i 89 with h89 | h89
  · have e := j_ok_84 (i - 84) (by omega)
    rwa [show 84 + (i - 84) = i by omega] at e
  rcases Nat.lt_or_ge i 102 with h102 | h102
  · have e := j_ok_89 (i - 89) (by omega)
    rwa [show 89 + (i - 89) = i by omega] at e
  rcases Nat.lt_or_ge i 111 with h111 | h111
  · have e := j_ok_102 (i - 102) (by omega)
    rwa [show 102 + (i - 102) = i by omega] at e
  rcases Nat.lt_or_ge i 122 with h122 | h122
  · have e := j_ok_111 (i - 111) (by omega)
    rwa [show 111 + (i - 111) = i by omega] at e
  rcases Nat.lt_or_ge i 130 with h130 | h130
  · have e := j_ok_122 (i - 122) (by omega)
    rwa [show 122 + (i - 122) = i by omega] at e
  rcases Nat.lt_or_ge i 145 with h145 | h145
  · have e := j_ok_130 (i - 130) (by omega)
    rwa [show 130 + (i - 130) = i by omega] at e
  rcases Nat.lt_or_ge i 154 with h154 | h154
  · have e := j_ok_145 (i - 145) (by omega)
    rwa [show 145 + (i - 145) = i by omega] at e
  rcases Nat.lt_or_ge i 158 with h158 | h158
  · have e := j_ok_154 (i - 154) (by omega)
    rwa [show 154 + (i - 154) = i by omega] at e
  rcases Nat.lt_or_ge i 164 with h164 | h164
  · have e := j_ok_158 (i - 158) (by omega)
    rwa [show 158 + (i - 158) = i by omega] at e
  rcases Nat.lt_or_ge i 171 with h171 | h171
  · have e := j_ok_164 (i - 164) (by omega)
    rwa [show 164 + (i - 164) = i by omega] at e
  rcases Nat.lt_or_ge i 179 with h179 | h179
  · have e := j_ok_171 (i - 171) (by omega)
    rwa [show 171 + (i - 171) = i by omega] at e
  rcases Nat.lt_or_ge i 186 with h186 | h186
  · have e := j_ok_179 (i - 179) (by omega)
    rwa [show 179 + (i - 179) = i by omega] at e
  rcases Nat.lt_or_ge i 192 with h192 | h192
  · have e := j_ok_186 (i - 186) (by omega)
    rwa [show 186 + (i - 186) = i by omega] at e
  rcases Nat.lt_or_ge i 198 with h198 | h198
  · have e := j_ok_192 (i - 192) (by omega)
    rwa [show 192 + (i - 192) = i by omega] at e
  rcases Nat.lt_or_ge i 207 with h207 | h207
  · have e := j_ok_198 (i - 198) (by omega)
    rwa [show 198 + (i - 198) = i by omega] at e
  rcases Nat.lt_or_ge i 211 with h211 | h211
  · have e := j_ok_207 (i - 207) (by omega)
    rwa [show 207 + (i - 207) = i by omega] at e
  rcases Nat.lt_or_ge i 217 with h217 | h217
  · have e := j_ok_211 (i - 211) (by omega)
    rwa [show 211 + (i - 211) = i by omega] at e
  rcases Nat.lt_or_ge i 224 with h224 | h224
  · have e := j_ok_217 (i - 217) (by omega)
    rwa [show 217 + (i - 217) = i by omega] at e
  rcases Nat.lt_or_ge i 233 with h233 | h233
  · have e := j_ok_224 (i - 224) (by omega)
    rwa [show 224 + (i - 224) = i by omega] at e
  rcases Nat.lt_or_ge i 242 with h242 | h242
  · have e := j_ok_233 (i - 233) (by omega)
    rwa [show 233 + (i - 233) = i by omega] at e
  rcases Nat.lt_or_ge i 247 with h247 | h247
  · have e := j_ok_242 (i - 242) (by omega)
    rwa [show 242 + (i - 242) = i by omega] at e
  omega
end
section
/-! ===== the interpreter's state as a world of the kit (own text) ===== -/
def j_ad (B tA tO a : Nat) : Nat := if a = 1000 then tA else if a = 1001 then tO else B + a
theorem j_ad_lt {B tA tO a : Nat} (h : a < 1000) : j_ad B tA tO a = B + a := by unfold j_ad; rw [if_neg (by omega), if_neg (by omega)]
def j_tr (B tA tO : Nat) (v : Value) : Value := match v with
  | .ref a => .ref (j_ad B tA tO a)
  | w => w
def j_fv (ad : Nat → Nat) (M : Nat → Int32) (rs : List (Option Nat)) (ty : FieldType) (k : Nat) : Value := bif j_isref ty then va_rf ((j_nth rs k).map ad) else .int (M k)
def j_cell (ad : Nat → Nat) (cI cJ cR : ClassId) (M : j_M) (N : j_N) (i : Nat) (x : Nat × Nat × List (Option Nat)) : va_E := match x.1 with
  | 0 => .inl (cI, x.2.1, .inl (M i))
  | 1 => .inl (cJ, x.2.1, .inr (.inl (N i)))
  | 2 => .inl (cR, x.2.1, .inr (.inr (.inr (.inr (fun k => (j_nth x.2.2 k).map ad)))))
  | c + 3 => .inr (c, (List.range (j_Nf c)).map (fun k => j_fv ad (M i) x.2.2 (j_ty c k) k))
def j_ws (B tA tO : Nat) (cI cJ cR : ClassId) (me : j_Me) : va_W := me.1.mapIdx (fun i x => (B + i, j_cell (j_ad B tA tO) cI cJ cR me.2.1 me.2.2 i x))
def j_sz : j_S → Nat
  | [] => 0
  | x :: r => x.2.1 + j_sz r
def j_as (L : List Value) : List (Nat × Value) := (L.mapIdx (fun i v => (i, v))).filter (fun q => decide (q.2 ≠ .null))
theorem j_at_get : ∀ (S : j_S) (a : Nat), (j_at S a).1 < 99 → S[a]? = some (j_at S a)
  | [], _, h => absurd h (by simp [j_at])
  | x :: _, 0, _ => rfl
  | _ :: r, k + 1, h => by
    rw [List.getElem?_cons_succ]
    exact j_at_get r k h
theorem j_at_of {S : j_S} {a : Nat} {x : Nat × Nat × List (Option Nat)} (h : S[a]? = some x) : j_at S a = x := by
  induction S generalizing a with
  | nil => simp at h
  | cons y r ih =>
    cases a with
    | zero => simpa [j_at] using h
    | succ k => rw [List.getElem?_cons_succ] at h; exact ih h
theorem j_ws_get {B tA tO : Nat} {cI cJ cR : ClassId} {me : j_Me} {a : Nat} {x : Nat × Nat × List (Option Nat)} (h : me.1[a]? = some x) : (j_ws B tA tO cI cJ cR me)[a]? = some (B + a, j_cell (j_ad B tA tO) cI cJ cR me.2.1 me.2.2 a x) := by
  unfold j_ws
  rw [List.getElem?_mapIdx, h]
  rfl
theorem j_ws_len {B tA tO : Nat} {cI cJ cR : ClassId} {me : j_Me} : (j_ws B tA tO cI cJ cR me).length = me.1.length := by simp [j_ws]
theorem j_ws_addr {B tA tO : Nat} {cI cJ cR : ClassId} {me : j_Me} {k : Nat} {q : Nat × va_E} (h : (j_ws B tA tO cI cJ cR me)[k]? = some q) : q.1 = B + k ∧ k < me.1.length := by
  unfold j_ws at h
  rw [List.getElem?_mapIdx] at h
  cases hx : me.1[k]? with
  | none => rw [hx] at h; cases h
  | some x =>
    rw [hx] at h
    cases h
    exact ⟨rfl, (List.getElem?_eq_some_iff.mp hx).1⟩
theorem j_D {B tA tO : Nat} {cI cJ cR : ClassId} {me : j_Me} : va_D (fun q => B ≤ q) (j_ws B tA tO cI cJ cR me) := by
  refine ⟨fun i j p q hi hj hpq => ?_, fun k q hk => ?_⟩
  · have h1 := (j_ws_addr hi).1
    have h2 := (j_ws_addr hj).1
    omega
  · have h1 := (j_ws_addr hk).1
    show B ≤ q.1
    omega
theorem j_cell_congr {B tA tO : Nat} {cI cJ cR : ClassId} {M M' : j_M} {N N' : j_N} {i : Nat} (x : Nat × Nat × List (Option Nat)) (hM : M' i = M i) (hN : N' i = N i) : j_cell (j_ad B tA tO) cI cJ cR M' N' i x = j_cell (j_ad B tA tO) cI cJ cR M N i x := by
  unfold j_cell
  rw [hM, hN]
theorem j_ws_set {B tA tO : Nat} {cI cJ cR : ClassId} {S : j_S} {M M' : j_M} {N N' : j_N} {c : Nat} (x' : Nat × Nat × List (Option Nat)) (hc : c < S.length) (hM : ∀ i, i ≠ c → M' i = M i) (hN : ∀ i, i ≠ c → N' i = N i) :
    j_ws B tA tO cI cJ cR (S.set c x', M', N') = (j_ws B tA tO cI cJ cR (S, M, N)).set c (B + c, j_cell (j_ad B tA tO) cI cJ cR M' N' c x') := by
  apply List.ext_getElem?
  intro k
  by_cases hk : k = c
  · subst hk
    rw [List.getElem?_set_self (by rw [j_ws_len]; exact hc)]
    exact j_ws_get (me := (S.set k x', M', N')) (List.getElem?_set_self hc)
  · rw [List.getElem?_set_ne (Ne.symm hk)]
    unfold j_ws
    rw [List.getElem?_mapIdx, List.getElem?_mapIdx]
    dsimp only
    rw [List.getElem?_set_ne (Ne.symm hk)]
    cases S[k]? with
    | none => rfl
    | some x =>
      simp only [Option.map_some]
      rw [j_cell_congr x (hM k hk) (hN k hk)]
theorem j_set_self {S : j_S} {c : Nat} {x : Nat × Nat × List (Option Nat)} (h : S[c]? = some x) : S.set c x = S := by
  apply List.ext_getElem?
  intro k
  by_cases hk : k = c
  · subst hk
    rw [List.getElem?_set_self (List.getElem?_eq_some_iff.mp h).1, h]
  · rw [List.getElem?_set_ne (Ne.symm hk)]
theorem j_ws_up {B tA tO : Nat} {cI cJ cR : ClassId} {S : j_S} {M M' : j_M} {N N' : j_N} {c : Nat} {x : Nat × Nat × List (Option Nat)} (h : S[c]? = some x) (hM : ∀ i, i ≠ c → M' i = M i) (hN : ∀ i, i ≠ c → N' i = N i) :
    j_ws B tA tO cI cJ cR (S, M', N') = (j_ws B tA tO cI cJ cR (S, M, N)).set c (B + c, j_cell (j_ad B tA tO) cI cJ cR M' N' c x) := by
  have e := j_ws_set (B := B) (tA := tA) (tO := tO) (cI := cI) (cJ := cJ) (cR := cR) (S := S) (M := M) (N := N) x (List.getElem?_eq_some_iff.mp h).1 hM hN
  rw [j_set_self h] at e
  exact e
theorem j_ws_push {B tA tO : Nat} {cI cJ cR : ClassId} {S : j_S} {M M' : j_M} {N N' : j_N} (x : Nat × Nat × List (Option Nat)) (hM : ∀ i, i < S.length → M' i = M i) (hN : ∀ i, i < S.length → N' i = N i) :
    j_ws B tA tO cI cJ cR (S ++ [x], M', N') = j_ws B tA tO cI cJ cR (S, M, N) ++ [(B + S.length, j_cell (j_ad B tA tO) cI cJ cR M' N' S.length x)] := by
  have hl : (j_ws B tA tO cI cJ cR (S, M, N)).length = S.length := j_ws_len
  apply List.ext_getElem?
  intro k
  rcases Nat.lt_trichotomy k S.length with hk | hk | hk
  · rw [List.getElem?_append_left (by rw [hl]; exact hk)]
    have hx : S[k]? = some S[k] := List.getElem?_eq_getElem hk
    rw [j_ws_get (me := (S, M, N)) hx, j_ws_get (me := (S ++ [x], M', N')) (x := S[k]) (by show (S ++ [x])[k]? = _; rw [List.getElem?_append_left hk]; exact hx)]
    show some (B + k, j_cell (j_ad B tA tO) cI cJ cR M' N' k _) = some (B + k, j_cell (j_ad B tA tO) cI cJ cR M N k _)
    rw [j_cell_congr _ (hM k hk) (hN k hk)]
  · subst hk
    rw [List.getElem?_append_right (by rw [hl]; exact Nat.le_refl _), hl, Nat.sub_self]
    exact j_ws_get (me := (S ++ [x], M', N')) (x := x) (by show (S ++ [x])[S.length]? = _; simp)
  · rw [List.getElem?_eq_none (by rw [j_ws_len]; show (S ++ [x]).length ≤ k; rw [List.length_append]; exact hk), List.getElem?_eq_none (by rw [List.length_append, hl]; exact hk)]
theorem j_sz_append (S T : j_S) : j_sz (S ++ T) = j_sz S + j_sz T := by
  induction S with
  | nil => simp [j_sz]
  | cons x r ih => simp [j_sz, ih]; omega
theorem j_sz_set {S : j_S} {c : Nat} {x x' : Nat × Nat × List (Option Nat)} (h : S[c]? = some x) (e : x'.2.1 = x.2.1) : j_sz (S.set c x') = j_sz S := by
  induction S generalizing c with
  | nil => simp at h
  | cons y r ih =>
    cases c with
    | zero =>
      have : y = x := by simpa using h
      subst this
      simp [j_sz, e]
    | succ k =>
      rw [List.getElem?_cons_succ] at h
      simp [j_sz, ih h]
/-- lists of values by a range -/
theorem j_range_set {β : Type} (n k : Nat) (f g : Nat → β) (v : β) (hk : k < n) (hv : g k = v) (ho : ∀ j, j ≠ k → g j = f j) : (List.range n).map g = ((List.range n).map f).set k v := by
  apply List.ext_getElem?
  intro j
  by_cases hj : j = k
  · subst hj
    rw [List.getElem?_set_self (by simpa using hk)]
    simp [List.getElem?_range hk, hv]
  · rw [List.getElem?_set_ne (Ne.symm hj)]
    simp only [List.getElem?_map]
    by_cases hl : j < n
    · rw [List.getElem?_range hl]
      simp [ho j hj]
    · rw [List.getElem?_eq_none (by simpa using hl)]
      rfl
theorem j_nth_set : ∀ (rs : List (Option Nat)) (b q k : Nat), j_nth (j_setx rs b q) k = if k = b then some q else j_nth rs k
  | [], 0, q, 0 => rfl
  | [], 0, q, k + 1 => by rw [if_neg (by omega)]; rfl
  | [], b + 1, q, 0 => by rw [if_neg (by omega)]; rfl
  | [], b + 1, q, k + 1 => by
    have h := j_nth_set [] b q k
    show j_nth (j_setx [] b q) k = _
    rw [h]
    by_cases e : k = b
    · rw [if_pos e, if_pos (by omega)]
    · rw [if_neg e, if_neg (by omega)]; rfl
  | x :: r, 0, q, 0 => rfl
  | x :: r, 0, q, k + 1 => by rw [if_neg (by omega)]; rfl
  | x :: r, b + 1, q, 0 => by rw [if_neg (by omega)]; rfl
  | x :: r, b + 1, q, k + 1 => by
    have h := j_nth_set r b q k
    show j_nth (j_setx r b q) k = _
    rw [h]
    by_cases e : k = b
    · rw [if_pos e, if_pos (by omega)]
    · rw [if_neg e, if_neg (by omega)]; rfl
theorem j_nth_rep (n k : Nat) : j_nth (List.replicate n none) k = none := by
  induction n generalizing k with
  | zero => rfl
  | succ n ih =>
    rw [List.replicate_succ]
    cases k with
    | zero => rfl
    | succ k => exact ih k
theorem j_nth_some {rs : List (Option Nat)} {k : Nat} (h : (j_nth rs k).isSome = true) : j_nth rs k = some ((j_nth rs k).getD 0) := by
  cases hx : j_nth rs k with
  | none => rw [hx] at h; cases h
  | some x => rfl
/-- locals -/
theorem j_as_mem {L : List Value} {q : Nat × Value} : q ∈ j_as L ↔ L[q.1]? = some q.2 ∧ q.2 ≠ .null := by
  unfold j_as
  rw [List.mem_filter]
  constructor
  · rintro ⟨h1, h2⟩
    obtain ⟨k, hk⟩ := List.getElem?_of_mem h1
    rw [List.getElem?_mapIdx] at hk
    cases hx : L[k]? with
    | none => rw [hx] at hk; cases hk
    | some v =>
      rw [hx] at hk
      cases hk
      exact ⟨hx, of_decide_eq_true h2⟩
  · rintro ⟨h1, h2⟩
    refine ⟨?_, decide_eq_true h2⟩
    refine List.mem_of_getElem? (i := q.1) ?_
    rw [List.getElem?_mapIdx, h1]
    rfl
theorem j_lv_of {ls : Array Slot} {n : Nat} {L L' : List Value} (h : lv_has ls n (j_as L)) (hL : ∀ (k : Nat) (v : Value), L'[k]? = some v → v ≠ .null → L[k]? = some v) : lv_has ls n (j_as L') := by
  refine ⟨h.1, h.2.1, fun q hq => ?_⟩
  obtain ⟨h1, h2⟩ := j_as_mem.mp hq
  exact h.2.2 q (j_as_mem.mpr ⟨hL _ _ h1 h2, h2⟩)
theorem j_lg_get {L : List Value} {a : Nat} {v : Value} (h : j_lg L a = v) (hv : v ≠ .null) : L[a]? = some v := by
  induction L generalizing a with
  | nil => exact absurd h.symm hv
  | cons w r ih =>
    cases a with
    | zero => rw [List.getElem?_cons_zero]; exact congrArg some h
    | succ k => rw [List.getElem?_cons_succ]; exact ih h
theorem j_mask_get : ∀ (bs : List Bool) (L : List Value) (k : Nat) (v : Value), (j_mask bs L)[k]? = some v → v ≠ .null → L[k]? = some v
  | [], L, k, v, h, _ => by
    cases L <;> exact h
  | b :: bs, [], k, v, h, _ => h
  | b :: bs, w :: r, 0, v, h, hv => by
    cases b with
    | true => exact h
    | false => exact absurd (Option.some.inj h).symm hv
  | b :: bs, w :: r, k + 1, v, h, hv => j_mask_get bs r k v h hv
theorem j_fg_get (cuts : List (Nat × List Bool)) (pc : Nat) (L : List Value) (k : Nat) (v : Value) (h : (j_fg cuts pc L)[k]? = some v) (hv : v ≠ .null) : L[k]? = some v := by
  unfold j_fg at h
  cases hx : j_lk cuts pc with
  | none => rw [hx] at h; exact h
  | some m => rw [hx] at h; exact j_mask_get m L k v h hv
theorem j_put_get : ∀ (L : List Value) (a : Nat) (x : Value) (k : Nat) (v : Value), (j_put L a x)[k]? = some v → v ≠ .null → (k = a ∧ v = x) ∨ (k ≠ a ∧ L[k]? = some v ∧ ¬ (k + 1 = a ∧ v.category = 2))
  | [], _, _, _, _, h, _ => by simp [j_put] at h
  | w :: r, 0, x, 0, v, h, _ => Or.inl ⟨rfl, (Option.some.inj h).symm⟩
  | w :: r, 0, x, k + 1, v, h, _ => Or.inr ⟨by omega, h, by omega⟩
  | w :: r, 1, x, 0, v, h, hv => by
    have e : j_kill w = v := Option.some.inj h
    refine Or.inr ⟨by omega, ?_, ?_⟩
    · cases w <;> first | exact absurd e.symm hv | exact congrArg some e
    · cases w <;> first | exact absurd e.symm hv | (rw [← e]; simp [j_kill, Value.category])
  | w :: r, 1, x, k + 1, v, h, hv => by
    rcases j_put_get r 0 x k v h hv with ⟨h1, h2⟩ | ⟨h1, h2, h3⟩
    · exact Or.inl ⟨by omega, h2⟩
    · exact Or.inr ⟨by omega, h2, by omega⟩
  | w :: r, a + 2, x, 0, v, h, _ => Or.inr ⟨by omega, h, by omega⟩
  | w :: r, a + 2, x, k + 1, v, h, hv => by
    rcases j_put_get r (a + 1) x k v h hv with ⟨h1, h2⟩ | ⟨h1, h2, h3⟩
    · exact Or.inl ⟨by omega, h2⟩
    · exact Or.inr ⟨by omega, h2, fun q => h3 ⟨by omega, q.2⟩⟩
theorem j_nul_get : ∀ (L : List Value) (a k : Nat) (v : Value), (j_nul L a)[k]? = some v → v ≠ .null → k ≠ a ∧ L[k]? = some v
  | [], _, _, _, h, _ => by simp [j_nul] at h
  | w :: r, 0, 0, v, h, hv => absurd (Option.some.inj h).symm hv
  | w :: r, 0, k + 1, v, h, _ => ⟨by omega, h⟩
  | w :: r, a + 1, 0, v, h, _ => ⟨by omega, h⟩
  | w :: r, a + 1, k + 1, v, h, hv => by
    obtain ⟨h1, h2⟩ := j_nul_get r a k v h hv
    exact ⟨by omega, h2⟩
theorem j_tr_null {B tA tO : Nat} {v : Value} : j_tr B tA tO v = .null ↔ v = .null := by cases v <;> simp [j_tr]
theorem j_tr_cat {B tA tO : Nat} {v : Value} : (j_tr B tA tO v).category = v.category := by cases v <;> rfl
theorem j_map_get {B tA tO : Nat} {L L' : List Value} (h : ∀ (k : Nat) (v : Value), L'[k]? = some v → v ≠ .null → L[k]? = some v) (k : Nat) (v : Value) (hk : (L'.map (j_tr B tA tO))[k]? = some v) (hv : v ≠ .null) : (L.map (j_tr B tA tO))[k]? = some v := by
  rw [List.getElem?_map] at hk ⊢
  cases hx : L'[k]? with
  | none => rw [hx] at hk; cases hk
  | some w =>
    rw [hx] at hk
    cases hk
    rw [h k w hx (fun e => hv (j_tr_null.mpr e))]
    rfl
/-- storing in the locals -/
theorem j_lv_put {B tA tO : Nat} {ls' : Array Slot} {n a : Nat} {L : List Value} {x : Value} (h : lv_has ls' n ((a, j_tr B tA tO x) :: (j_as (L.map (j_tr B tA tO))).filter (fun q => !(q.1 == a) && !(q.1 + 1 == a && q.2.category == 2)))) : lv_has ls' n (j_as ((j_put L a x).map (j_tr B tA tO))) := by
  refine ⟨h.1, h.2.1, fun q hq => ?_⟩
  obtain ⟨h1, h2⟩ := j_as_mem.mp hq
  rw [List.getElem?_map] at h1
  cases hx : (j_put L a x)[q.1]? with
  | none => rw [hx] at h1; cases h1
  | some w =>
    rw [hx] at h1
    have e : j_tr B tA tO w = q.2 := Option.some.inj h1
    have hw : w ≠ .null := fun z => h2 (by rw [← e]; exact j_tr_null.mpr z)
    apply h.2.2
    rcases j_put_get L a x q.1 w hx hw with ⟨e1, e2⟩ | ⟨e1, e2, e3⟩
    · refine List.mem_cons.mpr (Or.inl ?_)
      rw [← e1, ← e2, e]
    · refine List.mem_cons.mpr (Or.inr (List.mem_filter.mpr ⟨j_as_mem.mpr ⟨?_, h2⟩, ?_⟩))
      · rw [List.getElem?_map, e2]
        exact congrArg some e
      · rw [← e, j_tr_cat]
        simp only [Bool.and_eq_true, Bool.not_eq_true', beq_eq_false_iff_ne, ne_eq, Bool.and_eq_false_iff]
        refine ⟨e1, ?_⟩
        by_cases z : q.1 + 1 = a
        · exact Or.inr (fun z2 => e3 ⟨z, z2⟩)
        · exact Or.inl z
theorem j_lv_put2 {B tA tO : Nat} {ls' : Array Slot} {n a : Nat} {L : List Value} {x : Value} (h : lv_has ls' n ((a, j_tr B tA tO x) :: (j_as (L.map (j_tr B tA tO))).filter (fun q => !(q.1 == a) && (!(q.1 == a + 1) && !(q.1 + 1 == a && q.2.category == 2))))) : lv_has ls' n (j_as ((j_nul (j_put L a x) (a + 1)).map (j_tr B tA tO))) := by
  refine ⟨h.1, h.2.1, fun q hq => ?_⟩
  obtain ⟨h1, h2⟩ := j_as_mem.mp hq
  rw [List.getElem?_map] at h1
  cases hx : (j_nul (j_put L a x) (a + 1))[q.1]? with
  | none => rw [hx] at h1; cases h1
  | some w =>
    rw [hx] at h1
    have e : j_tr B tA tO w = q.2 := Option.some.inj h1
    have hw : w ≠ .null := fun z => h2 (by rw [← e]; exact j_tr_null.mpr z)
    apply h.2.2
    obtain ⟨e0, hx⟩ := j_nul_get _ _ _ _ hx hw
    rcases j_put_get L a x q.1 w hx hw with ⟨e1, e2⟩ | ⟨e1, e2, e3⟩
    · refine List.mem_cons.mpr (Or.inl ?_)
      rw [← e1, ← e2, e]
    · refine List.mem_cons.mpr (Or.inr (List.mem_filter.mpr ⟨j_as_mem.mpr ⟨?_, h2⟩, ?_⟩))
      · rw [List.getElem?_map, e2]
        exact congrArg some e
      · rw [← e, j_tr_cat]
        simp only [Bool.and_eq_true, Bool.not_eq_true', beq_eq_false_iff_ne, ne_eq, Bool.and_eq_false_iff]
        refine ⟨e1, e0, ?_⟩
        by_cases z : q.1 + 1 = a
        · exact Or.inr (fun z2 => e3 ⟨z, z2⟩)
        · exact Or.inl z
/-- what a step's propositions say -/
theorem j_i0_p {f : Int32 → Prop} {st : List Value} (h : j_i0 False f st) : ∃ x, st = [.int x] ∧ f x := by
  unfold j_i0 at h; split at h
  · exact ⟨_, rfl, h⟩
  · exact h.elim
theorem j_l0_p {f : Int64 → Prop} {st : List Value} (h : j_l0 False f st) : ∃ x, st = [.long x] ∧ f x := by
  unfold j_l0 at h; split at h
  · exact ⟨_, rfl, h⟩
  · exact h.elim
theorem j_i1_p {f : Int32 → List Value → Prop} {st : List Value} (h : j_i1 False f st) : ∃ x r, st = .int x :: r ∧ f x r := by
  unfold j_i1 at h; split at h
  · exact ⟨_, _, rfl, h⟩
  · exact h.elim
theorem j_i2_p {f : Int32 → Int32 → List Value → Prop} {st : List Value} (h : j_i2 False f st) : ∃ x y r, st = .int y :: .int x :: r ∧ f x y r := by
  unfold j_i2 at h; split at h
  · exact ⟨_, _, _, rfl, h⟩
  · exact h.elim
theorem j_l1_p {f : Int64 → List Value → Prop} {st : List Value} (h : j_l1 False f st) : ∃ x r, st = .long x :: r ∧ f x r := by
  unfold j_l1 at h; split at h
  · exact ⟨_, _, rfl, h⟩
  · exact h.elim
theorem j_l2_p {f : Int64 → Int64 → List Value → Prop} {st : List Value} (h : j_l2 False f st) : ∃ x y r, st = .long y :: .long x :: r ∧ f x y r := by
  unfold j_l2 at h; split at h
  · exact ⟨_, _, _, rfl, h⟩
  · exact h.elim
theorem j_il_p {f : Int64 → Int32 → List Value → Prop} {st : List Value} (h : j_il False f st) : ∃ x y r, st = .int y :: .long x :: r ∧ f x y r := by
  unfold j_il at h; split at h
  · exact ⟨_, _, _, rfl, h⟩
  · exact h.elim
theorem j_r1_p {f : Nat → List Value → Prop} {st : List Value} (h : j_r1 False f st) : ∃ x r, st = .ref x :: r ∧ f x r := by
  unfold j_r1 at h; split at h
  · exact ⟨_, _, rfl, h⟩
  · exact h.elim
theorem j_ri_p {f : Nat → Int32 → List Value → Prop} {st : List Value} (h : j_ri False f st) : ∃ a i r, st = .int i :: .ref a :: r ∧ f a i r := by
  unfold j_ri at h; split at h
  · exact ⟨_, _, _, rfl, h⟩
  · exact h.elim
theorem j_rI_p {f : Nat → Int32 → List Value → Prop} {st : List Value} (h : j_rI False f st) : ∃ a i r, st = .int i :: .ref a :: r ∧ f a i r := by
  unfold j_rI at h; split at h
  · exact ⟨_, _, _, rfl, h⟩
  · exact h.elim
theorem j_rii_p {f : Nat → Int32 → Int32 → List Value → Prop} {st : List Value} (h : j_rii False f st) : ∃ a i x r, st = .int x :: .int i :: .ref a :: r ∧ f a i x r := by
  unfold j_rii at h; split at h
  · exact ⟨_, _, _, _, rfl, h⟩
  · exact h.elim
theorem j_ril_p {f : Nat → Int32 → Int64 → List Value → Prop} {st : List Value} (h : j_ril False f st) : ∃ a i x r, st = .long x :: .int i :: .ref a :: r ∧ f a i x r := by
  unfold j_ril at h; split at h
  · exact ⟨_, _, _, _, rfl, h⟩
  · exact h.elim
theorem j_rir_p {f : Nat → Int32 → Nat → List Value → Prop} {st : List Value} (h : j_rir False f st) : ∃ a i x r, st = .ref x :: .int i :: .ref a :: r ∧ f a i x r := by
  unfold j_rir at h; split at h
  · exact ⟨_, _, _, _, rfl, h⟩
  · exact h.elim
theorem j_rr_p {f : Nat → Nat → List Value → Prop} {st : List Value} (h : j_rr False f st) : ∃ a x r, st = .ref x :: .ref a :: r ∧ f a x r := by
  unfold j_rr at h; split at h
  · exact ⟨_, _, _, rfl, h⟩
  · exact h.elim
theorem j_c5_p {f : Nat → Int32 → Nat → Int32 → Int32 → List Value → Prop} {st : List Value} (h : j_c5 False f st) : ∃ a0 sp a dp n r, st = .int n :: .int dp :: .ref a :: .int sp :: .ref a0 :: r ∧ f a0 sp a dp n r := by
  unfold j_c5 at h; split at h
  · exact ⟨_, _, _, _, _, _, rfl, h⟩
  · exact h.elim
theorem j_v1_p {f : Value → List Value → Prop} {st : List Value} (h : j_v1 False f st) : ∃ v r, st = v :: r ∧ v.category = 1 ∧ f v r := by
  unfold j_v1 at h; split at h
  · exact ⟨_, _, rfl, rfl, h⟩
  · exact ⟨_, _, rfl, rfl, h⟩
  · exact h.elim
theorem j_vi_p {f : Int32 → Prop} {v : Value} (h : j_vi False f v) : ∃ x, v = .int x ∧ f x := by
  unfold j_vi at h; split at h
  · exact ⟨_, rfl, h⟩
  · exact h.elim
theorem j_vl_p {f : Int64 → Prop} {v : Value} (h : j_vl False f v) : ∃ x, v = .long x ∧ f x := by
  unfold j_vl at h; split at h
  · exact ⟨_, rfl, h⟩
  · exact h.elim
theorem j_vr_p {f : Nat → Prop} {v : Value} (h : j_vr False f v) : ∃ x, v = .ref x ∧ f x := by
  unfold j_vr at h; split at h
  · exact ⟨_, rfl, h⟩
  · exact h.elim
theorem j_cond_p {c : Bool} {a : Prop} (h : bif c then a else False) : c = true ∧ a := by
  cases c with
  | true => exact ⟨rfl, h⟩
  | false => exact h.elim
theorem j_popk_p {f : List Value → List Value → Prop} : ∀ (n : Nat) (acc st : List Value), j_popk False f n acc st → ∃ as r, as.length = n ∧ st = as.reverse ++ r ∧ f (as ++ acc) r
  | 0, acc, st, h => ⟨[], st, rfl, rfl, h⟩
  | n + 1, acc, x :: r, h => by
    obtain ⟨as, r', h1, h2, h3⟩ := j_popk_p n (x :: acc) r h
    refine ⟨as ++ [x], r', by simp [h1], by simp [h2], ?_⟩
    rw [List.append_assoc]
    exact h3
  | _ + 1, _, [], h => h.elim
theorem j_sw_p {k : Nat → Prop} {d : Nat} {x : Int32} : ∀ (ts : List (Int32 × Nat)), j_sw k d x ts → (∃ (j t : Nat), ts[j]? = some (x, t) ∧ k t) ∨ ((∀ q ∈ ts, ¬ x = q.1) ∧ k d)
  | [], h => Or.inr ⟨fun _ hq => absurd hq List.not_mem_nil, h⟩
  | (c, t) :: r, h => by
    unfold j_sw at h
    by_cases hc : x = c
    · rw [if_pos hc] at h
      exact Or.inl ⟨0, t, by rw [hc]; rfl, h⟩
    · rw [if_neg hc] at h
      rcases j_sw_p r h with ⟨j, t', h1, h2⟩ | ⟨h1, h2⟩
      · exact Or.inl ⟨j + 1, t', h1, h2⟩
      · refine Or.inr ⟨fun q hq => ?_, h2⟩
        rcases List.mem_cons.mp hq with rfl | hq
        · exact hc
        · exact h1 q hq
theorem j_in_p {i : Int32} {n : Nat} (h : j_in i n = true) : vp_in i n := by
  unfold j_in at h
  unfold vp_in
  simp only [Bool.not_eq_true', Bool.or_eq_false_iff, decide_eq_false_iff_not] at h
  rintro (q | q)
  · exact h.1 q
  · have := Nat.ble_eq_true_of_le q
    rw [this] at h
    exact absurd h.2 (by simp)
end
section
/-! ===== fields of the classes as the tables lay them (printed by wip/whole/genlays.py) ===== -/
def j_lps : List (List Nat) := [[427, 429, 431, 433, 435], [375, 377, 379, 381, 383, 385], [162, 164, 166, 168, 170, 172, 174, 176, 178, 180, 182, 184], [213, 215, 217, 219, 221, 223, 225, 227, 229, 231, 233], [310, 312, 314, 316, 318, 320, 322, 324, 326, 328, 330], [279, 281, 283, 285, 287, 289], [252, 254, 256, 258, 260, 262], [349, 351, 353, 355, 357, 359], [401, 403, 405, 407, 409, 411], [455, 457, 459, 461, 463], [477, 479, 481, 483, 485, 487, 489, 491, 493, 495], [1178, 1180, 1182, 1184, 1186, 1188, 1190, 1192, 1194, 1196, 1198, 1200, 1202, 1204, 1206, 1208, 1210, 1212, 1214, 1216, 1218, 1220, 1222, 1224, 1226, 1228, 1230, 1232, 1234, 1236, 1238, 1240, 1242, 1244, 1246, 1248, 1250, 1252, 1254, 1256, 1258, 1260, 1262, 1264, 1266, 1268, 1270]]
set_option maxRecDepth 100000 in
theorem j_lay_0 : j_wok (j_mp j_lps 0) (u_ws (j_cn 0) (j_T 0) (j_Nf 0)) = true := by decide +kernel
set_option maxRecDepth 100000 in
theorem j_lay_1 : j_wok (j_mp j_lps 1) (u_ws (j_cn 1) (j_T 1) (j_Nf 1)) = true := by decide +kernel
set_option maxRecDepth 100000 in
theorem j_lay_2 : j_wok (j_mp j_lps 2) (u_ws (j_cn 2) (j_T 2) (j_Nf 2)) = true := by decide +kernel
set_option maxRecDepth 100000 in
theorem j_lay_3 : j_wok (j_mp j_lps 3) (u_ws (j_cn 3) (j_T 3) (j_Nf 3)) = true := by decide +kernel
set_option maxRecDepth 100000 in
theorem j_lay_4 : j_wok (j_mp j_lps 4) (u_ws (j_cn 4) (j_T 4) (j_Nf 4)) = true := by decide +kernel
set_option maxRecDepth 100000 in
theorem j_lay_5 : j_wok (j_mp j_lps 5) (u_ws (j_cn 5) (j_T 5) (j_Nf 5)) = true := by decide +kernel
set_option maxRecDepth 100000 in
theorem j_lay_6 : j_wok (j_mp j_lps 6) (u_ws (j_cn 6) (j_T 6) (j_Nf 6)) = true := by decide +kernel
set_option maxRecDepth 100000 in
theorem j_lay_7 : j_wok (j_mp j_lps 7) (u_ws (j_cn 7) (j_T 7) (j_Nf 7)) = true := by decide +kernel
set_option maxRecDepth 100000 in
theorem j_lay_8 : j_wok (j_mp j_lps 8) (u_ws (j_cn 8) (j_T 8) (j_Nf 8)) = true := by decide +kernel
set_option maxRecDepth 100000 in
theorem j_lay_9 : j_wok (j_mp j_lps 9) (u_ws (j_cn 9) (j_T 9) (j_Nf 9)) = true := by decide +kernel
set_option maxRecDepth 100000 in
theorem j_lay_10 : j_wok (j_mp j_lps 10) (u_ws (j_cn 10) (j_T 10) (j_Nf 10)) = true := by decide +kernel
set_option maxRecDepth 100000 in
theorem j_lay_11 : j_wok (j_mp j_lps 11) (u_ws (j_cn 11) (j_T 11) (j_Nf 11)) = true := by decide +kernel
theorem j_12 {P : Nat → Prop} (h0 : P 0) (h1 : P 1) (h2 : P 2) (h3 : P 3) (h4 : P 4) (h5 : P 5) (h6 : P 6) (h7 : P 7) (h8 : P 8) (h9 : P 9) (h10 : P 10) (h11 : P 11) (a : Nat) (h : a < 12) : P a := by
  match a, h with
  | 0, _ => exact h0
  | 1, _ => exact h1
  | 2, _ => exact h2
  | 3, _ => exact h3
  | 4, _ => exact h4
  | 5, _ => exact h5
  | 6, _ => exact h6
  | 7, _ => exact h7
  | 8, _ => exact h8
  | 9, _ => exact h9
  | 10, _ => exact h10
  | 11, _ => exact h11
theorem j_lay (a : Nat) (h : a < 12) : j_wok (j_mp j_lps a) (u_ws (j_cn a) (j_T a) (j_Nf a)) = true := j_12 (P := fun a => j_wok (j_mp j_lps a) (u_ws (j_cn a) (j_T a) (j_Nf a)) = true) j_lay_0 j_lay_1 j_lay_2 j_lay_3 j_lay_4 j_lay_5 j_lay_6 j_lay_7 j_lay_8 j_lay_9 j_lay_10 j_lay_11 a h
theorem j_cl (a : Nat) (h : a < 12) : vwCl[a]? = some (j_cn a, j_T a, j_Nf a) := j_12 (P := fun a => vwCl[a]? = some (j_cn a, j_T a, j_Nf a)) rfl rfl rfl rfl rfl rfl rfl rfl rfl rfl rfl rfl a h
theorem j_tyok (a : Nat) (h : a < 12) : ∀ k, k < j_Nf a → parseFieldDescriptor (j_T a k).2.2.1 = some (j_ty a k) := j_12 (P := fun a => ∀ k, k < j_Nf a → parseFieldDescriptor (j_T a k).2.2.1 = some (j_ty a k)) tyX0_ok tyX1_ok tyX2_ok tyX3_ok tyX4_ok tyX5_ok tyX6_ok tyX7_ok tyX8_ok tyX9_ok tyX10_ok tyX11_ok a h
theorem j_nmok (a : Nat) (h : a < 12) : ∀ x, x < j_Nf a → ∀ y, y < j_Nf a → x ≠ y → (j_T a x).2.1 ≠ (j_T a y).2.1 := j_12 (P := fun a => ∀ x, x < j_Nf a → ∀ y, y < j_Nf a → x ≠ y → (j_T a x).2.1 ≠ (j_T a y).2.1) nmX0 nmX1 nmX2 nmX3 nmX4 nmX5 nmX6 nmX7 nmX8 nmX9 nmX10 nmX11 a h
set_option maxRecDepth 100000 in
theorem j_tys3 : ∀ a, a < 12 → ∀ k, k < j_Nf a → (j_ty a k = .int ∨ j_ty a k = .boolean ∨ j_isref (j_ty a k) = true) := by decide +kernel
def j_ips : List Nat := [415, 363, 109, 189, 293, 266, 237, 334, 389, 440, 101, 1126]
def j_nps : List Nat := [94, 92, 86, 87, 90, 89, 88, 91, 93, 95, 85, 96]
set_option maxRecDepth 100000 in
theorem j_inst : ∀ a, a < 12 → (j_hw (j_ips.getD a 9999) (.instantiable (j_cn a) (j_Nf a)) && j_hw (j_nps.getD a 9999) (.initialized (j_cn a))) = true := by decide +kernel
def j_fix : List Cond := [.arrayClass .int, .arrayClass .long, .native arraycopyName, .static arraycopyName, .initialized "java/lang/System", .static Lib.Math.max.name, .initialized "java/lang/Math", .code Lib.Math.max.name Lib.Math.max.code 2 (some .int), .static Lib.Math.min.name, .code Lib.Math.min.name Lib.Math.min.code 2 (some .int), .static Lib.MathLoose.min_long.x, .code Lib.MathLoose.min_long.x Lib.MathLoose.min_long.code 4 (some .long), .instanceMethod objectInit, .code objectInit ⟨#[0xb1]⟩ 1 none]
set_option maxRecDepth 100000 in
theorem j_fix_ok : j_wok [187, 466, 568, 567, 97, 591, 98, 592, 620, 621, 789, 790, 106, 107] j_fix = true := by decide +kernel
end
section
/-! ===== words of the tables, for every state (own text; rows printed by wip/whole/gentabs.py) ===== -/
def j_big : List Cond := lw_tbl.filter goodWord
theorem j_hw_mem {p : Nat} {w : Cond} (h : j_hw p w = true) : w ∈ j_big := by
  unfold j_hw j_hn at h
  rw [Bool.and_eq_true, decide_eq_true_eq] at h
  exact List.mem_filter.mpr ⟨List.mem_of_getElem? h.1, h.2⟩
theorem j_hn_mem {p : Nat} {w : Cond} (h : j_hn p w = true) : w ∈ lw_tbl := by
  unfold j_hn at h
  rw [decide_eq_true_eq] at h
  exact List.mem_of_getElem? h
theorem j_wok_mem : ∀ (ps : List Nat) (ws : List Cond), j_wok ps ws = true → ∀ w ∈ ws, w ∈ j_big
  | _, [], _, _, h => absurd h List.not_mem_nil
  | [], _ :: _, h, _, _ => by cases h
  | p :: ps, w :: ws, h, x, hx => by
    unfold j_wok at h
    rw [Bool.and_eq_true] at h
    rcases List.mem_cons.mp hx with rfl | hx
    · exact j_hw_mem h.1
    · exact j_wok_mem ps ws h.2 x hx
theorem j_zip_mem {β : Type} {f : Nat → β → Bool} : ∀ (ps : List Nat) (xs : List β), j_zip f ps xs = true → ∀ (k : Nat) (x : β), xs[k]? = some x → ∃ p, f p x = true
  | _, [], _, _, _, h => by simp at h
  | [], _ :: _, h, _, _, _ => by cases h
  | p :: ps, y :: ys, h, k, x, hx => by
    unfold j_zip at h
    rw [Bool.and_eq_true] at h
    cases k with
    | zero =>
      have : y = x := by simpa using hx
      subst this
      exact ⟨p, h.1⟩
    | succ k =>
      rw [List.getElem?_cons_succ] at hx
      exact j_zip_mem ps ys h.2 k x hx
theorem j_chunk {β : Type} {l : List β} {p a n : Nat} {q : β} (h : l[p]? = some q) (ha : a ≤ p) (hn : p < a + n) : ((l.drop a).take n)[p - a]? = some q := by
  rw [List.getElem?_take, if_pos (by omega), List.getElem?_drop, show a + (p - a) = p by omega]
  exact h
theorem j_FL_ok {k : Nat} {q : Nat × Nat × Nat × Nat} (h : j_FL[k]? = some q) : ∃ p, j_hw p (j_wFL q) = true := by
  have hk : k < 195 := (List.getElem?_eq_some_iff.mp h).1
  rcases Nat.lt_or_ge k 40 with h40 | h40
  · exact j_zip_mem _ _ j_FL_0 _ _ (j_chunk h (by omega) (by omega))
  rcases Nat.lt_or_ge k 80 with h80 | h80
  · exact j_zip_mem _ _ j_FL_40 _ _ (j_chunk h (by omega) (by omega))
  rcases Nat.lt_or_ge k 120 with h120 | h120
  · exact j_zip_mem _ _ j_FL_80 _ _ (j_chunk h (by omega) (by omega))
  rcases Nat.lt_or_ge k 160 with h160 | h160
  · exact j_zip_mem _ _ j_FL_120 _ _ (j_chunk h (by omega) (by omega))
  rcases Nat.lt_or_ge k 195 with h195 | h195
  · exact j_zip_mem _ _ j_FL_160 _ _ (j_chunk h (by omega) (by omega))
  omega
theorem j_ML_ok {k : Nat} {q : Nat × Nat × Nat × Nat} (h : j_ML[k]? = some q) : ∃ p, (bif Nat.beq q.2.2.2 0 then j_hw p (j_wML q) else j_hn p (j_wML q)) = true := by
  have hk : k < 190 := (List.getElem?_eq_some_iff.mp h).1
  rcases Nat.lt_or_ge k 40 with h40 | h40
  · exact j_zip_mem _ _ j_ML_0 _ _ (j_chunk h (by omega) (by omega))
  rcases Nat.lt_or_ge k 80 with h80 | h80
  · exact j_zip_mem _ _ j_ML_40 _ _ (j_chunk h (by omega) (by omega))
  rcases Nat.lt_or_ge k 120 with h120 | h120
  · exact j_zip_mem _ _ j_ML_80 _ _ (j_chunk h (by omega) (by omega))
  rcases Nat.lt_or_ge k 160 with h160 | h160
  · exact j_zip_mem _ _ j_ML_120 _ _ (j_chunk h (by omega) (by omega))
  rcases Nat.lt_or_ge k 190 with h190 | h190
  · exact j_zip_mem _ _ j_ML_160 _ _ (j_chunk h (by omega) (by omega))
  omega
theorem j_CL_ok {k : Nat} {q : Nat × Nat × Nat} (h : j_CL[k]? = some q) : ∃ p, j_hw p (j_wCL q) = true := by
  have hk : k < 10 := (List.getElem?_eq_some_iff.mp h).1
  rcases Nat.lt_or_ge k 10 with h10 | h10
  · exact j_zip_mem _ _ j_CL_0 _ _ (j_chunk h (by omega) (by omega))
  omega
theorem j_KI_ok {k : Nat} {q : Nat × Nat × Int32} (h : j_KI[k]? = some q) : ∃ p, j_hw p (j_wKI q) = true := by
  have hk : k < 5 := (List.getElem?_eq_some_iff.mp h).1
  rcases Nat.lt_or_ge k 5 with h5 | h5
  · exact j_zip_mem _ _ j_KI_0 _ _ (j_chunk h (by omega) (by omega))
  omega
theorem j_KL_ok {k : Nat} {q : Nat × Nat × Int64} (h : j_KL[k]? = some q) : ∃ p, j_hw p (j_wKL q) = true := by
  have hk : k < 18 := (List.getElem?_eq_some_iff.mp h).1
  rcases Nat.lt_or_ge k 18 with h18 | h18
  · exact j_zip_mem _ _ j_KL_0 _ _ (j_chunk h (by omega) (by omega))
  omega
theorem j_NL_ok {k : Nat} {q : Nat × Nat × Nat} (h : j_NL[k]? = some q) : ∃ p, j_hw p (j_wNL q) = true := by
  have hk : k < 12 := (List.getElem?_eq_some_iff.mp h).1
  rcases Nat.lt_or_ge k 12 with h12 | h12
  · exact j_zip_mem _ _ j_NL_0 _ _ (j_chunk h (by omega) (by omega))
  omega
theorem j_OL_ok {k : Nat} {q : Nat × Nat} (h : j_OL[k]? = some q) : ∃ p, j_hw p (j_wOL q) = true := by
  have hk : k < 12 := (List.getElem?_eq_some_iff.mp h).1
  rcases Nat.lt_or_ge k 12 with h12 | h12
  · exact j_zip_mem _ _ j_OL_0 _ _ (j_chunk h (by omega) (by omega))
  omega
theorem j_SL_ok {k : Nat} {q : Nat × Nat × Nat} (h : j_SL[k]? = some q) : ∃ p, j_hw p (j_wSL q) = true := by
  have hk : k < 2 := (List.getElem?_eq_some_iff.mp h).1
  rcases Nat.lt_or_ge k 2 with h2 | h2
  · exact j_zip_mem _ _ j_SL_0 _ _ (j_chunk h (by omega) (by omega))
  omega
theorem j_mok_words {i : Nat} (hi : i < j_cnt) : ∀ w ∈ j_ws1 (j_info i), w ∈ j_big := by
  have h := j_mok_all i hi
  unfold j_mok at h
  simp only [Bool.and_eq_true] at h
  exact j_wok_mem _ _ h.1.1.1.1.1.1.1
theorem j_code_mem {i : Nat} (hi : i < j_cnt) : Cond.code (j_info i).1 (j_info i).2.1 (j_info i).2.2.1 (j_info i).2.2.2.1 ∈ j_big := j_mok_words hi _ (by simp [j_ws1])
theorem j_ini_mem {i : Nat} (hi : i < j_cnt) : Cond.initialized (j_info i).1.cls ∈ j_big := j_mok_words hi _ (by simp [j_ws1])
theorem j_sta_mem {i : Nat} (hi : i < j_cnt) (h : Nat.beq (j_info i).2.2.2.2.2.2 0 = true) : Cond.static (j_info i).1 ∈ j_big := j_mok_words hi _ (by simp [j_ws1, h])
theorem j_vir_mem {i : Nat} (hi : i < j_cnt) (h : Nat.beq (j_info i).2.2.2.2.2.2 1 = true) : Cond.instanceMethod (j_info i).1 ∈ j_big ∧ Cond.selects (j_info i).1.cls (j_info i).1 (j_info i).1 ∈ j_big := by
  have e : (j_info i).2.2.2.2.2.2 = 1 := Nat.eq_of_beq_eq_true h
  have e0 : Nat.beq (j_info i).2.2.2.2.2.2 0 = false := by rw [e]; rfl
  exact ⟨j_mok_words hi _ (by simp [j_ws1, h, e0]), j_mok_words hi _ (by simp [j_ws1, h, e0])⟩
theorem j_con_mem {i : Nat} (hi : i < j_cnt) (h : Nat.beq (j_info i).2.2.2.2.2.2 2 = true) : Cond.instanceMethod (j_info i).1 ∈ j_big := by
  have e : (j_info i).2.2.2.2.2.2 = 2 := Nat.eq_of_beq_eq_true h
  have e0 : Nat.beq (j_info i).2.2.2.2.2.2 0 = false := by rw [e]; rfl
  have e1 : Nat.beq (j_info i).2.2.2.2.2.2 1 = false := by rw [e]; rfl
  exact j_mok_words hi _ (by simp [j_ws1, e0, e1])
theorem j_mok_facts {i : Nat} (hi : i < j_cnt) : plainName (j_info i).1.cls = true ∧ (j_info i).2.2.1 ≤ 30 ∧ (j_info i).1.cls ≠ "java/lang/invoke/MethodHandle" ∧ (j_info i).1.cls ≠ "java/lang/invoke/VarHandle" ∧ (parseMethodDescriptor (j_info i).1.desc).map (fun d => d.parameters.length) = some (j_info i).2.2.2.2.2.1 ∧ (j_info i).1.cls = j_cn (j_info i).2.2.2.2.1 ∧ (Nat.beq (j_info i).2.2.2.2.2.2 2 = true → (j_info i).1.name = "<init>" ∧ (j_info i).2.2.2.1 = none) := by
  have h := j_mok_all i hi
  unfold j_mok at h
  simp only [Bool.and_eq_true, Bool.or_eq_true, Bool.not_eq_true', decide_eq_true_eq] at h
  obtain ⟨⟨⟨⟨⟨⟨⟨-, h2⟩, h3⟩, h4⟩, h5⟩, h6⟩, h7⟩, h8⟩ := h
  refine ⟨h2, Nat.le_of_ble_eq_true h3, h4, h5, h6, h7, fun z => ?_⟩
  rcases h8 with h8 | h8
  · rw [z] at h8; cases h8
  · exact h8
def j_wds (i : Nat) : List Cond := Cond.code (j_info i).1 (j_info i).2.1 (j_info i).2.2.1 (j_info i).2.2.2.1 :: j_big
theorem j_good : ∀ w ∈ j_big, ((w.onTables && w.keeps) = true ∨ ∃ ty, w = .arrayClass ty) := fun w h => good_of_word (List.mem_filter.mp h).2
theorem j_goodIn {i : Nat} (hi : i < j_cnt) : GoodIn j_big (j_wds i) := by
  intro w hw
  rcases List.mem_cons.mp hw with rfl | h
  · exact ⟨j_code_mem hi, j_good _ (j_code_mem hi)⟩
  · exact ⟨h, j_good w h⟩
theorem j_fix_mem : ∀ w ∈ j_fix, w ∈ j_big := j_wok_mem _ _ j_fix_ok
theorem j_lay_mem {a : Nat} (h : a < 12) : ∀ w ∈ u_ws (j_cn a) (j_T a) (j_Nf a), w ∈ j_big := j_wok_mem _ _ (j_lay a h)
def j_nw : List Cond := lw_tbl.filter (fun w => match w with | .methodLinkNest .. => true | _ => false)
theorem j_ML_ok0 {k c x a : Nat} (h : j_ML[k]? = some (c, x, a, 0)) : Cond.methodLink (j_cn c) x (j_info a).1 ∈ j_big := by
  obtain ⟨p, hp⟩ := j_ML_ok h
  exact j_hw_mem hp
theorem j_ML_ok1 {k c x a : Nat} (h : j_ML[k]? = some (c, x, a, 1)) : Cond.methodLinkNest (j_cn c) x (j_info a).1 RX10 ∈ j_nw := by
  obtain ⟨p, hp⟩ := j_ML_ok h
  exact List.mem_filter.mpr ⟨j_hn_mem hp, rfl⟩
end
section
/-! ===== soundness: definitions, and steps that leave the heap alone (own text) ===== -/
abbrev j_A (B : Nat) : Nat → Prop := fun q => B ≤ q
/-- what is known of a state's tables, and of the static rows -/
def j_X (B tA tO : Nat) (dC : Nat → ClassId) (dI : Nat → Nat → Nat) (cI cJ cR : ClassId) (U : State) : Prop :=
  va_K (dC, dI) vwCl [(cI, .int), (cJ, .long), (cR, .object RX9)] U ∧ (∀ w ∈ j_nw, va_Nw w U) ∧ va_AO RX9 U ∧
  va_Z RX0 "ABOVE" "[I" (.ref tA) (j_A B) U U.heap ∧ va_Z RX0 "OWN" "[I" (.ref tO) (j_A B) U U.heap ∧
  va_T .int tA 8 (fun k => .int (j_tg j_T0 k)) (j_A B) U U.heap ∧ va_T .int tO 32 (fun k => .int (j_tg j_T1 k)) (j_A B) U U.heap
theorem j_X.warm {B tA tO : Nat} {dC : Nat → ClassId} {dI : Nat → Nat → Nat} {cI cJ cR : ClassId} {s U : State} (h : j_X B tA tO dC dI cI cJ cR s) (hW : s.WarmedH U.vm) (hq : ∀ a : Nat, a < s.heap.size → ¬ j_A B a → U.heap[a]? = s.heap[a]?) : j_X B tA tO dC dI cI cJ cR U := by
  obtain ⟨h1, h2, h3, h4, h5, h6, h7⟩ := h
  refine ⟨va_K.moved hW.alike h1, fun w hw => ?_, va_AO.moved hW.alike h3, (va_Z.moved hW.alike h4).kept hq, (va_Z.moved hW.alike h5).kept hq, (va_T.moved hW.alike h6).kept hq, (va_T.moved hW.alike h7).kept hq⟩
  have hm := (List.mem_filter.mp hw).2
  cases w <;> first | (cases hm; done) | exact va_Nw.warmM hW (h2 _ hw)
theorem j_X.calling {B tA tO : Nat} {dC : Nat → ClassId} {dI : Nat → Nat → Nat} {cI cJ cR : ClassId} {U : State} (g : JFrame) (mk : MethodId) (a : Array Value) (h : j_X B tA tO dC dI cI cJ cR U) : j_X B tA tO dC dI cI cJ cR (U.calling g mk a) := by
  obtain ⟨h1, h2, h3, h4, h5, h6, h7⟩ := h
  have hv : U.vm.Alike (U.calling g mk a).vm := Vm.Alike.refl U.vm
  refine ⟨va_K.moved hv h1, fun w hw => ?_, va_AO.moved hv h3, va_Z.moved hv h4, va_Z.moved hv h5, va_T.moved hv h6, va_T.moved hv h7⟩
  have hm := (List.mem_filter.mp hw).2
  cases w <;> first | (cases hm; done) | exact va_Nw.same rfl rfl (h2 _ hw)
def j_Q (B tA tO : Nat) (dC : Nat → ClassId) (dI : Nat → Nat → Nat) (cI cJ cR : ClassId) (r : j_R) : Array Value → State → Outcome → State → Prop := fun _ st o t => o = .returned r.1 ∧ va_P (dC, dI) vwCl (j_ws B tA tO cI cJ cR r.2) t.heap ∧ va_F (j_A B) st t
def j_Cx (p : Program) (R : Room) (s : State) (m : MethodId) (args : Array Value) (meth : Method) (c : Code) (i d : Nat) : Prop :=
  p.tables.exec = Jvm.exec ∧ c.code = (j_info i).2.1 ∧ c.maxLocals = (j_info i).2.2.1 ∧ meth.sig.returnType = (j_info i).2.2.2.1 ∧ meth.locks = false ∧ s.vm.findClass (j_info i).1.cls = some m.cls ∧ (∀ w ∈ j_big, w.before args s = true) ∧
  (Nat.beq (j_info i).2.2.2.2.2.2 2 = true → meth.name = "<init>") ∧ R.frames = d + 1 ∧ R.locals = 60 * (d + 1)
section JG
variable {l : Launch} {B tA tO : Nat} {dC : Nat → ClassId} {dI : Nat → Nat → Nat} {cI cJ cR : ClassId}
def j_le2 (me : j_Me) (r : j_R) : Prop := me.1.length ≤ r.2.1.length ∧ j_sz me.1 ≤ j_sz r.2.1
/-- from here a frame of method i comes to its end with r -/
def j_G (l : Launch) (B tA tO : Nat) (dC : Nat → ClassId) (dI : Nat → Nat → Nat) (cI cJ cR : ClassId) (i d : Nat) (r : j_R) (pc : Nat) (L st : List Value) (me : j_Me) : Prop :=
  j_le2 me r ∧ ∀ (p : Program) (e : Env) (R : Room) (s : State) (m : MethodId) (args : Array Value) (below : List Frame) (meth : Method) (c : Code) (n0 z0 : Nat), j_Cx p R s m args meth c i d → j_X B tA tO dC dI cI cJ cR s → R.cells = r.2.1.length - n0 → R.slots = j_sz r.2.1 - z0 → s.heap.size = B + n0 →
    ∀ (H : Heap) (locs : List Loc) (cells slots : Nat) (ls : Array Slot), va_P (dC, dI) vwCl (j_ws B tA tO cI cJ cR me) H → va_S (j_A B) s.heap H locs → me.1.length = n0 + cells → j_sz me.1 = z0 + slots → lv_has ls (j_info i).2.2.1 (j_as (L.map (j_tr B tA tO))) →
      W p l e R s m args below meth c H locs cells slots (MQ below (j_Q B tA tO dC dI cI cJ cR r) args s (r.2.1.length - n0) (j_sz r.2.1 - z0) (j_A B)) (F0 m pc ls (st.map (j_tr B tA tO)))
/-- a step that leaves heap and locals alone -/
theorem j_G.pure {i d : Nat} {r : j_R} {pc pc' : Nat} {L st st' : List Value} {me : j_Me} (k : j_G l B tA tO dC dI cI cJ cR i d r pc' L st' me)
    (h : ∀ (p : Program) (e : Env) (R : Room) (s : State) (m : MethodId) (args : Array Value) (below : List Frame) (meth : Method) (c : Code) (H : Heap) (locs : List Loc) (cells slots : Nat) (ls : Array Slot) (Q : State → Prop), j_Cx p R s m args meth c i d → lv_has ls (j_info i).2.2.1 (j_as (L.map (j_tr B tA tO))) →
      W p l e R s m args below meth c H locs cells slots Q (F0 m pc' ls (st'.map (j_tr B tA tO))) → W p l e R s m args below meth c H locs cells slots Q (F0 m pc ls (st.map (j_tr B tA tO)))) : j_G l B tA tO dC dI cI cJ cR i d r pc L st me :=
  ⟨k.1, fun p e R s m args below meth c n0 z0 C X r1 r2 hs H locs cells slots ls hP hS hn hz hl => h p e R s m args below meth c H locs cells slots ls _ C hl (k.2 p e R s m args below meth c n0 z0 C X r1 r2 hs H locs cells slots ls hP hS hn hz hl)⟩
/-- a step that changes the locals alone -/
theorem j_G.loc {i d : Nat} {r : j_R} {pc pc' : Nat} {L L' st st' : List Value} {me : j_Me} (k : j_G l B tA tO dC dI cI cJ cR i d r pc' L' st' me)
    (h : ∀ (p : Program) (e : Env) (R : Room) (s : State) (m : MethodId) (args : Array Value) (below : List Frame) (meth : Method) (c : Code) (H : Heap) (locs : List Loc) (cells slots : Nat) (ls : Array Slot) (Q : State → Prop), j_Cx p R s m args meth c i d → lv_has ls (j_info i).2.2.1 (j_as (L.map (j_tr B tA tO))) →
      (∀ ls' : Array Slot, lv_has ls' (j_info i).2.2.1 (j_as (L'.map (j_tr B tA tO))) → W p l e R s m args below meth c H locs cells slots Q (F0 m pc' ls' (st'.map (j_tr B tA tO)))) → W p l e R s m args below meth c H locs cells slots Q (F0 m pc ls (st.map (j_tr B tA tO)))) : j_G l B tA tO dC dI cI cJ cR i d r pc L st me :=
  ⟨k.1, fun p e R s m args below meth c n0 z0 C X r1 r2 hs H locs cells slots ls hP hS hn hz hl => h p e R s m args below meth c H locs cells slots ls _ C hl (fun ls' hl' => k.2 p e R s m args below meth c n0 z0 C X r1 r2 hs H locs cells slots ls' hP hS hn hz hl')⟩
theorem j_G.fg {i d : Nat} {r : j_R} {pc : Nat} {L st : List Value} {me : j_Me} (cuts : List (Nat × List Bool)) (k : j_G l B tA tO dC dI cI cJ cR i d r pc (j_fg cuts pc L) st me) : j_G l B tA tO dC dI cI cJ cR i d r pc L st me :=
  ⟨k.1, fun p e R s m args below meth c n0 z0 C X r1 r2 hs H locs cells slots ls hP hS hn hz hl => k.2 p e R s m args below meth c n0 z0 C X r1 r2 hs H locs cells slots ls hP hS hn hz (j_lv_of hl (j_map_get (j_fg_get cuts pc L)))⟩
/-- a local is held -/
theorem j_held {ls : Array Slot} {n a : Nat} {L : List Value} {v : Value} (hl : lv_has ls n (j_as (L.map (j_tr B tA tO)))) (h : j_lg L a = v) (hv : v ≠ .null) : ls[a]? = some (.val (j_tr B tA tO v)) := by
  refine hl.2.2 (a, j_tr B tA tO v) (j_as_mem.mpr ⟨?_, fun e => hv (j_tr_null.mp e)⟩)
  show (L.map (j_tr B tA tO))[a]? = _
  rw [List.getElem?_map, j_lg_get h hv]
  rfl
theorem j_held_pos {ls : Array Slot} {n a : Nat} {L : List Value} {v : Value} (_ : lv_has ls n (j_as (L.map (j_tr B tA tO)))) (h : j_lg L a = v) (hv : v ≠ .null) : ∃ k : Nat, (j_as (L.map (j_tr B tA tO)))[k]? = some (a, j_tr B tA tO v) := by
  refine List.getElem?_of_mem (j_as_mem.mpr ⟨?_, fun e => hv (j_tr_null.mp e)⟩)
  show (L.map (j_tr B tA tO))[a]? = _
  rw [List.getElem?_map, j_lg_get h hv]
  rfl
section STEPS
variable {i d : Nat} {r : j_R} {pc a : Nat} {L st : List Value} {me : j_Me}
theorem g_iconst {n : Int} (hd : decode (j_info i).2.1 pc = .ok (.iconst n, 1)) (k : j_G l B tA tO dC dI cI cJ cR i d r (pc + 1) L (.int (Int32.ofInt n) :: st) me) : j_G l B tA tO dC dI cI cJ cR i d r pc L st me := k.pure fun _ _ _ _ _ _ _ _ _ _ _ _ _ _ _ C _ z => lv_iconst C.1 C.2.1 hd rfl z
theorem g_bipush {n : Int} (hd : decode (j_info i).2.1 pc = .ok (.bipush n, 2)) (k : j_G l B tA tO dC dI cI cJ cR i d r (pc + 2) L (.int (Int8.ofInt n).toInt32 :: st) me) : j_G l B tA tO dC dI cI cJ cR i d r pc L st me := k.pure fun _ _ _ _ _ _ _ _ _ _ _ _ _ _ _ C _ z => lv_bipush C.1 C.2.1 hd rfl z
theorem g_sipush {n : Int} (hd : decode (j_info i).2.1 pc = .ok (.sipush n, 3)) (k : j_G l B tA tO dC dI cI cJ cR i d r (pc + 3) L (.int (Int16.ofInt n).toInt32 :: st) me) : j_G l B tA tO dC dI cI cJ cR i d r pc L st me := k.pure fun _ _ _ _ _ _ _ _ _ _ _ _ _ _ _ C _ z => lv_sipush C.1 C.2.1 hd rfl z
theorem g_lconst {n : Fin 2} (hd : decode (j_info i).2.1 pc = .ok (.lconst n, 1)) (k : j_G l B tA tO dC dI cI cJ cR i d r (pc + 1) L (.long (Int64.ofNat n.val) :: st) me) : j_G l B tA tO dC dI cI cJ cR i d r pc L st me := k.pure fun _ _ _ _ _ _ _ _ _ _ _ _ _ _ _ C _ z => lv_lconst C.1 C.2.1 hd rfl z
theorem g_ldc {n : Nat} {x : Int32} (hd : decode (j_info i).2.1 pc = .ok (.ldc n, 2)) (hw : Cond.constant (j_info i).1.cls n x ∈ j_big) (k : j_G l B tA tO dC dI cI cJ cR i d r (pc + 2) L (.int x :: st) me) : j_G l B tA tO dC dI cI cJ cR i d r pc L st me := k.pure fun _ _ _ _ _ _ _ _ _ _ _ _ _ _ _ C _ z => lv_ldc C.1 C.2.1 C.2.2.2.2.2.1 (C.2.2.2.2.2.2.1 _ hw) hd z
theorem g_ldc_w {n : Nat} {x : Int32} (hd : decode (j_info i).2.1 pc = .ok (.ldc_w n, 3)) (hw : Cond.constant (j_info i).1.cls n x ∈ j_big) (k : j_G l B tA tO dC dI cI cJ cR i d r (pc + 3) L (.int x :: st) me) : j_G l B tA tO dC dI cI cJ cR i d r pc L st me := k.pure fun _ _ _ _ _ _ _ _ _ _ _ _ _ _ _ C _ z => lv_ldcw C.1 C.2.1 C.2.2.2.2.2.1 (C.2.2.2.2.2.2.1 _ hw) hd z
theorem g_ldc2 {n : Nat} {x : Int64} (hd : decode (j_info i).2.1 pc = .ok (.ldc2_w n, 3)) (hw : Cond.constantLong (j_info i).1.cls n x ∈ j_big) (k : j_G l B tA tO dC dI cI cJ cR i d r (pc + 3) L (.long x :: st) me) : j_G l B tA tO dC dI cI cJ cR i d r pc L st me := k.pure fun _ _ _ _ _ _ _ _ _ _ _ _ _ _ _ C _ z => lv_ldc2 C.1 C.2.1 C.2.2.2.2.2.1 (C.2.2.2.2.2.2.1 _ hw) hd z
theorem g_iload_n {n : Fin 4} {x : Int32} (hd : decode (j_info i).2.1 pc = .ok (.iload_n n, 1)) (ha : n.val = a) (hx : j_lg L a = .int x) (k : j_G l B tA tO dC dI cI cJ cR i d r (pc + 1) L (.int x :: st) me) : j_G l B tA tO dC dI cI cJ cR i d r pc L st me := k.pure fun _ _ _ _ _ _ _ _ _ _ _ _ _ _ _ C hl z => lv_iload_n C.1 C.2.1 hd ha (j_held hl hx (by simp)) z
theorem g_iload {x : Int32} (hd : decode (j_info i).2.1 pc = .ok (.iload a, 2)) (hx : j_lg L a = .int x) (k : j_G l B tA tO dC dI cI cJ cR i d r (pc + 2) L (.int x :: st) me) : j_G l B tA tO dC dI cI cJ cR i d r pc L st me := k.pure fun _ _ _ _ _ _ _ _ _ _ _ _ _ _ _ C hl z => lv_iload C.1 C.2.1 hd (j_held hl hx (by simp)) z
theorem g_lload_n {n : Fin 4} {x : Int64} (hd : decode (j_info i).2.1 pc = .ok (.lload_n n, 1)) (ha : n.val = a) (hx : j_lg L a = .long x) (k : j_G l B tA tO dC dI cI cJ cR i d r (pc + 1) L (.long x :: st) me) : j_G l B tA tO dC dI cI cJ cR i d r pc L st me := k.pure fun _ _ _ _ _ _ _ _ _ _ _ _ _ _ _ C hl z => lv_lload_n C.1 C.2.1 hd ha (j_held hl hx (by simp)) z
theorem g_lload {x : Int64} (hd : decode (j_info i).2.1 pc = .ok (.lload a, 2)) (hx : j_lg L a = .long x) (k : j_G l B tA tO dC dI cI cJ cR i d r (pc + 2) L (.long x :: st) me) : j_G l B tA tO dC dI cI cJ cR i d r pc L st me := k.pure fun _ _ _ _ _ _ _ _ _ _ _ _ _ _ _ C hl z => lv_lload C.1 C.2.1 hd (j_held hl hx (by simp)) z
theorem g_aload_n {n : Fin 4} {x : Nat} (hd : decode (j_info i).2.1 pc = .ok (.aload_n n, 1)) (ha : n.val = a) (hx : j_lg L a = .ref x) (k : j_G l B tA tO dC dI cI cJ cR i d r (pc + 1) L (.ref x :: st) me) : j_G l B tA tO dC dI cI cJ cR i d r pc L st me := k.pure fun _ _ _ _ _ _ _ _ _ _ _ _ _ _ _ C hl z => lv_aload_n C.1 C.2.1 hd ha (j_held hl hx (by simp)) z
theorem g_aload {x : Nat} (hd : decode (j_info i).2.1 pc = .ok (.aload a, 2)) (hx : j_lg L a = .ref x) (k : j_G l B tA tO dC dI cI cJ cR i d r (pc + 2) L (.ref x :: st) me) : j_G l B tA tO dC dI cI cJ cR i d r pc L st me := k.pure fun _ _ _ _ _ _ _ _ _ _ _ _ _ _ _ C hl z => lv_aload C.1 C.2.1 hd (j_held hl hx (by simp)) z
theorem g_istore_n {n : Fin 4} {x : Int32} (hd : decode (j_info i).2.1 pc = .ok (.istore_n n, 1)) (ha : n.val = a) (hn : a < (j_info i).2.2.1) (k : j_G l B tA tO dC dI cI cJ cR i d r (pc + 1) (j_put L a (.int x)) st me) : j_G l B tA tO dC dI cI cJ cR i d r pc L (.int x :: st) me := k.loc fun _ _ _ _ _ _ _ _ _ _ _ _ _ _ _ C hl z => lv_istore_n C.1 C.2.1 hd ha hl hn rfl fun ls' h' => z ls' (j_lv_put (x := .int x) h')
theorem g_istore {x : Int32} (hd : decode (j_info i).2.1 pc = .ok (.istore a, 2)) (hn : a < (j_info i).2.2.1) (k : j_G l B tA tO dC dI cI cJ cR i d r (pc + 2) (j_put L a (.int x)) st me) : j_G l B tA tO dC dI cI cJ cR i d r pc L (.int x :: st) me := k.loc fun _ _ _ _ _ _ _ _ _ _ _ _ _ _ _ C hl z => lv_istore C.1 C.2.1 hd hl hn rfl fun ls' h' => z ls' (j_lv_put (x := .int x) h')
theorem g_lstore_n {n : Fin 4} {x : Int64} (hd : decode (j_info i).2.1 pc = .ok (.lstore_n n, 1)) (ha : n.val = a) (hn : a + 1 < (j_info i).2.2.1) (k : j_G l B tA tO dC dI cI cJ cR i d r (pc + 1) (j_nul (j_put L a (.long x)) (a + 1)) st me) : j_G l B tA tO dC dI cI cJ cR i d r pc L (.long x :: st) me := k.loc fun _ _ _ _ _ _ _ _ _ _ _ _ _ _ _ C hl z => lv_lstore_n C.1 C.2.1 hd ha hl hn rfl fun ls' h' => z ls' (j_lv_put2 (x := .long x) h')
theorem g_lstore {x : Int64} (hd : decode (j_info i).2.1 pc = .ok (.lstore a, 2)) (hn : a + 1 < (j_info i).2.2.1) (k : j_G l B tA tO dC dI cI cJ cR i d r (pc + 2) (j_nul (j_put L a (.long x)) (a + 1)) st me) : j_G l B tA tO dC dI cI cJ cR i d r pc L (.long x :: st) me := k.loc fun _ _ _ _ _ _ _ _ _ _ _ _ _ _ _ C hl z => lv_lstore C.1 C.2.1 hd hl hn rfl fun ls' h' => z ls' (j_lv_put2 (x := .long x) h')
theorem g_astore_n {n : Fin 4} {x : Nat} (hd : decode (j_info i).2.1 pc = .ok (.astore_n n, 1)) (ha : n.val = a) (hn : a < (j_info i).2.2.1) (k : j_G l B tA tO dC dI cI cJ cR i d r (pc + 1) (j_put L a (.ref x)) st me) : j_G l B tA tO dC dI cI cJ cR i d r pc L (.ref x :: st) me := k.loc fun _ _ _ _ _ _ _ _ _ _ _ _ _ _ _ C hl z => lv_astore_n C.1 C.2.1 hd ha hl hn rfl fun ls' h' => z ls' (j_lv_put (x := .ref x) h')
theorem g_astore {x : Nat} (hd : decode (j_info i).2.1 pc = .ok (.astore a, 2)) (hn : a < (j_info i).2.2.1) (k : j_G l B tA tO dC dI cI cJ cR i d r (pc + 2) (j_put L a (.ref x)) st me) : j_G l B tA tO dC dI cI cJ cR i d r pc L (.ref x :: st) me := k.loc fun _ _ _ _ _ _ _ _ _ _ _ _ _ _ _ C hl z => lv_astore C.1 C.2.1 hd hl hn rfl fun ls' h' => z ls' (j_lv_put (x := .ref x) h')
theorem g_iinc {n : Int} {x : Int32} (hd : decode (j_info i).2.1 pc = .ok (.iinc a n, 3)) (hn : a < (j_info i).2.2.1) (hx : j_lg L a = .int x) (k : j_G l B tA tO dC dI cI cJ cR i d r (pc + 3) (j_put L a (.int (x + Int32.ofInt n))) st me) : j_G l B tA tO dC dI cI cJ cR i d r pc L st me := k.loc fun _ _ _ _ _ _ _ _ _ _ _ _ _ _ _ C hl z => by
  obtain ⟨q, hq⟩ := j_held_pos hl hx (by simp)
  exact lv_iinc (v := x + Int32.ofInt n) C.1 C.2.1 hd hl hq rfl hn rfl fun ls' h' => z ls' (j_lv_put (x := .int (x + Int32.ofInt n)) h')
theorem g_iadd {x y : Int32} (hd : decode (j_info i).2.1 pc = .ok (.iadd, 1)) (k : j_G l B tA tO dC dI cI cJ cR i d r (pc + 1) L (.int (x + y) :: st) me) : j_G l B tA tO dC dI cI cJ cR i d r pc L (.int y :: .int x :: st) me := k.pure fun _ _ _ _ _ _ _ _ _ _ _ _ _ _ _ C _ z => lv_iadd C.1 C.2.1 hd z
theorem g_isub {x y : Int32} (hd : decode (j_info i).2.1 pc = .ok (.isub, 1)) (k : j_G l B tA tO dC dI cI cJ cR i d r (pc + 1) L (.int (x - y) :: st) me) : j_G l B tA tO dC dI cI cJ cR i d r pc L (.int y :: .int x :: st) me := k.pure fun _ _ _ _ _ _ _ _ _ _ _ _ _ _ _ C _ z => lv_isub C.1 C.2.1 hd z
theorem g_imul {x y : Int32} (hd : decode (j_info i).2.1 pc = .ok (.imul, 1)) (k : j_G l B tA tO dC dI cI cJ cR i d r (pc + 1) L (.int (x * y) :: st) me) : j_G l B tA tO dC dI cI cJ cR i d r pc L (.int y :: .int x :: st) me := k.pure fun _ _ _ _ _ _ _ _ _ _ _ _ _ _ _ C _ z => lv_imul C.1 C.2.1 hd z
theorem g_iand {x y : Int32} (hd : decode (j_info i).2.1 pc = .ok (.iand, 1)) (k : j_G l B tA tO dC dI cI cJ cR i d r (pc + 1) L (.int (x &&& y) :: st) me) : j_G l B tA tO dC dI cI cJ cR i d r pc L (.int y :: .int x :: st) me := k.pure fun _ _ _ _ _ _ _ _ _ _ _ _ _ _ _ C _ z => lv_iand C.1 C.2.1 hd z
theorem g_ior {x y : Int32} (hd : decode (j_info i).2.1 pc = .ok (.ior, 1)) (k : j_G l B tA tO dC dI cI cJ cR i d r (pc + 1) L (.int (x ||| y) :: st) me) : j_G l B tA tO dC dI cI cJ cR i d r pc L (.int y :: .int x :: st) me := k.pure fun _ _ _ _ _ _ _ _ _ _ _ _ _ _ _ C _ z => lv_ior C.1 C.2.1 hd z
theorem g_ixor {x y : Int32} (hd : decode (j_info i).2.1 pc = .ok (.ixor, 1)) (k : j_G l B tA tO dC dI cI cJ cR i d r (pc + 1) L (.int (x ^^^ y) :: st) me) : j_G l B tA tO dC dI cI cJ cR i d r pc L (.int y :: .int x :: st) me := k.pure fun _ _ _ _ _ _ _ _ _ _ _ _ _ _ _ C _ z => lv_ixor C.1 C.2.1 hd z
theorem g_ishl {x y : Int32} (hd : decode (j_info i).2.1 pc = .ok (.ishl, 1)) (k : j_G l B tA tO dC dI cI cJ cR i d r (pc + 1) L (.int (x <<< (y &&& 31)) :: st) me) : j_G l B tA tO dC dI cI cJ cR i d r pc L (.int y :: .int x :: st) me := k.pure fun _ _ _ _ _ _ _ _ _ _ _ _ _ _ _ C _ z => lv_ishl C.1 C.2.1 hd z
theorem g_ishr {x y : Int32} (hd : decode (j_info i).2.1 pc = .ok (.ishr, 1)) (k : j_G l B tA tO dC dI cI cJ cR i d r (pc + 1) L (.int (x >>> (y &&& 31)) :: st) me) : j_G l B tA tO dC dI cI cJ cR i d r pc L (.int y :: .int x :: st) me := k.pure fun _ _ _ _ _ _ _ _ _ _ _ _ _ _ _ C _ z => lv_ishr C.1 C.2.1 hd z
theorem g_iushr {x y : Int32} (hd : decode (j_info i).2.1 pc = .ok (.iushr, 1)) (k : j_G l B tA tO dC dI cI cJ cR i d r (pc + 1) L (.int (x.toUInt32 >>> (y.toUInt32 &&& Int32.toUInt32 31)).toInt32 :: st) me) : j_G l B tA tO dC dI cI cJ cR i d r pc L (.int y :: .int x :: st) me := k.pure fun _ _ _ _ _ _ _ _ _ _ _ _ _ _ _ C _ z => lv_iushr C.1 C.2.1 hd rfl z
theorem g_idiv {x y : Int32} (hd : decode (j_info i).2.1 pc = .ok (.idiv, 1)) (hy : ¬ y = 0) (k : j_G l B tA tO dC dI cI cJ cR i d r (pc + 1) L (.int (x / y) :: st) me) : j_G l B tA tO dC dI cI cJ cR i d r pc L (.int y :: .int x :: st) me := k.pure fun _ _ _ _ _ _ _ _ _ _ _ _ _ _ _ C _ z => lv_idiv C.1 C.2.1 hd hy z
theorem g_irem {x y : Int32} (hd : decode (j_info i).2.1 pc = .ok (.irem, 1)) (hy : ¬ y = 0) (k : j_G l B tA tO dC dI cI cJ cR i d r (pc + 1) L (.int (x - x / y * y) :: st) me) : j_G l B tA tO dC dI cI cJ cR i d r pc L (.int y :: .int x :: st) me := k.pure fun _ _ _ _ _ _ _ _ _ _ _ _ _ _ _ C _ z => lv_irem C.1 C.2.1 hd hy z
theorem g_ineg {x : Int32} (hd : decode (j_info i).2.1 pc = .ok (.ineg, 1)) (k : j_G l B tA tO dC dI cI cJ cR i d r (pc + 1) L (.int (-x) :: st) me) : j_G l B tA tO dC dI cI cJ cR i d r pc L (.int x :: st) me := k.pure fun _ _ _ _ _ _ _ _ _ _ _ _ _ _ _ C _ z => lv_ineg C.1 C.2.1 hd z
theorem g_ladd {x y : Int64} (hd : decode (j_info i).2.1 pc = .ok (.ladd, 1)) (k : j_G l B tA tO dC dI cI cJ cR i d r (pc + 1) L (.long (x + y) :: st) me) : j_G l B tA tO dC dI cI cJ cR i d r pc L (.long y :: .long x :: st) me := k.pure fun _ _ _ _ _ _ _ _ _ _ _ _ _ _ _ C _ z => lv_ladd C.1 C.2.1 hd z
theorem g_lmul {x y : Int64} (hd : decode (j_info i).2.1 pc = .ok (.lmul, 1)) (k : j_G l B tA tO dC dI cI cJ cR i d r (pc + 1) L (.long (x * y) :: st) me) : j_G l B tA tO dC dI cI cJ cR i d r pc L (.long y :: .long x :: st) me := k.pure fun _ _ _ _ _ _ _ _ _ _ _ _ _ _ _ C _ z => lv_lmul C.1 C.2.1 hd z
theorem g_land {x y : Int64} (hd : decode (j_info i).2.1 pc = .ok (.land, 1)) (k : j_G l B tA tO dC dI cI cJ cR i d r (pc + 1) L (.long (x &&& y) :: st) me) : j_G l B tA tO dC dI cI cJ cR i d r pc L (.long y :: .long x :: st) me := k.pure fun _ _ _ _ _ _ _ _ _ _ _ _ _ _ _ C _ z => lv_land C.1 C.2.1 hd z
theorem g_lor {x y : Int64} (hd : decode (j_info i).2.1 pc = .ok (.lor, 1)) (k : j_G l B tA tO dC dI cI cJ cR i d r (pc + 1) L (.long (x ||| y) :: st) me) : j_G l B tA tO dC dI cI cJ cR i d r pc L (.long y :: .long x :: st) me := k.pure fun _ _ _ _ _ _ _ _ _ _ _ _ _ _ _ C _ z => lv_lor C.1 C.2.1 hd z
theorem g_ldiv {x y : Int64} (hd : decode (j_info i).2.1 pc = .ok (.ldiv, 1)) (hy : ¬ y = 0) (k : j_G l B tA tO dC dI cI cJ cR i d r (pc + 1) L (.long (x / y) :: st) me) : j_G l B tA tO dC dI cI cJ cR i d r pc L (.long y :: .long x :: st) me := k.pure fun _ _ _ _ _ _ _ _ _ _ _ _ _ _ _ C _ z => lv_ldiv C.1 C.2.1 hd hy z
theorem g_lrem {x y : Int64} (hd : decode (j_info i).2.1 pc = .ok (.lrem, 1)) (hy : ¬ y = 0) (k : j_G l B tA tO dC dI cI cJ cR i d r (pc + 1) L (.long (x - x / y * y) :: st) me) : j_G l B tA tO dC dI cI cJ cR i d r pc L (.long y :: .long x :: st) me := k.pure fun _ _ _ _ _ _ _ _ _ _ _ _ _ _ _ C _ z => lv_lrem C.1 C.2.1 hd hy z
theorem g_lshl {x : Int64} {y : Int32} (hd : decode (j_info i).2.1 pc = .ok (.lshl, 1)) (k : j_G l B tA tO dC dI cI cJ cR i d r (pc + 1) L (.long (x <<< (y.toInt64 &&& 63)) :: st) me) : j_G l B tA tO dC dI cI cJ cR i d r pc L (.int y :: .long x :: st) me := k.pure fun _ _ _ _ _ _ _ _ _ _ _ _ _ _ _ C _ z => lv_lshl C.1 C.2.1 hd rfl z
theorem g_lcmp {x y : Int64} (hd : decode (j_info i).2.1 pc = .ok (.lcmp, 1)) (k : j_G l B tA tO dC dI cI cJ cR i d r (pc + 1) L (.int (lg_cmp x y) :: st) me) : j_G l B tA tO dC dI cI cJ cR i d r pc L (.long y :: .long x :: st) me := k.pure fun _ _ _ _ _ _ _ _ _ _ _ _ _ _ _ C _ z => W.lcmp C.1 C.2.1 hd z
theorem g_i2l {x : Int32} (hd : decode (j_info i).2.1 pc = .ok (.i2l, 1)) (k : j_G l B tA tO dC dI cI cJ cR i d r (pc + 1) L (.long x.toInt64 :: st) me) : j_G l B tA tO dC dI cI cJ cR i d r pc L (.int x :: st) me := k.pure fun _ _ _ _ _ _ _ _ _ _ _ _ _ _ _ C _ z => lv_i2l C.1 C.2.1 hd rfl z
theorem g_l2i {x : Int64} (hd : decode (j_info i).2.1 pc = .ok (.l2i, 1)) (k : j_G l B tA tO dC dI cI cJ cR i d r (pc + 1) L (.int x.toInt32 :: st) me) : j_G l B tA tO dC dI cI cJ cR i d r pc L (.long x :: st) me := k.pure fun _ _ _ _ _ _ _ _ _ _ _ _ _ _ _ C _ z => lv_l2i C.1 C.2.1 hd rfl z
theorem g_i2b {x : Int32} (hd : decode (j_info i).2.1 pc = .ok (.i2b, 1)) (k : j_G l B tA tO dC dI cI cJ cR i d r (pc + 1) L (.int x.toInt8.toInt32 :: st) me) : j_G l B tA tO dC dI cI cJ cR i d r pc L (.int x :: st) me := k.pure fun _ _ _ _ _ _ _ _ _ _ _ _ _ _ _ C _ z => lv_i2b C.1 C.2.1 hd rfl z
theorem g_i2s {x : Int32} (hd : decode (j_info i).2.1 pc = .ok (.i2s, 1)) (k : j_G l B tA tO dC dI cI cJ cR i d r (pc + 1) L (.int x.toInt16.toInt32 :: st) me) : j_G l B tA tO dC dI cI cJ cR i d r pc L (.int x :: st) me := k.pure fun _ _ _ _ _ _ _ _ _ _ _ _ _ _ _ C _ z => lv_i2s C.1 C.2.1 hd rfl z
theorem g_dup {v : Value} (hv : v.category = 1) (hd : decode (j_info i).2.1 pc = .ok (.dup, 1)) (k : j_G l B tA tO dC dI cI cJ cR i d r (pc + 1) L (v :: v :: st) me) : j_G l B tA tO dC dI cI cJ cR i d r pc L (v :: st) me := k.pure fun _ _ _ _ _ _ _ _ _ _ _ _ _ _ _ C _ z => lv_dup C.1 C.2.1 hd (by rw [j_tr_cat]; exact hv) z
theorem g_pop {v : Value} (hv : v.category = 1) (hd : decode (j_info i).2.1 pc = .ok (.pop, 1)) (k : j_G l B tA tO dC dI cI cJ cR i d r (pc + 1) L st me) : j_G l B tA tO dC dI cI cJ cR i d r pc L (v :: st) me := k.pure fun _ _ _ _ _ _ _ _ _ _ _ _ _ _ _ C _ z => lv_pop C.1 C.2.1 hd (by rw [j_tr_cat]; exact hv) z
theorem g_dup2 {v w : Value} (hv : v.category = 1) (hw : w.category = 1) (hd : decode (j_info i).2.1 pc = .ok (.dup2, 1)) (k : j_G l B tA tO dC dI cI cJ cR i d r (pc + 1) L (v :: w :: v :: w :: st) me) : j_G l B tA tO dC dI cI cJ cR i d r pc L (v :: w :: st) me := k.pure fun _ _ _ _ _ _ _ _ _ _ _ _ _ _ _ C _ z => lv_dup2_11 C.1 C.2.1 hd (by rw [j_tr_cat]; exact hv) (by rw [j_tr_cat]; exact hw) z
theorem g_goto {off : Int} (hd : decode (j_info i).2.1 pc = .ok (.goto off, 3)) (ht : (pc : Int) + off = (a : Int)) (k : j_G l B tA tO dC dI cI cJ cR i d r a L st me) : j_G l B tA tO dC dI cI cJ cR i d r pc L st me := k.pure fun _ _ _ _ _ _ _ _ _ _ _ _ _ _ _ C _ z => lv_goto C.1 C.2.1 hd ht z
end STEPS
end JG
end
section
/-! ===== soundness: branches, returns, the heap (own text) ===== -/
section JH
variable {l : Launch} {B tA tO : Nat} {dC : Nat → ClassId} {dI : Nat → Nat → Nat} {cI cJ cR : ClassId}
variable {i d : Nat} {r : j_R} {pc a b : Nat} {L st : List Value} {me : j_Me}
theorem j_br_imp {c : Jvm.ClassFile.Cond} {x : Int32} {t f t' f' : Prop} (ht : t → t') (hf : f → f') (h : j_br c x t f) : j_br c x t' f' := by
  unfold j_br at h ⊢
  cases c <;> dsimp only at h ⊢ <;> split at h <;> rename_i q <;> first | (rw [if_pos q]; first | exact ht h | exact hf h) | (rw [if_neg q]; first | exact ht h | exact hf h)
theorem j_bc_imp {c : Jvm.ClassFile.Cond} {x y : Int32} {t f t' f' : Prop} (ht : t → t') (hf : f → f') (h : j_bc c x y t f) : j_bc c x y t' f' := by
  unfold j_bc at h ⊢
  cases c <;> dsimp only at h ⊢ <;> split at h <;> rename_i q <;> first | (rw [if_pos q]; first | exact ht h | exact hf h) | (rw [if_neg q]; first | exact ht h | exact hf h)
theorem j_sw_imp {k k' : Nat → Prop} (hk : ∀ t, k t → k' t) {d : Nat} {x : Int32} : ∀ (ts : List (Int32 × Nat)), j_sw k d x ts → j_sw k' d x ts
  | [], h => hk _ h
  | (c, t) :: q, h => by
    unfold j_sw at h ⊢
    split at h <;> rename_i z
    · rw [if_pos z]
      exact hk _ h
    · rw [if_neg z]
      exact j_sw_imp hk q h
theorem g_if {c : Jvm.ClassFile.Cond} {off : Int} {x : Int32} (hd : decode (j_info i).2.1 pc = .ok (.ifCond c off, 3)) (ht : (pc : Int) + off = (a : Int)) (h : j_br c x (j_G l B tA tO dC dI cI cJ cR i d r a L st me) (j_G l B tA tO dC dI cI cJ cR i d r (pc + 3) L st me)) : j_G l B tA tO dC dI cI cJ cR i d r pc L (.int x :: st) me := by
  cases c
  · by_cases q : x = 0
    · have h : j_G l B tA tO dC dI cI cJ cR i d r a L st me := by unfold j_br at h; dsimp only at h; rwa [if_pos q] at h
      exact h.pure fun _ _ _ _ _ _ _ _ _ _ _ _ _ _ _ C _ z => lv_if_eq C.1 C.2.1 hd ht (fun _ => z) (fun n => absurd q n)
    · have h : j_G l B tA tO dC dI cI cJ cR i d r (pc + 3) L st me := by unfold j_br at h; dsimp only at h; rwa [if_neg q] at h
      exact h.pure fun _ _ _ _ _ _ _ _ _ _ _ _ _ _ _ C _ z => lv_if_eq C.1 C.2.1 hd ht (fun n => absurd n q) (fun _ => z)
  · by_cases q : x = 0
    · have h : j_G l B tA tO dC dI cI cJ cR i d r (pc + 3) L st me := by unfold j_br at h; dsimp only at h; rwa [if_pos q] at h
      exact h.pure fun _ _ _ _ _ _ _ _ _ _ _ _ _ _ _ C _ z => lv_if_ne C.1 C.2.1 hd ht (fun n => absurd q n) (fun _ => z)
    · have h : j_G l B tA tO dC dI cI cJ cR i d r a L st me := by unfold j_br at h; dsimp only at h; rwa [if_neg q] at h
      exact h.pure fun _ _ _ _ _ _ _ _ _ _ _ _ _ _ _ C _ z => lv_if_ne C.1 C.2.1 hd ht (fun _ => z) (fun n => absurd n q)
  · by_cases q : x < 0
    · have h : j_G l B tA tO dC dI cI cJ cR i d r a L st me := by unfold j_br at h; dsimp only at h; rwa [if_pos q] at h
      exact h.pure fun _ _ _ _ _ _ _ _ _ _ _ _ _ _ _ C _ z => lv_if_lt C.1 C.2.1 hd ht (fun _ => z) (fun n => absurd q n)
    · have h : j_G l B tA tO dC dI cI cJ cR i d r (pc + 3) L st me := by unfold j_br at h; dsimp only at h; rwa [if_neg q] at h
      exact h.pure fun _ _ _ _ _ _ _ _ _ _ _ _ _ _ _ C _ z => lv_if_lt C.1 C.2.1 hd ht (fun n => absurd n q) (fun _ => z)
  · by_cases q : 0 ≤ x
    · have h : j_G l B tA tO dC dI cI cJ cR i d r a L st me := by unfold j_br at h; dsimp only at h; rwa [if_pos q] at h
      exact h.pure fun _ _ _ _ _ _ _ _ _ _ _ _ _ _ _ C _ z => lv_if_ge C.1 C.2.1 hd ht (fun _ => z) (fun n => absurd q n)
    · have h : j_G l B tA tO dC dI cI cJ cR i d r (pc + 3) L st me := by unfold j_br at h; dsimp only at h; rwa [if_neg q] at h
      exact h.pure fun _ _ _ _ _ _ _ _ _ _ _ _ _ _ _ C _ z => lv_if_ge C.1 C.2.1 hd ht (fun n => absurd n q) (fun _ => z)
  · by_cases q : 0 < x
    · have h : j_G l B tA tO dC dI cI cJ cR i d r a L st me := by unfold j_br at h; dsimp only at h; rwa [if_pos q] at h
      exact h.pure fun _ _ _ _ _ _ _ _ _ _ _ _ _ _ _ C _ z => lv_if_gt C.1 C.2.1 hd ht (fun _ => z) (fun n => absurd q n)
    · have h : j_G l B tA tO dC dI cI cJ cR i d r (pc + 3) L st me := by unfold j_br at h; dsimp only at h; rwa [if_neg q] at h
      exact h.pure fun _ _ _ _ _ _ _ _ _ _ _ _ _ _ _ C _ z => lv_if_gt C.1 C.2.1 hd ht (fun n => absurd n q) (fun _ => z)
  · by_cases q : x ≤ 0
    · have h : j_G l B tA tO dC dI cI cJ cR i d r a L st me := by unfold j_br at h; dsimp only at h; rwa [if_pos q] at h
      exact h.pure fun _ _ _ _ _ _ _ _ _ _ _ _ _ _ _ C _ z => lv_if_le C.1 C.2.1 hd ht (fun _ => z) (fun n => absurd q n)
    · have h : j_G l B tA tO dC dI cI cJ cR i d r (pc + 3) L st me := by unfold j_br at h; dsimp only at h; rwa [if_neg q] at h
      exact h.pure fun _ _ _ _ _ _ _ _ _ _ _ _ _ _ _ C _ z => lv_if_le C.1 C.2.1 hd ht (fun n => absurd n q) (fun _ => z)
theorem g_icmp {c : Jvm.ClassFile.Cond} {off : Int} {x y : Int32} (hd : decode (j_info i).2.1 pc = .ok (.if_icmp c off, 3)) (ht : (pc : Int) + off = (a : Int)) (h : j_bc c x y (j_G l B tA tO dC dI cI cJ cR i d r a L st me) (j_G l B tA tO dC dI cI cJ cR i d r (pc + 3) L st me)) : j_G l B tA tO dC dI cI cJ cR i d r pc L (.int y :: .int x :: st) me := by
  cases c
  · by_cases q : x = y
    · have h : j_G l B tA tO dC dI cI cJ cR i d r a L st me := by unfold j_bc at h; dsimp only at h; rwa [if_pos q] at h
      exact h.pure fun _ _ _ _ _ _ _ _ _ _ _ _ _ _ _ C _ z => lv_icmp_eq C.1 C.2.1 hd ht (fun _ => z) (fun n => absurd q n)
    · have h : j_G l B tA tO dC dI cI cJ cR i d r (pc + 3) L st me := by unfold j_bc at h; dsimp only at h; rwa [if_neg q] at h
      exact h.pure fun _ _ _ _ _ _ _ _ _ _ _ _ _ _ _ C _ z => lv_icmp_eq C.1 C.2.1 hd ht (fun n => absurd n q) (fun _ => z)
  · by_cases q : x = y
    · have h : j_G l B tA tO dC dI cI cJ cR i d r (pc + 3) L st me := by unfold j_bc at h; dsimp only at h; rwa [if_pos q] at h
      exact h.pure fun _ _ _ _ _ _ _ _ _ _ _ _ _ _ _ C _ z => lv_icmp_ne C.1 C.2.1 hd ht (fun n => absurd q n) (fun _ => z)
    · have h : j_G l B tA tO dC dI cI cJ cR i d r a L st me := by unfold j_bc at h; dsimp only at h; rwa [if_neg q] at h
      exact h.pure fun _ _ _ _ _ _ _ _ _ _ _ _ _ _ _ C _ z => lv_icmp_ne C.1 C.2.1 hd ht (fun _ => z) (fun n => absurd n q)
  · by_cases q : x < y
    · have h : j_G l B tA tO dC dI cI cJ cR i d r a L st me := by unfold j_bc at h; dsimp only at h; rwa [if_pos q] at h
      exact h.pure fun _ _ _ _ _ _ _ _ _ _ _ _ _ _ _ C _ z => lv_icmp_lt C.1 C.2.1 hd ht (fun _ => z) (fun n => absurd q n)
    · have h : j_G l B tA tO dC dI cI cJ cR i d r (pc + 3) L st me := by unfold j_bc at h; dsimp only at h; rwa [if_neg q] at h
      exact h.pure fun _ _ _ _ _ _ _ _ _ _ _ _ _ _ _ C _ z => lv_icmp_lt C.1 C.2.1 hd ht (fun n => absurd n q) (fun _ => z)
  · by_cases q : y ≤ x
    · have h : j_G l B tA tO dC dI cI cJ cR i d r a L st me := by unfold j_bc at h; dsimp only at h; rwa [if_pos q] at h
      exact h.pure fun _ _ _ _ _ _ _ _ _ _ _ _ _ _ _ C _ z => lv_icmp_ge C.1 C.2.1 hd ht (fun _ => z) (fun n => absurd q n)
    · have h : j_G l B tA tO dC dI cI cJ cR i d r (pc + 3) L st me := by unfold j_bc at h; dsimp only at h; rwa [if_neg q] at h
      exact h.pure fun _ _ _ _ _ _ _ _ _ _ _ _ _ _ _ C _ z => lv_icmp_ge C.1 C.2.1 hd ht (fun n => absurd n q) (fun _ => z)
  · by_cases q : y < x
    · have h : j_G l B tA tO dC dI cI cJ cR i d r a L st me := by unfold j_bc at h; dsimp only at h; rwa [if_pos q] at h
      exact h.pure fun _ _ _ _ _ _ _ _ _ _ _ _ _ _ _ C _ z => lv_icmp_gt C.1 C.2.1 hd ht (fun _ => z) (fun n => absurd q n)
    · have h : j_G l B tA tO dC dI cI cJ cR i d r (pc + 3) L st me := by unfold j_bc at h; dsimp only at h; rwa [if_neg q] at h
      exact h.pure fun _ _ _ _ _ _ _ _ _ _ _ _ _ _ _ C _ z => lv_icmp_gt C.1 C.2.1 hd ht (fun n => absurd n q) (fun _ => z)
  · by_cases q : x ≤ y
    · have h : j_G l B tA tO dC dI cI cJ cR i d r a L st me := by unfold j_bc at h; dsimp only at h; rwa [if_pos q] at h
      exact h.pure fun _ _ _ _ _ _ _ _ _ _ _ _ _ _ _ C _ z => lv_icmp_le C.1 C.2.1 hd ht (fun _ => z) (fun n => absurd q n)
    · have h : j_G l B tA tO dC dI cI cJ cR i d r (pc + 3) L st me := by unfold j_bc at h; dsimp only at h; rwa [if_neg q] at h
      exact h.pure fun _ _ _ _ _ _ _ _ _ _ _ _ _ _ _ C _ z => lv_icmp_le C.1 C.2.1 hd ht (fun n => absurd n q) (fun _ => z)
theorem g_tsw {dflt lo hi : Int} {offs : Array Int} {z : Nat} {ts : List (Int32 × Nat)} {x : Int32} (hd : decode (j_info i).2.1 pc = .ok (.tableswitch dflt lo hi offs, z)) (ht : (pc : Int) + dflt = (a : Int)) (hs : hi - lo + 1 = (offs.size : Int)) (hlo : -2147483648 ≤ lo) (hhi : hi ≤ 2147483647) (hts : j_tsok pc lo offs.toList ts = true) (h : j_sw (fun t => j_G l B tA tO dC dI cI cJ cR i d r t L st me) a x ts) : j_G l B tA tO dC dI cI cJ cR i d r pc L (.int x :: st) me := by
  unfold j_tsok at hts
  rw [Bool.and_eq_true, decide_eq_true_eq, List.all_eq_true] at hts
  obtain ⟨e, hp⟩ := hts
  have hat : ∀ j : Nat, j < offs.size → ts[j]? = some (Int32.ofInt (lo + (j : Int)), ((pc : Int) + offs.toList.getD j 0).toNat) := by
    intro j hj
    rw [e, List.getElem?_map, List.getElem?_range (by simpa using hj)]
    rfl
  have hoff : ∀ j : Nat, j < offs.size → offs[j]? = some (offs.toList.getD j 0) := by
    intro j hj
    rw [← Array.getElem?_toList, List.getD_eq_getElem?_getD, List.getElem?_eq_getElem (by simpa using hj)]
    rfl
  have hpos : ∀ j : Nat, j < offs.size → 0 ≤ (pc : Int) + offs.toList.getD j 0 := by
    intro j hj
    have h1 := hoff j hj
    rw [← Array.getElem?_toList] at h1
    exact of_decide_eq_true (hp _ (List.mem_of_getElem? h1))
  have hrng : ∀ j : Nat, j < offs.size → (Int32.ofInt (lo + (j : Int))).toInt = lo + (j : Int) := by
    intro j hj
    exact Int32.toInt_ofInt_of_le (by omega) (by omega)
  rcases j_sw_p ts h with ⟨j, t, h1, h2⟩ | ⟨h1, h2⟩
  · have hj : j < offs.size := by
      have h3 := (List.getElem?_eq_some_iff.mp h1).1
      rw [e] at h3
      simpa using h3
    rw [hat j hj] at h1
    have e1 : Int32.ofInt (lo + (j : Int)) = x := (Prod.mk.inj (Option.some.inj h1)).1
    have e2 : ((pc : Int) + offs.toList.getD j 0).toNat = t := (Prod.mk.inj (Option.some.inj h1)).2
    have e3 : x.toInt = lo + (j : Int) := by rw [← e1]; exact hrng j hj
    refine h2.pure fun _ _ _ _ _ _ _ _ _ _ _ _ _ _ _ C _ z => lv_tableIn C.1 C.2.1 hd (by omega) (by omega) (off := offs.toList.getD j 0) ?_ ?_ z
    · rw [e3, show (lo + (j : Int) - lo).toNat = j by omega]
      exact hoff j hj
    · have := hpos j hj
      omega
  · refine h2.pure fun _ _ _ _ _ _ _ _ _ _ _ _ _ _ _ C _ z => lv_tableOut C.1 C.2.1 hd ?_ ht z
    rcases Int.lt_or_le x.toInt lo with q | q
    · exact Or.inl q
    · rcases Int.lt_or_le hi x.toInt with q2 | q2
      · exact Or.inr q2
      · exfalso
        have hj : (x.toInt - lo).toNat < offs.size := by omega
        refine h1 _ (List.mem_of_getElem? (hat _ hj)) ?_
        apply Int32.toInt_inj.mp
        rw [hrng _ hj]
        omega
theorem j_lsw_off {pc : Nat} {dflt : Int} {a : Nat} {x : Int32} {k : Nat → Prop} (hdf : (pc : Int) + dflt = (a : Int)) : ∀ (prs : List (Int × Int)) (ts : List (Int32 × Nat)), ts = prs.map (fun q => (Int32.ofInt q.1, ((pc : Int) + q.2).toNat)) → (∀ q ∈ prs, 0 ≤ (pc : Int) + q.2 ∧ (Int32.ofInt q.1).toInt = q.1) → j_sw k a x ts → ∃ t : Nat, (pc : Int) + Op.lookupswitch.offset prs dflt x.toInt = (t : Int) ∧ k t
  | [], _, e, _, h => by
    subst e
    exact ⟨a, hdf, h⟩
  | (c, o) :: q, _, e, hp, h => by
    subst e
    have h0 := hp (c, o) List.mem_cons_self
    rw [lookupswitch.offset_cons]
    unfold j_sw at h
    by_cases hc : x = Int32.ofInt c
    · have hx : c = x.toInt := by rw [hc]; exact h0.2.symm
      rw [if_pos hx]
      refine ⟨((pc : Int) + o).toNat, by have := h0.1; omega, ?_⟩
      simpa [hc] using h
    · have hx : ¬ c = x.toInt := fun z => hc (Int32.toInt_inj.mp (by rw [h0.2]; exact z.symm))
      rw [if_neg hx]
      exact j_lsw_off hdf q _ rfl (fun y hy => hp y (List.mem_cons_of_mem _ hy)) (by simpa [hc] using h)
theorem g_lsw {dflt : Int} {prs : Array (Int × Int)} {z : Nat} {ts : List (Int32 × Nat)} {x : Int32} (hd : decode (j_info i).2.1 pc = .ok (.lookupswitch dflt prs, z)) (ht : (pc : Int) + dflt = (a : Int)) (hts : j_lsok pc prs.toList ts = true) (h : j_sw (fun t => j_G l B tA tO dC dI cI cJ cR i d r t L st me) a x ts) : j_G l B tA tO dC dI cI cJ cR i d r pc L (.int x :: st) me := by
  unfold j_lsok at hts
  rw [Bool.and_eq_true, Bool.and_eq_true, decide_eq_true_eq] at hts
  obtain ⟨⟨e, hp⟩, hsrt⟩ := hts
  obtain ⟨t, h1, h2⟩ := j_lsw_off ht prs.toList ts e (fun q hq => by
    have := (List.all_eq_true.mp hp) q hq
    rw [Bool.and_eq_true, decide_eq_true_eq, decide_eq_true_eq] at this
    exact this) h
  exact h2.pure fun _ _ _ _ _ _ _ _ _ _ _ _ _ _ _ C _ z => lv_lookup C.1 C.2.1 hd hsrt rfl h1 z
/-- returns -/
theorem g_iret {x : Int32} (hd : decode (j_info i).2.1 pc = .ok (.ireturn, 1)) (hr : (j_info i).2.2.2.1 = some .int) : j_G l B tA tO dC dI cI cJ cR i d (some (.int x), me) pc L [.int x] me := by
  refine ⟨⟨Nat.le_refl _, Nat.le_refl _⟩, fun p e R s m args below meth c n0 z0 C X r1 r2 hs H locs cells slots ls hP hS hn hz hl => ?_⟩
  have e1 : me.1.length - n0 = cells := by omega
  have e2 : j_sz me.1 - z0 = slots := by omega
  show W p l e R s m args below meth c H locs cells slots (MQ below _ args s (me.1.length - n0) (j_sz me.1 - z0) _) _
  rw [e1, e2]
  exact W.iret C.1 C.2.1 (C.2.2.2.1.trans hr) (fun t ht hW => ⟨rfl, by rw [ht]; exact hP, hS.F ht⟩) hS.2.2 hd (hlocks := C.2.2.2.2.1)
theorem g_zret {x : Int32} (hd : decode (j_info i).2.1 pc = .ok (.ireturn, 1)) (hr : (j_info i).2.2.2.1 = some .boolean) (hx : x = 0 ∨ x = 1) : j_G l B tA tO dC dI cI cJ cR i d (some (.int x), me) pc L [.int x] me := by
  refine ⟨⟨Nat.le_refl _, Nat.le_refl _⟩, fun p e R s m args below meth c n0 z0 C X r1 r2 hs H locs cells slots ls hP hS hn hz hl => ?_⟩
  have e1 : me.1.length - n0 = cells := by omega
  have e2 : j_sz me.1 - z0 = slots := by omega
  show W p l e R s m args below meth c H locs cells slots (MQ below _ args s (me.1.length - n0) (j_sz me.1 - z0) _) _
  rw [e1, e2]
  exact W.zret C.1 C.2.1 (C.2.2.2.1.trans hr) (by rcases hx with rfl | rfl <;> decide +kernel) (fun t ht hW => ⟨rfl, by rw [ht]; exact hP, hS.F ht⟩) hS.2.2 hd (hlocks := C.2.2.2.2.1)
theorem g_lret {x : Int64} (hd : decode (j_info i).2.1 pc = .ok (.lreturn, 1)) (hr : (j_info i).2.2.2.1 = some .long) : j_G l B tA tO dC dI cI cJ cR i d (some (.long x), me) pc L [.long x] me := by
  refine ⟨⟨Nat.le_refl _, Nat.le_refl _⟩, fun p e R s m args below meth c n0 z0 C X r1 r2 hs H locs cells slots ls hP hS hn hz hl => ?_⟩
  have e1 : me.1.length - n0 = cells := by omega
  have e2 : j_sz me.1 - z0 = slots := by omega
  show W p l e R s m args below meth c H locs cells slots (MQ below _ args s (me.1.length - n0) (j_sz me.1 - z0) _) _
  rw [e1, e2]
  exact W.lret C.1 C.2.1 (C.2.2.2.1.trans hr) (fun t ht hW => ⟨rfl, by rw [ht]; exact hP, hS.F ht⟩) hS.2.2 hd (hlocks := C.2.2.2.2.1)
theorem g_vret (hd : decode (j_info i).2.1 pc = .ok (.return_, 1)) (hr : (j_info i).2.2.2.1 = none) : j_G l B tA tO dC dI cI cJ cR i d (none, me) pc L [] me := by
  refine ⟨⟨Nat.le_refl _, Nat.le_refl _⟩, fun p e R s m args below meth c n0 z0 C X r1 r2 hs H locs cells slots ls hP hS hn hz hl => ?_⟩
  have e1 : me.1.length - n0 = cells := by omega
  have e2 : j_sz me.1 - z0 = slots := by omega
  show W p l e R s m args below meth c H locs cells slots (MQ below _ args s (me.1.length - n0) (j_sz me.1 - z0) _) _
  rw [e1, e2]
  exact W.vret C.1 C.2.1 (C.2.2.2.1.trans hr) (fun t ht hW => ⟨rfl, by rw [ht]; exact hP, hS.F ht⟩) hS.2.2 hd (hlocks := C.2.2.2.2.1)
/-- cells -/
theorem j_cell_obj {ad : Nat → Nat} {M : j_M} {N : j_N} {q ci : Nat} {x : Nat × Nat × List (Option Nat)} (h : x.1 = ci + 3) : j_cell ad cI cJ cR M N q x = .inr (ci, (List.range (j_Nf ci)).map (fun k => j_fv ad (M q) x.2.2 (j_ty ci k) k)) := by
  unfold j_cell; rw [h]
theorem j_cell_i {ad : Nat → Nat} {M : j_M} {N : j_N} {q : Nat} {x : Nat × Nat × List (Option Nat)} (h : x.1 = 0) : j_cell ad cI cJ cR M N q x = .inl (cI, x.2.1, .inl (M q)) := by
  unfold j_cell; rw [h]
theorem j_cell_l {ad : Nat → Nat} {M : j_M} {N : j_N} {q : Nat} {x : Nat × Nat × List (Option Nat)} (h : x.1 = 1) : j_cell ad cI cJ cR M N q x = .inl (cJ, x.2.1, .inr (.inl (N q))) := by
  unfold j_cell; rw [h]
theorem j_cell_r {ad : Nat → Nat} {M : j_M} {N : j_N} {q : Nat} {x : Nat × Nat × List (Option Nat)} (h : x.1 = 2) : j_cell ad cI cJ cR M N q x = .inl (cR, x.2.1, .inr (.inr (.inr (.inr (fun k => (j_nth x.2.2 k).map ad))))) := by
  unfold j_cell; rw [h]
theorem j_has {c t : Nat} (h : (j_at me.1 c).1 = t) (ht : t < 99) : (j_ws B tA tO cI cJ cR me)[c]? = some (B + c, j_cell (j_ad B tA tO) cI cJ cR me.2.1 me.2.2 c (j_at me.1 c)) ∧ c < me.1.length ∧ me.1[c]? = some (j_at me.1 c) := by
  have h1 := j_at_get me.1 c (by omega)
  exact ⟨j_ws_get h1, (List.getElem?_eq_some_iff.mp h1).1, h1⟩
theorem j_fld {β : Type} {n b : Nat} {f : Nat → β} (h : b < n) : ((List.range n).map f)[b]? = some (f b) := by
  rw [List.getElem?_map, List.getElem?_range h]; rfl
/-- a row that reads the heap -/
theorem g_getI {c k : Nat} (hd : decode (j_info i).2.1 pc = .ok (.getfield k, 3)) (h1000 : r.2.1.length ≤ 1000) (ha : a < 12) (hb : b < j_Nf a) (hw : Cond.fieldLink (j_info i).1.cls k (j_T a b).1 (j_T a b).2.1 (j_T a b).2.2.1 ∈ j_big) (hty : j_isref (j_ty a b) = false) (hc : (j_at me.1 c).1 = a + 3)
    (kk : j_G l B tA tO dC dI cI cJ cR i d r (pc + 3) L (.int (me.2.1 c b) :: st) me) : j_G l B tA tO dC dI cI cJ cR i d r pc L (.ref c :: st) me := by
  obtain ⟨hg, hlt, -⟩ := j_has (B := B) (tA := tA) (tO := tO) (cI := cI) (cJ := cJ) (cR := cR) hc (by omega)
  rw [j_cell_obj hc] at hg
  have hle := kk.1.1
  refine ⟨kk.1, fun p e R s m args below meth cd n0 z0 C X r1 r2 hs H locs cells slots ls hP hS hn hz hl => ?_⟩
  show W p l e R s m args below meth cd H locs cells slots _ (F0 m pc ls (.ref (j_ad B tA tO c) :: st.map (j_tr B tA tO)))
  rw [j_ad_lt (by omega)]
  exact va_get C.1 C.2.1 C.2.2.2.2.2.2.1 (j_lay_mem ha) C.2.2.2.2.2.1 X.1 hP c hg (j_cl a ha) b hb (C.2.2.2.2.2.2.1 _ hw) (fun _ h => h) (v := .int (me.2.1 c b)) (by rw [j_fld hb]; simp [j_fv, hty]) hd (kk.2 p e R s m args below meth cd n0 z0 C X r1 r2 hs H locs cells slots ls hP hS hn hz hl)
theorem g_getR {c k q : Nat} (hd : decode (j_info i).2.1 pc = .ok (.getfield k, 3)) (h1000 : r.2.1.length ≤ 1000) (ha : a < 12) (hb : b < j_Nf a) (hw : Cond.fieldLink (j_info i).1.cls k (j_T a b).1 (j_T a b).2.1 (j_T a b).2.2.1 ∈ j_big) (hty : j_isref (j_ty a b) = true) (hc : (j_at me.1 c).1 = a + 3) (hq : j_nth (j_at me.1 c).2.2 b = some q)
    (kk : j_G l B tA tO dC dI cI cJ cR i d r (pc + 3) L (.ref q :: st) me) : j_G l B tA tO dC dI cI cJ cR i d r pc L (.ref c :: st) me := by
  obtain ⟨hg, hlt, -⟩ := j_has (B := B) (tA := tA) (tO := tO) (cI := cI) (cJ := cJ) (cR := cR) hc (by omega)
  rw [j_cell_obj hc] at hg
  have hle := kk.1.1
  refine ⟨kk.1, fun p e R s m args below meth cd n0 z0 C X r1 r2 hs H locs cells slots ls hP hS hn hz hl => ?_⟩
  show W p l e R s m args below meth cd H locs cells slots _ (F0 m pc ls (.ref (j_ad B tA tO c) :: st.map (j_tr B tA tO)))
  rw [j_ad_lt (by omega)]
  exact va_get C.1 C.2.1 C.2.2.2.2.2.2.1 (j_lay_mem ha) C.2.2.2.2.2.1 X.1 hP c hg (j_cl a ha) b hb (C.2.2.2.2.2.2.1 _ hw) (fun _ h => h) (v := .ref (j_ad B tA tO q)) (by rw [j_fld hb]; simp [j_fv, hty, hq, va_rf]) hd (kk.2 p e R s m args below meth cd n0 z0 C X r1 r2 hs H locs cells slots ls hP hS hn hz hl)
theorem g_iald {c : Nat} {x : Int32} (hd : decode (j_info i).2.1 pc = .ok (.iaload, 1)) (h1000 : r.2.1.length ≤ 1000) (hc : (j_at me.1 c).1 = 0) (hin : vp_in x (j_at me.1 c).2.1)
    (kk : j_G l B tA tO dC dI cI cJ cR i d r (pc + 1) L (.int (me.2.1 c x.toNatClampNeg) :: st) me) : j_G l B tA tO dC dI cI cJ cR i d r pc L (.int x :: .ref c :: st) me := by
  obtain ⟨hg, hlt, -⟩ := j_has (B := B) (tA := tA) (tO := tO) (cI := cI) (cJ := cJ) (cR := cR) hc (by omega)
  rw [j_cell_i hc] at hg
  have hle := kk.1.1
  refine ⟨kk.1, fun p e R s m args below meth cd n0 z0 C X r1 r2 hs H locs cells slots ls hP hS hn hz hl => ?_⟩
  show W p l e R s m args below meth cd H locs cells slots _ (F0 m pc ls (.int x :: .ref (j_ad B tA tO c) :: st.map (j_tr B tA tO)))
  rw [j_ad_lt (by omega)]
  exact va_iald C.1 C.2.1 X.1 hP c 0 hg rfl hin hd (kk.2 p e R s m args below meth cd n0 z0 C X r1 r2 hs H locs cells slots ls hP hS hn hz hl)
theorem g_lald {c : Nat} {x : Int32} (hd : decode (j_info i).2.1 pc = .ok (.laload, 1)) (h1000 : r.2.1.length ≤ 1000) (hc : (j_at me.1 c).1 = 1) (hin : vp_in x (j_at me.1 c).2.1)
    (kk : j_G l B tA tO dC dI cI cJ cR i d r (pc + 1) L (.long (me.2.2 c x.toNatClampNeg) :: st) me) : j_G l B tA tO dC dI cI cJ cR i d r pc L (.int x :: .ref c :: st) me := by
  obtain ⟨hg, hlt, -⟩ := j_has (B := B) (tA := tA) (tO := tO) (cI := cI) (cJ := cJ) (cR := cR) hc (by omega)
  rw [j_cell_l hc] at hg
  have hle := kk.1.1
  refine ⟨kk.1, fun p e R s m args below meth cd n0 z0 C X r1 r2 hs H locs cells slots ls hP hS hn hz hl => ?_⟩
  show W p l e R s m args below meth cd H locs cells slots _ (F0 m pc ls (.int x :: .ref (j_ad B tA tO c) :: st.map (j_tr B tA tO)))
  rw [j_ad_lt (by omega)]
  exact va_lald C.1 C.2.1 X.1 hP c 1 hg rfl hin hd (kk.2 p e R s m args below meth cd n0 z0 C X r1 r2 hs H locs cells slots ls hP hS hn hz hl)
theorem g_aald {c q : Nat} {x : Int32} (hd : decode (j_info i).2.1 pc = .ok (.aaload, 1)) (h1000 : r.2.1.length ≤ 1000) (hc : (j_at me.1 c).1 = 2) (hin : vp_in x (j_at me.1 c).2.1) (hq : j_nth (j_at me.1 c).2.2 x.toNatClampNeg = some q)
    (kk : j_G l B tA tO dC dI cI cJ cR i d r (pc + 1) L (.ref q :: st) me) : j_G l B tA tO dC dI cI cJ cR i d r pc L (.int x :: .ref c :: st) me := by
  obtain ⟨hg, hlt, -⟩ := j_has (B := B) (tA := tA) (tO := tO) (cI := cI) (cJ := cJ) (cR := cR) hc (by omega)
  rw [j_cell_r hc] at hg
  have hle := kk.1.1
  refine ⟨kk.1, fun p e R s m args below meth cd n0 z0 C X r1 r2 hs H locs cells slots ls hP hS hn hz hl => ?_⟩
  show W p l e R s m args below meth cd H locs cells slots _ (F0 m pc ls (.int x :: .ref (j_ad B tA tO c) :: st.map (j_tr B tA tO)))
  rw [j_ad_lt (by omega)]
  refine va_aldq C.1 C.2.1 X.1 hP c 2 hg rfl hin hd ?_
  rw [hq]
  exact kk.2 p e R s m args below meth cd n0 z0 C X r1 r2 hs H locs cells slots ls hP hS hn hz hl
theorem g_stA {x : Int32} (hd : decode (j_info i).2.1 pc = .ok (.iaload, 1)) (hin : vp_in x 8)
    (kk : j_G l B tA tO dC dI cI cJ cR i d r (pc + 1) L (.int (j_tg j_T0 x.toNatClampNeg) :: st) me) : j_G l B tA tO dC dI cI cJ cR i d r pc L (.int x :: .ref 1000 :: st) me :=
  ⟨kk.1, fun p e R s m args below meth cd n0 z0 C X r1 r2 hs H locs cells slots ls hP hS hn hz hl => va_ti C.1 C.2.1 X.2.2.2.2.2.1 hS hin rfl hd (kk.2 p e R s m args below meth cd n0 z0 C X r1 r2 hs H locs cells slots ls hP hS hn hz hl)⟩
theorem g_stO {x : Int32} (hd : decode (j_info i).2.1 pc = .ok (.iaload, 1)) (hin : vp_in x 32)
    (kk : j_G l B tA tO dC dI cI cJ cR i d r (pc + 1) L (.int (j_tg j_T1 x.toNatClampNeg) :: st) me) : j_G l B tA tO dC dI cI cJ cR i d r pc L (.int x :: .ref 1001 :: st) me :=
  ⟨kk.1, fun p e R s m args below meth cd n0 z0 C X r1 r2 hs H locs cells slots ls hP hS hn hz hl => va_ti C.1 C.2.1 X.2.2.2.2.2.2 hS hin rfl hd (kk.2 p e R s m args below meth cd n0 z0 C X r1 r2 hs H locs cells slots ls hP hS hn hz hl)⟩
theorem g_gsA {k : Nat} (hd : decode (j_info i).2.1 pc = .ok (.getstatic k, 3)) (hw : Cond.fieldLink (j_info i).1.cls k RX0 "ABOVE" "[I" ∈ j_big) (kk : j_G l B tA tO dC dI cI cJ cR i d r (pc + 3) L (.ref 1000 :: st) me) : j_G l B tA tO dC dI cI cJ cR i d r pc L st me :=
  ⟨kk.1, fun p e R s m args below meth cd n0 z0 C X r1 r2 hs H locs cells slots ls hP hS hn hz hl => va_gets C.1 C.2.1 X.2.2.2.1 hS C.2.2.2.2.2.1 (C.2.2.2.2.2.2.1 _ hw) (fun _ h => h) hd (kk.2 p e R s m args below meth cd n0 z0 C X r1 r2 hs H locs cells slots ls hP hS hn hz hl)⟩
theorem g_gsO {k : Nat} (hd : decode (j_info i).2.1 pc = .ok (.getstatic k, 3)) (hw : Cond.fieldLink (j_info i).1.cls k RX0 "OWN" "[I" ∈ j_big) (kk : j_G l B tA tO dC dI cI cJ cR i d r (pc + 3) L (.ref 1001 :: st) me) : j_G l B tA tO dC dI cI cJ cR i d r pc L st me :=
  ⟨kk.1, fun p e R s m args below meth cd n0 z0 C X r1 r2 hs H locs cells slots ls hP hS hn hz hl => va_gets C.1 C.2.1 X.2.2.2.2.1 hS C.2.2.2.2.2.1 (C.2.2.2.2.2.2.1 _ hw) (fun _ h => h) hd (kk.2 p e R s m args below meth cd n0 z0 C X r1 r2 hs H locs cells slots ls hP hS hn hz hl)⟩
theorem g_alen {c : Nat} (hd : decode (j_info i).2.1 pc = .ok (.arraylength, 1)) (h1000 : r.2.1.length ≤ 1000) (hc : (j_at me.1 c).1 ≤ 2)
    (kk : j_G l B tA tO dC dI cI cJ cR i d r (pc + 1) L (.int (Int32.ofNat (j_at me.1 c).2.1) :: st) me) : j_G l B tA tO dC dI cI cJ cR i d r pc L (.ref c :: st) me := by
  obtain ⟨hg, hlt, -⟩ := j_has (B := B) (tA := tA) (tO := tO) (cI := cI) (cJ := cJ) (cR := cR) (me := me) (c := c) rfl (by omega)
  have hle := kk.1.1
  refine ⟨kk.1, fun p e R s m args below meth cd n0 z0 C X r1 r2 hs H locs cells slots ls hP hS hn hz hl => ?_⟩
  show W p l e R s m args below meth cd H locs cells slots _ (F0 m pc ls (.ref (j_ad B tA tO c) :: st.map (j_tr B tA tO)))
  rw [j_ad_lt (by omega)]
  have z := kk.2 p e R s m args below meth cd n0 z0 C X r1 r2 hs H locs cells slots ls hP hS hn hz hl
  rcases (show (j_at me.1 c).1 = 0 ∨ (j_at me.1 c).1 = 1 ∨ (j_at me.1 c).1 = 2 by omega) with q | q | q
  · rw [j_cell_i q] at hg
    exact va_alen C.1 C.2.1 X.1 hP c 0 hg rfl rfl hd z
  · rw [j_cell_l q] at hg
    exact va_alen C.1 C.2.1 X.1 hP c 1 hg rfl rfl hd z
  · rw [j_cell_r q] at hg
    exact va_alen C.1 C.2.1 X.1 hP c 2 hg rfl rfl hd z
end JH
end
section
/-! ===== soundness: writes, new cells (own text) ===== -/
section JW
variable {l : Launch} {B tA tO : Nat} {dC : Nat → ClassId} {dI : Nat → Nat → Nat} {cI cJ cR : ClassId}
variable {i d : Nat} {r : j_R} {pc a b : Nat} {L st : List Value} {me : j_Me}
theorem j_w_off {M : j_M} {c k : Nat} {x : Int32} : ∀ q, q ≠ c → j_w M c k x q = M q := fun q h => by unfold j_w; rw [if_neg h]
theorem j_wl_off {N : j_N} {c k : Nat} {x : Int64} : ∀ q, q ≠ c → j_wl N c k x q = N q := fun q h => by unfold j_wl; rw [if_neg h]
theorem j_row_off {M : j_M} {c : Nat} {f : Nat → Int32} : ∀ q, q ≠ c → j_row M c f q = M q := fun q h => by unfold j_row; rw [if_neg h]
theorem j_rowl_off {N : j_N} {c : Nat} {f : Nat → Int64} : ∀ q, q ≠ c → j_rowl N c f q = N q := fun q h => by unfold j_rowl; rw [if_neg h]
theorem j_w_at {M : j_M} {c k : Nat} {x : Int32} : j_w M c k x c = upd (M c) k x := by unfold j_w; rw [if_pos rfl]
theorem j_wl_at {N : j_N} {c k : Nat} {x : Int64} : j_wl N c k x c = vp_updL (N c) k x := by unfold j_wl; rw [if_pos rfl]
theorem j_row_at {M : j_M} {c : Nat} {f : Nat → Int32} : j_row M c f c = f := by unfold j_row; rw [if_pos rfl]
theorem j_rowl_at {N : j_N} {c : Nat} {f : Nat → Int64} : j_rowl N c f c = f := by unfold j_rowl; rw [if_pos rfl]
theorem j_ws_putI {c : Nat} {x : Int32} (hc : (j_at me.1 c).1 = a + 3) (ha : a < 12) (hb : b < j_Nf a) (hty : j_isref (j_ty a b) = false) : j_ws B tA tO cI cJ cR (me.1, j_w me.2.1 c b x, me.2.2) = (j_ws B tA tO cI cJ cR me).set c (B + c, .inr (a, ((List.range (j_Nf a)).map (fun k => j_fv (j_ad B tA tO) (me.2.1 c) (j_at me.1 c).2.2 (j_ty a k) k)).set b (.int x))) := by
  have h1 := j_at_get me.1 c (by omega)
  rw [j_ws_up (S := me.1) (M := me.2.1) (N := me.2.2) h1 j_w_off (fun _ _ => rfl), j_cell_obj hc]
  congr 4
  refine j_range_set _ _ _ _ _ hb ?_ ?_
  · simp [j_fv, hty, j_w_at, upd]
  · intro j hj
    simp [j_fv, j_w_at, upd, hj]
theorem j_ws_putR {c q : Nat} (hc : (j_at me.1 c).1 = a + 3) (ha : a < 12) (hb : b < j_Nf a) (hty : j_isref (j_ty a b) = true) : j_ws B tA tO cI cJ cR (j_sr me.1 c b q, me.2.1, me.2.2) = (j_ws B tA tO cI cJ cR me).set c (B + c, .inr (a, ((List.range (j_Nf a)).map (fun k => j_fv (j_ad B tA tO) (me.2.1 c) (j_at me.1 c).2.2 (j_ty a k) k)).set b (.ref (j_ad B tA tO q)))) := by
  have h1 := j_at_get me.1 c (by omega)
  unfold j_sr
  rw [j_ws_set (S := me.1) (M := me.2.1) (N := me.2.2) _ (List.getElem?_eq_some_iff.mp h1).1 (fun _ _ => rfl) (fun _ _ => rfl), j_cell_obj (x := ((j_at me.1 c).1, (j_at me.1 c).2.1, j_setx (j_at me.1 c).2.2 b q)) hc]
  congr 4
  refine j_range_set _ _ _ _ _ hb ?_ ?_
  · simp [j_fv, hty, j_nth_set, va_rf]
  · intro j hj
    simp [j_fv, j_nth_set, hj]
theorem j_sr_len {c q : Nat} : (j_sr me.1 c b q).length = me.1.length := by unfold j_sr; simp
theorem j_sr_sz {c q : Nat} (hc : (j_at me.1 c).1 < 99) : j_sz (j_sr me.1 c b q) = j_sz me.1 := j_sz_set (j_at_get me.1 c hc) rfl
/-- a field of an int or a boolean, or of a reference: v is what is stored -/
theorem j_put_row {p : Program} {e : Env} {R : Room} {s : State} {m : MethodId} {args : Array Value} {below : List Frame} {meth : Method} {cd : Code} {H : Heap} {locs : List Loc} {cells slots : Nat} {Q : State → Prop} {ls : Array Slot} {rest : List Value} {c k : Nat} {v : Value} {fs : List Value}
    (C : j_Cx p R s m args meth cd i d) (X : j_X B tA tO dC dI cI cJ cR s) (hP : va_P (dC, dI) vwCl (j_ws B tA tO cI cJ cR me) H) (hS : va_S (j_A B) s.heap H locs) (hd : decode (j_info i).2.1 pc = .ok (.putfield k, 3)) (ha : a < 12) (hb : b < j_Nf a) (hw : Cond.fieldLink (j_info i).1.cls k (j_T a b).1 (j_T a b).2.1 (j_T a b).2.2.1 ∈ j_big) (hg : (j_ws B tA tO cI cJ cR me)[c]? = some (B + c, .inr (a, fs))) (hl : b < fs.length)
    (hfin : (j_T a b).2.2.2 = false ∨ (Nat.beq (j_info i).2.2.2.2.2.2 2 = true ∧ (j_T a b).1 = (j_info i).1.cls)) (hn : narrow (j_ty a b) v = v) (hfit : fits (j_ty a b) v = true)
    (kk : ∀ (H1 : Heap) (locs1 : List Loc), va_P (dC, dI) vwCl ((j_ws B tA tO cI cJ cR me).set c (B + c, .inr (a, fs.set b v))) H1 → va_S (j_A B) s.heap H1 locs1 → W p l e R s m args below meth cd H1 locs1 cells slots Q (F0 m (pc + 3) ls rest)) : W p l e R s m args below meth cd H locs cells slots Q (F0 m pc ls (v :: .ref (B + c) :: rest)) := by
  cases hf : (j_T a b).2.2.2 with
  | false => exact va_put C.1 C.2.1 C.2.2.2.2.2.2.1 (j_lay_mem ha) (j_ty a) (j_tyok a ha) (j_nmok a ha) C.2.2.2.2.2.1 X.1 hP j_D hS c hg (j_cl a ha) b hb (C.2.2.2.2.2.2.1 _ hw) (fun _ h => h) hf (j_tyok a ha b hb) hn hfit hl hd (fun H1 locs1 h1 _ h2 => kk H1 locs1 h1 h2)
  | true =>
    rcases hfin with z | ⟨z1, z2⟩
    · rw [hf] at z; cases z
    · exact va_putF C.1 C.2.1 C.2.2.2.2.2.2.1 (j_lay_mem ha) (j_ty a) (j_tyok a ha) (j_nmok a ha) C.2.2.2.2.2.1 X.1 hP j_D hS c hg (j_cl a ha) b hb (C.2.2.2.2.2.2.1 _ hw) (fun _ h => h) hf (C.2.2.2.2.2.2.2.1 z1) z2 (j_tyok a ha b hb) hn hfit hl hd (fun H1 locs1 h1 _ h2 => kk H1 locs1 h1 h2)
theorem g_putI {c k : Nat} {x : Int32} (hd : decode (j_info i).2.1 pc = .ok (.putfield k, 3)) (h1000 : r.2.1.length ≤ 1000) (ha : a < 12) (hb : b < j_Nf a) (hw : Cond.fieldLink (j_info i).1.cls k (j_T a b).1 (j_T a b).2.1 (j_T a b).2.2.1 ∈ j_big) (hty : j_ty a b = .int ∨ (j_ty a b = .boolean ∧ (x = 0 ∨ x = 1))) (hc : (j_at me.1 c).1 = a + 3)
    (hfin : (j_T a b).2.2.2 = false ∨ (Nat.beq (j_info i).2.2.2.2.2.2 2 = true ∧ (j_T a b).1 = (j_info i).1.cls))
    (kk : j_G l B tA tO dC dI cI cJ cR i d r (pc + 3) L st (me.1, j_w me.2.1 c b x, me.2.2)) : j_G l B tA tO dC dI cI cJ cR i d r pc L (.int x :: .ref c :: st) me := by
  obtain ⟨hg, hlt, -⟩ := j_has (B := B) (tA := tA) (tO := tO) (cI := cI) (cJ := cJ) (cR := cR) hc (by omega)
  rw [j_cell_obj hc] at hg
  have hle : me.1.length ≤ r.2.1.length := kk.1.1
  have hrf : j_isref (j_ty a b) = false := by rcases hty with h | ⟨h, -⟩ <;> rw [h] <;> rfl
  refine ⟨kk.1, fun p e R s m args below meth cd n0 z0 C X r1 r2 hs H locs cells slots ls hP hS hn hz hl => ?_⟩
  show W p l e R s m args below meth cd H locs cells slots _ (F0 m pc ls (.int x :: .ref (j_ad B tA tO c) :: st.map (j_tr B tA tO)))
  rw [j_ad_lt (by omega)]
  refine j_put_row (me := me) C X hP hS hd ha hb hw hg (by simpa using hb) hfin ?_ ?_ (fun H1 locs1 h1 h2 => ?_)
  · rcases hty with h | ⟨h, q | q⟩ <;> rw [h] <;> first | rfl | (rw [q]; decide +kernel)
  · rcases hty with h | ⟨h, q | q⟩ <;> rw [h] <;> first | rfl | (rw [q]; decide +kernel)
  · rw [← j_ws_putI hc ha hb hrf] at h1
    exact kk.2 p e R s m args below meth cd n0 z0 C X r1 r2 hs H1 locs1 cells slots ls h1 h2 hn hz hl
theorem g_putR {c k q : Nat} (hd : decode (j_info i).2.1 pc = .ok (.putfield k, 3)) (h1000 : r.2.1.length ≤ 1000) (ha : a < 12) (hb : b < j_Nf a) (hw : Cond.fieldLink (j_info i).1.cls k (j_T a b).1 (j_T a b).2.1 (j_T a b).2.2.1 ∈ j_big) (hty : j_isref (j_ty a b) = true) (hc : (j_at me.1 c).1 = a + 3)
    (hfin : (j_T a b).2.2.2 = false ∨ (Nat.beq (j_info i).2.2.2.2.2.2 2 = true ∧ (j_T a b).1 = (j_info i).1.cls))
    (kk : j_G l B tA tO dC dI cI cJ cR i d r (pc + 3) L st (j_sr me.1 c b q, me.2.1, me.2.2)) : j_G l B tA tO dC dI cI cJ cR i d r pc L (.ref q :: .ref c :: st) me := by
  obtain ⟨hg, hlt, -⟩ := j_has (B := B) (tA := tA) (tO := tO) (cI := cI) (cJ := cJ) (cR := cR) hc (by omega)
  rw [j_cell_obj hc] at hg
  have hl1 : (j_sr me.1 c b q).length = me.1.length := j_sr_len
  have hl2 : j_sz (j_sr me.1 c b q) = j_sz me.1 := j_sr_sz (by omega)
  have hk : j_le2 me r := ⟨by have h := kk.1.1; rw [show ((j_sr me.1 c b q, me.2.1, me.2.2) : j_Me).1 = j_sr me.1 c b q from rfl, hl1] at h; exact h, by have h := kk.1.2; rw [show ((j_sr me.1 c b q, me.2.1, me.2.2) : j_Me).1 = j_sr me.1 c b q from rfl, hl2] at h; exact h⟩
  have hle : me.1.length ≤ r.2.1.length := hk.1
  refine ⟨hk, fun p e R s m args below meth cd n0 z0 C X r1 r2 hs H locs cells slots ls hP hS hn hz hl => ?_⟩
  show W p l e R s m args below meth cd H locs cells slots _ (F0 m pc ls (.ref (j_ad B tA tO q) :: .ref (j_ad B tA tO c) :: st.map (j_tr B tA tO)))
  rw [j_ad_lt (a := c) (by omega)]
  refine j_put_row (me := me) C X hP hS hd ha hb hw hg (by simpa using hb) hfin ?_ ?_ (fun H1 locs1 h1 h2 => ?_)
  · cases ht : j_ty a b <;> rw [ht] at hty <;> first | rfl | (cases hty; done)
  · cases ht : j_ty a b <;> rw [ht] at hty <;> first | rfl | (cases hty; done)
  · rw [← j_ws_putR hc ha hb hty] at h1
    exact kk.2 p e R s m args below meth cd n0 z0 C X r1 r2 hs H1 locs1 cells slots ls h1 h2 (hl1.trans hn) (hl2.trans hz) hl
theorem g_iast {c : Nat} {x y : Int32} (hd : decode (j_info i).2.1 pc = .ok (.iastore, 1)) (h1000 : r.2.1.length ≤ 1000) (hc : (j_at me.1 c).1 = 0) (hin : vp_in x (j_at me.1 c).2.1)
    (kk : j_G l B tA tO dC dI cI cJ cR i d r (pc + 1) L st (me.1, j_w me.2.1 c x.toNatClampNeg y, me.2.2)) : j_G l B tA tO dC dI cI cJ cR i d r pc L (.int y :: .int x :: .ref c :: st) me := by
  obtain ⟨hg, hlt, h1⟩ := j_has (B := B) (tA := tA) (tO := tO) (cI := cI) (cJ := cJ) (cR := cR) hc (by omega)
  rw [j_cell_i hc] at hg
  have hle : me.1.length ≤ r.2.1.length := kk.1.1
  refine ⟨kk.1, fun p e R s m args below meth cd n0 z0 C X r1 r2 hs H locs cells slots ls hP hS hn hz hl => ?_⟩
  show W p l e R s m args below meth cd H locs cells slots _ (F0 m pc ls (.int y :: .int x :: .ref (j_ad B tA tO c) :: st.map (j_tr B tA tO)))
  rw [j_ad_lt (by omega)]
  refine va_iast C.1 C.2.1 X.1 hP j_D hS c 0 hg rfl hin hd (fun H1 locs1 q1 _ q2 => ?_)
  have e1 := j_ws_up (B := B) (tA := tA) (tO := tO) (cI := cI) (cJ := cJ) (cR := cR) (S := me.1) (M := me.2.1) (M' := j_w me.2.1 c x.toNatClampNeg y) (N := me.2.2) (N' := me.2.2) h1 j_w_off (fun _ _ => rfl)
  rw [j_cell_i hc, j_w_at] at e1
  rw [show j_ws B tA tO cI cJ cR me = j_ws B tA tO cI cJ cR (me.1, me.2.1, me.2.2) from rfl, ← e1] at q1
  exact kk.2 p e R s m args below meth cd n0 z0 C X r1 r2 hs H1 locs1 cells slots ls q1 q2 hn hz hl
theorem g_last {c : Nat} {x : Int32} {y : Int64} (hd : decode (j_info i).2.1 pc = .ok (.lastore, 1)) (h1000 : r.2.1.length ≤ 1000) (hc : (j_at me.1 c).1 = 1) (hin : vp_in x (j_at me.1 c).2.1)
    (kk : j_G l B tA tO dC dI cI cJ cR i d r (pc + 1) L st (me.1, me.2.1, j_wl me.2.2 c x.toNatClampNeg y)) : j_G l B tA tO dC dI cI cJ cR i d r pc L (.long y :: .int x :: .ref c :: st) me := by
  obtain ⟨hg, hlt, h1⟩ := j_has (B := B) (tA := tA) (tO := tO) (cI := cI) (cJ := cJ) (cR := cR) hc (by omega)
  rw [j_cell_l hc] at hg
  have hle : me.1.length ≤ r.2.1.length := kk.1.1
  refine ⟨kk.1, fun p e R s m args below meth cd n0 z0 C X r1 r2 hs H locs cells slots ls hP hS hn hz hl => ?_⟩
  show W p l e R s m args below meth cd H locs cells slots _ (F0 m pc ls (.long y :: .int x :: .ref (j_ad B tA tO c) :: st.map (j_tr B tA tO)))
  rw [j_ad_lt (by omega)]
  refine va_last C.1 C.2.1 X.1 hP j_D hS c 1 hg rfl hin hd (fun H1 locs1 q1 _ q2 => ?_)
  have e1 := j_ws_up (B := B) (tA := tA) (tO := tO) (cI := cI) (cJ := cJ) (cR := cR) (S := me.1) (M := me.2.1) (M' := me.2.1) (N := me.2.2) (N' := j_wl me.2.2 c x.toNatClampNeg y) h1 (fun _ _ => rfl) j_wl_off
  rw [j_cell_l hc, j_wl_at] at e1
  rw [show j_ws B tA tO cI cJ cR me = j_ws B tA tO cI cJ cR (me.1, me.2.1, me.2.2) from rfl, ← e1] at q1
  exact kk.2 p e R s m args below meth cd n0 z0 C X r1 r2 hs H1 locs1 cells slots ls q1 q2 hn hz hl
theorem g_aast {c q : Nat} {x : Int32} (hd : decode (j_info i).2.1 pc = .ok (.aastore, 1)) (h1000 : r.2.1.length ≤ 1000) (hc : (j_at me.1 c).1 = 2) (hin : vp_in x (j_at me.1 c).2.1) (hq : (j_at me.1 q).1 = 12)
    (kk : j_G l B tA tO dC dI cI cJ cR i d r (pc + 1) L st (j_sr me.1 c x.toNatClampNeg q, me.2.1, me.2.2)) : j_G l B tA tO dC dI cI cJ cR i d r pc L (.ref q :: .int x :: .ref c :: st) me := by
  obtain ⟨hg, hlt, h1⟩ := j_has (B := B) (tA := tA) (tO := tO) (cI := cI) (cJ := cJ) (cR := cR) hc (by omega)
  obtain ⟨hg2, hlt2, h2⟩ := j_has (B := B) (tA := tA) (tO := tO) (cI := cI) (cJ := cJ) (cR := cR) hq (by omega)
  rw [j_cell_r hc] at hg
  rw [j_cell_obj (ci := 9) hq] at hg2
  have hl1 : (j_sr me.1 c x.toNatClampNeg q).length = me.1.length := j_sr_len
  have hl2 : j_sz (j_sr me.1 c x.toNatClampNeg q) = j_sz me.1 := j_sr_sz (by omega)
  have hk : j_le2 me r := ⟨by have h := kk.1.1; rw [show ((j_sr me.1 c x.toNatClampNeg q, me.2.1, me.2.2) : j_Me).1 = j_sr me.1 c x.toNatClampNeg q from rfl, hl1] at h; exact h, by have h := kk.1.2; rw [show ((j_sr me.1 c x.toNatClampNeg q, me.2.1, me.2.2) : j_Me).1 = j_sr me.1 c x.toNatClampNeg q from rfl, hl2] at h; exact h⟩
  have hle : me.1.length ≤ r.2.1.length := hk.1
  refine ⟨hk, fun p e R s m args below meth cd n0 z0 C X r1 r2 hs H locs cells slots ls hP hS hn hz hl => ?_⟩
  show W p l e R s m args below meth cd H locs cells slots _ (F0 m pc ls (.ref (j_ad B tA tO q) :: .int x :: .ref (j_ad B tA tO c) :: st.map (j_tr B tA tO)))
  rw [j_ad_lt (a := c) (by omega), j_ad_lt (a := q) (by omega)]
  refine va_astq (r := (RX9, TX9, 5)) C.1 C.2.1 X.1 hP j_D hS c 2 q 9 hg rfl hg2 rfl hin hd (fun H1 locs1 q1 _ q2 => ?_)
  have e1 := j_ws_set (B := B) (tA := tA) (tO := tO) (cI := cI) (cJ := cJ) (cR := cR) (S := me.1) (M := me.2.1) (M' := me.2.1) (N := me.2.2) (N' := me.2.2) ((j_at me.1 c).1, (j_at me.1 c).2.1, j_setx (j_at me.1 c).2.2 x.toNatClampNeg q) hlt (fun _ _ => rfl) (fun _ _ => rfl)
  rw [j_cell_r (x := ((j_at me.1 c).1, (j_at me.1 c).2.1, j_setx (j_at me.1 c).2.2 x.toNatClampNeg q)) hc] at e1
  have e2 : (fun k => (j_nth (j_setx (j_at me.1 c).2.2 x.toNatClampNeg q) k).map (j_ad B tA tO)) = va_up (fun k => (j_nth (j_at me.1 c).2.2 k).map (j_ad B tA tO)) x.toNatClampNeg (some (B + q)) := by
    funext k
    rw [j_nth_set]
    unfold va_up
    by_cases hkx : k = x.toNatClampNeg
    · rw [if_pos hkx, if_pos hkx, Option.map_some, j_ad_lt (by omega)]
    · rw [if_neg hkx, if_neg hkx]
  dsimp only at e1
  rw [e2] at e1
  rw [show j_ws B tA tO cI cJ cR me = j_ws B tA tO cI cJ cR (me.1, me.2.1, me.2.2) from rfl, ← e1] at q1
  exact kk.2 p e R s m args below meth cd n0 z0 C X r1 r2 hs H1 locs1 cells slots ls q1 q2 (hl1.trans hn) (hl2.trans hz) hl
end JW
section JN
variable {l : Launch} {B tA tO : Nat} {dC : Nat → ClassId} {dI : Nat → Nat → Nat} {cI cJ cR : ClassId}
variable {i d : Nat} {r : j_R} {pc a b : Nat} {L st : List Value} {me : j_Me}
theorem j_cat_sum {st : List Value} : ((st.map (j_tr B tA tO)).map fun v => v.category).sum = j_cat st := by
  induction st with
  | nil => rfl
  | cons v q ih =>
    rw [List.map_cons, List.map_cons, List.sum_cons, ih, j_tr_cat]
    rfl
theorem j_bound {p : Program} {e : Env} {R : Room} {s : State} {m : MethodId} {args : Array Value} {below : List Frame} {meth : Method} {c : Code} {H : Heap} {locs : List Loc} {cells slots : Nat} {Q : State → Prop} {g : JFrame} (h : H.size ≤ s.heap.size + cells → W p l e R s m args below meth c H locs cells slots Q g) : W p l e R s m args below meth c H locs cells slots Q g := fun T hT X => h (by rw [← hT]; exact X.heapSize) T hT X
theorem j_low {H : Heap} {D : va_G} {k : Nat} (hP : va_P D vwCl (j_ws B tA tO cI cJ cR me) H) (hk : k < me.1.length) : B + k < H.size := by
  have h1 : me.1[k]? = some me.1[k] := List.getElem?_eq_getElem hk
  exact (hP k _ (j_ws_get h1)).lt
theorem j_size {H : Heap} {s : State} {locs : List Loc} {D : va_G} {n0 cells : Nat} (hP : va_P D vwCl (j_ws B tA tO cI cJ cR me) H) (hS : va_S (j_A B) s.heap H locs) (hs : s.heap.size = B + n0) (hn : me.1.length = n0 + cells) (hb : H.size ≤ s.heap.size + cells) : H.size = B + me.1.length := by
  have h1 : s.heap.size ≤ H.size := hS.1
  rcases Nat.eq_zero_or_pos cells with z | z
  · omega
  · have := j_low hP (k := me.1.length - 1) (by omega)
    omega
theorem g_max {k : Nat} {x y : Int32} (hd : decode (j_info i).2.1 pc = .ok (.invokestatic k, 3)) (hw : Cond.methodLink (j_info i).1.cls k Lib.Math.max.name ∈ j_big) (hcat : j_cat st ≤ 8) (kk : j_G l B tA tO dC dI cI cJ cR i d r (pc + 3) L (.int (if x < y then y else x) :: st) me) : j_G l B tA tO dC dI cI cJ cR i d r pc L (.int y :: .int x :: st) me := by
  have hle := kk.1
  refine ⟨kk.1, fun p e R s m args below meth cd n0 z0 C X r1 r2 hs H locs cells slots ls hP hS hn hz hl => ?_⟩
  have hw2 := C.2.2.2.2.2.2.1
  have hf := C.2.2.2.2.2.2.2.2.1
  have hlo := C.2.2.2.2.2.2.2.2.2
  have q1 := hle.1
  have q2 := hle.2
  exact va_mmax C.1 C.2.1 (C.2.2.1.trans hl.1.symm) C.2.2.2.2.2.1 (hw2 _ hw) (hw2 _ (j_fix_mem _ (by simp [j_fix]))) (hw2 _ (j_fix_mem _ (by simp [j_fix]))) (hw2 _ (j_fix_mem _ (by simp [j_fix]))) (by omega) (by rw [j_cat_sum]; omega) (by omega) (by omega) hd (kk.2 p e R s m args below meth cd n0 z0 C X r1 r2 hs H locs cells slots ls hP hS hn hz hl)
theorem g_min {k : Nat} {x y : Int32} (hd : decode (j_info i).2.1 pc = .ok (.invokestatic k, 3)) (hw : Cond.methodLink (j_info i).1.cls k Lib.Math.min.name ∈ j_big) (hcat : j_cat st ≤ 8) (kk : j_G l B tA tO dC dI cI cJ cR i d r (pc + 3) L (.int (if y < x then y else x) :: st) me) : j_G l B tA tO dC dI cI cJ cR i d r pc L (.int y :: .int x :: st) me := by
  have hle := kk.1
  refine ⟨kk.1, fun p e R s m args below meth cd n0 z0 C X r1 r2 hs H locs cells slots ls hP hS hn hz hl => ?_⟩
  have hw2 := C.2.2.2.2.2.2.1
  have hf := C.2.2.2.2.2.2.2.2.1
  have hlo := C.2.2.2.2.2.2.2.2.2
  have q1 := hle.1
  have q2 := hle.2
  exact va_mmin C.1 C.2.1 (C.2.2.1.trans hl.1.symm) C.2.2.2.2.2.1 (hw2 _ hw) (hw2 _ (j_fix_mem _ (by simp [j_fix]))) (hw2 _ (j_fix_mem _ (by simp [j_fix]))) (hw2 _ (j_fix_mem _ (by simp [j_fix]))) (by omega) (by rw [j_cat_sum]; omega) (by omega) (by omega) hd (kk.2 p e R s m args below meth cd n0 z0 C X r1 r2 hs H locs cells slots ls hP hS hn hz hl)
theorem g_minL {k : Nat} {x y : Int64} (hd : decode (j_info i).2.1 pc = .ok (.invokestatic k, 3)) (hw : Cond.methodLink (j_info i).1.cls k Lib.MathLoose.min_long.x ∈ j_big) (hcat : j_cat st ≤ 8) (kk : j_G l B tA tO dC dI cI cJ cR i d r (pc + 3) L (.long (if y < x then y else x) :: st) me) : j_G l B tA tO dC dI cI cJ cR i d r pc L (.long y :: .long x :: st) me := by
  have hle := kk.1
  refine ⟨kk.1, fun p e R s m args below meth cd n0 z0 C X r1 r2 hs H locs cells slots ls hP hS hn hz hl => ?_⟩
  have hw2 := C.2.2.2.2.2.2.1
  have hf := C.2.2.2.2.2.2.2.2.1
  have hlo := C.2.2.2.2.2.2.2.2.2
  have q1 := hle.1
  have q2 := hle.2
  exact va_mmin_long C.1 C.2.1 (C.2.2.1.trans hl.1.symm) C.2.2.2.2.2.1 (hw2 _ hw) (hw2 _ (j_fix_mem _ (by simp [j_fix]))) (hw2 _ (j_fix_mem _ (by simp [j_fix]))) (hw2 _ (j_fix_mem _ (by simp [j_fix]))) (by omega) (by rw [j_cat_sum]; omega) (by omega) (by omega) hd (kk.2 p e R s m args below meth cd n0 z0 C X r1 r2 hs H locs cells slots ls hP hS hn hz hl)
theorem j_nfw : nativeFrameWords "java/lang/System" "arraycopy" 5 + 11 ≤ 50 := by decide +kernel
theorem g_cpI {k a0 c : Nat} {sp dp n : Int32} (hd : decode (j_info i).2.1 pc = .ok (.invokestatic k, 3)) (h1000 : r.2.1.length ≤ 1000) (hw : Cond.methodLink (j_info i).1.cls k arraycopyName ∈ j_big) (hcat : j_cat st ≤ 8) (h0 : (j_at me.1 a0).1 = 0) (h1 : (j_at me.1 c).1 = 0) (b1 : ¬ sp < 0) (b2 : ¬ dp < 0) (b3 : ¬ n < 0) (b4 : sp.toNatClampNeg + n.toNatClampNeg ≤ (j_at me.1 a0).2.1) (b5 : dp.toNatClampNeg + n.toNatClampNeg ≤ (j_at me.1 c).2.1)
    (kk : j_G l B tA tO dC dI cI cJ cR i d r (pc + 3) L st (me.1, j_row me.2.1 c (va_cpy (me.2.1 a0) (me.2.1 c) sp.toNatClampNeg dp.toNatClampNeg n.toNatClampNeg), me.2.2)) : j_G l B tA tO dC dI cI cJ cR i d r pc L (.int n :: .int dp :: .ref c :: .int sp :: .ref a0 :: st) me := by
  obtain ⟨hg0, hlt0, -⟩ := j_has (B := B) (tA := tA) (tO := tO) (cI := cI) (cJ := cJ) (cR := cR) h0 (by omega)
  obtain ⟨hg, hlt, hx⟩ := j_has (B := B) (tA := tA) (tO := tO) (cI := cI) (cJ := cJ) (cR := cR) h1 (by omega)
  rw [j_cell_i h0] at hg0
  rw [j_cell_i h1] at hg
  have hle : me.1.length ≤ r.2.1.length := kk.1.1
  refine ⟨kk.1, fun p e R s m args below meth cd n0 z0 C X r1 r2 hs H locs cells slots ls hP hS hn hz hl => ?_⟩
  show W p l e R s m args below meth cd H locs cells slots _ (F0 m pc ls (.int n :: .int dp :: .ref (j_ad B tA tO c) :: .int sp :: .ref (j_ad B tA tO a0) :: st.map (j_tr B tA tO)))
  rw [j_ad_lt (a := c) (by omega), j_ad_lt (a := a0) (by omega)]
  have hw2 := C.2.2.2.2.2.2.1
  have hf := C.2.2.2.2.2.2.2.2.1
  have hlo := C.2.2.2.2.2.2.2.2.2
  refine va_copyi C.1 C.2.1 (C.2.2.1.trans hl.1.symm) C.2.2.2.2.2.1 (hw2 _ hw) (hw2 _ (j_fix_mem _ (by simp [j_fix]))) (hw2 _ (j_fix_mem _ (by simp [j_fix]))) (hw2 _ (j_fix_mem _ (by simp [j_fix]))) X.1 hP j_D hS a0 c 0 0 hg0 hg rfl rfl rfl b1 b2 b3 b4 b5 (fun _ _ => rfl) (by omega) (by rw [j_cat_sum]; have := j_nfw; omega) hd (fun H1 locs1 q1 _ q2 => ?_)
  have e1 := j_ws_up (B := B) (tA := tA) (tO := tO) (cI := cI) (cJ := cJ) (cR := cR) (S := me.1) (M := me.2.1) (M' := j_row me.2.1 c (va_cpy (me.2.1 a0) (me.2.1 c) sp.toNatClampNeg dp.toNatClampNeg n.toNatClampNeg)) (N := me.2.2) (N' := me.2.2) hx j_row_off (fun _ _ => rfl)
  rw [j_cell_i h1, j_row_at] at e1
  rw [show j_ws B tA tO cI cJ cR me = j_ws B tA tO cI cJ cR (me.1, me.2.1, me.2.2) from rfl, ← e1] at q1
  exact kk.2 p e R s m args below meth cd n0 z0 C X r1 r2 hs H1 locs1 cells slots ls q1 q2 hn hz hl
theorem g_cpL {k a0 c : Nat} {sp dp n : Int32} (hd : decode (j_info i).2.1 pc = .ok (.invokestatic k, 3)) (h1000 : r.2.1.length ≤ 1000) (hw : Cond.methodLink (j_info i).1.cls k arraycopyName ∈ j_big) (hcat : j_cat st ≤ 8) (h0 : (j_at me.1 a0).1 = 1) (h1 : (j_at me.1 c).1 = 1) (b1 : ¬ sp < 0) (b2 : ¬ dp < 0) (b3 : ¬ n < 0) (b4 : sp.toNatClampNeg + n.toNatClampNeg ≤ (j_at me.1 a0).2.1) (b5 : dp.toNatClampNeg + n.toNatClampNeg ≤ (j_at me.1 c).2.1)
    (kk : j_G l B tA tO dC dI cI cJ cR i d r (pc + 3) L st (me.1, me.2.1, j_rowl me.2.2 c (va_cpy (me.2.2 a0) (me.2.2 c) sp.toNatClampNeg dp.toNatClampNeg n.toNatClampNeg))) : j_G l B tA tO dC dI cI cJ cR i d r pc L (.int n :: .int dp :: .ref c :: .int sp :: .ref a0 :: st) me := by
  obtain ⟨hg0, hlt0, -⟩ := j_has (B := B) (tA := tA) (tO := tO) (cI := cI) (cJ := cJ) (cR := cR) h0 (by omega)
  obtain ⟨hg, hlt, hx⟩ := j_has (B := B) (tA := tA) (tO := tO) (cI := cI) (cJ := cJ) (cR := cR) h1 (by omega)
  rw [j_cell_l h0] at hg0
  rw [j_cell_l h1] at hg
  have hle : me.1.length ≤ r.2.1.length := kk.1.1
  refine ⟨kk.1, fun p e R s m args below meth cd n0 z0 C X r1 r2 hs H locs cells slots ls hP hS hn hz hl => ?_⟩
  show W p l e R s m args below meth cd H locs cells slots _ (F0 m pc ls (.int n :: .int dp :: .ref (j_ad B tA tO c) :: .int sp :: .ref (j_ad B tA tO a0) :: st.map (j_tr B tA tO)))
  rw [j_ad_lt (a := c) (by omega), j_ad_lt (a := a0) (by omega)]
  have hw2 := C.2.2.2.2.2.2.1
  have hf := C.2.2.2.2.2.2.2.2.1
  have hlo := C.2.2.2.2.2.2.2.2.2
  refine va_copyl C.1 C.2.1 (C.2.2.1.trans hl.1.symm) C.2.2.2.2.2.1 (hw2 _ hw) (hw2 _ (j_fix_mem _ (by simp [j_fix]))) (hw2 _ (j_fix_mem _ (by simp [j_fix]))) (hw2 _ (j_fix_mem _ (by simp [j_fix]))) X.1 hP j_D hS a0 c 1 1 hg0 hg rfl rfl rfl b1 b2 b3 b4 b5 (fun _ _ => rfl) (by omega) (by rw [j_cat_sum]; have := j_nfw; omega) hd (fun H1 locs1 q1 _ q2 => ?_)
  have e1 := j_ws_up (B := B) (tA := tA) (tO := tO) (cI := cI) (cJ := cJ) (cR := cR) (S := me.1) (M := me.2.1) (M' := me.2.1) (N := me.2.2) (N' := j_rowl me.2.2 c (va_cpy (me.2.2 a0) (me.2.2 c) sp.toNatClampNeg dp.toNatClampNeg n.toNatClampNeg)) hx (fun _ _ => rfl) j_rowl_off
  rw [j_cell_l h1, j_rowl_at] at e1
  rw [show j_ws B tA tO cI cJ cR me = j_ws B tA tO cI cJ cR (me.1, me.2.1, me.2.2) from rfl, ← e1] at q1
  exact kk.2 p e R s m args below meth cd n0 z0 C X r1 r2 hs H1 locs1 cells slots ls q1 q2 hn hz hl
theorem g_obj {k c : Nat} (hd : decode (j_info i).2.1 pc = .ok (.invokespecial k, 3)) (hw : Cond.methodLink (j_info i).1.cls k objectInit ∈ j_big) (hcat : j_cat st ≤ 8) (kk : j_G l B tA tO dC dI cI cJ cR i d r (pc + 3) L st me) : j_G l B tA tO dC dI cI cJ cR i d r pc L (.ref c :: st) me := by
  refine ⟨kk.1, fun p e R s m args below meth cd n0 z0 C X r1 r2 hs H locs cells slots ls hP hS hn hz hl => ?_⟩
  have hw2 := C.2.2.2.2.2.2.1
  have hf := C.2.2.2.2.2.2.2.2.1
  have hlo := C.2.2.2.2.2.2.2.2.2
  have hr8 : 2 * (F0 m pc ls ((Value.ref c :: st).map (j_tr B tA tO))).monitorRoom + ((st.map (j_tr B tA tO)).map fun v => v.category).sum ≤ 8 := lv_room (by rw [j_cat_sum]; exact hcat)
  exact W.objInit C.1 C.2.1 C.2.2.2.2.2.1 (hw2 _ hw) (hw2 _ (j_fix_mem _ (by simp [j_fix]))) (hw2 _ (j_fix_mem _ (by simp [j_fix]))) (g := F0 m pc ls ((Value.ref c :: st).map (j_tr B tA tO))) rfl (hl.1.trans C.2.2.1.symm) (a := j_ad B tA tO c) (rest := st.map (j_tr B tA tO)) rfl hd (by omega) (by omega) (kk.2 p e R s m args below meth cd n0 z0 C X r1 r2 hs H locs cells slots ls hP hS hn hz hl)
/-- where a new cell lies -/
theorem j_fresh {H1 : Heap} {D : va_G} {q : Nat} {x : va_E} (hP : va_P D vwCl (j_ws B tA tO cI cJ cR me ++ [(q, x)]) H1) (hD : va_D (j_A B) (j_ws B tA tO cI cJ cR me ++ [(q, x)])) (hz : H1.size ≤ B + me.1.length + 1) : q = B + me.1.length := by
  have hlen : (j_ws B tA tO cI cJ cR me).length = me.1.length := j_ws_len
  have hlast : (j_ws B tA tO cI cJ cR me ++ [(q, x)])[me.1.length]? = some (q, x) := by
    rw [List.getElem?_append_right (by omega), hlen, Nat.sub_self]
    rfl
  have h1 : q < H1.size := (hP _ _ hlast).lt
  have h2 : B ≤ q := hD.2 _ _ hlast
  rcases Nat.lt_or_ge q (B + me.1.length) with h3 | h3
  · exfalso
    have hk : q - B < me.1.length := by omega
    have hx : me.1[q - B]? = some me.1[q - B] := List.getElem?_eq_getElem hk
    have hg := j_ws_get (B := B) (tA := tA) (tO := tO) (cI := cI) (cJ := cJ) (cR := cR) hx
    have := hD.1 (q - B) me.1.length _ _ (by rw [List.getElem?_append_left (by omega)]; exact hg) hlast (by show B + (q - B) = q; omega)
    omega
  · omega
theorem g_new {k : Nat} (hd : decode (j_info i).2.1 pc = .ok (.new k, 3)) (h1000 : r.2.1.length ≤ 1000) (ha : a < 12) (hb : b = j_Nf a) (hw : Cond.classLink (j_info i).1.cls k (j_cn a) ∈ j_big)
    (kk : j_G l B tA tO dC dI cI cJ cR i d r (pc + 3) L (.ref me.1.length :: st) (me.1 ++ [(a + 3, b, List.replicate b none)], j_row me.2.1 me.1.length (fun _ => 0), me.2.2)) : j_G l B tA tO dC dI cI cJ cR i d r pc L st me := by
  subst hb
  have hle1 : me.1.length + 1 ≤ r.2.1.length := by have h := kk.1.1; rw [List.length_append] at h; exact h
  have hle2 : j_sz me.1 + j_Nf a ≤ j_sz r.2.1 := by have h := kk.1.2; rw [j_sz_append] at h; simp only [j_sz] at h; omega
  refine ⟨⟨by omega, by omega⟩, fun p e R s m args below meth cd n0 z0 C X r1 r2 hs H locs cells slots ls hP hS hn hz hl => ?_⟩
  have hw2 := C.2.2.2.2.2.2.1
  have hin := j_inst a ha
  rw [Bool.and_eq_true] at hin
  refine va_new (fs := (List.range (j_Nf a)).map (fun k => j_fv (j_ad B tA tO) (fun _ => 0) (List.replicate (j_Nf a) none) (j_ty a k) k)) C.1 C.2.1 hw2 (j_lay_mem ha) (j_ty a) (j_tyok a ha) C.2.2.2.2.2.1 (hw2 _ hw) (hw2 _ (j_hw_mem hin.1)) (hw2 _ (j_hw_mem hin.2)) X.1 hP j_D hS (fun q hq => by show B ≤ q; omega) (j_cl a ha) (fun j hj => ?_) (by omega) (by omega) hd (fun q H1 q1 q2 q3 => ?_)
  · unfold vp_V
    rw [List.getD_eq_getElem?_getD, j_fld hj]
    simp only [Option.getD_some, j_fv, j_nth_rep, Option.map_none, va_rf]
    rcases j_tys3 a ha j hj with h | h | h
    · rw [h]; rfl
    · rw [h]; rfl
    · rw [h]
      cases ht : j_ty a j <;> rw [ht] at h <;> first | rfl | (cases h; done)
  · refine j_bound fun hbd => ?_
    have e := j_fresh q1 q2 (by omega)
    subst e
    have e1 := j_ws_push (B := B) (tA := tA) (tO := tO) (cI := cI) (cJ := cJ) (cR := cR) (S := me.1) (M := me.2.1) (M' := j_row me.2.1 me.1.length (fun _ => 0)) (N := me.2.2) (N' := me.2.2) (a + 3, j_Nf a, List.replicate (j_Nf a) none) (fun q hq => j_row_off q (by omega)) (fun _ _ => rfl)
    rw [j_cell_obj (ci := a) (x := (a + 3, j_Nf a, List.replicate (j_Nf a) none)) rfl, j_row_at] at e1
    rw [show j_ws B tA tO cI cJ cR me = j_ws B tA tO cI cJ cR (me.1, me.2.1, me.2.2) from rfl, ← e1] at q1
    have z := kk.2 p e R s m args below meth cd n0 z0 C X r1 r2 hs H1 locs (cells + 1) (slots + j_Nf a) ls q1 q3 (by show (me.1 ++ [_]).length = _; rw [List.length_append]; show me.1.length + 1 = _; omega) (by show j_sz (me.1 ++ [_]) = _; rw [j_sz_append]; simp only [j_sz]; omega) hl
    rw [show ((Value.ref me.1.length :: st).map (j_tr B tA tO)) = .ref (j_ad B tA tO me.1.length) :: st.map (j_tr B tA tO) from rfl, j_ad_lt (by omega)] at z
    exact z
theorem g_newI {n : Int32} (hd : decode (j_info i).2.1 pc = .ok (.newarray .int, 2)) (h1000 : r.2.1.length ≤ 1000) (hn0 : ¬ n < 0) (hn1 : n.toNatClampNeg ≤ 65536)
    (kk : j_G l B tA tO dC dI cI cJ cR i d r (pc + 2) L (.ref me.1.length :: st) (me.1 ++ [(0, n.toNatClampNeg, [])], j_row me.2.1 me.1.length (fun _ => 0), me.2.2)) : j_G l B tA tO dC dI cI cJ cR i d r pc L (.int n :: st) me := by
  have hle1 : me.1.length + 1 ≤ r.2.1.length := by have h := kk.1.1; rw [List.length_append] at h; exact h
  have hle2 : j_sz me.1 + n.toNatClampNeg ≤ j_sz r.2.1 := by have h := kk.1.2; rw [j_sz_append] at h; simp only [j_sz] at h; omega
  refine ⟨⟨by omega, by omega⟩, fun p e R s m args below meth cd n0 z0 C X r1 r2 hs H locs cells slots ls hP hS hn hz hl => ?_⟩
  have hw2 := C.2.2.2.2.2.2.1
  refine va_newa (atype := .int) (ty := .int) (a0 := (n.toNatClampNeg, .inl (fun _ => 0))) C.1 C.2.1 (hw2 _ (j_fix_mem _ (by simp [j_fix, newarray.typeOf]))) rfl X.1 hP j_D hS (fun q hq => by show B ≤ q; omega) (fun _ => rfl) hn0 rfl (by show n.toNatClampNeg * 4 ≤ _; omega) (by omega) (by omega) hd (fun q cA H1 q0 q1 q2 q3 => ?_)
  have hcA : cA = cI := by
    have h1 : s.vm.findClass ("[" ++ FieldType.int.toString) = some cA := (q0.2 3 (cA, .int) rfl).2
    have h2 : s.vm.findClass ("[" ++ FieldType.int.toString) = some cI := (X.1.2 0 (cI, .int) rfl).2
    exact Option.some.inj (h1.symm.trans h2)
  subst hcA
  refine j_bound fun hbd => ?_
  have e := j_fresh q1 q2 (by omega)
  subst e
  have e1 := j_ws_push (B := B) (tA := tA) (tO := tO) (cI := cA) (cJ := cJ) (cR := cR) (S := me.1) (M := me.2.1) (M' := j_row me.2.1 me.1.length (fun _ => 0)) (N := me.2.2) (N' := me.2.2) (0, n.toNatClampNeg, []) (fun q hq => j_row_off q (by omega)) (fun _ _ => rfl)
  rw [j_cell_i (x := (0, n.toNatClampNeg, [])) rfl, j_row_at] at e1
  rw [show j_ws B tA tO cA cJ cR me = j_ws B tA tO cA cJ cR (me.1, me.2.1, me.2.2) from rfl, ← e1] at q1
  have z := kk.2 p e R s m args below meth cd n0 z0 C X r1 r2 hs H1 locs (cells + 1) (slots + n.toNatClampNeg) ls q1 q3 (by show (me.1 ++ [_]).length = _; rw [List.length_append]; show me.1.length + 1 = _; omega) (by show j_sz (me.1 ++ [_]) = _; rw [j_sz_append]; simp only [j_sz]; omega) hl
  rw [show ((Value.ref me.1.length :: st).map (j_tr B tA tO)) = .ref (j_ad B tA tO me.1.length) :: st.map (j_tr B tA tO) from rfl, j_ad_lt (by omega)] at z
  exact z
theorem g_newL {n : Int32} (hd : decode (j_info i).2.1 pc = .ok (.newarray .long, 2)) (h1000 : r.2.1.length ≤ 1000) (hn0 : ¬ n < 0) (hn1 : n.toNatClampNeg ≤ 65536)
    (kk : j_G l B tA tO dC dI cI cJ cR i d r (pc + 2) L (.ref me.1.length :: st) (me.1 ++ [(1, n.toNatClampNeg, [])], me.2.1, j_rowl me.2.2 me.1.length (fun _ => 0))) : j_G l B tA tO dC dI cI cJ cR i d r pc L (.int n :: st) me := by
  have hle1 : me.1.length + 1 ≤ r.2.1.length := by have h := kk.1.1; rw [List.length_append] at h; exact h
  have hle2 : j_sz me.1 + n.toNatClampNeg ≤ j_sz r.2.1 := by have h := kk.1.2; rw [j_sz_append] at h; simp only [j_sz] at h; omega
  refine ⟨⟨by omega, by omega⟩, fun p e R s m args below meth cd n0 z0 C X r1 r2 hs H locs cells slots ls hP hS hn hz hl => ?_⟩
  have hw2 := C.2.2.2.2.2.2.1
  refine va_newa (atype := .long) (ty := .long) (a0 := (n.toNatClampNeg, .inr (.inl (fun _ => 0)))) C.1 C.2.1 (hw2 _ (j_fix_mem _ (by simp [j_fix, newarray.typeOf]))) rfl X.1 hP j_D hS (fun q hq => by show B ≤ q; omega) (fun _ => rfl) hn0 rfl (by show n.toNatClampNeg * 8 ≤ _; omega) (by omega) (by omega) hd (fun q cA H1 q0 q1 q2 q3 => ?_)
  have hcA : cA = cJ := by
    have h1 : s.vm.findClass ("[" ++ FieldType.long.toString) = some cA := (q0.2 3 (cA, .long) rfl).2
    have h2 : s.vm.findClass ("[" ++ FieldType.long.toString) = some cJ := (X.1.2 1 (cJ, .long) rfl).2
    exact Option.some.inj (h1.symm.trans h2)
  subst hcA
  refine j_bound fun hbd => ?_
  have e := j_fresh q1 q2 (by omega)
  subst e
  have e1 := j_ws_push (B := B) (tA := tA) (tO := tO) (cI := cI) (cJ := cA) (cR := cR) (S := me.1) (M := me.2.1) (M' := me.2.1) (N := me.2.2) (N' := j_rowl me.2.2 me.1.length (fun _ => 0)) (1, n.toNatClampNeg, []) (fun _ _ => rfl) (fun q hq => j_rowl_off q (by omega))
  rw [j_cell_l (x := (1, n.toNatClampNeg, [])) rfl, j_rowl_at] at e1
  rw [show j_ws B tA tO cI cA cR me = j_ws B tA tO cI cA cR (me.1, me.2.1, me.2.2) from rfl, ← e1] at q1
  have z := kk.2 p e R s m args below meth cd n0 z0 C X r1 r2 hs H1 locs (cells + 1) (slots + n.toNatClampNeg) ls q1 q3 (by show (me.1 ++ [_]).length = _; rw [List.length_append]; show me.1.length + 1 = _; omega) (by show j_sz (me.1 ++ [_]) = _; rw [j_sz_append]; simp only [j_sz]; omega) hl
  rw [show ((Value.ref me.1.length :: st).map (j_tr B tA tO)) = .ref (j_ad B tA tO me.1.length) :: st.map (j_tr B tA tO) from rfl, j_ad_lt (by omega)] at z
  exact z
theorem g_newR {k : Nat} {n : Int32} (hd : decode (j_info i).2.1 pc = .ok (.anewarray k, 3)) (h1000 : r.2.1.length ≤ 1000) (hw : Cond.classLink (j_info i).1.cls k RX9 ∈ j_big) (hn0 : ¬ n < 0) (hn1 : n.toNatClampNeg ≤ 65536)
    (kk : j_G l B tA tO dC dI cI cJ cR i d r (pc + 3) L (.ref me.1.length :: st) (me.1 ++ [(2, n.toNatClampNeg, List.replicate n.toNatClampNeg none)], me.2.1, me.2.2)) : j_G l B tA tO dC dI cI cJ cR i d r pc L (.int n :: st) me := by
  have hle1 : me.1.length + 1 ≤ r.2.1.length := by have h := kk.1.1; rw [List.length_append] at h; exact h
  have hle2 : j_sz me.1 + n.toNatClampNeg ≤ j_sz r.2.1 := by have h := kk.1.2; rw [j_sz_append] at h; simp only [j_sz] at h; omega
  refine ⟨⟨by omega, by omega⟩, fun p e R s m args below meth cd n0 z0 C X r1 r2 hs H locs cells slots ls hP hS hn hz hl => ?_⟩
  have hw2 := C.2.2.2.2.2.2.1
  refine va_newq C.1 C.2.1 C.2.2.2.2.2.1 (hw2 _ hw) X.2.2.1 X.1 hP j_D hS (fun q hq => by show B ≤ q; omega) hn0 rfl (by omega) (by omega) (by omega) hd (fun q cA H1 q0 q1 q2 q3 => ?_)
  have hcA : cA = cR := by
    obtain ⟨_, _, _, _, _, h1⟩ := (q0.2 3 (cA, .object RX9) rfl).2
    obtain ⟨_, _, _, _, _, h2⟩ := (X.1.2 2 (cR, .object RX9) rfl).2
    exact Option.some.inj (h1.symm.trans h2)
  subst hcA
  refine j_bound fun hbd => ?_
  have e := j_fresh q1 q2 (by omega)
  subst e
  have e1 := j_ws_push (B := B) (tA := tA) (tO := tO) (cI := cI) (cJ := cJ) (cR := cA) (S := me.1) (M := me.2.1) (M' := me.2.1) (N := me.2.2) (N' := me.2.2) (2, n.toNatClampNeg, List.replicate n.toNatClampNeg none) (fun _ _ => rfl) (fun _ _ => rfl)
  rw [j_cell_r (x := (2, n.toNatClampNeg, List.replicate n.toNatClampNeg none)) rfl] at e1
  have e2 : (fun k => (j_nth (List.replicate n.toNatClampNeg none) k).map (j_ad B tA tO)) = (fun _ => none) := by
    funext k
    rw [j_nth_rep]
    rfl
  dsimp only at e1
  rw [e2] at e1
  rw [show j_ws B tA tO cI cJ cA me = j_ws B tA tO cI cJ cA (me.1, me.2.1, me.2.2) from rfl, ← e1] at q1
  have z := kk.2 p e R s m args below meth cd n0 z0 C X r1 r2 hs H1 locs (cells + 1) (slots + n.toNatClampNeg) ls q1 q3 (by show (me.1 ++ [_]).length = _; rw [List.length_append]; show me.1.length + 1 = _; omega) (by show j_sz (me.1 ++ [_]) = _; rw [j_sz_append]; simp only [j_sz]; omega) hl
  rw [show ((Value.ref me.1.length :: st).map (j_tr B tA tO)) = .ref (j_ad B tA tO me.1.length) :: st.map (j_tr B tA tO) from rfl, j_ad_lt (by omega)] at z
  exact z
end JN
end
section
/-! ===== soundness: calls, and every run (own text) ===== -/
section JC
variable {l : Launch} {B tA tO : Nat} {dC : Nat → ClassId} {dI : Nat → Nat → Nat} {cI cJ cR : ClassId}
theorem j_ent_len (vs : List Value) : (lg_sl (vs.map (j_tr B tA tO))).length = (j_ent vs).length := by
  induction vs with
  | nil => rfl
  | cons v q ih =>
    have e : lg_sl ((v :: q).map (j_tr B tA tO)) = (if (j_tr B tA tO v).category = 2 then [.val (j_tr B tA tO v), .second] else [.val (j_tr B tA tO v)]) ++ lg_sl (q.map (j_tr B tA tO)) := rfl
    rw [e, List.length_append, ih]
    cases v <;> simp [j_ent, j_tr, Value.category] <;> omega
theorem j_ent_args : ∀ (vs : List Value) (o k : Nat) (v : Value), (j_ent vs)[k]? = some v → v ≠ .null → (o + k, j_tr B tA tO v) ∈ lv_args o (vs.map (j_tr B tA tO))
  | [], _, _, _, h, _ => by simp [j_ent] at h
  | w :: q, o, k, v, h, hv => by
    by_cases hw : w.category = 2
    · have e : j_ent (w :: q) = w :: .null :: j_ent q := by cases w <;> first | rfl | (simp [Value.category] at hw; done)
      have e2 : lv_args o ((w :: q).map (j_tr B tA tO)) = (o, j_tr B tA tO w) :: lv_args (o + 2) (q.map (j_tr B tA tO)) := by
        show (o, j_tr B tA tO w) :: lv_args (if (j_tr B tA tO w).category = 2 then o + 2 else o + 1) (q.map (j_tr B tA tO)) = _
        rw [j_tr_cat, if_pos hw]
      rw [e] at h
      rw [e2]
      match k, h with
      | 0, h =>
        have : w = v := Option.some.inj h
        subst this
        exact List.mem_cons_self
      | 1, h => exact absurd (Option.some.inj h).symm hv
      | k + 2, h =>
        refine List.mem_cons_of_mem _ ?_
        have := j_ent_args q (o + 2) k v h hv
        rw [show o + (k + 2) = o + 2 + k by omega]
        exact this
    · have e : j_ent (w :: q) = w :: j_ent q := by cases w <;> first | rfl | (exact absurd rfl hw)
      have e2 : lv_args o ((w :: q).map (j_tr B tA tO)) = (o, j_tr B tA tO w) :: lv_args (o + 1) (q.map (j_tr B tA tO)) := by
        show (o, j_tr B tA tO w) :: lv_args (if (j_tr B tA tO w).category = 2 then o + 2 else o + 1) (q.map (j_tr B tA tO)) = _
        rw [j_tr_cat, if_neg hw]
      rw [e] at h
      rw [e2]
      match k, h with
      | 0, h =>
        have : w = v := Option.some.inj h
        subst this
        exact List.mem_cons_self
      | k + 1, h =>
        refine List.mem_cons_of_mem _ ?_
        have := j_ent_args q (o + 1) k v h hv
        rw [show o + (k + 1) = o + 1 + k by omega]
        exact this
theorem j_pad_get {n : Nat} {X : List Value} {k : Nat} {v : Value} (h : (j_pad n X)[k]? = some v) (hv : v ≠ .null) : X[k]? = some v := by
  unfold j_pad at h
  rcases Nat.lt_or_ge k X.length with q | q
  · rwa [List.getElem?_append_left q] at h
  · rw [List.getElem?_append_right q, List.getElem?_replicate] at h
    split at h
    · exact absurd (Option.some.inj h).symm hv
    · cases h
def j_room (d : Nat) (me : j_Me) (r : j_R) : Room := { frames := d + 1, cells := r.2.1.length - me.1.length, slots := j_sz r.2.1 - j_sz me.1, locals := 60 * (d + 1) }
def j_Pc (B tA tO : Nat) (dC : Nat → ClassId) (dI : Nat → Nat → Nat) (cI cJ cR : ClassId) (as : List Value) (me : j_Me) : Array Value → State → Prop := va_Pc (as.map (j_tr B tA tO)) (fun U => U.heap.size = B + me.1.length ∧ va_P (dC, dI) vwCl (j_ws B tA tO cI cJ cR me) U.heap ∧ j_X B tA tO dC dI cI cJ cR U)
theorem j_blind {as : List Value} {me : j_Me} : FrameBlind (j_Pc B tA tO dC dI cI cJ cR as me) := fun _ _ g mk q => ⟨q.1, q.2.1, q.2.2.1, q.2.2.2.calling g mk _⟩
theorem j_Met_of {i d : Nat} {as : List Value} {me : j_Me} {r : j_R} (hi : i < j_cnt) (hlen : (j_ent as).length ≤ (j_info i).2.2.1) (G : j_G l B tA tO dC dI cI cJ cR i d r 0 (j_pad (j_info i).2.2.1 (j_ent as)) [] me) :
    Met l (j_info i).1 (j_wds i) (j_room d me r) (j_Pc B tA tO dC dI cI cJ cR as me) (j_Q B tA tO dC dI cI cJ cR r) (r.2.1.length - me.1.length) (j_sz r.2.1 - j_sz me.1) (j_A B) := by
  obtain ⟨f1, f2, f3, f4, f5, f6, f7⟩ := j_mok_facts hi
  refine Met.ofW (cc := (j_info i).2.1) (maxL := (j_info i).2.2.1) (ret := (j_info i).2.2.2.1) f1 rfl ?_
  intro p e s m args below meth c s₁ Bd hml hv
  obtain ⟨rfl, hsz, hP, hX⟩ := hv
  have hts := atoms_spec (ws := j_wds i) Bd.pre
  have C : j_Cx p (headSpec (j_wds i) (j_room d me r)).room s m (as.map (j_tr B tA tO)).toArray meth c i d := ⟨Bd.exec, Bd.bytes, hml, Bd.returns, Bd.notSynchronized, findClass_of_methodNamed Bd.named, fun w h => hts w (List.mem_cons_of_mem _ h), fun z => (name_of_methodNamed Bd.named Bd.method).1.trans (f7 z).1, rfl, rfl⟩
  have hl := lv_entry (as.map (j_tr B tA tO)) (n := (j_info i).2.2.1) (by rw [j_ent_len]; exact hlen)
  rw [lg_entry_eq]
  generalize (lg_sl (as.map (j_tr B tA tO)) ++ List.replicate ((j_info i).2.2.1 - (lg_sl (as.map (j_tr B tA tO))).length) Slot.unset).toArray = ls at hl ⊢
  have hl2 : lv_has ls (j_info i).2.2.1 (j_as ((j_pad (j_info i).2.2.1 (j_ent as)).map (j_tr B tA tO))) := by
    refine ⟨hl.1, hl.2.1, fun q hq => ?_⟩
    obtain ⟨h1, h2⟩ := j_as_mem.mp hq
    rw [List.getElem?_map] at h1
    cases hx : (j_pad (j_info i).2.2.1 (j_ent as))[q.1]? with
    | none => rw [hx] at h1; cases h1
    | some w =>
      rw [hx] at h1
      have e : j_tr B tA tO w = q.2 := Option.some.inj h1
      have hw : w ≠ .null := fun z => h2 (by rw [← e]; exact j_tr_null.mpr z)
      have := j_ent_args (B := B) (tA := tA) (tO := tO) as 0 q.1 w (j_pad_get hx hw) hw
      rw [Nat.zero_add, e] at this
      exact hl.2.2 q this
  exact G.2 p e _ s m _ below meth c me.1.length (j_sz me.1) C hX rfl rfl hsz s.heap [] 0 0 ls hP va_S.rf rfl rfl hl2
/-- behind a call -/
theorem j_after {p : Program} {e : Env} {R : Room} {s : State} {m : MethodId} {args : Array Value} {below : List Frame} {meth : Method} {c : Code} {H : Heap} {locs : List Loc} {cells slots mc ms : Nat} {Q : State → Prop} {pc : Nat} {ls : Array Slot} {st0 rest : List Value} {q : j_R} {av : Array Value}
    (hr : va_Run p l e R s m args below meth c H locs cells slots mc ms (F0 m pc ls st0) rest (j_Q B tA tO dC dI cI cJ cR q av) (j_A B)) (hS : va_S (j_A B) s.heap H locs)
    (kk : ∀ (H1 : Heap) (locs1 : List Loc), va_P (dC, dI) vwCl (j_ws B tA tO cI cJ cR q.2) H1 → va_S (j_A B) s.heap H1 locs1 → W p l e R s m args below meth c H1 locs1 (cells + mc) (slots + ms) Q (F0 m (pc + 3) ls (q.1.toList ++ rest))) : W p l e R s m args below meth c H locs cells slots Q (F0 m pc ls st0) := by
  intro T hT X
  obtain ⟨v, st₀, t, T', Lc, h0, X', hL, e1, e2, ⟨hv, hP1, hz, hk⟩, stp⟩ := hr T hT X
  cases hv
  rw [h0] at hz hk
  obtain ⟨t2, a1, b1⟩ := kk T'.heap (locs ++ Lc) (by rw [e1]; exact hP1)
    ⟨Nat.le_trans hS.1 (by rw [e1]; exact hz), fun x h1 h2 => by rw [e1, hk x (Nat.lt_of_lt_of_le h1 hS.1) h2]; exact hS.2.1 x h1 h2, fun x hx => by
      rcases List.mem_append.mp hx with h | h
      · exact hS.2.2 x h
      · exact hL x h⟩ T' rfl X'
  exact ⟨t2, stp t2 a1, b1⟩
section
variable {i d a b : Nat} {r q : j_R} {pc : Nat} {L st as vs : List Value} {me : j_Me}
theorem g_callV {k c : Nat} (hi : i < j_cnt) (hd : decode (j_info i).2.1 pc = .ok (.invokevirtual k, 3)) (h1000 : r.2.1.length ≤ 1000) (ha : a < j_cnt) (hw : Cond.methodLink (j_info i).1.cls k (j_info a).1 ∈ j_big) (hkd : Nat.beq (j_info a).2.2.2.2.2.2 1 = true) (hnp : (j_info a).2.2.2.2.2.1 = as.length) (hcl : (j_info a).2.2.2.2.1 < 12) (hc : (j_at me.1 c).1 = (j_info a).2.2.2.2.1 + 3) (hcat : j_cat st ≤ 8)
    (hlen : (j_ent (.ref c :: as)).length ≤ (j_info a).2.2.1) (G : j_G l B tA tO dC dI cI cJ cR a d q 0 (j_pad (j_info a).2.2.1 (j_ent (.ref c :: as))) [] me) (hv : q.1.toList = vs) (hvs : vs.map (j_tr B tA tO) = vs)
    (kk : j_G l B tA tO dC dI cI cJ cR i (d + 1) r (pc + 3) L (vs ++ st) q.2) : j_G l B tA tO dC dI cI cJ cR i (d + 1) r pc L (as.reverse ++ .ref c :: st) me := by
  obtain ⟨f1, f2, f3, f4, f5, f6, f7⟩ := j_mok_facts ha
  obtain ⟨hg, hlt, -⟩ := j_has (B := B) (tA := tA) (tO := tO) (cI := cI) (cJ := cJ) (cR := cR) hc (by omega)
  rw [j_cell_obj hc] at hg
  have g1 := G.1
  have k1 := kk.1
  have hle : me.1.length ≤ q.2.1.length ∧ q.2.1.length ≤ r.2.1.length ∧ j_sz me.1 ≤ j_sz q.2.1 ∧ j_sz q.2.1 ≤ j_sz r.2.1 := ⟨g1.1, k1.1, g1.2, k1.2⟩
  refine ⟨⟨by omega, by omega⟩, fun p e R s m args below meth cd n0 z0 C X r1 r2 hs H locs cells slots ls hP hS hn hz hl => ?_⟩
  have hw2 := C.2.2.2.2.2.2.1
  have hf := C.2.2.2.2.2.2.2.2.1
  have hlo := C.2.2.2.2.2.2.2.2.2
  have hvm := j_vir_mem ha hkd
  refine j_bound fun hbd => ?_
  have hsz := j_size hP hS hs hn hbd
  rw [List.map_append, List.map_reverse]
  show W p l e R s m args below meth cd H locs cells slots _ (F0 m pc ls ((as.map (j_tr B tA tO)).reverse ++ .ref (j_ad B tA tO c) :: st.map (j_tr B tA tO)))
  have hM := j_Met_of (l := l) ha hlen G
  have hac : j_ad B tA tO c = B + c := j_ad_lt (by omega)
  refine j_after (q := q) (rest := st.map (j_tr B tA tO)) (va_runV (C := j_cn (j_info a).2.2.2.2.1) (As := as.map (j_tr B tA tO)) (b := j_ad B tA tO c) (n := (j_info a).2.2.2.2.2.1) ⟨C.1, C.2.1, C.2.2.1, C.2.2.2.2.2.1, hw2⟩ hM
    ⟨callB_of (j_info a).2.2.2.2.2.1 hw2 (j_goodIn ha) rfl rfl rfl (hw2 _ (j_ini_mem ha)) (hw2 _ hw) ⟨f3, f4, f5⟩ ⟨by show d + 1 + 1 ≤ R.frames; omega, by show 8 + ((j_info a).2.2.1 + 11) + 60 * (d + 1) ≤ R.locals; omega⟩, hw2 _ hvm.1, by rw [← f6]; exact hw2 _ hvm.2⟩
    ⟨j_blind, by rw [hac]; exact va_recv X.1 hP (j_cl _ hcl) hg, fun U hU hW => ⟨rfl, by rw [hU]; exact hsz, by rw [hU]; exact hP, X.warm hW (by rw [hU]; exact hS.2.1)⟩⟩ rfl (by rw [List.length_map]; exact hnp.symm) hl.1 rfl (lv_room (by rw [j_cat_sum]; exact hcat)) hd ⟨by omega, by omega⟩) hS (fun H1 locs1 q1 q2 => ?_)
  have z := kk.2 p e R s m args below meth cd n0 z0 C X r1 r2 hs H1 locs1 (cells + (q.2.1.length - me.1.length)) (slots + (j_sz q.2.1 - j_sz me.1)) ls q1 q2 (by omega) (by omega) hl
  rw [List.map_append, hvs] at z
  rw [hv]
  exact z
theorem g_callS {k kd : Nat} (hi : i < j_cnt) (hd : decode (j_info i).2.1 pc = .ok (.invokestatic k, 3)) (h1000 : r.2.1.length ≤ 1000) (ha : a < j_cnt) (hw : Cond.methodLink (j_info i).1.cls k (j_info a).1 ∈ j_big ∨ Cond.methodLinkNest (j_info i).1.cls k (j_info a).1 RX10 ∈ j_nw) (hkd : Nat.beq (j_info a).2.2.2.2.2.2 0 = true) (hnp : (j_info a).2.2.2.2.2.1 = as.length) (hcat : j_cat st ≤ 8)
    (hlen : (j_ent as).length ≤ (j_info a).2.2.1) (G : j_G l B tA tO dC dI cI cJ cR a d q 0 (j_pad (j_info a).2.2.1 (j_ent as)) [] me) (hv : q.1.toList = vs) (hvs : vs.map (j_tr B tA tO) = vs)
    (kk : j_G l B tA tO dC dI cI cJ cR i (d + 1) r (pc + 3) L (vs ++ st) q.2) : j_G l B tA tO dC dI cI cJ cR i (d + 1) r pc L (as.reverse ++ st) me := by
  obtain ⟨f1, f2, f3, f4, f5, f6, f7⟩ := j_mok_facts ha
  have g1 := G.1
  have k1 := kk.1
  have hle : me.1.length ≤ q.2.1.length ∧ q.2.1.length ≤ r.2.1.length ∧ j_sz me.1 ≤ j_sz q.2.1 ∧ j_sz q.2.1 ≤ j_sz r.2.1 := ⟨g1.1, k1.1, g1.2, k1.2⟩
  refine ⟨⟨by omega, by omega⟩, fun p e R s m args below meth cd n0 z0 C X r1 r2 hs H locs cells slots ls hP hS hn hz hl => ?_⟩
  have hw2 := C.2.2.2.2.2.2.1
  have hf := C.2.2.2.2.2.2.2.2.1
  have hlo := C.2.2.2.2.2.2.2.2.2
  have hst := j_sta_mem ha hkd
  refine j_bound fun hbd => ?_
  have hsz := j_size hP hS hs hn hbd
  rw [List.map_append, List.map_reverse]
  have hM := j_Met_of (l := l) ha hlen G
  have hpre : PreS s H (j_Pc B tA tO dC dI cI cJ cR as me) (as.map (j_tr B tA tO)) := ⟨j_blind, fun U hU hW => ⟨rfl, by rw [hU]; exact hsz, by rw [hU]; exact hP, X.warm hW (by rw [hU]; exact hS.2.1)⟩⟩
  have hR : (j_room d me q).frames + 1 ≤ R.frames ∧ 8 + ((j_info a).2.2.1 + 11) + (j_room d me q).locals ≤ R.locals := ⟨by show d + 1 + 1 ≤ R.frames; omega, by show 8 + ((j_info a).2.2.1 + 11) + 60 * (d + 1) ≤ R.locals; omega⟩
  have hrun : va_Run p l e R s m args below meth cd H locs cells slots (q.2.1.length - me.1.length) (j_sz q.2.1 - j_sz me.1) (F0 m pc ls ((as.map (j_tr B tA tO)).reverse ++ st.map (j_tr B tA tO))) (st.map (j_tr B tA tO)) (j_Q B tA tO dC dI cI cJ cR q (as.map (j_tr B tA tO)).toArray) (j_A B) := by
    rcases hw with hw | hw
    · exact va_runS (n := (j_info a).2.2.2.2.2.1) ⟨C.1, C.2.1, C.2.2.1, C.2.2.2.2.2.1, hw2⟩ hM ⟨callB_of (j_info a).2.2.2.2.2.1 hw2 (j_goodIn ha) rfl rfl rfl (hw2 _ (j_ini_mem ha)) (hw2 _ hw) ⟨f3, f4, f5⟩ hR, hw2 _ hst⟩ hpre rfl (by rw [List.length_map]; exact hnp.symm) hl.1 rfl (lv_room (by rw [j_cat_sum]; exact hcat)) hd ⟨by omega, by omega⟩
    · exact va_runSN (n := (j_info a).2.2.2.2.2.1) ⟨C.1, C.2.1, C.2.2.1, C.2.2.2.2.2.1, hw2⟩ hM ⟨va_cnB (j_info a).2.2.2.2.2.1 hw2 (j_goodIn ha) rfl rfl rfl (X.2.1 _ hw) (hw2 _ (j_ini_mem ha)) ⟨f3, f4, f5⟩ hR, hw2 _ hst, trivial⟩ hpre rfl (by rw [List.length_map]; exact hnp.symm) hl.1 rfl (lv_room (by rw [j_cat_sum]; exact hcat)) hd ⟨by omega, by omega⟩
  refine j_after (q := q) hrun hS (fun H1 locs1 q1 q2 => ?_)
  have z := kk.2 p e R s m args below meth cd n0 z0 C X r1 r2 hs H1 locs1 (cells + (q.2.1.length - me.1.length)) (slots + (j_sz q.2.1 - j_sz me.1)) ls q1 q2 (by omega) (by omega) hl
  rw [List.map_append, hvs] at z
  rw [hv]
  exact z
theorem g_callI {k c : Nat} (hi : i < j_cnt) (hd : decode (j_info i).2.1 pc = .ok (.invokespecial k, 3)) (h1000 : r.2.1.length ≤ 1000) (ha : a < j_cnt) (hw : Cond.methodLink (j_info i).1.cls k (j_info a).1 ∈ j_big ∨ Cond.methodLinkNest (j_info i).1.cls k (j_info a).1 RX10 ∈ j_nw) (hkd : Nat.beq (j_info a).2.2.2.2.2.2 2 = true) (hnp : (j_info a).2.2.2.2.2.1 = as.length) (hcat : j_cat st ≤ 8)
    (hlen : (j_ent (.ref c :: as)).length ≤ (j_info a).2.2.1) (G : j_G l B tA tO dC dI cI cJ cR a d q 0 (j_pad (j_info a).2.2.1 (j_ent (.ref c :: as))) [] me) (hv : q.1 = none)
    (kk : j_G l B tA tO dC dI cI cJ cR i (d + 1) r (pc + 3) L st q.2) : j_G l B tA tO dC dI cI cJ cR i (d + 1) r pc L (as.reverse ++ .ref c :: st) me := by
  obtain ⟨f1, f2, f3, f4, f5, f6, f7⟩ := j_mok_facts ha
  have g1 := G.1
  have k1 := kk.1
  have hle : me.1.length ≤ q.2.1.length ∧ q.2.1.length ≤ r.2.1.length ∧ j_sz me.1 ≤ j_sz q.2.1 ∧ j_sz q.2.1 ≤ j_sz r.2.1 := ⟨g1.1, k1.1, g1.2, k1.2⟩
  refine ⟨⟨by omega, by omega⟩, fun p e R s m args below meth cd n0 z0 C X r1 r2 hs H locs cells slots ls hP hS hn hz hl => ?_⟩
  have hw2 := C.2.2.2.2.2.2.1
  have hf := C.2.2.2.2.2.2.2.2.1
  have hlo := C.2.2.2.2.2.2.2.2.2
  have hst := j_con_mem ha hkd
  refine j_bound fun hbd => ?_
  have hsz := j_size hP hS hs hn hbd
  rw [List.map_append, List.map_reverse]
  show W p l e R s m args below meth cd H locs cells slots _ (F0 m pc ls ((as.map (j_tr B tA tO)).reverse ++ .ref (j_ad B tA tO c) :: st.map (j_tr B tA tO)))
  have hM := j_Met_of (l := l) ha hlen G
  have hcode : j_wds a = Cond.code (j_info a).1 (j_info a).2.1 (j_info a).2.2.1 none :: j_big := by unfold j_wds; rw [(f7 hkd).2]
  have hpre : PreS s H (j_Pc B tA tO dC dI cI cJ cR (.ref c :: as) me) (.ref (j_ad B tA tO c) :: as.map (j_tr B tA tO)) := ⟨j_blind, fun U hU hW => ⟨rfl, by rw [hU]; exact hsz, by rw [hU]; exact hP, X.warm hW (by rw [hU]; exact hS.2.1)⟩⟩
  have hR : (j_room d me q).frames + 1 ≤ R.frames ∧ 8 + ((j_info a).2.2.1 + 11) + (j_room d me q).locals ≤ R.locals := ⟨by show d + 1 + 1 ≤ R.frames; omega, by show 8 + ((j_info a).2.2.1 + 11) + 60 * (d + 1) ≤ R.locals; omega⟩
  have hrun : va_Run p l e R s m args below meth cd H locs cells slots (q.2.1.length - me.1.length) (j_sz q.2.1 - j_sz me.1) (F0 m pc ls ((as.map (j_tr B tA tO)).reverse ++ .ref (j_ad B tA tO c) :: st.map (j_tr B tA tO))) (st.map (j_tr B tA tO)) (j_Q B tA tO dC dI cI cJ cR q (Value.ref (j_ad B tA tO c) :: as.map (j_tr B tA tO)).toArray) (j_A B) := by
    rcases hw with hw | hw
    · exact va_runI (n := (j_info a).2.2.2.2.2.1) (maxL := (j_info a).2.2.1) (bytes := (j_info a).2.1) ⟨C.1, C.2.1, C.2.2.1, C.2.2.2.2.2.1, hw2⟩ hM ⟨callB_of (j_info a).2.2.2.2.2.1 hw2 (j_goodIn ha) hcode rfl rfl (hw2 _ (j_ini_mem ha)) (hw2 _ hw) ⟨f3, f4, f5⟩ hR, (f7 hkd).1, hw2 _ hst⟩ hpre rfl (by rw [List.length_map]; exact hnp.symm) hl.1 rfl (lv_room (by rw [j_cat_sum]; exact hcat)) hd ⟨by omega, by omega⟩
    · exact va_runIN (n := (j_info a).2.2.2.2.2.1) (maxL := (j_info a).2.2.1) (bytes := (j_info a).2.1) ⟨C.1, C.2.1, C.2.2.1, C.2.2.2.2.2.1, hw2⟩ hM ⟨va_cnB (j_info a).2.2.2.2.2.1 hw2 (j_goodIn ha) hcode rfl rfl (X.2.1 _ hw) (hw2 _ (j_ini_mem ha)) ⟨f3, f4, f5⟩ hR, (f7 hkd).1, hw2 _ hst⟩ hpre rfl (by rw [List.length_map]; exact hnp.symm) hl.1 rfl (lv_room (by rw [j_cat_sum]; exact hcat)) hd ⟨by omega, by omega⟩
  refine j_after (q := q) hrun hS (fun H1 locs1 q1 q2 => ?_)
  have z := kk.2 p e R s m args below meth cd n0 z0 C X r1 r2 hs H1 locs1 (cells + (q.2.1.length - me.1.length)) (slots + (j_sz q.2.1 - j_sz me.1)) ls q1 q2 (by omega) (by omega) hl
  rw [hv]
  exact z
end
end JC
end
section
/-! ===== soundness: every run (own text, printed by wip/whole/gensound.py) ===== -/
theorem j_lk_mem {β : Type} : ∀ (xs : List (Nat × β)) (p : Nat) (x : β), j_lk xs p = some x → (p, x) ∈ xs
  | [], _, _, h => by cases h
  | (k, y) :: q, p, x, h => by
    unfold j_lk at h
    cases hb : Nat.beq k p with
    | true =>
      rw [hb] at h
      have e1 : k = p := Nat.eq_of_beq_eq_true hb
      have e2 : y = x := Option.some.inj h
      rw [e1, e2]
      exact List.mem_cons_self
    | false =>
      rw [hb] at h
      exact List.mem_cons_of_mem _ (j_lk_mem q p x h)
section JR
variable {l : Launch} {B tA tO : Nat} {dC : Nat → ClassId} {dI : Nat → Nat → Nat} {cI cJ cR : ClassId}
/-- what a call's propositions say -/
theorem j_call_p {n d a : Nat} {as : List Value} {me : j_Me} {q : j_R} (h : j_call (j_run n) d a as me = some q) : ∃ d', d = d' + 1 ∧ a < j_cnt ∧ (j_ent as).length ≤ (j_meth a).2.2 ∧ j_run n d' (j_meth a) 0 (j_pad (j_meth a).2.2 (j_ent as)) [] me = some q := by
  cases d with
  | zero => cases h
  | succ d =>
    unfold j_call at h
    dsimp only at h
    cases hb : (Nat.ble (j_ent as).length (j_meth a).2.2 && Nat.blt a j_cnt) with
    | false => rw [hb] at h; cases h
    | true =>
      rw [hb] at h
      rw [Bool.and_eq_true] at hb
      exact ⟨d, rfl, Nat.le_of_ble_eq_true hb.2, Nat.le_of_ble_eq_true hb.1, h⟩
theorem j_bh_p {k : List Value → j_Me → Option j_R} {v : Value} {S : j_S} {q r : j_R} (h : j_bh k v S q = some r) : q.2.1 = S ∧ ∃ vs : List Value, q.1.toList = vs ∧ vs.map (j_tr B tA tO) = vs ∧ k vs q.2 = some r := by
  unfold j_bh at h
  cases hb : decide (q.2.1 = S) with
  | false => rw [hb] at h; cases h
  | true =>
    rw [hb] at h
    have e := of_decide_eq_true hb
    refine ⟨e, ?_⟩
    have e2 : (S, q.2.2) = q.2 := by rw [← e]
    simp only [cond_true, e2] at h
    unfold j_res j_by j_oi j_ol j_ov at h
    revert h
    cases v <;> dsimp only <;> split <;> rename_i z <;> intro h <;> first | (exact ⟨_, by rw [z]; rfl, rfl, h⟩) | (cases h; done)
theorem j_bhs_p {k : j_Me → Option j_R} {q r : j_R} (h : j_bhs k q = some r) : q.1 = none ∧ k q.2 = some r := by
  unfold j_bhs j_ov at h
  revert h
  split <;> rename_i z <;> intro h
  · exact ⟨z, h⟩
  · cases h
set_option maxHeartbeats 8000000 in
set_option maxRecDepth 20000 in
theorem j_sound_run : ∀ (n d i : Nat), i < j_cnt → ∀ (pc : Nat) (L st : List Value) (me : j_Me) (r : j_R), r.2.1.length ≤ 1000 → j_run n d (j_meth i) pc L st me = some r → j_G l B tA tO dC dI cI cJ cR i d r pc L st me := by
  intro n
  induction n with
  | zero => intro d i _ pc L st me r _ h; cases h
  | succ n ih =>
    intro d i hi pc L st me r h1000 h
    have hs : j_step (j_run n) d (j_meth i) pc L st me = some r := h
    rw [j_step_some] at hs
    have hok := j_ok i hi
    unfold j_okm at hok
    rw [Bool.and_eq_true, decide_eq_true_eq, List.all_eq_true] at hok
    obtain ⟨hmL, hall⟩ := hok
    have hcn : (j_info i).1.cls = j_cn (j_info i).2.2.2.2.1 := (j_mok_facts hi).2.2.2.2.2.1
    have nx : ∀ (pc' : Nat) (L' st' : List Value) (me' : j_Me), j_run n d (j_meth i) pc' (j_fg (j_meth i).2.1 pc' L') st' me' = some r → j_G l B tA tO dC dI cI cJ cR i d r pc' L' st' me' := fun pc' L' st' me' z => (ih d i hi pc' _ st' me' r h1000 z).fg (j_meth i).2.1
    unfold j_go at hs
    split at hs
    · exact hs.elim
    · rename_i ins z a b v ts ps hlk
      have hc := hall _ (j_lk_mem _ _ _ hlk)
      dsimp only at hc
      cases ins
      case iconst k =>
        simp only [j_chk, Bool.and_eq_true, Bool.or_eq_true, decide_eq_true_eq] at hc
        obtain ⟨c1, rfl⟩ := hc
        exact g_iconst c1 (nx _ _ _ _ hs)
      case bipush k =>
        simp only [j_chk, Bool.and_eq_true, Bool.or_eq_true, decide_eq_true_eq] at hc
        obtain ⟨c1, rfl⟩ := hc
        exact g_bipush c1 (nx _ _ _ _ hs)
      case sipush k =>
        simp only [j_chk, Bool.and_eq_true, Bool.or_eq_true, decide_eq_true_eq] at hc
        obtain ⟨c1, rfl⟩ := hc
        exact g_sipush c1 (nx _ _ _ _ hs)
      case lconst k =>
        simp only [j_chk, Bool.and_eq_true, Bool.or_eq_true, decide_eq_true_eq] at hc
        obtain ⟨c1, rfl⟩ := hc
        exact g_lconst c1 (nx _ _ _ _ hs)
      case ldc k =>
        simp only [j_chk, Bool.and_eq_true] at hc
        obtain ⟨c1, c2⟩ := hc
        cases v with
        | int x =>
          obtain ⟨p, hp⟩ := j_KI_ok (of_decide_eq_true c2)
          have hw := j_hw_mem hp
          unfold j_wKI at hw
          rw [← hcn] at hw
          exact g_ldc (of_decide_eq_true c1) hw (nx _ _ _ _ hs)
        | _ => cases c2
      case ldc_w k =>
        simp only [j_chk, Bool.and_eq_true] at hc
        obtain ⟨c1, c2⟩ := hc
        cases v with
        | int x =>
          obtain ⟨p, hp⟩ := j_KI_ok (of_decide_eq_true c2)
          have hw := j_hw_mem hp
          unfold j_wKI at hw
          rw [← hcn] at hw
          exact g_ldc_w (of_decide_eq_true c1) hw (nx _ _ _ _ hs)
        | _ => cases c2
      case ldc2_w k =>
        simp only [j_chk, Bool.and_eq_true] at hc
        obtain ⟨c1, c2⟩ := hc
        cases v with
        | long x =>
          obtain ⟨p, hp⟩ := j_KL_ok (of_decide_eq_true c2)
          have hw := j_hw_mem hp
          unfold j_wKL at hw
          rw [← hcn] at hw
          exact g_ldc2 (of_decide_eq_true c1) hw (nx _ _ _ _ hs)
        | _ => cases c2
      case iload_n k =>
        simp only [j_chk, Bool.and_eq_true, Bool.or_eq_true, decide_eq_true_eq] at hc
        obtain ⟨c1, c2⟩ := hc
        obtain ⟨x, hx, h2⟩ := j_vi_p (show j_vi False _ (j_lg L a) from hs)
        exact g_iload_n c1 c2 hx (nx _ _ _ _ h2)
      case iload k =>
        simp only [j_chk, Bool.and_eq_true, Bool.or_eq_true, decide_eq_true_eq] at hc
        obtain ⟨c1, rfl⟩ := hc
        obtain ⟨x, hx, h2⟩ := j_vi_p (show j_vi False _ (j_lg L k) from hs)
        exact g_iload c1 hx (nx _ _ _ _ h2)
      case lload_n k =>
        simp only [j_chk, Bool.and_eq_true, Bool.or_eq_true, decide_eq_true_eq] at hc
        obtain ⟨c1, c2⟩ := hc
        obtain ⟨x, hx, h2⟩ := j_vl_p (show j_vl False _ (j_lg L a) from hs)
        exact g_lload_n c1 c2 hx (nx _ _ _ _ h2)
      case lload k =>
        simp only [j_chk, Bool.and_eq_true, Bool.or_eq_true, decide_eq_true_eq] at hc
        obtain ⟨c1, rfl⟩ := hc
        obtain ⟨x, hx, h2⟩ := j_vl_p (show j_vl False _ (j_lg L k) from hs)
        exact g_lload c1 hx (nx _ _ _ _ h2)
      case aload_n k =>
        simp only [j_chk, Bool.and_eq_true, Bool.or_eq_true, decide_eq_true_eq] at hc
        obtain ⟨c1, c2⟩ := hc
        obtain ⟨x, hx, h2⟩ := j_vr_p (show j_vr False _ (j_lg L a) from hs)
        exact g_aload_n c1 c2 hx (nx _ _ _ _ h2)
      case aload k =>
        simp only [j_chk, Bool.and_eq_true, Bool.or_eq_true, decide_eq_true_eq] at hc
        obtain ⟨c1, rfl⟩ := hc
        obtain ⟨x, hx, h2⟩ := j_vr_p (show j_vr False _ (j_lg L k) from hs)
        exact g_aload c1 hx (nx _ _ _ _ h2)
      case istore_n k =>
        simp only [j_chk, Bool.and_eq_true, Bool.or_eq_true, decide_eq_true_eq] at hc
        obtain ⟨⟨c1, c2⟩, c3⟩ := hc
        obtain ⟨x, q, rfl, h2⟩ := j_i1_p (show j_i1 False _ st from hs)
        exact g_istore_n c1 c2 c3 (nx _ _ _ _ h2)
      case istore k =>
        simp only [j_chk, Bool.and_eq_true, Bool.or_eq_true, decide_eq_true_eq] at hc
        obtain ⟨⟨c1, rfl⟩, c3⟩ := hc
        obtain ⟨x, q, rfl, h2⟩ := j_i1_p (show j_i1 False _ st from hs)
        exact g_istore c1 c3 (nx _ _ _ _ h2)
      case lstore_n k =>
        simp only [j_chk, Bool.and_eq_true, Bool.or_eq_true, decide_eq_true_eq] at hc
        obtain ⟨⟨c1, c2⟩, c3⟩ := hc
        obtain ⟨x, q, rfl, h2⟩ := j_l1_p (show j_l1 False _ st from hs)
        exact g_lstore_n c1 c2 c3 (nx _ _ _ _ h2)
      case lstore k =>
        simp only [j_chk, Bool.and_eq_true, Bool.or_eq_true, decide_eq_true_eq] at hc
        obtain ⟨⟨c1, rfl⟩, c3⟩ := hc
        obtain ⟨x, q, rfl, h2⟩ := j_l1_p (show j_l1 False _ st from hs)
        exact g_lstore c1 c3 (nx _ _ _ _ h2)
      case astore_n k =>
        simp only [j_chk, Bool.and_eq_true, Bool.or_eq_true, decide_eq_true_eq] at hc
        obtain ⟨⟨c1, c2⟩, c3⟩ := hc
        obtain ⟨x, q, rfl, h2⟩ := j_r1_p (show j_r1 False _ st from hs)
        exact g_astore_n c1 c2 c3 (nx _ _ _ _ h2)
      case astore k =>
        simp only [j_chk, Bool.and_eq_true, Bool.or_eq_true, decide_eq_true_eq] at hc
        obtain ⟨⟨c1, rfl⟩, c3⟩ := hc
        obtain ⟨x, q, rfl, h2⟩ := j_r1_p (show j_r1 False _ st from hs)
        exact g_astore c1 c3 (nx _ _ _ _ h2)
      case iinc k m =>
        simp only [j_chk, Bool.and_eq_true, Bool.or_eq_true, decide_eq_true_eq] at hc
        obtain ⟨⟨⟨c1, rfl⟩, c3⟩, rfl⟩ := hc
        have hs : j_vi False (fun y => j_vi False (fun x => j_run n d (j_meth i) (pc + 3) (j_fg (j_meth i).2.1 (pc + 3) (j_put L k (.int (x + y)))) st me = some r) (j_lg L k)) (Value.int (Int32.ofInt m)) := hs
        obtain ⟨y, hy, h2⟩ := j_vi_p hs
        cases hy
        obtain ⟨x, hx, h3⟩ := j_vi_p h2
        exact g_iinc c1 c3 hx (nx _ _ _ _ h3)
      case iadd =>
        have c1 := of_decide_eq_true (show decide (decode (j_info i).2.1 pc = .ok (.iadd, 1)) = true from hc)
        obtain ⟨x, y, q, rfl, h2⟩ := j_i2_p (show j_i2 False _ st from hs)
        exact g_iadd c1 (nx _ _ _ _ h2)
      case isub =>
        have c1 := of_decide_eq_true (show decide (decode (j_info i).2.1 pc = .ok (.isub, 1)) = true from hc)
        obtain ⟨x, y, q, rfl, h2⟩ := j_i2_p (show j_i2 False _ st from hs)
        exact g_isub c1 (nx _ _ _ _ h2)
      case imul =>
        have c1 := of_decide_eq_true (show decide (decode (j_info i).2.1 pc = .ok (.imul, 1)) = true from hc)
        obtain ⟨x, y, q, rfl, h2⟩ := j_i2_p (show j_i2 False _ st from hs)
        exact g_imul c1 (nx _ _ _ _ h2)
      case iand =>
        have c1 := of_decide_eq_true (show decide (decode (j_info i).2.1 pc = .ok (.iand, 1)) = true from hc)
        obtain ⟨x, y, q, rfl, h2⟩ := j_i2_p (show j_i2 False _ st from hs)
        exact g_iand c1 (nx _ _ _ _ h2)
      case ior =>
        have c1 := of_decide_eq_true (show decide (decode (j_info i).2.1 pc = .ok (.ior, 1)) = true from hc)
        obtain ⟨x, y, q, rfl, h2⟩ := j_i2_p (show j_i2 False _ st from hs)
        exact g_ior c1 (nx _ _ _ _ h2)
      case ixor =>
        have c1 := of_decide_eq_true (show decide (decode (j_info i).2.1 pc = .ok (.ixor, 1)) = true from hc)
        obtain ⟨x, y, q, rfl, h2⟩ := j_i2_p (show j_i2 False _ st from hs)
        exact g_ixor c1 (nx _ _ _ _ h2)
      case ishl =>
        have c1 := of_decide_eq_true (show decide (decode (j_info i).2.1 pc = .ok (.ishl, 1)) = true from hc)
        obtain ⟨x, y, q, rfl, h2⟩ := j_i2_p (show j_i2 False _ st from hs)
        exact g_ishl c1 (nx _ _ _ _ h2)
      case ishr =>
        have c1 := of_decide_eq_true (show decide (decode (j_info i).2.1 pc = .ok (.ishr, 1)) = true from hc)
        obtain ⟨x, y, q, rfl, h2⟩ := j_i2_p (show j_i2 False _ st from hs)
        exact g_ishr c1 (nx _ _ _ _ h2)
      case iushr =>
        have c1 := of_decide_eq_true (show decide (decode (j_info i).2.1 pc = .ok (.iushr, 1)) = true from hc)
        obtain ⟨x, y, q, rfl, h2⟩ := j_i2_p (show j_i2 False _ st from hs)
        exact g_iushr c1 (nx _ _ _ _ h2)
      case idiv =>
        have c1 := of_decide_eq_true (show decide (decode (j_info i).2.1 pc = .ok (.idiv, 1)) = true from hc)
        obtain ⟨x, y, q, rfl, h2⟩ := j_i2_p (show j_i2 False _ st from hs)
        by_cases hy : y = 0
        · rw [if_pos hy] at h2; exact h2.elim
        · rw [if_neg hy] at h2
          exact g_idiv c1 hy (nx _ _ _ _ h2)
      case irem =>
        have c1 := of_decide_eq_true (show decide (decode (j_info i).2.1 pc = .ok (.irem, 1)) = true from hc)
        obtain ⟨x, y, q, rfl, h2⟩ := j_i2_p (show j_i2 False _ st from hs)
        by_cases hy : y = 0
        · rw [if_pos hy] at h2; exact h2.elim
        · rw [if_neg hy] at h2
          exact g_irem c1 hy (nx _ _ _ _ h2)
      case ineg =>
        have c1 := of_decide_eq_true (show decide (decode (j_info i).2.1 pc = .ok (.ineg, 1)) = true from hc)
        obtain ⟨x, q, rfl, h2⟩ := j_i1_p (show j_i1 False _ st from hs)
        exact g_ineg c1 (nx _ _ _ _ h2)
      case i2l =>
        have c1 := of_decide_eq_true (show decide (decode (j_info i).2.1 pc = .ok (.i2l, 1)) = true from hc)
        obtain ⟨x, q, rfl, h2⟩ := j_i1_p (show j_i1 False _ st from hs)
        exact g_i2l c1 (nx _ _ _ _ h2)
      case i2b =>
        have c1 := of_decide_eq_true (show decide (decode (j_info i).2.1 pc = .ok (.i2b, 1)) = true from hc)
        obtain ⟨x, q, rfl, h2⟩ := j_i1_p (show j_i1 False _ st from hs)
        exact g_i2b c1 (nx _ _ _ _ h2)
      case i2s =>
        have c1 := of_decide_eq_true (show decide (decode (j_info i).2.1 pc = .ok (.i2s, 1)) = true from hc)
        obtain ⟨x, q, rfl, h2⟩ := j_i1_p (show j_i1 False _ st from hs)
        exact g_i2s c1 (nx _ _ _ _ h2)
      case l2i =>
        have c1 := of_decide_eq_true (show decide (decode (j_info i).2.1 pc = .ok (.l2i, 1)) = true from hc)
        obtain ⟨x, q, rfl, h2⟩ := j_l1_p (show j_l1 False _ st from hs)
        exact g_l2i c1 (nx _ _ _ _ h2)
      case ladd =>
        have c1 := of_decide_eq_true (show decide (decode (j_info i).2.1 pc = .ok (.ladd, 1)) = true from hc)
        obtain ⟨x, y, q, rfl, h2⟩ := j_l2_p (show j_l2 False _ st from hs)
        exact g_ladd c1 (nx _ _ _ _ h2)
      case lmul =>
        have c1 := of_decide_eq_true (show decide (decode (j_info i).2.1 pc = .ok (.lmul, 1)) = true from hc)
        obtain ⟨x, y, q, rfl, h2⟩ := j_l2_p (show j_l2 False _ st from hs)
        exact g_lmul c1 (nx _ _ _ _ h2)
      case land =>
        have c1 := of_decide_eq_true (show decide (decode (j_info i).2.1 pc = .ok (.land, 1)) = true from hc)
        obtain ⟨x, y, q, rfl, h2⟩ := j_l2_p (show j_l2 False _ st from hs)
        exact g_land c1 (nx _ _ _ _ h2)
      case lor =>
        have c1 := of_decide_eq_true (show decide (decode (j_info i).2.1 pc = .ok (.lor, 1)) = true from hc)
        obtain ⟨x, y, q, rfl, h2⟩ := j_l2_p (show j_l2 False _ st from hs)
        exact g_lor c1 (nx _ _ _ _ h2)
      case lcmp =>
        have c1 := of_decide_eq_true (show decide (decode (j_info i).2.1 pc = .ok (.lcmp, 1)) = true from hc)
        obtain ⟨x, y, q, rfl, h2⟩ := j_l2_p (show j_l2 False _ st from hs)
        exact g_lcmp c1 (nx _ _ _ _ h2)
      case ldiv =>
        have c1 := of_decide_eq_true (show decide (decode (j_info i).2.1 pc = .ok (.ldiv, 1)) = true from hc)
        obtain ⟨x, y, q, rfl, h2⟩ := j_l2_p (show j_l2 False _ st from hs)
        by_cases hy : y = 0
        · rw [if_pos hy] at h2; exact h2.elim
        · rw [if_neg hy] at h2
          exact g_ldiv c1 hy (nx _ _ _ _ h2)
      case lrem =>
        have c1 := of_decide_eq_true (show decide (decode (j_info i).2.1 pc = .ok (.lrem, 1)) = true from hc)
        obtain ⟨x, y, q, rfl, h2⟩ := j_l2_p (show j_l2 False _ st from hs)
        by_cases hy : y = 0
        · rw [if_pos hy] at h2; exact h2.elim
        · rw [if_neg hy] at h2
          exact g_lrem c1 hy (nx _ _ _ _ h2)
      case lshl =>
        have c1 := of_decide_eq_true (show decide (decode (j_info i).2.1 pc = .ok (.lshl, 1)) = true from hc)
        obtain ⟨x, y, q, rfl, h2⟩ := j_il_p (show j_il False _ st from hs)
        exact g_lshl c1 (nx _ _ _ _ h2)
      case dup =>
        have c1 := of_decide_eq_true (show decide (decode (j_info i).2.1 pc = .ok (.dup, 1)) = true from hc)
        have hs : j_v1 False (fun w r1 => j_run n d (j_meth i) (pc + 1) (j_fg (j_meth i).2.1 (pc + 1) L) (w :: w :: r1) me = some r) st := hs
        obtain ⟨w, q, rfl, hw, h2⟩ := j_v1_p hs
        exact g_dup hw c1 (nx _ _ _ _ h2)
      case pop =>
        have c1 := of_decide_eq_true (show decide (decode (j_info i).2.1 pc = .ok (.pop, 1)) = true from hc)
        have hs : j_v1 False (fun _ r1 => j_run n d (j_meth i) (pc + 1) (j_fg (j_meth i).2.1 (pc + 1) L) r1 me = some r) st := hs
        obtain ⟨w, q, rfl, hw, h2⟩ := j_v1_p hs
        exact g_pop hw c1 (nx _ _ _ _ h2)
      case dup2 =>
        have c1 := of_decide_eq_true (show decide (decode (j_info i).2.1 pc = .ok (.dup2, 1)) = true from hc)
        have hs : j_v1 False (fun w r1 => j_v1 False (fun x r2 => j_run n d (j_meth i) (pc + 1) (j_fg (j_meth i).2.1 (pc + 1) L) (w :: x :: w :: x :: r2) me = some r) r1) st := hs
        obtain ⟨w, q, rfl, hw, h2⟩ := j_v1_p hs
        obtain ⟨x, q2, rfl, hx, h3⟩ := j_v1_p h2
        exact g_dup2 hw hx c1 (nx _ _ _ _ h3)
      case ifCond c off =>
        simp only [j_chk, Bool.and_eq_true, Bool.or_eq_true, decide_eq_true_eq] at hc
        obtain ⟨c1, c2⟩ := hc
        obtain ⟨x, q, rfl, h2⟩ := j_i1_p (show j_i1 False _ st from hs)
        exact g_if c1 c2 (j_br_imp (nx _ _ _ _) (nx _ _ _ _) h2)
      case if_icmp c off =>
        simp only [j_chk, Bool.and_eq_true, Bool.or_eq_true, decide_eq_true_eq] at hc
        obtain ⟨c1, c2⟩ := hc
        obtain ⟨x, y, q, rfl, h2⟩ := j_i2_p (show j_i2 False _ st from hs)
        exact g_icmp c1 c2 (j_bc_imp (nx _ _ _ _) (nx _ _ _ _) h2)
      case goto off =>
        simp only [j_chk, Bool.and_eq_true, Bool.or_eq_true, decide_eq_true_eq] at hc
        obtain ⟨c1, c2⟩ := hc
        exact g_goto c1 c2 (nx _ _ _ _ hs)
      case tableswitch df lo hi offs =>
        simp only [j_chk, Bool.and_eq_true, Bool.or_eq_true, decide_eq_true_eq] at hc
        obtain ⟨⟨⟨⟨⟨c1, c2⟩, c3⟩, c4⟩, c5⟩, c6⟩ := hc
        obtain ⟨x, q, rfl, h2⟩ := j_i1_p (show j_i1 False _ st from hs)
        exact g_tsw c1 c2 c3 c4 c5 c6 (j_sw_imp (fun t => nx t _ _ _) ts h2)
      case lookupswitch df prs =>
        simp only [j_chk, Bool.and_eq_true, Bool.or_eq_true, decide_eq_true_eq] at hc
        obtain ⟨⟨c1, c2⟩, c3⟩ := hc
        obtain ⟨x, q, rfl, h2⟩ := j_i1_p (show j_i1 False _ st from hs)
        exact g_lsw c1 c2 c3 (j_sw_imp (fun t => nx t _ _ _) ts h2)
      case getfield k =>
        simp only [j_chk, Bool.and_eq_true, decide_eq_true_eq] at hc
        obtain ⟨⟨⟨⟨c1, c2⟩, c3⟩, c4⟩, c5⟩ := hc
        obtain ⟨p, hp⟩ := j_FL_ok c4
        have hw := j_hw_mem hp
        unfold j_wFL at hw
        dsimp only at hw
        rw [← hcn] at hw
        obtain ⟨c, q, rfl, h2⟩ := j_r1_p (show j_r1 False _ st from hs)
        obtain ⟨h3, h4⟩ := j_cond_p h2
        have h3 := Nat.eq_of_beq_eq_true h3
        cases v with
        | int x => exact g_getI c1 h1000 c2 c3 hw (by rw [of_decide_eq_true c5]; rfl) h3 (nx _ _ _ _ h4)
        | long x => exact g_getI c1 h1000 c2 c3 hw (by rw [of_decide_eq_true c5]; rfl) h3 (nx _ _ _ _ h4)
        | float _ =>
          obtain ⟨h5, h6⟩ := j_cond_p h4
          exact g_getR c1 h1000 c2 c3 hw c5 h3 (j_nth_some h5) (nx _ _ _ _ h6)
        | double _ =>
          obtain ⟨h5, h6⟩ := j_cond_p h4
          exact g_getR c1 h1000 c2 c3 hw c5 h3 (j_nth_some h5) (nx _ _ _ _ h6)
        | null =>
          obtain ⟨h5, h6⟩ := j_cond_p h4
          exact g_getR c1 h1000 c2 c3 hw c5 h3 (j_nth_some h5) (nx _ _ _ _ h6)
        | ref _ =>
          obtain ⟨h5, h6⟩ := j_cond_p h4
          exact g_getR c1 h1000 c2 c3 hw c5 h3 (j_nth_some h5) (nx _ _ _ _ h6)
        | retAddr _ =>
          obtain ⟨h5, h6⟩ := j_cond_p h4
          exact g_getR c1 h1000 c2 c3 hw c5 h3 (j_nth_some h5) (nx _ _ _ _ h6)
      case putfield k =>
        simp only [j_chk, Bool.and_eq_true, decide_eq_true_eq] at hc
        obtain ⟨⟨⟨⟨⟨c1, c2⟩, c3⟩, c4⟩, c5⟩, c6⟩ := hc
        obtain ⟨p, hp⟩ := j_FL_ok c4
        have hw := j_hw_mem hp
        unfold j_wFL at hw
        dsimp only at hw
        rw [← hcn] at hw
        have hfin : (j_T a b).2.2.2 = false ∨ (Nat.beq (j_info i).2.2.2.2.2.2 2 = true ∧ (j_T a b).1 = (j_info i).1.cls) := by
          rw [Bool.or_eq_true, Bool.not_eq_true', Bool.and_eq_true] at c6
          rcases c6 with z | ⟨z1, z2⟩
          · exact Or.inl z
          · exact Or.inr ⟨z1, by rw [j_Tcls a c2 b c3, hcn, Nat.eq_of_beq_eq_true z2]⟩
        cases v with
        | int x =>
          obtain ⟨c, x, q, rfl, h2⟩ := j_rI_p (show j_rI False _ st from hs)
          obtain ⟨h3, h4⟩ := j_cond_p h2
          exact g_putI c1 h1000 c2 c3 hw (Or.inl (of_decide_eq_true c5)) (Nat.eq_of_beq_eq_true h3) hfin (nx _ _ _ _ h4)
        | long x =>
          obtain ⟨c, x, q, rfl, h2⟩ := j_rI_p (show j_rI False _ st from hs)
          obtain ⟨h3, h4⟩ := j_cond_p h2
          rw [Bool.and_eq_true, Bool.or_eq_true, decide_eq_true_eq, decide_eq_true_eq] at h3
          exact g_putI c1 h1000 c2 c3 hw (Or.inr ⟨of_decide_eq_true c5, h3.2⟩) (Nat.eq_of_beq_eq_true h3.1) hfin (nx _ _ _ _ h4)
        | float _ =>
          obtain ⟨c, x, q, rfl, h2⟩ := j_rr_p (show j_rr False _ st from hs)
          obtain ⟨h3, h4⟩ := j_cond_p h2
          exact g_putR c1 h1000 c2 c3 hw c5 (Nat.eq_of_beq_eq_true h3) hfin (nx _ _ _ _ h4)
        | double _ =>
          obtain ⟨c, x, q, rfl, h2⟩ := j_rr_p (show j_rr False _ st from hs)
          obtain ⟨h3, h4⟩ := j_cond_p h2
          exact g_putR c1 h1000 c2 c3 hw c5 (Nat.eq_of_beq_eq_true h3) hfin (nx _ _ _ _ h4)
        | null =>
          obtain ⟨c, x, q, rfl, h2⟩ := j_rr_p (show j_rr False _ st from hs)
          obtain ⟨h3, h4⟩ := j_cond_p h2
          exact g_putR c1 h1000 c2 c3 hw c5 (Nat.eq_of_beq_eq_true h3) hfin (nx _ _ _ _ h4)
        | ref _ =>
          obtain ⟨c, x, q, rfl, h2⟩ := j_rr_p (show j_rr False _ st from hs)
          obtain ⟨h3, h4⟩ := j_cond_p h2
          exact g_putR c1 h1000 c2 c3 hw c5 (Nat.eq_of_beq_eq_true h3) hfin (nx _ _ _ _ h4)
        | retAddr _ =>
          obtain ⟨c, x, q, rfl, h2⟩ := j_rr_p (show j_rr False _ st from hs)
          obtain ⟨h3, h4⟩ := j_cond_p h2
          exact g_putR c1 h1000 c2 c3 hw c5 (Nat.eq_of_beq_eq_true h3) hfin (nx _ _ _ _ h4)
      case getstatic k =>
        simp only [j_chk, Bool.and_eq_true, Bool.or_eq_true, decide_eq_true_eq] at hc
        obtain ⟨⟨c1, c2⟩, c3⟩ := hc
        obtain ⟨p, hp⟩ := j_SL_ok c2
        have hw := j_hw_mem hp
        unfold j_wSL at hw
        dsimp only at hw
        rw [← hcn] at hw
        rcases c3 with c3 | c3
        · have e := Nat.eq_of_beq_eq_true c3
          subst e
          exact g_gsA c1 hw (nx _ _ _ _ hs)
        · have e := Nat.eq_of_beq_eq_true c3
          subst e
          exact g_gsO c1 hw (nx _ _ _ _ hs)
      case new k =>
        simp only [j_chk, Bool.and_eq_true, Bool.or_eq_true, decide_eq_true_eq] at hc
        obtain ⟨⟨⟨c1, c2⟩, c3⟩, c4⟩ := hc
        obtain ⟨p, hp⟩ := j_CL_ok c4
        have hw := j_hw_mem hp
        unfold j_wCL at hw
        dsimp only at hw
        rw [← hcn] at hw
        exact g_new c1 h1000 c2 c3 hw (nx _ _ _ _ hs)
      case anewarray k =>
        simp only [j_chk, Bool.and_eq_true, Bool.or_eq_true, decide_eq_true_eq] at hc
        obtain ⟨c1, c4⟩ := hc
        obtain ⟨p, hp⟩ := j_CL_ok c4
        have hw := j_hw_mem hp
        unfold j_wCL at hw
        dsimp only at hw
        rw [← hcn] at hw
        obtain ⟨x, q, rfl, h2⟩ := j_i1_p (show j_i1 False _ st from hs)
        obtain ⟨h3, h4⟩ := j_cond_p h2
        rw [Bool.and_eq_true, Bool.not_eq_true', decide_eq_false_iff_not] at h3
        exact g_newR c1 h1000 hw h3.1 (Nat.le_of_ble_eq_true h3.2) (nx _ _ _ _ h4)
      case newarray t =>
        simp only [j_chk, Bool.and_eq_true] at hc
        obtain ⟨c1, c2⟩ := hc
        have c1 := of_decide_eq_true c1
        obtain ⟨x, q, rfl, h2⟩ := j_i1_p (show j_i1 False _ st from hs)
        obtain ⟨h3, h4⟩ := j_cond_p h2
        rw [Bool.and_eq_true, Bool.not_eq_true', decide_eq_false_iff_not] at h3
        cases t <;> first | (cases c2; done) | skip
        · cases v <;> first | (cases c2; done) | exact g_newI c1 h1000 h3.1 (Nat.le_of_ble_eq_true h3.2) (nx _ _ _ _ h4)
        · cases v <;> first | (cases c2; done) | exact g_newL c1 h1000 h3.1 (Nat.le_of_ble_eq_true h3.2) (nx _ _ _ _ h4)
      case arraylength =>
        have c1 := of_decide_eq_true (show decide (decode (j_info i).2.1 pc = .ok (.arraylength, 1)) = true from hc)
        obtain ⟨c, q, rfl, h2⟩ := j_r1_p (show j_r1 False _ st from hs)
        obtain ⟨h3, h4⟩ := j_cond_p h2
        exact g_alen c1 h1000 (Nat.le_of_ble_eq_true h3) (nx _ _ _ _ h4)
      case iaload =>
        have c1 := of_decide_eq_true (show decide (decode (j_info i).2.1 pc = .ok (.iaload, 1)) = true from hc)
        obtain ⟨c, x, q, rfl, h2⟩ := j_ri_p (show j_ri False _ st from hs)
        cases e1 : Nat.beq c 1000 with
        | true =>
          rw [e1] at h2
          have e := Nat.eq_of_beq_eq_true e1
          subst e
          obtain ⟨h3, h4⟩ := j_cond_p h2
          exact g_stA c1 (j_in_p h3) (nx _ _ _ _ h4)
        | false =>
          rw [e1] at h2
          cases e2 : Nat.beq c 1001 with
          | true =>
            rw [e2] at h2
            have e := Nat.eq_of_beq_eq_true e2
            subst e
            obtain ⟨h3, h4⟩ := j_cond_p h2
            exact g_stO c1 (j_in_p h3) (nx _ _ _ _ h4)
          | false =>
            rw [e2] at h2
            obtain ⟨h3, h4⟩ := j_cond_p h2
            rw [Bool.and_eq_true] at h3
            exact g_iald c1 h1000 (Nat.eq_of_beq_eq_true h3.1) (j_in_p h3.2) (nx _ _ _ _ h4)
      case iastore =>
        have c1 := of_decide_eq_true (show decide (decode (j_info i).2.1 pc = .ok (.iastore, 1)) = true from hc)
        obtain ⟨c, x, y, q, rfl, h2⟩ := j_rii_p (show j_rii False _ st from hs)
        obtain ⟨h3, h4⟩ := j_cond_p h2
        rw [Bool.and_eq_true] at h3
        exact g_iast c1 h1000 (Nat.eq_of_beq_eq_true h3.1) (j_in_p h3.2) (nx _ _ _ _ h4)
      case lastore =>
        have c1 := of_decide_eq_true (show decide (decode (j_info i).2.1 pc = .ok (.lastore, 1)) = true from hc)
        obtain ⟨c, x, y, q, rfl, h2⟩ := j_ril_p (show j_ril False _ st from hs)
        obtain ⟨h3, h4⟩ := j_cond_p h2
        rw [Bool.and_eq_true] at h3
        exact g_last c1 h1000 (Nat.eq_of_beq_eq_true h3.1) (j_in_p h3.2) (nx _ _ _ _ h4)
      case laload =>
        have c1 := of_decide_eq_true (show decide (decode (j_info i).2.1 pc = .ok (.laload, 1)) = true from hc)
        obtain ⟨c, x, q, rfl, h2⟩ := j_ri_p (show j_ri False _ st from hs)
        obtain ⟨h3, h4⟩ := j_cond_p h2
        rw [Bool.and_eq_true] at h3
        exact g_lald c1 h1000 (Nat.eq_of_beq_eq_true h3.1) (j_in_p h3.2) (nx _ _ _ _ h4)
      case aaload =>
        have c1 := of_decide_eq_true (show decide (decode (j_info i).2.1 pc = .ok (.aaload, 1)) = true from hc)
        obtain ⟨c, x, q, rfl, h2⟩ := j_ri_p (show j_ri False _ st from hs)
        obtain ⟨h3, h4⟩ := j_cond_p h2
        rw [Bool.and_eq_true, Bool.and_eq_true] at h3
        exact g_aald c1 h1000 (Nat.eq_of_beq_eq_true h3.1.1) (j_in_p h3.1.2) (j_nth_some h3.2) (nx _ _ _ _ h4)
      case aastore =>
        have c1 := of_decide_eq_true (show decide (decode (j_info i).2.1 pc = .ok (.aastore, 1)) = true from hc)
        obtain ⟨c, x, y, q, rfl, h2⟩ := j_rir_p (show j_rir False _ st from hs)
        obtain ⟨h3, h4⟩ := j_cond_p h2
        rw [Bool.and_eq_true, Bool.and_eq_true] at h3
        exact g_aast c1 h1000 (Nat.eq_of_beq_eq_true h3.1.1) (j_in_p h3.1.2) (Nat.eq_of_beq_eq_true h3.2) (nx _ _ _ _ h4)
      case invokevirtual k =>
        simp only [j_chk, Bool.and_eq_true, decide_eq_true_eq] at hc
        obtain ⟨⟨⟨⟨⟨⟨c1, c2⟩, c3⟩, c4⟩, c5⟩, c6⟩, c7⟩ := hc
        have hw := j_ML_ok0 c3
        rw [← hcn] at hw
        obtain ⟨as, q0, hl0, rfl, h2⟩ := j_popk_p b [] st (show j_popk False _ b [] st from hs)
        rw [List.append_nil] at h2
        obtain ⟨c, q1, rfl, h3⟩ := j_r1_p h2
        obtain ⟨h4, q, hq, hbh⟩ := j_cond_p h3
        rw [Bool.and_eq_true] at h4
        obtain ⟨d, rfl, ha, hlen, hrun⟩ := j_call_p hq
        have hma : (j_meth a).2.2 = (j_info a).2.2.1 := by
          have z := j_ok a ha
          unfold j_okm at z
          rw [Bool.and_eq_true, decide_eq_true_eq] at z
          exact z.1
        rw [hma] at hlen hrun
        obtain ⟨e1, vs, v1, v2, h6⟩ := j_bh_p (B := B) (tA := tA) (tO := tO) hbh
        have c5 := Nat.eq_of_beq_eq_true c5
        have c6 := Nat.eq_of_beq_eq_true c6
        have kk := nx _ _ _ _ h6
        have G := ih d a ha 0 _ [] me q (by have := kk.1.1; omega) hrun
        exact g_callV hi c1 h1000 ha hw c4 (by omega) (by omega) (by rw [Nat.eq_of_beq_eq_true h4.1]; omega) (Nat.le_of_ble_eq_true h4.2) hlen G v1 v2 kk
      case invokestatic k =>
        simp only [j_chk, Bool.and_eq_true, decide_eq_true_eq] at hc
        obtain ⟨c1, c2⟩ := hc
        have hs : (bif Nat.ble 1000 a then _ else _) := hs
        cases hb : Nat.ble 1000 a with
        | true =>
          rw [hb] at hs c2
          simp only [cond_true, Bool.and_eq_true, decide_eq_true_eq] at hs c2
          obtain ⟨p, hp⟩ := j_NL_ok c2.1
          have hw := j_hw_mem hp
          unfold j_wNL at hw
          dsimp only at hw
          rw [← hcn] at hw
          unfold j_nat at hs
          cases e0 : Nat.beq a 1000 with
          | true =>
            rw [e0] at hs
            have e := Nat.eq_of_beq_eq_true e0
            subst e
            obtain ⟨a0, sp, c, dp, nn, q, rfl, h2⟩ := j_c5_p (show j_c5 False _ st from hs)
            obtain ⟨h3, h4⟩ := j_cond_p h2
            simp only [Bool.and_eq_true, Bool.not_eq_true', decide_eq_false_iff_not] at h3
            obtain ⟨⟨⟨⟨⟨b1, b2⟩, b3⟩, b4⟩, b5⟩, b6⟩ := h3
            cases f0 : (Nat.beq (j_at me.1 a0).1 0 && Nat.beq (j_at me.1 c).1 0) with
            | true =>
              rw [f0] at h4
              rw [Bool.and_eq_true] at f0
              exact g_cpI c1 h1000 hw (Nat.le_of_ble_eq_true b6) (Nat.eq_of_beq_eq_true f0.1) (Nat.eq_of_beq_eq_true f0.2) b1 b2 b3 (Nat.le_of_ble_eq_true b4) (Nat.le_of_ble_eq_true b5) (nx _ _ _ _ h4)
            | false =>
              rw [f0] at h4
              obtain ⟨f1, h5⟩ := j_cond_p (show (bif _ then _ else False) from h4)
              rw [Bool.and_eq_true] at f1
              exact g_cpL c1 h1000 hw (Nat.le_of_ble_eq_true b6) (Nat.eq_of_beq_eq_true f1.1) (Nat.eq_of_beq_eq_true f1.2) b1 b2 b3 (Nat.le_of_ble_eq_true b4) (Nat.le_of_ble_eq_true b5) (nx _ _ _ _ h5)
          | false =>
            rw [e0] at hs
            cases e1 : Nat.beq a 1001 with
            | true =>
              rw [e1] at hs
              have e := Nat.eq_of_beq_eq_true e1
              subst e
              obtain ⟨x, y, q, rfl, h2⟩ := j_i2_p (show j_i2 False _ st from hs)
              obtain ⟨h3, h4⟩ := j_cond_p h2
              exact g_max c1 hw (Nat.le_of_ble_eq_true h3) (nx _ _ _ _ h4)
            | false =>
              rw [e1] at hs
              cases e2 : Nat.beq a 1002 with
              | true =>
                rw [e2] at hs
                have e := Nat.eq_of_beq_eq_true e2
                subst e
                obtain ⟨x, y, q, rfl, h2⟩ := j_i2_p (show j_i2 False _ st from hs)
                obtain ⟨h3, h4⟩ := j_cond_p h2
                exact g_min c1 hw (Nat.le_of_ble_eq_true h3) (nx _ _ _ _ h4)
              | false =>
                rw [e2] at hs
                obtain ⟨e3, h2⟩ := j_cond_p (show (bif _ then _ else False) from hs)
                have e := Nat.eq_of_beq_eq_true e3
                subst e
                obtain ⟨x, y, q, rfl, h2⟩ := j_l2_p (show j_l2 False _ st from h2)
                obtain ⟨h3, h4⟩ := j_cond_p h2
                exact g_minL c1 hw (Nat.le_of_ble_eq_true h3) (nx _ _ _ _ h4)
        | false =>
          rw [hb] at hs c2
          simp only [cond_false, Bool.and_eq_true, Bool.or_eq_true, decide_eq_true_eq] at c2
          obtain ⟨⟨⟨c3, c4⟩, c5⟩, c6⟩ := c2
          have hw : Cond.methodLink (j_info i).1.cls k (j_info a).1 ∈ j_big ∨ Cond.methodLinkNest (j_info i).1.cls k (j_info a).1 RX10 ∈ j_nw := by
            rw [hcn]
            rcases c4 with c4 | c4
            · exact Or.inl (j_ML_ok0 c4)
            · exact Or.inr (j_ML_ok1 c4)
          obtain ⟨as, q0, hl0, rfl, h2⟩ := j_popk_p b [] st (show j_popk False _ b [] st from hs)
          rw [List.append_nil] at h2
          obtain ⟨h4, q, hq, hbh⟩ := j_cond_p h2
          obtain ⟨d, rfl, ha, hlen, hrun⟩ := j_call_p hq
          have hma : (j_meth a).2.2 = (j_info a).2.2.1 := by
            have z := j_ok a ha
            unfold j_okm at z
            rw [Bool.and_eq_true, decide_eq_true_eq] at z
            exact z.1
          rw [hma] at hlen hrun
          obtain ⟨e1, vs, v1, v2, h6⟩ := j_bh_p (B := B) (tA := tA) (tO := tO) hbh
          have c6 := Nat.eq_of_beq_eq_true c6
          have kk := nx _ _ _ _ h6
          have G := ih d a ha 0 _ [] me q (by have := kk.1.1; omega) hrun
          exact g_callS (kd := 0) hi c1 h1000 ha hw c5 (by omega) (Nat.le_of_ble_eq_true h4) hlen G v1 v2 kk
      case invokespecial k =>
        simp only [j_chk, Bool.and_eq_true, decide_eq_true_eq] at hc
        obtain ⟨c1, c2⟩ := hc
        have hs : (bif Nat.beq a 999 then _ else _) := hs
        cases hb : Nat.beq a 999 with
        | true =>
          rw [hb] at hs c2
          simp only [cond_true, decide_eq_true_eq] at c2
          obtain ⟨p, hp⟩ := j_OL_ok c2
          have hw := j_hw_mem hp
          unfold j_wOL at hw
          dsimp only at hw
          rw [← hcn] at hw
          obtain ⟨c, q, rfl, h2⟩ := j_r1_p (show j_r1 False _ st from hs)
          obtain ⟨h3, h4⟩ := j_cond_p h2
          exact g_obj c1 hw (Nat.le_of_ble_eq_true h3) (nx _ _ _ _ h4)
        | false =>
          rw [hb] at hs c2
          simp only [cond_false, Bool.and_eq_true, Bool.or_eq_true, decide_eq_true_eq] at c2
          obtain ⟨⟨⟨c3, c4⟩, c5⟩, c6⟩ := c2
          have hw : Cond.methodLink (j_info i).1.cls k (j_info a).1 ∈ j_big ∨ Cond.methodLinkNest (j_info i).1.cls k (j_info a).1 RX10 ∈ j_nw := by
            rw [hcn]
            rcases c4 with c4 | c4
            · exact Or.inl (j_ML_ok0 c4)
            · exact Or.inr (j_ML_ok1 c4)
          obtain ⟨as, q0, hl0, rfl, h2⟩ := j_popk_p b [] st (show j_popk False _ b [] st from hs)
          rw [List.append_nil] at h2
          obtain ⟨c, q1, rfl, h3⟩ := j_r1_p h2
          obtain ⟨h4, q, hq, hbh⟩ := j_cond_p h3
          obtain ⟨d, rfl, ha, hlen, hrun⟩ := j_call_p hq
          have hma : (j_meth a).2.2 = (j_info a).2.2.1 := by
            have z := j_ok a ha
            unfold j_okm at z
            rw [Bool.and_eq_true, decide_eq_true_eq] at z
            exact z.1
          rw [hma] at hlen hrun
          obtain ⟨e1, h6⟩ := j_bhs_p hbh
          have c6 := Nat.eq_of_beq_eq_true c6
          have kk := nx _ _ _ _ h6
          have G := ih d a ha 0 _ [] me q (by have := kk.1.1; omega) hrun
          exact g_callI hi c1 h1000 ha hw c5 (by omega) (Nat.le_of_ble_eq_true h4) hlen G e1 kk
      case ireturn =>
        simp only [j_chk, Bool.and_eq_true, decide_eq_true_eq] at hc
        obtain ⟨c1, c2⟩ := hc
        obtain ⟨x, rfl, h2⟩ := j_i0_p (show j_i0 False _ st from hs)
        cases v with
        | int y =>
          cases (Option.some.inj (show (some (some (Value.int x), me) : Option j_R) = some r from h2))
          exact g_iret c1 (of_decide_eq_true c2)
        | long y =>
          obtain ⟨h3, h4⟩ := j_cond_p h2
          rw [Bool.or_eq_true, decide_eq_true_eq, decide_eq_true_eq] at h3
          cases (Option.some.inj (show (some (some (Value.int x), me) : Option j_R) = some r from h4))
          exact g_zret c1 (of_decide_eq_true c2) h3
        | _ => cases c2
      case lreturn =>
        simp only [j_chk, Bool.and_eq_true, Bool.or_eq_true, decide_eq_true_eq] at hc
        obtain ⟨c1, c2⟩ := hc
        obtain ⟨x, rfl, h2⟩ := j_l0_p (show j_l0 False _ st from hs)
        cases (Option.some.inj (show (some (some (Value.long x), me) : Option j_R) = some r from h2))
        exact g_lret c1 c2
      case return_ =>
        simp only [j_chk, Bool.and_eq_true, Bool.or_eq_true, decide_eq_true_eq] at hc
        obtain ⟨c1, c2⟩ := hc
        cases st with
        | nil =>
          cases (Option.some.inj (show (some (none, me) : Option j_R) = some r from hs))
          exact g_vret c1 c2
        | cons w q => exact False.elim hs
      all_goals exact False.elim hs
end JR
end
