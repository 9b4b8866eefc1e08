section
-- ===== PART A: goes FIRST, ahead of the names: the tables' words, and 'selects' of the private methods out of them =====
/-- a private method of a class that the tables say can be made, by its rows of tables_1 -/
def lw_okq (q : MethodName × Nat) : Prop := (q.1.cls ≠ "java/lang/invoke/MethodHandle" ∧ q.1.cls ≠ "java/lang/invoke/VarHandle") ∧ Cond.instantiable q.1.cls q.2 ∈ tables_1 ∧ Cond.privateMethod q.1 ∈ tables_1 ∧ Cond.instanceMethod q.1 ∈ tables_1
theorem lw_p0 : lw_okq (⟨"FontRuns", "failWith", "(I)I"⟩, 15) := ⟨⟨by decide +kernel, by decide +kernel⟩, List.mem_of_getElem? (i := 15) (by decide +kernel), List.mem_of_getElem? (i := 270) (by decide +kernel), List.mem_of_getElem? (i := 271) (by decide +kernel)⟩
theorem lw_p1 : lw_okq (⟨"FontRuns$TextReader", "goesOnWith", "(I)Z"⟩, 2) := ⟨⟨by decide +kernel, by decide +kernel⟩, List.mem_of_getElem? (i := 47) (by decide +kernel), List.mem_of_getElem? (i := 286) (by decide +kernel), List.mem_of_getElem? (i := 287) (by decide +kernel)⟩
theorem lw_p2 : lw_okq (⟨"FontRuns$TextReader", "takesHead", "(I)Z"⟩, 2) := ⟨⟨by decide +kernel, by decide +kernel⟩, List.mem_of_getElem? (i := 47) (by decide +kernel), List.mem_of_getElem? (i := 290) (by decide +kernel), List.mem_of_getElem? (i := 291) (by decide +kernel)⟩
theorem lw_p3 : lw_okq (⟨"FontRuns$TextReader", "takesSign", "(I)Z"⟩, 2) := ⟨⟨by decide +kernel, by decide +kernel⟩, List.mem_of_getElem? (i := 47) (by decide +kernel), List.mem_of_getElem? (i := 294) (by decide +kernel), List.mem_of_getElem? (i := 295) (by decide +kernel)⟩
theorem lw_p4 : lw_okq (⟨"FontRuns$TextReader", "takesKind", "(II)Z"⟩, 2) := ⟨⟨by decide +kernel, by decide +kernel⟩, List.mem_of_getElem? (i := 47) (by decide +kernel), List.mem_of_getElem? (i := 298) (by decide +kernel), List.mem_of_getElem? (i := 299) (by decide +kernel)⟩
theorem lw_p5 : lw_okq (⟨"FontRuns$TextReader", "takesBreadth", "(II)Z"⟩, 2) := ⟨⟨by decide +kernel, by decide +kernel⟩, List.mem_of_getElem? (i := 47) (by decide +kernel), List.mem_of_getElem? (i := 308) (by decide +kernel), List.mem_of_getElem? (i := 309) (by decide +kernel)⟩
theorem lw_p6 : lw_okq (⟨"FontRuns$TextReader", "takesLetter", "(II)Z"⟩, 2) := ⟨⟨by decide +kernel, by decide +kernel⟩, List.mem_of_getElem? (i := 47) (by decide +kernel), List.mem_of_getElem? (i := 312) (by decide +kernel), List.mem_of_getElem? (i := 313) (by decide +kernel)⟩
theorem lw_p7 : lw_okq (⟨"FontRuns", "beginWithFontsTold", "()V"⟩, 15) := ⟨⟨by decide +kernel, by decide +kernel⟩, List.mem_of_getElem? (i := 15) (by decide +kernel), List.mem_of_getElem? (i := 322) (by decide +kernel), List.mem_of_getElem? (i := 323) (by decide +kernel)⟩
theorem lw_p8 : lw_okq (⟨"FontRuns", "settle", "()V"⟩, 15) := ⟨⟨by decide +kernel, by decide +kernel⟩, List.mem_of_getElem? (i := 15) (by decide +kernel), List.mem_of_getElem? (i := 337) (by decide +kernel), List.mem_of_getElem? (i := 338) (by decide +kernel)⟩
theorem lw_p9 : lw_okq (⟨"FontRuns$Setting", "cut", "(LFontRuns$Writing;)V"⟩, 10) := ⟨⟨by decide +kernel, by decide +kernel⟩, List.mem_of_getElem? (i := 138) (by decide +kernel), List.mem_of_getElem? (i := 349) (by decide +kernel), List.mem_of_getElem? (i := 350) (by decide +kernel)⟩
theorem lw_p10 : lw_okq (⟨"FontRuns$Setting", "findFitting", "(LFontRuns$FontRow;I)V"⟩, 10) := ⟨⟨by decide +kernel, by decide +kernel⟩, List.mem_of_getElem? (i := 138) (by decide +kernel), List.mem_of_getElem? (i := 353) (by decide +kernel), List.mem_of_getElem? (i := 354) (by decide +kernel)⟩
theorem lw_p11 : lw_okq (⟨"FontRuns$Setting", "findBehind", "(I)V"⟩, 10) := ⟨⟨by decide +kernel, by decide +kernel⟩, List.mem_of_getElem? (i := 138) (by decide +kernel), List.mem_of_getElem? (i := 361) (by decide +kernel), List.mem_of_getElem? (i := 362) (by decide +kernel)⟩
theorem lw_p12 : lw_okq (⟨"FontRuns$Setting", "choose", "(LFontRuns$Preference;)V"⟩, 10) := ⟨⟨by decide +kernel, by decide +kernel⟩, List.mem_of_getElem? (i := 138) (by decide +kernel), List.mem_of_getElem? (i := 366) (by decide +kernel), List.mem_of_getElem? (i := 367) (by decide +kernel)⟩
theorem lw_p13 : lw_okq (⟨"FontRuns$Setting", "firstOfBest", "(IILFontRuns$Preference;)I"⟩, 10) := ⟨⟨by decide +kernel, by decide +kernel⟩, List.mem_of_getElem? (i := 138) (by decide +kernel), List.mem_of_getElem? (i := 370) (by decide +kernel), List.mem_of_getElem? (i := 371) (by decide +kernel)⟩
theorem lw_p14 : lw_okq (⟨"FontRuns", "writeOne", "(I)V"⟩, 15) := ⟨⟨by decide +kernel, by decide +kernel⟩, List.mem_of_getElem? (i := 15) (by decide +kernel), List.mem_of_getElem? (i := 406) (by decide +kernel), List.mem_of_getElem? (i := 407) (by decide +kernel)⟩
theorem lw_p15 : lw_okq (⟨"FontRuns", "supposeActs", "(LFontRuns$Sheet;II)I"⟩, 15) := ⟨⟨by decide +kernel, by decide +kernel⟩, List.mem_of_getElem? (i := 15) (by decide +kernel), List.mem_of_getElem? (i := 488) (by decide +kernel), List.mem_of_getElem? (i := 489) (by decide +kernel)⟩
def lw_privs_1 : List (MethodName × Nat) := [(⟨"FontRuns", "failWith", "(I)I"⟩, 15), (⟨"FontRuns$TextReader", "goesOnWith", "(I)Z"⟩, 2), (⟨"FontRuns$TextReader", "takesHead", "(I)Z"⟩, 2), (⟨"FontRuns$TextReader", "takesSign", "(I)Z"⟩, 2), (⟨"FontRuns$TextReader", "takesKind", "(II)Z"⟩, 2), (⟨"FontRuns$TextReader", "takesBreadth", "(II)Z"⟩, 2), (⟨"FontRuns$TextReader", "takesLetter", "(II)Z"⟩, 2), (⟨"FontRuns", "beginWithFontsTold", "()V"⟩, 15), (⟨"FontRuns", "settle", "()V"⟩, 15), (⟨"FontRuns$Setting", "cut", "(LFontRuns$Writing;)V"⟩, 10), (⟨"FontRuns$Setting", "findFitting", "(LFontRuns$FontRow;I)V"⟩, 10), (⟨"FontRuns$Setting", "findBehind", "(I)V"⟩, 10), (⟨"FontRuns$Setting", "choose", "(LFontRuns$Preference;)V"⟩, 10), (⟨"FontRuns$Setting", "firstOfBest", "(IILFontRuns$Preference;)I"⟩, 10), (⟨"FontRuns", "writeOne", "(I)V"⟩, 15), (⟨"FontRuns", "supposeActs", "(LFontRuns$Sheet;II)I"⟩, 15)]
theorem lw_r1 : ∀ q ∈ lw_privs_1, lw_okq q := List.forall_mem_cons.mpr ⟨lw_p0, List.forall_mem_cons.mpr ⟨lw_p1, List.forall_mem_cons.mpr ⟨lw_p2, List.forall_mem_cons.mpr ⟨lw_p3, List.forall_mem_cons.mpr ⟨lw_p4, List.forall_mem_cons.mpr ⟨lw_p5, List.forall_mem_cons.mpr ⟨lw_p6, List.forall_mem_cons.mpr ⟨lw_p7, List.forall_mem_cons.mpr ⟨lw_p8, List.forall_mem_cons.mpr ⟨lw_p9, List.forall_mem_cons.mpr ⟨lw_p10, List.forall_mem_cons.mpr ⟨lw_p11, List.forall_mem_cons.mpr ⟨lw_p12, List.forall_mem_cons.mpr ⟨lw_p13, List.forall_mem_cons.mpr ⟨lw_p14, List.forall_mem_cons.mpr ⟨lw_p15, fun _ h => absurd h List.not_mem_nil⟩⟩⟩⟩⟩⟩⟩⟩⟩⟩⟩⟩⟩⟩⟩⟩
theorem lw_p16 : lw_okq (⟨"FontRuns", "supposeAct", "(II)Z"⟩, 15) := ⟨⟨by decide +kernel, by decide +kernel⟩, List.mem_of_getElem? (i := 15) (by decide +kernel), List.mem_of_getElem? (i := 500) (by decide +kernel), List.mem_of_getElem? (i := 501) (by decide +kernel)⟩
theorem lw_p17 : lw_okq (⟨"FontRuns", "ofSupposedDay", "(I)I"⟩, 15) := ⟨⟨by decide +kernel, by decide +kernel⟩, List.mem_of_getElem? (i := 15) (by decide +kernel), List.mem_of_getElem? (i := 504) (by decide +kernel), List.mem_of_getElem? (i := 505) (by decide +kernel)⟩
theorem lw_p18 : lw_okq (⟨"FontRuns", "leastEnough", "()I"⟩, 15) := ⟨⟨by decide +kernel, by decide +kernel⟩, List.mem_of_getElem? (i := 15) (by decide +kernel), List.mem_of_getElem? (i := 532) (by decide +kernel), List.mem_of_getElem? (i := 533) (by decide +kernel)⟩
theorem lw_p19 : lw_okq (⟨"FontRuns", "lettersWithChanges", "(I)I"⟩, 15) := ⟨⟨by decide +kernel, by decide +kernel⟩, List.mem_of_getElem? (i := 15) (by decide +kernel), List.mem_of_getElem? (i := 577) (by decide +kernel), List.mem_of_getElem? (i := 578) (by decide +kernel)⟩
theorem lw_p20 : lw_okq (⟨"FontRuns", "doubleTold", "(I)I"⟩, 15) := ⟨⟨by decide +kernel, by decide +kernel⟩, List.mem_of_getElem? (i := 15) (by decide +kernel), List.mem_of_getElem? (i := 617) (by decide +kernel), List.mem_of_getElem? (i := 618) (by decide +kernel)⟩
theorem lw_p21 : lw_okq (⟨"FontRuns", "leave", "(I)V"⟩, 15) := ⟨⟨by decide +kernel, by decide +kernel⟩, List.mem_of_getElem? (i := 15) (by decide +kernel), List.mem_of_getElem? (i := 621) (by decide +kernel), List.mem_of_getElem? (i := 622) (by decide +kernel)⟩
theorem lw_p22 : lw_okq (⟨"FontRuns", "broadTold", "(I)I"⟩, 15) := ⟨⟨by decide +kernel, by decide +kernel⟩, List.mem_of_getElem? (i := 15) (by decide +kernel), List.mem_of_getElem? (i := 625) (by decide +kernel), List.mem_of_getElem? (i := 626) (by decide +kernel)⟩
theorem lw_p23 : lw_okq (⟨"FontRuns", "plainTold", "(I)I"⟩, 15) := ⟨⟨by decide +kernel, by decide +kernel⟩, List.mem_of_getElem? (i := 15) (by decide +kernel), List.mem_of_getElem? (i := 629) (by decide +kernel), List.mem_of_getElem? (i := 630) (by decide +kernel)⟩
theorem lw_p24 : lw_okq (⟨"FontRunsModel", "against", "(IIII)I"⟩, 31) := ⟨⟨by decide +kernel, by decide +kernel⟩, List.mem_of_getElem? (i := 653) (by decide +kernel), List.mem_of_getElem? (i := 766) (by decide +kernel), List.mem_of_getElem? (i := 767) (by decide +kernel)⟩
theorem lw_p25 : lw_okq (⟨"FontRunsModel", "fails", "(I)I"⟩, 31) := ⟨⟨by decide +kernel, by decide +kernel⟩, List.mem_of_getElem? (i := 653) (by decide +kernel), List.mem_of_getElem? (i := 770) (by decide +kernel), List.mem_of_getElem? (i := 771) (by decide +kernel)⟩
theorem lw_p26 : lw_okq (⟨"FontRunsModel", "readAll", "(I)Z"⟩, 31) := ⟨⟨by decide +kernel, by decide +kernel⟩, List.mem_of_getElem? (i := 653) (by decide +kernel), List.mem_of_getElem? (i := 774) (by decide +kernel), List.mem_of_getElem? (i := 775) (by decide +kernel)⟩
theorem lw_p27 : lw_okq (⟨"FontRunsModel", "isSign", "(II)Z"⟩, 31) := ⟨⟨by decide +kernel, by decide +kernel⟩, List.mem_of_getElem? (i := 653) (by decide +kernel), List.mem_of_getElem? (i := 778) (by decide +kernel), List.mem_of_getElem? (i := 779) (by decide +kernel)⟩
theorem lw_p28 : lw_okq (⟨"FontRunsModel", "readFont", "(I)Z"⟩, 31) := ⟨⟨by decide +kernel, by decide +kernel⟩, List.mem_of_getElem? (i := 653) (by decide +kernel), List.mem_of_getElem? (i := 782) (by decide +kernel), List.mem_of_getElem? (i := 783) (by decide +kernel)⟩
theorem lw_p29 : lw_okq (⟨"FontRunsModel", "isFont", "(I)Z"⟩, 31) := ⟨⟨by decide +kernel, by decide +kernel⟩, List.mem_of_getElem? (i := 653) (by decide +kernel), List.mem_of_getElem? (i := 796) (by decide +kernel), List.mem_of_getElem? (i := 797) (by decide +kernel)⟩
theorem lw_p30 : lw_okq (⟨"FontRunsModel", "stepOf", "(I)I"⟩, 31) := ⟨⟨by decide +kernel, by decide +kernel⟩, List.mem_of_getElem? (i := 653) (by decide +kernel), List.mem_of_getElem? (i := 800) (by decide +kernel), List.mem_of_getElem? (i := 801) (by decide +kernel)⟩
theorem lw_p31 : lw_okq (⟨"FontRunsModel", "placeOf", "(I)I"⟩, 31) := ⟨⟨by decide +kernel, by decide +kernel⟩, List.mem_of_getElem? (i := 653) (by decide +kernel), List.mem_of_getElem? (i := 804) (by decide +kernel), List.mem_of_getElem? (i := 805) (by decide +kernel)⟩
def lw_privs_2 : List (MethodName × Nat) := [(⟨"FontRuns", "supposeAct", "(II)Z"⟩, 15), (⟨"FontRuns", "ofSupposedDay", "(I)I"⟩, 15), (⟨"FontRuns", "leastEnough", "()I"⟩, 15), (⟨"FontRuns", "lettersWithChanges", "(I)I"⟩, 15), (⟨"FontRuns", "doubleTold", "(I)I"⟩, 15), (⟨"FontRuns", "leave", "(I)V"⟩, 15), (⟨"FontRuns", "broadTold", "(I)I"⟩, 15), (⟨"FontRuns", "plainTold", "(I)I"⟩, 15), (⟨"FontRunsModel", "against", "(IIII)I"⟩, 31), (⟨"FontRunsModel", "fails", "(I)I"⟩, 31), (⟨"FontRunsModel", "readAll", "(I)Z"⟩, 31), (⟨"FontRunsModel", "isSign", "(II)Z"⟩, 31), (⟨"FontRunsModel", "readFont", "(I)Z"⟩, 31), (⟨"FontRunsModel", "isFont", "(I)Z"⟩, 31), (⟨"FontRunsModel", "stepOf", "(I)I"⟩, 31), (⟨"FontRunsModel", "placeOf", "(I)I"⟩, 31)]
theorem lw_r2 : ∀ q ∈ lw_privs_2, lw_okq q := List.forall_mem_cons.mpr ⟨lw_p16, List.forall_mem_cons.mpr ⟨lw_p17, List.forall_mem_cons.mpr ⟨lw_p18, List.forall_mem_cons.mpr ⟨lw_p19, List.forall_mem_cons.mpr ⟨lw_p20, List.forall_mem_cons.mpr ⟨lw_p21, List.forall_mem_cons.mpr ⟨lw_p22, List.forall_mem_cons.mpr ⟨lw_p23, List.forall_mem_cons.mpr ⟨lw_p24, List.forall_mem_cons.mpr ⟨lw_p25, List.forall_mem_cons.mpr ⟨lw_p26, List.forall_mem_cons.mpr ⟨lw_p27, List.forall_mem_cons.mpr ⟨lw_p28, List.forall_mem_cons.mpr ⟨lw_p29, List.forall_mem_cons.mpr ⟨lw_p30, List.forall_mem_cons.mpr ⟨lw_p31, fun _ h => absurd h List.not_mem_nil⟩⟩⟩⟩⟩⟩⟩⟩⟩⟩⟩⟩⟩⟩⟩⟩
theorem lw_p32 : lw_okq (⟨"FontRunsModel", "findBest", "()I"⟩, 31) := ⟨⟨by decide +kernel, by decide +kernel⟩, List.mem_of_getElem? (i := 653) (by decide +kernel), List.mem_of_getElem? (i := 829) (by decide +kernel), List.mem_of_getElem? (i := 830) (by decide +kernel)⟩
theorem lw_p33 : lw_okq (⟨"FontRunsModel", "findChanges", "(I)I"⟩, 31) := ⟨⟨by decide +kernel, by decide +kernel⟩, List.mem_of_getElem? (i := 653) (by decide +kernel), List.mem_of_getElem? (i := 833) (by decide +kernel), List.mem_of_getElem? (i := 834) (by decide +kernel)⟩
theorem lw_p34 : lw_okq (⟨"FontRunsModel", "findClusters", "(I)V"⟩, 31) := ⟨⟨by decide +kernel, by decide +kernel⟩, List.mem_of_getElem? (i := 653) (by decide +kernel), List.mem_of_getElem? (i := 837) (by decide +kernel), List.mem_of_getElem? (i := 838) (by decide +kernel)⟩
theorem lw_p35 : lw_okq (⟨"FontRunsModel", "fewestBehind", "(III)I"⟩, 31) := ⟨⟨by decide +kernel, by decide +kernel⟩, List.mem_of_getElem? (i := 653) (by decide +kernel), List.mem_of_getElem? (i := 841) (by decide +kernel), List.mem_of_getElem? (i := 842) (by decide +kernel)⟩
theorem lw_p36 : lw_okq (⟨"FontRunsModel", "canSet", "(III)Z"⟩, 31) := ⟨⟨by decide +kernel, by decide +kernel⟩, List.mem_of_getElem? (i := 653) (by decide +kernel), List.mem_of_getElem? (i := 845) (by decide +kernel), List.mem_of_getElem? (i := 846) (by decide +kernel)⟩
theorem lw_p37 : lw_okq (⟨"FontRunsModel", "isBestFor", "(III)Z"⟩, 31) := ⟨⟨by decide +kernel, by decide +kernel⟩, List.mem_of_getElem? (i := 653) (by decide +kernel), List.mem_of_getElem? (i := 849) (by decide +kernel), List.mem_of_getElem? (i := 850) (by decide +kernel)⟩
theorem lw_p38 : lw_okq (⟨"FontRunsModel", "runOf", "(I)I"⟩, 31) := ⟨⟨by decide +kernel, by decide +kernel⟩, List.mem_of_getElem? (i := 653) (by decide +kernel), List.mem_of_getElem? (i := 853) (by decide +kernel), List.mem_of_getElem? (i := 854) (by decide +kernel)⟩
theorem lw_p39 : lw_okq (⟨"FontRunsModel", "comesFirst", "(I)I"⟩, 31) := ⟨⟨by decide +kernel, by decide +kernel⟩, List.mem_of_getElem? (i := 653) (by decide +kernel), List.mem_of_getElem? (i := 865) (by decide +kernel), List.mem_of_getElem? (i := 866) (by decide +kernel)⟩
theorem lw_p40 : lw_okq (⟨"FontRunsModel", "keep", "()V"⟩, 31) := ⟨⟨by decide +kernel, by decide +kernel⟩, List.mem_of_getElem? (i := 653) (by decide +kernel), List.mem_of_getElem? (i := 888) (by decide +kernel), List.mem_of_getElem? (i := 889) (by decide +kernel)⟩
theorem lw_p41 : lw_okq (⟨"FontRunsModel", "goDay", "(II)I"⟩, 31) := ⟨⟨by decide +kernel, by decide +kernel⟩, List.mem_of_getElem? (i := 653) (by decide +kernel), List.mem_of_getElem? (i := 892) (by decide +kernel), List.mem_of_getElem? (i := 893) (by decide +kernel)⟩
theorem lw_p42 : lw_okq (⟨"FontRunsModel", "does", "(II)Z"⟩, 31) := ⟨⟨by decide +kernel, by decide +kernel⟩, List.mem_of_getElem? (i := 653) (by decide +kernel), List.mem_of_getElem? (i := 896) (by decide +kernel), List.mem_of_getElem? (i := 897) (by decide +kernel)⟩
theorem lw_p43 : lw_okq (⟨"FontRunsModel", "tellDay", "(I)I"⟩, 31) := ⟨⟨by decide +kernel, by decide +kernel⟩, List.mem_of_getElem? (i := 653) (by decide +kernel), List.mem_of_getElem? (i := 900) (by decide +kernel), List.mem_of_getElem? (i := 901) (by decide +kernel)⟩
theorem lw_p44 : lw_okq (⟨"FontRunsModel", "putBack", "()V"⟩, 31) := ⟨⟨by decide +kernel, by decide +kernel⟩, List.mem_of_getElem? (i := 653) (by decide +kernel), List.mem_of_getElem? (i := 904) (by decide +kernel), List.mem_of_getElem? (i := 905) (by decide +kernel)⟩
theorem lw_p45 : lw_okq (⟨"FontRunsModel", "areSo", "()Z"⟩, 31) := ⟨⟨by decide +kernel, by decide +kernel⟩, List.mem_of_getElem? (i := 653) (by decide +kernel), List.mem_of_getElem? (i := 932) (by decide +kernel), List.mem_of_getElem? (i := 933) (by decide +kernel)⟩
theorem lw_p46 : lw_okq (⟨"FontRunsModel", "lost", "(I)J"⟩, 31) := ⟨⟨by decide +kernel, by decide +kernel⟩, List.mem_of_getElem? (i := 653) (by decide +kernel), List.mem_of_getElem? (i := 965) (by decide +kernel), List.mem_of_getElem? (i := 966) (by decide +kernel)⟩
theorem lw_p47 : lw_okq (⟨"FontRunsModel", "begins", "(I)V"⟩, 31) := ⟨⟨by decide +kernel, by decide +kernel⟩, List.mem_of_getElem? (i := 653) (by decide +kernel), List.mem_of_getElem? (i := 977) (by decide +kernel), List.mem_of_getElem? (i := 978) (by decide +kernel)⟩
def lw_privs_3 : List (MethodName × Nat) := [(⟨"FontRunsModel", "findBest", "()I"⟩, 31), (⟨"FontRunsModel", "findChanges", "(I)I"⟩, 31), (⟨"FontRunsModel", "findClusters", "(I)V"⟩, 31), (⟨"FontRunsModel", "fewestBehind", "(III)I"⟩, 31), (⟨"FontRunsModel", "canSet", "(III)Z"⟩, 31), (⟨"FontRunsModel", "isBestFor", "(III)Z"⟩, 31), (⟨"FontRunsModel", "runOf", "(I)I"⟩, 31), (⟨"FontRunsModel", "comesFirst", "(I)I"⟩, 31), (⟨"FontRunsModel", "keep", "()V"⟩, 31), (⟨"FontRunsModel", "goDay", "(II)I"⟩, 31), (⟨"FontRunsModel", "does", "(II)Z"⟩, 31), (⟨"FontRunsModel", "tellDay", "(I)I"⟩, 31), (⟨"FontRunsModel", "putBack", "()V"⟩, 31), (⟨"FontRunsModel", "areSo", "()Z"⟩, 31), (⟨"FontRunsModel", "lost", "(I)J"⟩, 31), (⟨"FontRunsModel", "begins", "(I)V"⟩, 31)]
theorem lw_r3 : ∀ q ∈ lw_privs_3, lw_okq q := List.forall_mem_cons.mpr ⟨lw_p32, List.forall_mem_cons.mpr ⟨lw_p33, List.forall_mem_cons.mpr ⟨lw_p34, List.forall_mem_cons.mpr ⟨lw_p35, List.forall_mem_cons.mpr ⟨lw_p36, List.forall_mem_cons.mpr ⟨lw_p37, List.forall_mem_cons.mpr ⟨lw_p38, List.forall_mem_cons.mpr ⟨lw_p39, List.forall_mem_cons.mpr ⟨lw_p40, List.forall_mem_cons.mpr ⟨lw_p41, List.forall_mem_cons.mpr ⟨lw_p42, List.forall_mem_cons.mpr ⟨lw_p43, List.forall_mem_cons.mpr ⟨lw_p44, List.forall_mem_cons.mpr ⟨lw_p45, List.forall_mem_cons.mpr ⟨lw_p46, List.forall_mem_cons.mpr ⟨lw_p47, fun _ h => absurd h List.not_mem_nil⟩⟩⟩⟩⟩⟩⟩⟩⟩⟩⟩⟩⟩⟩⟩⟩
def lw_privs : List (MethodName × Nat) := lw_privs_1 ++ (lw_privs_2 ++ (lw_privs_3))
def lw_tbl : List Cond := k2_sels lw_privs ++ tables_1
theorem lw_privs_ok : ∀ q ∈ lw_privs, lw_okq q := by
  show ∀ q ∈ lw_privs_1 ++ (lw_privs_2 ++ (lw_privs_3)), lw_okq q
  exact List.forall_mem_append.mpr ⟨lw_r1, List.forall_mem_append.mpr ⟨lw_r2, lw_r3⟩⟩
end
section
def va_AOA (ty : FieldType) (U : State) : Prop := (Cond.arrayOver (.array ty)).before #[] U = true
theorem va_AOA.use {ty : FieldType} {A : Array Value} {U : State} (h : va_AOA ty U) : (Cond.arrayOver (.array ty)).before A U = true := h
/-! ===== BEGIN words of one list among another's, by their places ===== -/
theorem goodIn_r {big : List Cond} (ws : List Cond) (ps : List Nat) (hp : ws = ps.filterMap (fun i => big[i]?)) (h : ws.all goodWord = true) : GoodIn big ws := by
  intro w hw
  have h1 := List.all_eq_true.mp h w hw
  rw [hp] at hw
  obtain ⟨i, -, hi⟩ := List.mem_filterMap.mp hw
  have hm : w ∈ big := by first | exact List.mem_of_getElem? hi | exact List.getElem?_mem hi
  exact ⟨hm, good_of_word h1⟩
theorem goodIn_app {big a b : List Cond} (ha : GoodIn big a) (hb : GoodIn big b) : GoodIn big (a ++ b) := fun w h => (List.mem_append.mp h).elim (ha w) (hb w)
theorem goodIn_ca {big a b : List Cond} {c : Cond} (ha : GoodIn big (c :: a)) (hb : GoodIn big b) : GoodIn big (c :: (a ++ b)) := fun w h => (List.mem_cons.mp h).elim (fun e => ha w (List.mem_cons.mpr (Or.inl e))) (fun h => (List.mem_append.mp h).elim (fun h => ha w (List.mem_cons.mpr (Or.inr h))) (hb w))
theorem goodIn_sub {big ws : List Cond} (hm : ∀ w ∈ ws, w ∈ big) (h : ws.all goodWord = true) : GoodIn big ws := fun w hw => ⟨hm w hw, good_of_word (List.all_eq_true.mp h w hw)⟩
/-! ===== END ===== -/

/-! ===== BEGIN new T[n][m]: the outer array a place, the inner ones among the pooled ===== -/
/-- f, but v at every address of l -/
def vr_up {α : Type} (f : Nat → α) (l : List Nat) (v : α) : Nat → α := fun a => if a ∈ l then v else f a
theorem vr_up_in {α : Type} {f : Nat → α} {l : List Nat} {v : α} {a : Nat} (h : a ∈ l) : vr_up f l v a = v := if_pos h
theorem vr_up_ne {α : Type} {f : Nat → α} {l : List Nat} {v : α} {a : Nat} (h : a ∉ l) : vr_up f l v a = f a := if_neg h
theorem vr_rows {L l : List Nat} {f : Nat → va_E} {e : va_E} (h : ∀ a, a ∈ l → a ∉ L) : va_pl L f ++ l.map (fun a => (a, e)) = va_pl (L ++ l) (vr_up f l e) := by
  unfold va_pl
  rw [List.map_append]
  congr 1
  · apply List.map_congr_left
    intro a ha
    rw [vr_up_ne (fun q => h a q ha)]
  · apply List.map_congr_left
    intro a ha
    rw [vr_up_in ha]
theorem vr_lay {X rows : va_W} {x : Nat × va_E} {pl : va_W} {D : va_G} {cl : List vw_C} {H : Heap} (hP : va_P D cl (((X ++ pl) ++ [x]) ++ rows) H) : va_P D cl ((X ++ [x]) ++ (pl ++ rows)) H := by
  rw [List.append_assoc (X ++ pl)] at hP
  have h := va_P.swap hP
  rw [← List.append_assoc X] at h
  have h2 := va_P.swap h
  rw [List.append_assoc (X ++ [x])] at h2
  exact h2
theorem vr_layD {X rows : va_W} {x : Nat × va_E} {pl : va_W} {A : Nat → Prop} (hD : va_D A (((X ++ pl) ++ [x]) ++ rows)) : va_D A ((X ++ [x]) ++ (pl ++ rows)) := by
  rw [List.append_assoc (X ++ pl)] at hD
  have h := va_D.swap hD
  rw [← List.append_assoc X] at h
  have h2 := va_D.swap h
  rw [List.append_assoc (X ++ [x])] at h2
  exact h2
theorem vr_outer (c : ClassId) (N h0 : Nat) : ∀ i : Nat, Jvm.Free.Multi.outerC c N h0 i = arrV c N (fun j => va_rf (if j < i then some (h0 + 1 + j) else none))
  | 0 => by
    show ({ cls := c, slots := Array.replicate N .null, vm := .none } : Cell) = _
    rw [arrV_new]
    refine congrArg (arrV c N) (funext fun j => ?_)
    simp [va_rf]
  | i + 1 => by
    show (Jvm.Free.Multi.outerC c N h0 i).setSlot i (.ref (h0 + 1 + i)) = _
    rw [vr_outer c N h0 i, arrV_store]
    refine congrArg (arrV c N) (funext fun j => ?_)
    by_cases e : j = i
    · subst e
      simp [updV, va_rf]
    · by_cases h : j < i
      · simp [updV, e, h, Nat.lt_succ_of_lt h]
      · simp [updV, e, h, show ¬ j < i + 1 by omega]
section VGM
variable {p : Program} {l : Launch} {e : Env} {R : Room} {s : State} {m : MethodId} {args : Array Value} {below : List Frame} {meth : Method} {c : Code} {H : Heap} {locs : List Loc} {cells slots : Nat} {Q : State → Prop}
variable {cc : ByteArray} {pc : Nat} {ls : Array Slot} {rest : List Value} {D : va_G} {cl : List vw_C} {A : Nat → Prop} {a : Nat} {tys : List (ClassId × FieldType)} {ws : va_W} {H0 : Heap}
theorem va_mna {X : va_W} {L : List Nat} {f : Nat → va_E} {cc : ByteArray} (hexec : p.tables.exec = Jvm.exec) (hb : c.code = cc) {own : String} {index : Nat} {ty : FieldType} {cy : ClassId} (hown : s.vm.findClass own = some m.cls) (hclink : (Cond.classLink own index ("[" ++ (FieldType.array ty).toString)).before args s = true) (hover : va_AOA ty s) (harr : (Cond.arrayClass ty).before args s = true) (hcy : s.vm.findClass (FieldType.array ty).toString = some cy)
    (hK : va_K D cl tys s) (hP : va_P D cl (X ++ va_pl L f) H) (hD : va_D A (X ++ va_pl L f)) (hS : va_S A H0 H locs) (hA : ∀ q, H0.size ≤ q → A q) {n k : Int32} {N' K' : Nat} {z : vp_A} (hn : ¬ n < 0) (hk : ¬ k < 0) (hN : n.toNatClampNeg = N') (hM : k.toNatClampNeg = K')
    (hb1 : N' * 4 ≤ 536870912) (hb2 : K' * componentBytes ty ≤ 536870912) (hb3 : K' ≤ 536870912) (hdf : fits ty (defaultValue ty) = true) (hdd : (defaultValue ty).isDefault = true) (hcells : cells + (1 + N') ≤ R.cells) (hslots : slots + (N' + N' * K') ≤ R.slots) (hz : ∀ c : ClassId, Jvm.Free.Multi.innerC c K' (defaultValue ty) = vp_cell c z) (hdg : decode cc pc = .ok (.multianewarray index 2, 4))
    (kk : ∀ (q : Nat) (r : Nat → Nat) (cA : ClassId) (H1 : Heap), (∀ i j : Nat, i < N' → j < N' → r i = r j → i = j) → (∀ i : Nat, i < N' → r i ∉ L) → va_K D cl (tys ++ [(cA, .array ty)]) s →
      va_P D cl ((X ++ [(q, .inl (cA, N', .inr (.inr (.inr (.inr (fun i => if i < N' then some (r i) else none))))))]) ++ va_pl (L ++ (List.range N').map r) (vr_up f ((List.range N').map r) (.inl (cy, z)))) H1 → va_D A ((X ++ [(q, .inl (cA, N', .inr (.inr (.inr (.inr (fun i => if i < N' then some (r i) else none))))))]) ++ va_pl (L ++ (List.range N').map r) (vr_up f ((List.range N').map r) (.inl (cy, z)))) → va_S A H0 H1 locs →
      W p l e R s m args below meth c H1 locs (cells + 1 + N') (slots + N' + N' * K') Q (F0 m (pc + 4) ls (.ref q :: rest))) : W p l e R s m args below meth c H locs cells slots Q (F0 m pc ls (.int k :: .int n :: rest)) := by
  subst hN
  subst hM
  intro T hT Xs
  obtain ⟨vm₁, cA, comp, -, fA, fC, hO, -, X', step⟩ := Xs.multianewarray2F hexec hown hclink (va_AOA.use hover) harr (g := F0 m pc ls (.int k :: .int n :: rest)) rfl (by rw [hb]; exact hdg) rfl hn hk hb1 hb2 hb3 hdf hdd hcells hslots
  have ec : some cy = some comp := hcy.symm.trans fC
  cases ec
  generalize hF : Jvm.Free.Multi.fill (T.setVm vm₁) cA cy n.toNatClampNeg k.toNatClampNeg (defaultValue ty) n.toNatClampNeg = F at X' step
  have hTh : (T.setVm vm₁).heap = H := hT
  obtain ⟨f1, f2, -, -⟩ := Jvm.Free.Multi.fill_facts (T.setVm vm₁) cA cy n.toNatClampNeg k.toNatClampNeg (defaultValue ty) n.toNatClampNeg
  rw [hF, hTh] at f1 f2
  have hold : ∀ x : Nat, x < H.size → F.heap[x]? = H[x]? := fun x hx => by
    have := Jvm.Free.Multi.fill_old (T.setVm vm₁) cA cy n.toNatClampNeg k.toNatClampNeg (defaultValue ty) (a := x) (by rw [hTh]; exact hx) n.toNatClampNeg
    rw [hF, hTh] at this
    exact this
  have hrow : ∀ j : Nat, j < n.toNatClampNeg → F.heap[H.size + 1 + j]? = some (vp_cell cy z) := fun j hj => by
    have := Jvm.Free.Multi.fill_inner (T.setVm vm₁) cA cy n.toNatClampNeg k.toNatClampNeg (defaultValue ty) n.toNatClampNeg j hj
    rw [hF, hTh, hz] at this
    exact this
  have hout : Jvm.Free.Multi.outerC cA n.toNatClampNeg H.size n.toNatClampNeg = vp_cell cA (n.toNatClampNeg, .inr (.inr (.inr (.inr (fun i => if i < n.toNatClampNeg then some (H.size + 1 + i) else none))))) := by
    rw [vp_cell_q]
    exact vr_outer cA n.toNatClampNeg H.size n.toNatClampNeg
  rw [hout] at f2
  have hlt : ∀ a, a ∈ L → a < H.size := fun a ha => by
    obtain ⟨k9, hk9⟩ := va_pl_get (X := X) (f := f) ha
    exact (hP k9 _ hk9).lt
  have hnl : ∀ i : Nat, i < n.toNatClampNeg → H.size + 1 + i ∉ L := fun i _ h => by
    have := hlt _ h
    omega
  have hnm : ∀ a, a ∈ (List.range n.toNatClampNeg).map (fun i => H.size + 1 + i) → a ∉ L := fun a ha h => by
    obtain ⟨i, -, rfl⟩ := List.mem_map.mp ha
    have := hlt _ h
    omega
  have hP0 : va_P D cl (X ++ va_pl L f) F.heap := hP.kept (fun k9 x hx => hold x.1 ((hP k9 x hx).lt))
  have hP1 : va_P D cl ((X ++ va_pl L f) ++ [(H.size, .inl (cA, n.toNatClampNeg, .inr (.inr (.inr (.inr (fun i => if i < n.toNatClampNeg then some (H.size + 1 + i) else none))))))]) F.heap := hP0.app (fun k9 x hx => by
    have h0 : k9 < 1 := (List.getElem?_eq_some_iff.mp hx).1
    rw [show k9 = 0 by omega] at hx
    cases hx
    exact f2)
  have hP2 : va_P D cl (((X ++ va_pl L f) ++ [(H.size, .inl (cA, n.toNatClampNeg, .inr (.inr (.inr (.inr (fun i => if i < n.toNatClampNeg then some (H.size + 1 + i) else none))))))]) ++ ((List.range n.toNatClampNeg).map (fun i => H.size + 1 + i)).map (fun a => (a, .inl (cy, z)))) F.heap := hP1.app (fun k9 x hx => by
    obtain ⟨a, ha, rfl⟩ := List.mem_map.mp (List.mem_of_getElem? hx)
    obtain ⟨i, hi, rfl⟩ := List.mem_map.mp ha
    exact hrow i (List.mem_range.mp hi))
  have hD2 : va_D A (((X ++ va_pl L f) ++ [(H.size, .inl (cA, n.toNatClampNeg, .inr (.inr (.inr (.inr (fun i => if i < n.toNatClampNeg then some (H.size + 1 + i) else none))))))]) ++ ((List.range n.toNatClampNeg).map (fun i => H.size + 1 + i)).map (fun a => (a, .inl (cy, z)))) := by
    have hD1 := hD.push (e := .inl (cA, n.toNatClampNeg, .inr (.inr (.inr (.inr (fun i => if i < n.toNatClampNeg then some (H.size + 1 + i) else none)))))) hP rfl (hA _ hS.1)
    generalize hW1 : (X ++ va_pl L f) ++ [(H.size, .inl (cA, n.toNatClampNeg, .inr (.inr (.inr (.inr (fun i => if i < n.toNatClampNeg then some (H.size + 1 + i) else none))))))] = W1 at hD1 hP1 ⊢
    have hle : ∀ (k9 : Nat) (x : Nat × va_E), W1[k9]? = some x → x.1 ≤ H.size := fun k9 x hx => by
      rw [← hW1] at hx
      by_cases hl : k9 < (X ++ va_pl L f).length
      · rw [List.getElem?_append_left hl] at hx
        exact Nat.le_of_lt ((hP k9 x hx).lt)
      · rw [List.getElem?_append_right (by omega)] at hx
        have h0 : k9 - (X ++ va_pl L f).length < 1 := (List.getElem?_eq_some_iff.mp hx).1
        rw [show k9 - (X ++ va_pl L f).length = 0 by omega] at hx
        cases hx
        exact Nat.le_refl _
    have hr : ∀ (k9 : Nat) (x : Nat × va_E), (((List.range n.toNatClampNeg).map (fun i => H.size + 1 + i)).map (fun a => ((a, .inl (cy, z)) : Nat × va_E)))[k9]? = some x → x.1 = H.size + 1 + k9 := fun k9 x hx => by
      rw [List.getElem?_map, List.getElem?_map] at hx
      by_cases h9 : k9 < n.toNatClampNeg
      · rw [List.getElem?_range h9] at hx
        cases hx
        rfl
      · have hn0 : (List.range n.toNatClampNeg)[k9]? = none := List.getElem?_eq_none (by rw [List.length_range]; omega)
        rw [hn0] at hx
        cases hx
    refine ⟨fun i j x y hi hj hxy => ?_, fun k9 x hx => ?_⟩
    · by_cases h1 : i < W1.length <;> by_cases h2 : j < W1.length
      · rw [List.getElem?_append_left h1] at hi
        rw [List.getElem?_append_left h2] at hj
        exact hD1.1 i j x y hi hj hxy
      · rw [List.getElem?_append_left h1] at hi
        rw [List.getElem?_append_right (by omega)] at hj
        have := hle _ _ hi
        have := hr _ _ hj
        omega
      · rw [List.getElem?_append_right (by omega)] at hi
        rw [List.getElem?_append_left h2] at hj
        have := hle _ _ hj
        have := hr _ _ hi
        omega
      · rw [List.getElem?_append_right (by omega)] at hi hj
        have := hr _ _ hi
        have := hr _ _ hj
        omega
    · by_cases h1 : k9 < W1.length
      · rw [List.getElem?_append_left h1] at hx
        exact hD1.2 k9 x hx
      · rw [List.getElem?_append_right (by omega)] at hx
        have := hr _ _ hx
        exact hA _ (by have := hS.1; omega)
  have hAr : ArrOfT s cA (.array ty) := fun N9 z9 => by
    obtain ⟨-, k9, hk9, cm9, hkk9⟩ := (hO 0 0 0).1
    exact ⟨(fun q hq => by cases hq), k9, hk9, cm9, hkk9⟩
  have hK2 : va_K D cl (tys ++ [(cA, .array ty)]) s := ⟨hK.1, fun k9 x hx => by
    by_cases hl : k9 < tys.length
    · rw [List.getElem?_append_left hl] at hx
      exact hK.2 k9 x hx
    · rw [List.getElem?_append_right (by omega)] at hx
      have h0 : k9 - tys.length < 1 := (List.getElem?_eq_some_iff.mp hx).1
      rw [show k9 - tys.length = 0 by omega] at hx
      cases hx
      exact ⟨hAr, fA⟩⟩
  obtain ⟨t, a1, b1⟩ := kk H.size (fun i => H.size + 1 + i) cA F.heap (fun i j _ _ h => by have h9 : H.size + 1 + i = H.size + 1 + j := h; omega) hnl hK2 (by rw [← vr_rows hnm]; exact vr_lay hP2) (by rw [← vr_rows hnm]; exact vr_layD hD2) ⟨by rw [f1]; have := hS.1; omega, fun x h1 h2 => (hold x (Nat.lt_of_lt_of_le h1 hS.1)).trans (hS.2.1 x h1 h2), hS.2.2⟩ F rfl X'
  refine ⟨t, step t ?_, b1⟩
  have e : T.heap.size = H.size := by rw [hT]
  rw [e]
  exact a1
end VGM
/-! ===== END ===== -/

/-! ===== BEGIN printed: names, fields, word lists, decode rows ===== -/
def RX0 : String := "FontRuns$FontRow"
def TX0 : u_T := fun k => match k with
  | 0 => ("FontRuns$FontRow", "kind", "[I", true)
  | 1 => ("FontRuns$FontRow", "breadth", "[I", true)
  | 2 => ("FontRuns$FontRow", "has", "[I", true)
  | _ => ("FontRuns$FontRow", "count", "I", false)
def tyX0 : Nat → FieldType := fun k => match k with
  | 0 => .array .int
  | 1 => .array .int
  | 2 => .array .int
  | _ => .int
abbrev wsX00 : List Cond := u_ws RX0 TX0 4
theorem nmX0 : ∀ a, a < 4 → ∀ b, b < 4 → a ≠ b → (TX0 a).2.1 ≠ (TX0 b).2.1 := by decide +kernel
theorem tyX0_ok : ∀ k, k < 4 → parseFieldDescriptor (TX0 k).2.2.1 = some (tyX0 k) := by decide +kernel
abbrev cX0_init : ByteArray := prog_2_method_1_code
def yX0_init : MethodName := ⟨RX0, "<init>", "()V"⟩
abbrev cX0_isFont : ByteArray := prog_2_method_2_code
def yX0_isFont : MethodName := ⟨RX0, "isFont", "(I)Z"⟩
abbrev cX0_all : ByteArray := prog_2_method_3_code
def yX0_all : MethodName := ⟨RX0, "all", "()I"⟩
abbrev cX0_step : ByteArray := prog_2_method_4_code
def yX0_step : MethodName := ⟨RX0, "step", "(I)I"⟩
abbrev cX0_fitting : ByteArray := prog_2_method_5_code
def yX0_fitting : MethodName := ⟨RX0, "fitting", "(I)I"⟩
abbrev cX0_takeFrom : ByteArray := prog_2_method_6_code
def yX0_takeFrom : MethodName := ⟨RX0, "takeFrom", "(LFontRuns$FontRow;)V"⟩
def RX1 : String := "FontRuns$Preference"
def TX1 : u_T := fun k => match k with
  | 0 => ("FontRuns$Preference", "row", "[I", true)
  | _ => ("FontRuns$Preference", "count", "I", false)
def tyX1 : Nat → FieldType := fun k => match k with
  | 0 => .array .int
  | _ => .int
abbrev wsX10 : List Cond := u_ws RX1 TX1 2
theorem nmX1 : ∀ a, a < 2 → ∀ b, b < 2 → a ≠ b → (TX1 a).2.1 ≠ (TX1 b).2.1 := by decide +kernel
theorem tyX1_ok : ∀ k, k < 2 → parseFieldDescriptor (TX1 k).2.2.1 = some (tyX1 k) := by decide +kernel
abbrev cX1_init : ByteArray := prog_3_method_1_code
def yX1_init : MethodName := ⟨RX1, "<init>", "()V"⟩
abbrev cX1_begin : ByteArray := prog_3_method_2_code
def yX1_begin : MethodName := ⟨RX1, "begin", "(I)V"⟩
abbrev cX1_placeOf : ByteArray := prog_3_method_3_code
def yX1_placeOf : MethodName := ⟨RX1, "placeOf", "(I)I"⟩
abbrev cX1_lead : ByteArray := prog_3_method_4_code
def yX1_lead : MethodName := ⟨RX1, "lead", "(I)Z"⟩
abbrev cX1_takeFrom : ByteArray := prog_3_method_5_code
def yX1_takeFrom : MethodName := ⟨RX1, "takeFrom", "(LFontRuns$Preference;)V"⟩
def RX2 : String := "FontRuns$Readings"
def TX2 : u_T := fun k => match k with
  | 0 => ("FontRuns$Readings", "count", "I", false)
  | 1 => ("FontRuns$Readings", "value", "[I", true)
  | _ => ("FontRuns$Readings", "clusters", "[[I", true)
def tyX2 : Nat → FieldType := fun k => match k with
  | 0 => .int
  | 1 => .array .int
  | _ => .array (.array .int)
abbrev wsX20 : List Cond := u_ws RX2 TX2 3
theorem nmX2 : ∀ a, a < 3 → ∀ b, b < 3 → a ≠ b → (TX2 a).2.1 ≠ (TX2 b).2.1 := by decide +kernel
theorem tyX2_ok : ∀ k, k < 3 → parseFieldDescriptor (TX2 k).2.2.1 = some (tyX2 k) := by decide +kernel
abbrev cX2_init : ByteArray := prog_4_method_1_code
def yX2_init : MethodName := ⟨RX2, "<init>", "()V"⟩
abbrev cX2_add : ByteArray := prog_4_method_2_code
def yX2_add : MethodName := ⟨RX2, "add", "(LFontRuns$Setting;I)Z"⟩
abbrev cX2_areSo : ByteArray := prog_4_method_3_code
def yX2_areSo : MethodName := ⟨RX2, "areSo", "(LFontRuns$FontRow;II)Z"⟩
def RX3 : String := "FontRuns$Recent"
def TX3 : u_T := fun k => match k with
  | 0 => ("FontRuns$Recent", "row", "[I", true)
  | _ => ("FontRuns$Recent", "count", "I", false)
def tyX3 : Nat → FieldType := fun k => match k with
  | 0 => .array .int
  | _ => .int
abbrev wsX30 : List Cond := u_ws RX3 TX3 2
theorem nmX3 : ∀ a, a < 2 → ∀ b, b < 2 → a ≠ b → (TX3 a).2.1 ≠ (TX3 b).2.1 := by decide +kernel
theorem tyX3_ok : ∀ k, k < 2 → parseFieldDescriptor (TX3 k).2.2.1 = some (tyX3 k) := by decide +kernel
abbrev cX3_init : ByteArray := prog_5_method_1_code
def yX3_init : MethodName := ⟨RX3, "<init>", "()V"⟩
abbrev cX3_keep : ByteArray := prog_5_method_2_code
def yX3_keep : MethodName := ⟨RX3, "keep", "(I)V"⟩
def RX4 : String := "FontRuns$Setting"
def TX4 : u_T := fun k => match k with
  | 0 => ("FontRuns$Setting", "first", "[I", true)
  | 1 => ("FontRuns$Setting", "length", "[I", true)
  | 2 => ("FontRuns$Setting", "fitting", "[I", true)
  | 3 => ("FontRuns$Setting", "chosen", "[I", true)
  | 4 => ("FontRuns$Setting", "runOf", "[I", true)
  | 5 => ("FontRuns$Setting", "count", "I", false)
  | 6 => ("FontRuns$Setting", "boxes", "I", false)
  | 7 => ("FontRuns$Setting", "runs", "I", false)
  | 8 => ("FontRuns$Setting", "letters", "[I", true)
  | _ => ("FontRuns$Setting", "behind", "[[I", true)
def tyX4 : Nat → FieldType := fun k => match k with
  | 0 => .array .int
  | 1 => .array .int
  | 2 => .array .int
  | 3 => .array .int
  | 4 => .array .int
  | 5 => .int
  | 6 => .int
  | 7 => .int
  | 8 => .array .int
  | _ => .array (.array .int)
abbrev wsX40 : List Cond := u_ws RX4 TX4 10
theorem nmX4 : ∀ a, a < 10 → ∀ b, b < 10 → a ≠ b → (TX4 a).2.1 ≠ (TX4 b).2.1 := by decide +kernel
theorem tyX4_ok : ∀ k, k < 10 → parseFieldDescriptor (TX4 k).2.2.1 = some (tyX4 k) := by decide +kernel
abbrev cX4_init : ByteArray := prog_6_method_1_code
def yX4_init : MethodName := ⟨RX4, "<init>", "()V"⟩
abbrev cX4_make : ByteArray := prog_6_method_2_code
def yX4_make : MethodName := ⟨RX4, "make", "(LFontRuns$Writing;LFontRuns$FontRow;LFontRuns$Preference;I)V"⟩
abbrev cX4_isCluster : ByteArray := prog_6_method_3_code
def yX4_isCluster : MethodName := ⟨RX4, "isCluster", "(I)Z"⟩
abbrev cX4_changes : ByteArray := prog_6_method_4_code
def yX4_changes : MethodName := ⟨RX4, "changes", "()I"⟩
abbrev cX4_advance : ByteArray := prog_6_method_5_code
def yX4_advance : MethodName := ⟨RX4, "advance", "(LFontRuns$FontRow;)I"⟩
abbrev cX4_clustersIn : ByteArray := prog_6_method_6_code
def yX4_clustersIn : MethodName := ⟨RX4, "clustersIn", "(I)I"⟩
abbrev cX4_firstOfRun : ByteArray := prog_6_method_7_code
def yX4_firstOfRun : MethodName := ⟨RX4, "firstOfRun", "(I)I"⟩
abbrev cX4_clustersOfRun : ByteArray := prog_6_method_8_code
def yX4_clustersOfRun : MethodName := ⟨RX4, "clustersOfRun", "(I)I"⟩
abbrev cX4_isServedBy : ByteArray := prog_6_method_9_code
def yX4_isServedBy : MethodName := ⟨RX4, "isServedBy", "(I)Z"⟩
abbrev cX4_cut : ByteArray := prog_6_method_10_code
def yX4_cut : MethodName := ⟨RX4, "cut", "(LFontRuns$Writing;)V"⟩
abbrev cX4_findFitting : ByteArray := prog_6_method_11_code
def yX4_findFitting : MethodName := ⟨RX4, "findFitting", "(LFontRuns$FontRow;I)V"⟩
abbrev cX4_findBehind : ByteArray := prog_6_method_12_code
def yX4_findBehind : MethodName := ⟨RX4, "findBehind", "(I)V"⟩
abbrev cX4_choose : ByteArray := prog_6_method_13_code
def yX4_choose : MethodName := ⟨RX4, "choose", "(LFontRuns$Preference;)V"⟩
abbrev cX4_firstOfBest : ByteArray := prog_6_method_14_code
def yX4_firstOfBest : MethodName := ⟨RX4, "firstOfBest", "(IILFontRuns$Preference;)I"⟩
def RX5 : String := "FontRuns$Sheet"
def TX5 : u_T := fun k => match k with
  | 0 => ("FontRuns$Sheet", "cells", "[I", true)
  | 1 => ("FontRuns$Sheet", "isThere", "Z", false)
  | 2 => ("FontRuns$Sheet", "lane", "I", false)
  | _ => ("FontRuns$Sheet", "size", "I", false)
def tyX5 : Nat → FieldType := fun k => match k with
  | 0 => .array .int
  | 1 => .boolean
  | 2 => .int
  | _ => .int
abbrev wsX50 : List Cond := u_ws RX5 TX5 4
theorem nmX5 : ∀ a, a < 4 → ∀ b, b < 4 → a ≠ b → (TX5 a).2.1 ≠ (TX5 b).2.1 := by decide +kernel
theorem tyX5_ok : ∀ k, k < 4 → parseFieldDescriptor (TX5 k).2.2.1 = some (tyX5 k) := by decide +kernel
abbrev cX5_init : ByteArray := prog_7_method_1_code
def yX5_init : MethodName := ⟨RX5, "<init>", "()V"⟩
abbrev cX5_begin : ByteArray := prog_7_method_2_code
def yX5_begin : MethodName := ⟨RX5, "begin", "(II)V"⟩
abbrev cX5_hasCell : ByteArray := prog_7_method_3_code
def yX5_hasCell : MethodName := ⟨RX5, "hasCell", "(I)Z"⟩
abbrev cX5_hasCells : ByteArray := prog_7_method_4_code
def yX5_hasCells : MethodName := ⟨RX5, "hasCells", "(II)Z"⟩
abbrev cX5_at : ByteArray := prog_7_method_5_code
def yX5_at : MethodName := ⟨RX5, "at", "(I)I"⟩
abbrev cX5_cut : ByteArray := prog_7_method_6_code
def yX5_cut : MethodName := ⟨RX5, "cut", "(I)I"⟩
def RX6 : String := "FontRuns$TextReader"
def TX6 : u_T := fun k => match k with
  | 0 => ("FontRuns$TextReader", "told", "LFontRuns$FontRow;", true)
  | _ => ("FontRuns$TextReader", "due", "I", false)
def tyX6 : Nat → FieldType := fun k => match k with
  | 0 => .object "FontRuns$FontRow"
  | _ => .int
abbrev wsX60 : List Cond := u_ws RX6 TX6 2
theorem nmX6 : ∀ a, a < 2 → ∀ b, b < 2 → a ≠ b → (TX6 a).2.1 ≠ (TX6 b).2.1 := by decide +kernel
theorem tyX6_ok : ∀ k, k < 2 → parseFieldDescriptor (TX6 k).2.2.1 = some (tyX6 k) := by decide +kernel
abbrev cX6_init : ByteArray := prog_8_method_1_code
def yX6_init : MethodName := ⟨RX6, "<init>", "()V"⟩
abbrev cX6_firstFault : ByteArray := prog_8_method_2_code
def yX6_firstFault : MethodName := ⟨RX6, "firstFault", "(LFontRuns$Sheet;II)I"⟩
abbrev cX6_goesOnWith : ByteArray := prog_8_method_3_code
def yX6_goesOnWith : MethodName := ⟨RX6, "goesOnWith", "(I)Z"⟩
abbrev cX6_takesHead : ByteArray := prog_8_method_4_code
def yX6_takesHead : MethodName := ⟨RX6, "takesHead", "(I)Z"⟩
abbrev cX6_takesSign : ByteArray := prog_8_method_5_code
def yX6_takesSign : MethodName := ⟨RX6, "takesSign", "(I)Z"⟩
abbrev cX6_takesKind : ByteArray := prog_8_method_6_code
def yX6_takesKind : MethodName := ⟨RX6, "takesKind", "(II)Z"⟩
abbrev cX6_takesBreadth : ByteArray := prog_8_method_7_code
def yX6_takesBreadth : MethodName := ⟨RX6, "takesBreadth", "(II)Z"⟩
abbrev cX6_takesLetter : ByteArray := prog_8_method_8_code
def yX6_takesLetter : MethodName := ⟨RX6, "takesLetter", "(II)Z"⟩
def RX7 : String := "FontRuns$Writing"
def TX7 : u_T := fun k => match k with
  | 0 => ("FontRuns$Writing", "row", "[I", true)
  | _ => ("FontRuns$Writing", "count", "I", false)
def tyX7 : Nat → FieldType := fun k => match k with
  | 0 => .array .int
  | _ => .int
abbrev wsX70 : List Cond := u_ws RX7 TX7 2
theorem nmX7 : ∀ a, a < 2 → ∀ b, b < 2 → a ≠ b → (TX7 a).2.1 ≠ (TX7 b).2.1 := by decide +kernel
theorem tyX7_ok : ∀ k, k < 2 → parseFieldDescriptor (TX7 k).2.2.1 = some (tyX7 k) := by decide +kernel
abbrev cX7_init : ByteArray := prog_9_method_1_code
def yX7_init : MethodName := ⟨RX7, "<init>", "()V"⟩
abbrev cX7_add : ByteArray := prog_9_method_2_code
def yX7_add : MethodName := ⟨RX7, "add", "(I)Z"⟩
abbrev cX7_drop : ByteArray := prog_9_method_3_code
def yX7_drop : MethodName := ⟨RX7, "drop", "(I)Z"⟩
abbrev cX7_takeFrom : ByteArray := prog_9_method_4_code
def yX7_takeFrom : MethodName := ⟨RX7, "takeFrom", "(LFontRuns$Writing;)V"⟩
def RX8 : String := "FontRuns"
def TX8 : u_T := fun k => match k with
  | 0 => ("FontRuns", "sheets", "[LFontRuns$Sheet;", true)
  | 1 => ("FontRuns", "reader", "LFontRuns$TextReader;", true)
  | 2 => ("FontRuns", "fontRow", "LFontRuns$FontRow;", true)
  | 3 => ("FontRuns", "writing", "LFontRuns$Writing;", true)
  | 4 => ("FontRuns", "preference", "LFontRuns$Preference;", true)
  | 5 => ("FontRuns", "recent", "LFontRuns$Recent;", true)
  | 6 => ("FontRuns", "setting", "LFontRuns$Setting;", true)
  | 7 => ("FontRuns", "readings", "LFontRuns$Readings;", true)
  | 8 => ("FontRuns", "supposedWriting", "LFontRuns$Writing;", true)
  | 9 => ("FontRuns", "supposedPreference", "LFontRuns$Preference;", true)
  | 10 => ("FontRuns", "supposedSetting", "LFontRuns$Setting;", true)
  | 11 => ("FontRuns", "everWritten", "I", false)
  | 12 => ("FontRuns", "writtenCheck", "J", false)
  | 13 => ("FontRuns", "trail", "I", false)
  | _ => ("FontRuns", "latestFault", "I", false)
def tyX8 : Nat → FieldType := fun k => match k with
  | 0 => .array (.object "FontRuns$Sheet")
  | 1 => .object "FontRuns$TextReader"
  | 2 => .object "FontRuns$FontRow"
  | 3 => .object "FontRuns$Writing"
  | 4 => .object "FontRuns$Preference"
  | 5 => .object "FontRuns$Recent"
  | 6 => .object "FontRuns$Setting"
  | 7 => .object "FontRuns$Readings"
  | 8 => .object "FontRuns$Writing"
  | 9 => .object "FontRuns$Preference"
  | 10 => .object "FontRuns$Setting"
  | 11 => .int
  | 12 => .long
  | 13 => .int
  | _ => .int
abbrev wsX80 : List Cond := u_ws RX8 TX8 15
theorem nmX8 : ∀ a, a < 15 → ∀ b, b < 15 → a ≠ b → (TX8 a).2.1 ≠ (TX8 b).2.1 := by decide +kernel
theorem tyX8_ok : ∀ k, k < 15 → parseFieldDescriptor (TX8 k).2.2.1 = some (tyX8 k) := by decide +kernel
abbrev cX8_init : ByteArray := prog_1_method_1_code
def yX8_init : MethodName := ⟨RX8, "<init>", "()V"⟩
abbrev cX8_fonts : ByteArray := prog_1_method_2_code
def yX8_fonts : MethodName := ⟨RX8, "fonts", "(IIII)I"⟩
abbrev cX8_ofFont : ByteArray := prog_1_method_3_code
def yX8_ofFont : MethodName := ⟨RX8, "ofFont", "(II)I"⟩
abbrev cX8_width : ByteArray := prog_1_method_4_code
def yX8_width : MethodName := ⟨RX8, "width", "(II)I"⟩
abbrev cX8_beginWithFontsTold : ByteArray := prog_1_method_5_code
def yX8_beginWithFontsTold : MethodName := ⟨RX8, "beginWithFontsTold", "()V"⟩
abbrev cX8_write : ByteArray := prog_1_method_6_code
def yX8_write : MethodName := ⟨RX8, "write", "(IIII)I"⟩
abbrev cX8_erase : ByteArray := prog_1_method_7_code
def yX8_erase : MethodName := ⟨RX8, "erase", "(I)I"⟩
abbrev cX8_letter : ByteArray := prog_1_method_8_code
def yX8_letter : MethodName := ⟨RX8, "letter", "(I)I"⟩
abbrev cX8_ofCluster : ByteArray := prog_1_method_9_code
def yX8_ofCluster : MethodName := ⟨RX8, "ofCluster", "(II)I"⟩
abbrev cX8_ofRun : ByteArray := prog_1_method_10_code
def yX8_ofRun : MethodName := ⟨RX8, "ofRun", "(II)I"⟩
abbrev cX8_prefer : ByteArray := prog_1_method_11_code
def yX8_prefer : MethodName := ⟨RX8, "prefer", "(I)I"⟩
abbrev cX8_latest : ByteArray := prog_1_method_12_code
def yX8_latest : MethodName := ⟨RX8, "latest", "(I)I"⟩
abbrev cX8_tally : ByteArray := prog_1_method_13_code
def yX8_tally : MethodName := ⟨RX8, "tally", "()I"⟩
abbrev cX8_check : ByteArray := prog_1_method_14_code
def yX8_check : MethodName := ⟨RX8, "check", "()J"⟩
abbrev cX8_day : ByteArray := prog_1_method_15_code
def yX8_day : MethodName := ⟨RX8, "day", "(IIIII)I"⟩
abbrev cX8_writeOne : ByteArray := prog_1_method_16_code
def yX8_writeOne : MethodName := ⟨RX8, "writeOne", "(I)V"⟩
abbrev cX8_settle : ByteArray := prog_1_method_17_code
def yX8_settle : MethodName := ⟨RX8, "settle", "()V"⟩
abbrev cX8_areLetters : ByteArray := prog_1_method_18_code
def yX8_areLetters : MethodName := ⟨RX8, "areLetters", "(LFontRuns$Sheet;II)Z"⟩
abbrev cX8_isOfDay : ByteArray := prog_1_method_19_code
def yX8_isOfDay : MethodName := ⟨RX8, "isOfDay", "(I)Z"⟩
abbrev cX8_areActs : ByteArray := prog_1_method_20_code
def yX8_areActs : MethodName := ⟨RX8, "areActs", "(LFontRuns$Sheet;II)Z"⟩
abbrev cX8_isAct : ByteArray := prog_1_method_21_code
def yX8_isAct : MethodName := ⟨RX8, "isAct", "(II)Z"⟩
abbrev cX8_supposeActs : ByteArray := prog_1_method_22_code
def yX8_supposeActs : MethodName := ⟨RX8, "supposeActs", "(LFontRuns$Sheet;II)I"⟩
abbrev cX8_supposeAct : ByteArray := prog_1_method_23_code
def yX8_supposeAct : MethodName := ⟨RX8, "supposeAct", "(II)Z"⟩
abbrev cX8_ofSupposedDay : ByteArray := prog_1_method_24_code
def yX8_ofSupposedDay : MethodName := ⟨RX8, "ofSupposedDay", "(I)I"⟩
abbrev cX8_best : ByteArray := prog_1_method_25_code
def yX8_best : MethodName := ⟨RX8, "best", "(I)I"⟩
abbrev cX8_without : ByteArray := prog_1_method_26_code
def yX8_without : MethodName := ⟨RX8, "without", "(I)I"⟩
abbrev cX8_enough : ByteArray := prog_1_method_27_code
def yX8_enough : MethodName := ⟨RX8, "enough", "(I)I"⟩
abbrev cX8_leastEnough : ByteArray := prog_1_method_28_code
def yX8_leastEnough : MethodName := ⟨RX8, "leastEnough", "()I"⟩
abbrev cX8_reading : ByteArray := prog_1_method_29_code
def yX8_reading : MethodName := ⟨RX8, "reading", "(I)I"⟩
abbrev cX8_back : ByteArray := prog_1_method_30_code
def yX8_back : MethodName := ⟨RX8, "back", "(I)I"⟩
abbrev cX8_kinds : ByteArray := prog_1_method_31_code
def yX8_kinds : MethodName := ⟨RX8, "kinds", "(I)I"⟩
abbrev cX8_widths : ByteArray := prog_1_method_32_code
def yX8_widths : MethodName := ⟨RX8, "widths", "(I)I"⟩
abbrev cX8_odds : ByteArray := prog_1_method_33_code
def yX8_odds : MethodName := ⟨RX8, "odds", "(II)J"⟩
abbrev cX8_lettersWithChanges : ByteArray := prog_1_method_34_code
def yX8_lettersWithChanges : MethodName := ⟨RX8, "lettersWithChanges", "(I)I"⟩
abbrev cX8_sheet : ByteArray := prog_1_method_35_code
def yX8_sheet : MethodName := ⟨RX8, "sheet", "(III)I"⟩
abbrev cX8_lose : ByteArray := prog_1_method_36_code
def yX8_lose : MethodName := ⟨RX8, "lose", "(I)I"⟩
abbrev cX8_put : ByteArray := prog_1_method_37_code
def yX8_put : MethodName := ⟨RX8, "put", "(III)I"⟩
abbrev cX8_cell : ByteArray := prog_1_method_38_code
def yX8_cell : MethodName := ⟨RX8, "cell", "(III)J"⟩
abbrev cX8_copy : ByteArray := prog_1_method_39_code
def yX8_copy : MethodName := ⟨RX8, "copy", "(IIIII)I"⟩
abbrev cX8_tell : ByteArray := prog_1_method_40_code
def yX8_tell : MethodName := ⟨RX8, "tell", "(I)I"⟩
abbrev cX8_sample : ByteArray := prog_1_method_41_code
def yX8_sample : MethodName := ⟨RX8, "sample", "(I)I"⟩
abbrev cX8_as : ByteArray := prog_1_method_42_code
def yX8_as : MethodName := ⟨RX8, "as", "(II)I"⟩
abbrev cX8_trace : ByteArray := prog_1_method_43_code
def yX8_trace : MethodName := ⟨RX8, "trace", "()I"⟩
abbrev cX8_fault : ByteArray := prog_1_method_44_code
def yX8_fault : MethodName := ⟨RX8, "fault", "()I"⟩
abbrev cX8_many : ByteArray := prog_1_method_45_code
def yX8_many : MethodName := ⟨RX8, "many", "(I)I"⟩
abbrev cX8_leave : ByteArray := prog_1_method_46_code
def yX8_leave : MethodName := ⟨RX8, "leave", "(I)V"⟩
abbrev cX8_plainTold : ByteArray := prog_1_method_47_code
def yX8_plainTold : MethodName := ⟨RX8, "plainTold", "(I)I"⟩
abbrev cX8_broadTold : ByteArray := prog_1_method_48_code
def yX8_broadTold : MethodName := ⟨RX8, "broadTold", "(I)I"⟩
abbrev cX8_doubleTold : ByteArray := prog_1_method_49_code
def yX8_doubleTold : MethodName := ⟨RX8, "doubleTold", "(I)I"⟩
abbrev cX8_failWith : ByteArray := prog_1_method_50_code
def yX8_failWith : MethodName := ⟨RX8, "failWith", "(I)I"⟩
abbrev cX8_faultOfLane : ByteArray := prog_1_method_51_code
def yX8_faultOfLane : MethodName := ⟨RX8, "faultOfLane", "(LFontRuns$Sheet;I)I"⟩
abbrev cX8_faultOfCells : ByteArray := prog_1_method_52_code
def yX8_faultOfCells : MethodName := ⟨RX8, "faultOfCells", "(LFontRuns$Sheet;III)I"⟩
abbrev cX8_isSheet : ByteArray := prog_1_method_53_code
def yX8_isSheet : MethodName := ⟨RX8, "isSheet", "(I)Z"⟩
abbrev cX8_isLane : ByteArray := prog_1_method_54_code
def yX8_isLane : MethodName := ⟨RX8, "isLane", "(I)Z"⟩
abbrev cX8_isWithin : ByteArray := prog_1_method_55_code
def yX8_isWithin : MethodName := ⟨RX8, "isWithin", "(III)Z"⟩
abbrev cX8_stepOf : ByteArray := prog_1_method_56_code
def yX8_stepOf : MethodName := ⟨RX8, "stepOf", "(II)I"⟩
def RX9 : String := "FontRunsModel"
def TX9 : u_T := fun k => match k with
  | 0 => ("FontRunsModel", "fault", "I", false)
  | 1 => ("FontRunsModel", "trace", "I", false)
  | 2 => ("FontRunsModel", "sorts", "[I", true)
  | 3 => ("FontRunsModel", "sheetLong", "[I", true)
  | 4 => ("FontRunsModel", "cells", "[I", true)
  | 5 => ("FontRunsModel", "fonts", "I", false)
  | 6 => ("FontRunsModel", "kind", "[I", true)
  | 7 => ("FontRunsModel", "width", "[I", true)
  | 8 => ("FontRunsModel", "has", "[I", true)
  | 9 => ("FontRunsModel", "preference", "[I", true)
  | 10 => ("FontRunsModel", "latest", "[I", true)
  | 11 => ("FontRunsModel", "many", "I", false)
  | 12 => ("FontRunsModel", "writing", "[I", true)
  | 13 => ("FontRunsModel", "tally", "I", false)
  | 14 => ("FontRunsModel", "check", "J", false)
  | 15 => ("FontRunsModel", "at", "I", false)
  | 16 => ("FontRunsModel", "readFonts", "I", false)
  | 17 => ("FontRunsModel", "readKind", "[I", true)
  | 18 => ("FontRunsModel", "readWidth", "[I", true)
  | 19 => ("FontRunsModel", "readHas", "[I", true)
  | 20 => ("FontRunsModel", "clusters", "I", false)
  | 21 => ("FontRunsModel", "start", "[I", true)
  | 22 => ("FontRunsModel", "fits", "[I", true)
  | 23 => ("FontRunsModel", "boxes", "I", false)
  | 24 => ("FontRunsModel", "changes", "[I", true)
  | 25 => ("FontRunsModel", "chosen", "[I", true)
  | 26 => ("FontRunsModel", "advance", "I", false)
  | 27 => ("FontRunsModel", "runs", "I", false)
  | 28 => ("FontRunsModel", "kept", "[I", true)
  | 29 => ("FontRunsModel", "readings", "I", false)
  | _ => ("FontRunsModel", "readFar", "[I", true)
def tyX9 : Nat → FieldType := fun k => match k with
  | 0 => .int
  | 1 => .int
  | 2 => .array .int
  | 3 => .array .int
  | 4 => .array .int
  | 5 => .int
  | 6 => .array .int
  | 7 => .array .int
  | 8 => .array .int
  | 9 => .array .int
  | 10 => .array .int
  | 11 => .int
  | 12 => .array .int
  | 13 => .int
  | 14 => .long
  | 15 => .int
  | 16 => .int
  | 17 => .array .int
  | 18 => .array .int
  | 19 => .array .int
  | 20 => .int
  | 21 => .array .int
  | 22 => .array .int
  | 23 => .int
  | 24 => .array .int
  | 25 => .array .int
  | 26 => .int
  | 27 => .int
  | 28 => .array .int
  | 29 => .int
  | _ => .array .int
abbrev wsX90 : List Cond := u_ws RX9 TX9 31
theorem nmX9 : ∀ a, a < 31 → ∀ b, b < 31 → a ≠ b → (TX9 a).2.1 ≠ (TX9 b).2.1 := by decide +kernel
theorem tyX9_ok : ∀ k, k < 31 → parseFieldDescriptor (TX9 k).2.2.1 = some (tyX9 k) := by decide +kernel
abbrev cX9_init : ByteArray := prog_11_method_1_code
def yX9_init : MethodName := ⟨RX9, "<init>", "()V"⟩
abbrev cX9_fails : ByteArray := prog_11_method_3_code
def yX9_fails : MethodName := ⟨RX9, "fails", "(I)I"⟩
abbrev cX9_lost : ByteArray := prog_11_method_4_code
def yX9_lost : MethodName := ⟨RX9, "lost", "(I)J"⟩
abbrev cX9_within : ByteArray := prog_11_method_5_code
def yX9_within : MethodName := ⟨RX9, "within", "(III)Z"⟩
abbrev cX9_isSheet : ByteArray := prog_11_method_6_code
def yX9_isSheet : MethodName := ⟨RX9, "isSheet", "(I)Z"⟩
abbrev cX9_isSort : ByteArray := prog_11_method_7_code
def yX9_isSort : MethodName := ⟨RX9, "isSort", "(I)Z"⟩
abbrev cX9_against : ByteArray := prog_11_method_8_code
def yX9_against : MethodName := ⟨RX9, "against", "(IIII)I"⟩
abbrev cX9_isFont : ByteArray := prog_11_method_9_code
def yX9_isFont : MethodName := ⟨RX9, "isFont", "(I)Z"⟩
abbrev cX9_isOf : ByteArray := prog_11_method_10_code
def yX9_isOf : MethodName := ⟨RX9, "isOf", "(II)Z"⟩
abbrev cX9_size : ByteArray := prog_11_method_11_code
def yX9_size : MethodName := ⟨RX9, "size", "(I)I"⟩
abbrev cX9_isSign : ByteArray := prog_11_method_12_code
def yX9_isSign : MethodName := ⟨RX9, "isSign", "(II)Z"⟩
abbrev cX9_fonts : ByteArray := prog_11_method_13_code
def yX9_fonts : MethodName := ⟨RX9, "fonts", "(IIII)I"⟩
abbrev cX9_readAll : ByteArray := prog_11_method_14_code
def yX9_readAll : MethodName := ⟨RX9, "readAll", "(I)Z"⟩
abbrev cX9_readFont : ByteArray := prog_11_method_15_code
def yX9_readFont : MethodName := ⟨RX9, "readFont", "(I)Z"⟩
abbrev cX9_stepOf : ByteArray := prog_11_method_16_code
def yX9_stepOf : MethodName := ⟨RX9, "stepOf", "(I)I"⟩
abbrev cX9_placeOf : ByteArray := prog_11_method_17_code
def yX9_placeOf : MethodName := ⟨RX9, "placeOf", "(I)I"⟩
abbrev cX9_ofFont : ByteArray := prog_11_method_18_code
def yX9_ofFont : MethodName := ⟨RX9, "ofFont", "(II)I"⟩
abbrev cX9_width : ByteArray := prog_11_method_19_code
def yX9_width : MethodName := ⟨RX9, "width", "(II)I"⟩
abbrev cX9_write : ByteArray := prog_11_method_20_code
def yX9_write : MethodName := ⟨RX9, "write", "(IIII)I"⟩
abbrev cX9_erase : ByteArray := prog_11_method_21_code
def yX9_erase : MethodName := ⟨RX9, "erase", "(I)I"⟩
abbrev cX9_letter : ByteArray := prog_11_method_22_code
def yX9_letter : MethodName := ⟨RX9, "letter", "(I)I"⟩
abbrev cX9_findClusters : ByteArray := prog_11_method_23_code
def yX9_findClusters : MethodName := ⟨RX9, "findClusters", "(I)V"⟩
abbrev cX9_canSet : ByteArray := prog_11_method_24_code
def yX9_canSet : MethodName := ⟨RX9, "canSet", "(III)Z"⟩
abbrev cX9_fewestBehind : ByteArray := prog_11_method_25_code
def yX9_fewestBehind : MethodName := ⟨RX9, "fewestBehind", "(III)I"⟩
abbrev cX9_findChanges : ByteArray := prog_11_method_26_code
def yX9_findChanges : MethodName := ⟨RX9, "findChanges", "(I)I"⟩
abbrev cX9_findBest : ByteArray := prog_11_method_27_code
def yX9_findBest : MethodName := ⟨RX9, "findBest", "()I"⟩
abbrev cX9_isBestFor : ByteArray := prog_11_method_28_code
def yX9_isBestFor : MethodName := ⟨RX9, "isBestFor", "(III)Z"⟩
abbrev cX9_runOf : ByteArray := prog_11_method_29_code
def yX9_runOf : MethodName := ⟨RX9, "runOf", "(I)I"⟩
abbrev cX9_ofCluster : ByteArray := prog_11_method_30_code
def yX9_ofCluster : MethodName := ⟨RX9, "ofCluster", "(II)I"⟩
abbrev cX9_ofRun : ByteArray := prog_11_method_31_code
def yX9_ofRun : MethodName := ⟨RX9, "ofRun", "(II)I"⟩
abbrev cX9_comesFirst : ByteArray := prog_11_method_32_code
def yX9_comesFirst : MethodName := ⟨RX9, "comesFirst", "(I)I"⟩
abbrev cX9_prefer : ByteArray := prog_11_method_33_code
def yX9_prefer : MethodName := ⟨RX9, "prefer", "(I)I"⟩
abbrev cX9_latest : ByteArray := prog_11_method_34_code
def yX9_latest : MethodName := ⟨RX9, "latest", "(I)I"⟩
abbrev cX9_tally : ByteArray := prog_11_method_35_code
def yX9_tally : MethodName := ⟨RX9, "tally", "()I"⟩
abbrev cX9_check : ByteArray := prog_11_method_36_code
def yX9_check : MethodName := ⟨RX9, "check", "()J"⟩
abbrev cX9_does : ByteArray := prog_11_method_37_code
def yX9_does : MethodName := ⟨RX9, "does", "(II)Z"⟩
abbrev cX9_isPair : ByteArray := prog_11_method_38_code
def yX9_isPair : MethodName := ⟨RX9, "isPair", "(II)Z"⟩
abbrev cX9_goDay : ByteArray := prog_11_method_39_code
def yX9_goDay : MethodName := ⟨RX9, "goDay", "(II)I"⟩
abbrev cX9_keep : ByteArray := prog_11_method_40_code
def yX9_keep : MethodName := ⟨RX9, "keep", "()V"⟩
abbrev cX9_putBack : ByteArray := prog_11_method_41_code
def yX9_putBack : MethodName := ⟨RX9, "putBack", "()V"⟩
abbrev cX9_day : ByteArray := prog_11_method_42_code
def yX9_day : MethodName := ⟨RX9, "day", "(IIIII)I"⟩
abbrev cX9_tellDay : ByteArray := prog_11_method_43_code
def yX9_tellDay : MethodName := ⟨RX9, "tellDay", "(I)I"⟩
abbrev cX9_best : ByteArray := prog_11_method_44_code
def yX9_best : MethodName := ⟨RX9, "best", "(I)I"⟩
abbrev cX9_without : ByteArray := prog_11_method_45_code
def yX9_without : MethodName := ⟨RX9, "without", "(I)I"⟩
abbrev cX9_enough : ByteArray := prog_11_method_46_code
def yX9_enough : MethodName := ⟨RX9, "enough", "(I)I"⟩
abbrev cX9_reading : ByteArray := prog_11_method_47_code
def yX9_reading : MethodName := ⟨RX9, "reading", "(I)I"⟩
abbrev cX9_back : ByteArray := prog_11_method_48_code
def yX9_back : MethodName := ⟨RX9, "back", "(I)I"⟩
abbrev cX9_areSo : ByteArray := prog_11_method_49_code
def yX9_areSo : MethodName := ⟨RX9, "areSo", "()Z"⟩
abbrev cX9_kinds : ByteArray := prog_11_method_50_code
def yX9_kinds : MethodName := ⟨RX9, "kinds", "(I)I"⟩
abbrev cX9_widths : ByteArray := prog_11_method_51_code
def yX9_widths : MethodName := ⟨RX9, "widths", "(I)I"⟩
abbrev cX9_inLeastTerms : ByteArray := prog_11_method_52_code
def yX9_inLeastTerms : MethodName := ⟨RX9, "inLeastTerms", "(JJI)J"⟩
abbrev cX9_odds : ByteArray := prog_11_method_53_code
def yX9_odds : MethodName := ⟨RX9, "odds", "(II)J"⟩
abbrev cX9_sheet : ByteArray := prog_11_method_54_code
def yX9_sheet : MethodName := ⟨RX9, "sheet", "(III)I"⟩
abbrev cX9_lose : ByteArray := prog_11_method_55_code
def yX9_lose : MethodName := ⟨RX9, "lose", "(I)I"⟩
abbrev cX9_put : ByteArray := prog_11_method_56_code
def yX9_put : MethodName := ⟨RX9, "put", "(III)I"⟩
abbrev cX9_cell : ByteArray := prog_11_method_57_code
def yX9_cell : MethodName := ⟨RX9, "cell", "(III)J"⟩
abbrev cX9_copy : ByteArray := prog_11_method_58_code
def yX9_copy : MethodName := ⟨RX9, "copy", "(IIIII)I"⟩
abbrev cX9_begins : ByteArray := prog_11_method_59_code
def yX9_begins : MethodName := ⟨RX9, "begins", "(I)V"⟩
abbrev cX9_tell : ByteArray := prog_11_method_60_code
def yX9_tell : MethodName := ⟨RX9, "tell", "(I)I"⟩
abbrev cX9_sample : ByteArray := prog_11_method_61_code
def yX9_sample : MethodName := ⟨RX9, "sample", "(I)I"⟩
abbrev cX9_as : ByteArray := prog_11_method_62_code
def yX9_as : MethodName := ⟨RX9, "as", "(II)I"⟩
abbrev cX9_trace : ByteArray := prog_11_method_63_code
def yX9_trace : MethodName := ⟨RX9, "trace", "()I"⟩
abbrev cX9_fault : ByteArray := prog_11_method_64_code
def yX9_fault : MethodName := ⟨RX9, "fault", "()I"⟩
abbrev cX9_many : ByteArray := prog_11_method_65_code
def yX9_many : MethodName := ⟨RX9, "many", "(I)I"⟩
def RJ6 : String := "java/lang/Integer"
def TJ6 : u_T := fun k => match k with
  | _ => ("", "", "", false)
def tyJ6 : Nat → FieldType := fun k => match k with
  | _ => .int
abbrev wsJ60 : List Cond := u_ws RJ6 TJ6 0
theorem nmJ6 : ∀ a, a < 0 → ∀ b, b < 0 → a ≠ b → (TJ6 a).2.1 ≠ (TJ6 b).2.1 := by decide +kernel
theorem tyJ6_ok : ∀ k, k < 0 → parseFieldDescriptor (TJ6 k).2.2.1 = some (tyJ6 k) := by decide +kernel
abbrev cJ6_bitCount_0f7a4 : ByteArray := prog_12_method_49_code
def yJ6_bitCount_0f7a4 : MethodName := ⟨RJ6, "bitCount", "(I)I"⟩
def RJ9 : String := "java/lang/Math"
def TJ9 : u_T := fun k => match k with
  | _ => ("", "", "", false)
def tyJ9 : Nat → FieldType := fun k => match k with
  | _ => .int
abbrev wsJ90 : List Cond := u_ws RJ9 TJ9 0
theorem nmJ9 : ∀ a, a < 0 → ∀ b, b < 0 → a ≠ b → (TJ9 a).2.1 ≠ (TJ9 b).2.1 := by decide +kernel
theorem tyJ9_ok : ∀ k, k < 0 → parseFieldDescriptor (TJ9 k).2.2.1 = some (tyJ9 k) := by decide +kernel
abbrev cJ9_max_7cf53 : ByteArray := prog_13_method_65_code
def yJ9_max_7cf53 : MethodName := ⟨RJ9, "max", "(II)I"⟩
abbrev cJ9_min_7cf53 : ByteArray := prog_13_method_69_code
def yJ9_min_7cf53 : MethodName := ⟨RJ9, "min", "(II)I"⟩
def RJ10 : String := "java/lang/System"
def TJ10 : u_T := fun k => match k with
  | _ => ("", "", "", false)
def tyJ10 : Nat → FieldType := fun k => match k with
  | _ => .int
abbrev wsJ100 : List Cond := u_ws RJ10 TJ10 0
theorem nmJ10 : ∀ a, a < 0 → ∀ b, b < 0 → a ≠ b → (TJ10 a).2.1 ≠ (TJ10 b).2.1 := by decide +kernel
theorem tyJ10_ok : ∀ k, k < 0 → parseFieldDescriptor (TJ10 k).2.2.1 = some (tyJ10 k) := by decide +kernel
def RL : String := "FontRunsLaw"
abbrev cL_law : ByteArray := code
def yL_law : MethodName := ⟨RL, "law", "([I)Z"⟩
def wsX0_init : List Cond := .code yX0_init cX0_init 1 none :: ([.methodLink RX0 3 objectInit, .instanceMethod objectInit, .code objectInit ⟨#[0xb1]⟩ 1 none, .arrayClass .int, .fieldLink RX0 9 "FontRuns$FontRow" "kind" "[I", .fieldLink RX0 15 "FontRuns$FontRow" "breadth" "[I", .fieldLink RX0 18 "FontRuns$FontRow" "has" "[I"] ++ wsX00)
def wsX8_isWithin : List Cond := .code yX8_isWithin cX8_isWithin 3 (some .boolean) :: ([])
def wsX0_isFont : List Cond := .code yX0_isFont cX0_isFont 2 (some .boolean) :: ([.fieldLink RX0 21 "FontRuns$FontRow" "count" "I", .static yX8_isWithin, .initialized RX8, .code yX8_isWithin cX8_isWithin 3 (some .boolean)] ++ wsX00)
def wsX0_all : List Cond := .code yX0_all cX0_all 1 (some .int) :: ([.fieldLink RX0 21 "FontRuns$FontRow" "count" "I"] ++ wsX00)
def wsX8_stepOf : List Cond := .code yX8_stepOf cX8_stepOf 2 (some .int) :: ([])
def wsX0_step : List Cond := .code yX0_step cX0_step 2 (some .int) :: ([.fieldLink RX0 9 "FontRuns$FontRow" "kind" "[I", .fieldLink RX0 15 "FontRuns$FontRow" "breadth" "[I", .methodLink RX0 29 yX0_isFont, .instanceMethod yX0_isFont, .selects RX0 yX0_isFont yX0_isFont, .initialized RX0, .code yX0_isFont cX0_isFont 2 (some .boolean), .fieldLink RX0 21 "FontRuns$FontRow" "count" "I", .static yX8_isWithin, .initialized RX8, .code yX8_isWithin cX8_isWithin 3 (some .boolean), .static yX8_stepOf, .code yX8_stepOf cX8_stepOf 2 (some .int)] ++ wsX00)
def wsX0_fitting : List Cond := .code yX0_fitting cX0_fitting 4 (some .int) :: ([.fieldLink RX0 21 "FontRuns$FontRow" "count" "I", .fieldLink RX0 18 "FontRuns$FontRow" "has" "[I"] ++ wsX00)
def wsX0_takeFrom : List Cond := .code yX0_takeFrom cX0_takeFrom 3 none :: ([.fieldLink RX0 21 "FontRuns$FontRow" "count" "I", .fieldLink RX0 9 "FontRuns$FontRow" "kind" "[I", .fieldLink RX0 15 "FontRuns$FontRow" "breadth" "[I", .fieldLink RX0 18 "FontRuns$FontRow" "has" "[I"] ++ wsX00)
def wsX1_init : List Cond := .code yX1_init cX1_init 1 none :: ([.methodLink RX1 3 objectInit, .instanceMethod objectInit, .code objectInit ⟨#[0xb1]⟩ 1 none, .arrayClass .int, .fieldLink RX1 9 "FontRuns$Preference" "row" "[I"] ++ wsX10)
def wsX1_begin : List Cond := .code yX1_begin cX1_begin 3 none :: ([.methodLink RX1 15 Lib.Math.min.name, .static Lib.Math.min.name, .initialized "java/lang/Math", .code Lib.Math.min.name Lib.Math.min.code 2 (some .int), .fieldLink RX1 21 "FontRuns$Preference" "count" "I", .fieldLink RX1 9 "FontRuns$Preference" "row" "[I"] ++ wsX10)
def wsX1_placeOf : List Cond := .code yX1_placeOf cX1_placeOf 3 (some .int) :: ([.fieldLink RX1 21 "FontRuns$Preference" "count" "I", .fieldLink RX1 9 "FontRuns$Preference" "row" "[I"] ++ wsX10)
def wsX1_lead : List Cond := .code yX1_lead cX1_lead 4 (some .boolean) :: ([.fieldLink RX1 9 "FontRuns$Preference" "row" "[I", .methodLink RX1 25 yX1_placeOf, .instanceMethod yX1_placeOf, .selects RX1 yX1_placeOf yX1_placeOf, .initialized RX1, .code yX1_placeOf cX1_placeOf 3 (some .int), .fieldLink RX1 21 "FontRuns$Preference" "count" "I"] ++ wsX10)
def wsX1_takeFrom : List Cond := .code yX1_takeFrom cX1_takeFrom 3 none :: ([.fieldLink RX1 21 "FontRuns$Preference" "count" "I", .fieldLink RX1 9 "FontRuns$Preference" "row" "[I"] ++ wsX10)
def wsX2_init : List Cond := .code yX2_init cX2_init 1 none :: ([.methodLink RX2 3 objectInit, .instanceMethod objectInit, .code objectInit ⟨#[0xb1]⟩ 1 none, .arrayClass .int, .fieldLink RX2 9 "FontRuns$Readings" "value" "[I", .classLink RX2 15 "[[I", .fieldLink RX2 17 "FontRuns$Readings" "clusters" "[[I"] ++ wsX20)
def wsX4_clustersIn : List Cond := .code yX4_clustersIn cX4_clustersIn 4 (some .int) :: ([.fieldLink RX4 51 "FontRuns$Setting" "count" "I", .fieldLink RX4 21 "FontRuns$Setting" "chosen" "[I"] ++ wsX40)
def wsX2_add : List Cond := .code yX2_add cX2_add 4 (some .boolean) :: ([.fieldLink RX2 20 "FontRuns$Readings" "count" "I", .fieldLink RX2 9 "FontRuns$Readings" "value" "[I", .fieldLink RX2 17 "FontRuns$Readings" "clusters" "[[I", .static yX8_isWithin, .initialized RX8, .code yX8_isWithin cX8_isWithin 3 (some .boolean), .methodLink RX2 28 yX4_clustersIn, .instanceMethod yX4_clustersIn, .selects RX4 yX4_clustersIn yX4_clustersIn, .initialized RX4, .code yX4_clustersIn cX4_clustersIn 4 (some .int), .fieldLink RX4 51 "FontRuns$Setting" "count" "I", .fieldLink RX4 21 "FontRuns$Setting" "chosen" "[I"] ++ wsX20 ++ wsX40)
def wsX2_areSo : List Cond := .code yX2_areSo cX2_areSo 7 (some .boolean) :: ([.fieldLink RX2 20 "FontRuns$Readings" "count" "I", .fieldLink RX2 34 "FontRuns$FontRow" "count" "I", .fieldLink RX2 17 "FontRuns$Readings" "clusters" "[[I", .fieldLink RX2 9 "FontRuns$Readings" "value" "[I", .methodLink RX2 37 yX0_step, .instanceMethod yX0_step, .selects RX0 yX0_step yX0_step, .initialized RX0, .code yX0_step cX0_step 2 (some .int), .fieldLink RX0 9 "FontRuns$FontRow" "kind" "[I", .fieldLink RX0 15 "FontRuns$FontRow" "breadth" "[I", .methodLink RX0 29 yX0_isFont, .instanceMethod yX0_isFont, .selects RX0 yX0_isFont yX0_isFont, .code yX0_isFont cX0_isFont 2 (some .boolean), .fieldLink RX0 21 "FontRuns$FontRow" "count" "I", .static yX8_isWithin, .initialized RX8, .code yX8_isWithin cX8_isWithin 3 (some .boolean), .static yX8_stepOf, .code yX8_stepOf cX8_stepOf 2 (some .int)] ++ wsX20 ++ wsX00)
def wsX3_init : List Cond := .code yX3_init cX3_init 1 none :: ([.methodLink RX3 3 objectInit, .instanceMethod objectInit, .code objectInit ⟨#[0xb1]⟩ 1 none, .arrayClass .int, .fieldLink RX3 9 "FontRuns$Recent" "row" "[I"] ++ wsX30)
def wsX3_keep : List Cond := .code yX3_keep cX3_keep 3 none :: ([.fieldLink RX3 9 "FontRuns$Recent" "row" "[I", .fieldLink RX3 15 "FontRuns$Recent" "count" "I", .methodLink RX3 19 Lib.Math.min.name, .static Lib.Math.min.name, .initialized "java/lang/Math", .code Lib.Math.min.name Lib.Math.min.code 2 (some .int)] ++ wsX30)
def wsX4_init : List Cond := .code yX4_init cX4_init 1 none :: ([.methodLink RX4 3 objectInit, .instanceMethod objectInit, .code objectInit ⟨#[0xb1]⟩ 1 none, .arrayClass .int, .fieldLink RX4 9 "FontRuns$Setting" "first" "[I", .fieldLink RX4 15 "FontRuns$Setting" "length" "[I", .fieldLink RX4 18 "FontRuns$Setting" "fitting" "[I", .fieldLink RX4 21 "FontRuns$Setting" "chosen" "[I", .fieldLink RX4 24 "FontRuns$Setting" "runOf" "[I", .fieldLink RX4 27 "FontRuns$Setting" "letters" "[I", .classLink RX4 30 "[[I", .fieldLink RX4 32 "FontRuns$Setting" "behind" "[[I"] ++ wsX40)
def wsX4_cut : List Cond := .code yX4_cut cX4_cut 4 none :: ([.fieldLink RX4 51 "FontRuns$Setting" "count" "I", .fieldLink RX4 74 "FontRuns$Writing" "count" "I", .fieldLink RX4 77 "FontRuns$Writing" "row" "[I", .fieldLink RX4 9 "FontRuns$Setting" "first" "[I", .fieldLink RX4 15 "FontRuns$Setting" "length" "[I", .fieldLink RX4 27 "FontRuns$Setting" "letters" "[I"] ++ wsX40 ++ wsX70)
def wsX4_findFitting : List Cond := .code yX4_findFitting cX4_findFitting 4 none :: ([.fieldLink RX4 80 "FontRuns$Setting" "boxes" "I", .fieldLink RX4 51 "FontRuns$Setting" "count" "I", .fieldLink RX4 18 "FontRuns$Setting" "fitting" "[I", .fieldLink RX4 27 "FontRuns$Setting" "letters" "[I", .methodLink RX4 83 yX0_fitting, .instanceMethod yX0_fitting, .selects RX0 yX0_fitting yX0_fitting, .initialized RX0, .code yX0_fitting cX0_fitting 4 (some .int), .fieldLink RX0 21 "FontRuns$FontRow" "count" "I", .fieldLink RX0 18 "FontRuns$FontRow" "has" "[I"] ++ wsX40 ++ wsX00)
def wsX4_findBehind : List Cond := .code yX4_findBehind cX4_findBehind 8 none :: ([.fieldLink RX4 51 "FontRuns$Setting" "count" "I", .fieldLink RX4 18 "FontRuns$Setting" "fitting" "[I", .fieldLink RX4 32 "FontRuns$Setting" "behind" "[[I", .methodLink RX4 85 Lib.Math.min.name, .static Lib.Math.min.name, .initialized "java/lang/Math", .code Lib.Math.min.name Lib.Math.min.code 2 (some .int)] ++ wsX40)
def wsX4_firstOfBest : List Cond := .code yX4_firstOfBest cX4_firstOfBest 9 (some .int) :: ([.fieldLink RX4 92 "FontRuns$Preference" "count" "I", .fieldLink RX4 95 "FontRuns$Preference" "row" "[I", .fieldLink RX4 32 "FontRuns$Setting" "behind" "[[I"] ++ wsX10 ++ wsX40)
def wsX4_choose : List Cond := .code yX4_choose cX4_choose 4 none :: ([.fieldLink RX4 59 "FontRuns$Setting" "runs" "I", .fieldLink RX4 51 "FontRuns$Setting" "count" "I", .fieldLink RX4 21 "FontRuns$Setting" "chosen" "[I", .fieldLink RX4 24 "FontRuns$Setting" "runOf" "[I", .methodLink RX4 88 yX4_firstOfBest, .instanceMethod yX4_firstOfBest, .selects RX4 yX4_firstOfBest yX4_firstOfBest, .initialized RX4, .code yX4_firstOfBest cX4_firstOfBest 9 (some .int), .fieldLink RX4 92 "FontRuns$Preference" "count" "I", .fieldLink RX4 95 "FontRuns$Preference" "row" "[I", .fieldLink RX4 32 "FontRuns$Setting" "behind" "[[I"] ++ wsX40 ++ wsX10)
def wsX4_make_r1 : List Cond := [Cond.methodLink RX4 35 yX4_cut, Cond.instanceMethod yX4_cut, Cond.selects RX4 yX4_cut yX4_cut, Cond.initialized RX4, Cond.code yX4_cut cX4_cut 4 none, Cond.fieldLink RX4 51 "FontRuns$Setting" "count" "I", Cond.fieldLink RX4 74 "FontRuns$Writing" "count" "I", Cond.fieldLink RX4 77 "FontRuns$Writing" "row" "[I", Cond.fieldLink RX4 9 "FontRuns$Setting" "first" "[I", Cond.fieldLink RX4 15 "FontRuns$Setting" "length" "[I", Cond.fieldLink RX4 27 "FontRuns$Setting" "letters" "[I", Cond.methodLink RX4 39 yX4_findFitting, Cond.instanceMethod yX4_findFitting, Cond.selects RX4 yX4_findFitting yX4_findFitting, Cond.code yX4_findFitting cX4_findFitting 4 none, Cond.fieldLink RX4 80 "FontRuns$Setting" "boxes" "I", Cond.fieldLink RX4 18 "FontRuns$Setting" "fitting" "[I", Cond.methodLink RX4 83 yX0_fitting, Cond.instanceMethod yX0_fitting, Cond.selects RX0 yX0_fitting yX0_fitting, Cond.initialized RX0, Cond.code yX0_fitting cX0_fitting 4 (some .int), Cond.fieldLink RX0 21 "FontRuns$FontRow" "count" "I", Cond.fieldLink RX0 18 "FontRuns$FontRow" "has" "[I"]
def wsX4_make_r2 : List Cond := [Cond.methodLink RX4 43 yX4_findBehind, Cond.instanceMethod yX4_findBehind, Cond.selects RX4 yX4_findBehind yX4_findBehind, Cond.code yX4_findBehind cX4_findBehind 8 none, Cond.fieldLink RX4 32 "FontRuns$Setting" "behind" "[[I", Cond.methodLink RX4 85 Lib.Math.min.name, Cond.static Lib.Math.min.name, Cond.initialized "java/lang/Math", Cond.code Lib.Math.min.name Lib.Math.min.code 2 (some .int), Cond.methodLink RX4 47 yX4_choose, Cond.instanceMethod yX4_choose, Cond.selects RX4 yX4_choose yX4_choose, Cond.code yX4_choose cX4_choose 4 none, Cond.fieldLink RX4 59 "FontRuns$Setting" "runs" "I", Cond.fieldLink RX4 21 "FontRuns$Setting" "chosen" "[I", Cond.fieldLink RX4 24 "FontRuns$Setting" "runOf" "[I", Cond.methodLink RX4 88 yX4_firstOfBest, Cond.instanceMethod yX4_firstOfBest, Cond.selects RX4 yX4_firstOfBest yX4_firstOfBest, Cond.code yX4_firstOfBest cX4_firstOfBest 9 (some .int), Cond.fieldLink RX4 92 "FontRuns$Preference" "count" "I", Cond.fieldLink RX4 95 "FontRuns$Preference" "row" "[I"]
def wsX4_make : List Cond := .code yX4_make cX4_make 5 none :: ((wsX4_make_r1 ++ wsX4_make_r2) ++ wsX40 ++ wsX70 ++ wsX00 ++ wsX10)
def wsX4_isCluster : List Cond := .code yX4_isCluster cX4_isCluster 2 (some .boolean) :: ([.fieldLink RX4 51 "FontRuns$Setting" "count" "I", .static yX8_isWithin, .initialized RX8, .code yX8_isWithin cX8_isWithin 3 (some .boolean)] ++ wsX40)
def wsX4_changes : List Cond := .code yX4_changes cX4_changes 1 (some .int) :: ([.fieldLink RX4 59 "FontRuns$Setting" "runs" "I", .methodLink RX4 62 Lib.Math.max.name, .static Lib.Math.max.name, .initialized "java/lang/Math", .code Lib.Math.max.name Lib.Math.max.code 2 (some .int)] ++ wsX40)
def wsX4_advance : List Cond := .code yX4_advance cX4_advance 4 (some .int) :: ([.fieldLink RX4 51 "FontRuns$Setting" "count" "I", .fieldLink RX4 21 "FontRuns$Setting" "chosen" "[I", .methodLink RX4 68 yX0_step, .instanceMethod yX0_step, .selects RX0 yX0_step yX0_step, .initialized RX0, .code yX0_step cX0_step 2 (some .int), .fieldLink RX0 9 "FontRuns$FontRow" "kind" "[I", .fieldLink RX0 15 "FontRuns$FontRow" "breadth" "[I", .methodLink RX0 29 yX0_isFont, .instanceMethod yX0_isFont, .selects RX0 yX0_isFont yX0_isFont, .code yX0_isFont cX0_isFont 2 (some .boolean), .fieldLink RX0 21 "FontRuns$FontRow" "count" "I", .static yX8_isWithin, .initialized RX8, .code yX8_isWithin cX8_isWithin 3 (some .boolean), .static yX8_stepOf, .code yX8_stepOf cX8_stepOf 2 (some .int)] ++ wsX40 ++ wsX00)
def wsX4_firstOfRun : List Cond := .code yX4_firstOfRun cX4_firstOfRun 3 (some .int) :: ([.fieldLink RX4 51 "FontRuns$Setting" "count" "I", .fieldLink RX4 24 "FontRuns$Setting" "runOf" "[I"] ++ wsX40)
def wsX4_clustersOfRun : List Cond := .code yX4_clustersOfRun cX4_clustersOfRun 4 (some .int) :: ([.fieldLink RX4 51 "FontRuns$Setting" "count" "I", .fieldLink RX4 24 "FontRuns$Setting" "runOf" "[I"] ++ wsX40)
def wsX4_isServedBy : List Cond := .code yX4_isServedBy cX4_isServedBy 3 (some .boolean) :: ([.fieldLink RX4 51 "FontRuns$Setting" "count" "I", .fieldLink RX4 18 "FontRuns$Setting" "fitting" "[I"] ++ wsX40)
def wsX5_init : List Cond := .code yX5_init cX5_init 1 none :: ([.methodLink RX5 3 objectInit, .instanceMethod objectInit, .code objectInit ⟨#[0xb1]⟩ 1 none, .arrayClass .int, .fieldLink RX5 9 "FontRuns$Sheet" "cells" "[I"] ++ wsX50)
def wsX5_begin : List Cond := .code yX5_begin cX5_begin 4 none :: ([.fieldLink RX5 9 "FontRuns$Sheet" "cells" "[I", .fieldLink RX5 15 "FontRuns$Sheet" "isThere" "Z", .fieldLink RX5 19 "FontRuns$Sheet" "lane" "I", .fieldLink RX5 23 "FontRuns$Sheet" "size" "I"] ++ wsX50)
def wsX5_hasCell : List Cond := .code yX5_hasCell cX5_hasCell 2 (some .boolean) :: ([.fieldLink RX5 15 "FontRuns$Sheet" "isThere" "Z", .fieldLink RX5 23 "FontRuns$Sheet" "size" "I", .static yX8_isWithin, .initialized RX8, .code yX8_isWithin cX8_isWithin 3 (some .boolean)] ++ wsX50)
def wsX5_hasCells : List Cond := .code yX5_hasCells cX5_hasCells 3 (some .boolean) :: ([.fieldLink RX5 15 "FontRuns$Sheet" "isThere" "Z", .fieldLink RX5 23 "FontRuns$Sheet" "size" "I", .static yX8_isWithin, .initialized RX8, .code yX8_isWithin cX8_isWithin 3 (some .boolean)] ++ wsX50)
def wsX5_at : List Cond := .code yX5_at cX5_at 2 (some .int) :: ([.fieldLink RX5 9 "FontRuns$Sheet" "cells" "[I", .methodLink RX5 30 yX5_hasCell, .instanceMethod yX5_hasCell, .selects RX5 yX5_hasCell yX5_hasCell, .initialized RX5, .code yX5_hasCell cX5_hasCell 2 (some .boolean), .fieldLink RX5 15 "FontRuns$Sheet" "isThere" "Z", .fieldLink RX5 23 "FontRuns$Sheet" "size" "I", .static yX8_isWithin, .initialized RX8, .code yX8_isWithin cX8_isWithin 3 (some .boolean)] ++ wsX50)
def wsX5_cut : List Cond := .code yX5_cut cX5_cut 2 (some .int) :: ([.fieldLink RX5 19 "FontRuns$Sheet" "lane" "I"] ++ wsX50)
def wsX6_init : List Cond := .code yX6_init cX6_init 1 none :: ([.methodLink RX6 3 objectInit, .instanceMethod objectInit, .code objectInit ⟨#[0xb1]⟩ 1 none, .classLink RX6 9 RX0, .instantiable RX0 4, .initialized RX0, .fieldLink RX6 12 "FontRuns$TextReader" "told" "LFontRuns$FontRow;", .instanceMethod yX0_init, .code yX0_init cX0_init 1 none, .methodLink RX0 3 objectInit, .arrayClass .int, .fieldLink RX0 9 "FontRuns$FontRow" "kind" "[I", .fieldLink RX0 15 "FontRuns$FontRow" "breadth" "[I", .fieldLink RX0 18 "FontRuns$FontRow" "has" "[I"] ++ wsX00 ++ wsX60)
def wsX6_takesHead : List Cond := .code yX6_takesHead cX6_takesHead 2 (some .boolean) :: ([.fieldLink RX6 22 "FontRuns$TextReader" "due" "I"] ++ wsX60)
def wsX6_takesSign : List Cond := .code yX6_takesSign cX6_takesSign 2 (some .boolean) :: ([.fieldLink RX6 12 "FontRuns$TextReader" "told" "LFontRuns$FontRow;", .fieldLink RX6 18 "FontRuns$FontRow" "count" "I", .fieldLink RX6 51 "FontRuns$FontRow" "has" "[I", .fieldLink RX6 22 "FontRuns$TextReader" "due" "I"] ++ wsX60 ++ wsX00)
def wsX6_takesKind : List Cond := .code yX6_takesKind cX6_takesKind 3 (some .boolean) :: ([.fieldLink RX6 12 "FontRuns$TextReader" "told" "LFontRuns$FontRow;", .fieldLink RX6 62 "FontRuns$FontRow" "kind" "[I", .fieldLink RX6 22 "FontRuns$TextReader" "due" "I", .methodLink RX6 55 yX0_isFont, .instanceMethod yX0_isFont, .selects RX0 yX0_isFont yX0_isFont, .initialized RX0, .code yX0_isFont cX0_isFont 2 (some .boolean), .fieldLink RX0 21 "FontRuns$FontRow" "count" "I", .static yX8_isWithin, .initialized RX8, .code yX8_isWithin cX8_isWithin 3 (some .boolean)] ++ wsX60 ++ wsX00)
def wsX6_takesBreadth : List Cond := .code yX6_takesBreadth cX6_takesBreadth 3 (some .boolean) :: ([.fieldLink RX6 12 "FontRuns$TextReader" "told" "LFontRuns$FontRow;", .fieldLink RX6 65 "FontRuns$FontRow" "breadth" "[I", .fieldLink RX6 22 "FontRuns$TextReader" "due" "I", .methodLink RX6 55 yX0_isFont, .instanceMethod yX0_isFont, .selects RX0 yX0_isFont yX0_isFont, .initialized RX0, .code yX0_isFont cX0_isFont 2 (some .boolean), .fieldLink RX0 21 "FontRuns$FontRow" "count" "I", .static yX8_isWithin, .initialized RX8, .code yX8_isWithin cX8_isWithin 3 (some .boolean)] ++ wsX60 ++ wsX00)
def wsJ6_bitCount_0f7a4 : List Cond := .code yJ6_bitCount_0f7a4 cJ6_bitCount_0f7a4 1 (some .int) :: ([.constant RJ6 265 (1431655765), .constant RJ6 266 (858993459), .constant RJ6 267 (252645135)])
def wsX6_takesLetter : List Cond := .code yX6_takesLetter cX6_takesLetter 4 (some .boolean) :: ([.fieldLink RX6 12 "FontRuns$TextReader" "told" "LFontRuns$FontRow;", .fieldLink RX6 51 "FontRuns$FontRow" "has" "[I", .fieldLink RX6 22 "FontRuns$TextReader" "due" "I", .methodLink RX6 55 yX0_isFont, .instanceMethod yX0_isFont, .selects RX0 yX0_isFont yX0_isFont, .initialized RX0, .code yX0_isFont cX0_isFont 2 (some .boolean), .fieldLink RX0 21 "FontRuns$FontRow" "count" "I", .static yX8_isWithin, .initialized RX8, .code yX8_isWithin cX8_isWithin 3 (some .boolean), .methodLink RX6 68 yJ6_bitCount_0f7a4, .static yJ6_bitCount_0f7a4, .initialized RJ6, .code yJ6_bitCount_0f7a4 cJ6_bitCount_0f7a4 1 (some .int), .constant RJ6 265 (1431655765), .constant RJ6 266 (858993459), .constant RJ6 267 (252645135)] ++ wsX60 ++ wsX00)
def wsX6_goesOnWith_r1 : List Cond := [Cond.fieldLink RX6 22 "FontRuns$TextReader" "due" "I", Cond.fieldLink RX6 12 "FontRuns$TextReader" "told" "LFontRuns$FontRow;", Cond.fieldLink RX6 18 "FontRuns$FontRow" "count" "I", Cond.methodLink RX6 35 yX6_takesHead, Cond.instanceMethod yX6_takesHead, Cond.selects RX6 yX6_takesHead yX6_takesHead, Cond.initialized RX6, Cond.code yX6_takesHead cX6_takesHead 2 (some .boolean), Cond.methodLink RX6 38 yX6_takesSign, Cond.instanceMethod yX6_takesSign, Cond.selects RX6 yX6_takesSign yX6_takesSign, Cond.code yX6_takesSign cX6_takesSign 2 (some .boolean), Cond.fieldLink RX6 51 "FontRuns$FontRow" "has" "[I", Cond.methodLink RX6 41 yX6_takesKind, Cond.instanceMethod yX6_takesKind, Cond.selects RX6 yX6_takesKind yX6_takesKind, Cond.code yX6_takesKind cX6_takesKind 3 (some .boolean), Cond.fieldLink RX6 62 "FontRuns$FontRow" "kind" "[I", Cond.methodLink RX6 55 yX0_isFont, Cond.instanceMethod yX0_isFont, Cond.selects RX0 yX0_isFont yX0_isFont, Cond.initialized RX0, Cond.code yX0_isFont cX0_isFont 2 (some .boolean), Cond.fieldLink RX0 21 "FontRuns$FontRow" "count" "I"]
def wsX6_goesOnWith_r2 : List Cond := [Cond.static yX8_isWithin, Cond.initialized RX8, Cond.code yX8_isWithin cX8_isWithin 3 (some .boolean), Cond.methodLink RX6 45 yX6_takesBreadth, Cond.instanceMethod yX6_takesBreadth, Cond.selects RX6 yX6_takesBreadth yX6_takesBreadth, Cond.code yX6_takesBreadth cX6_takesBreadth 3 (some .boolean), Cond.fieldLink RX6 65 "FontRuns$FontRow" "breadth" "[I", Cond.methodLink RX6 48 yX6_takesLetter, Cond.instanceMethod yX6_takesLetter, Cond.selects RX6 yX6_takesLetter yX6_takesLetter, Cond.code yX6_takesLetter cX6_takesLetter 4 (some .boolean), Cond.methodLink RX6 68 yJ6_bitCount_0f7a4, Cond.static yJ6_bitCount_0f7a4, Cond.initialized RJ6, Cond.code yJ6_bitCount_0f7a4 cJ6_bitCount_0f7a4 1 (some .int), Cond.constant RJ6 265 (1431655765), Cond.constant RJ6 266 (858993459), Cond.constant RJ6 267 (252645135)]
def wsX6_goesOnWith : List Cond := .code yX6_goesOnWith cX6_goesOnWith 2 (some .boolean) :: ((wsX6_goesOnWith_r1 ++ wsX6_goesOnWith_r2) ++ wsX60 ++ wsX00)
def wsX6_firstFault_r1 : List Cond := [Cond.fieldLink RX6 12 "FontRuns$TextReader" "told" "LFontRuns$FontRow;", Cond.fieldLink RX6 18 "FontRuns$FontRow" "count" "I", Cond.fieldLink RX6 22 "FontRuns$TextReader" "due" "I", Cond.methodLink RX6 25 yX5_at, Cond.instanceMethod yX5_at, Cond.selects RX5 yX5_at yX5_at, Cond.initialized RX5, Cond.code yX5_at cX5_at 2 (some .int), Cond.fieldLink RX5 9 "FontRuns$Sheet" "cells" "[I", Cond.methodLink RX5 30 yX5_hasCell, Cond.instanceMethod yX5_hasCell, Cond.selects RX5 yX5_hasCell yX5_hasCell, Cond.code yX5_hasCell cX5_hasCell 2 (some .boolean), Cond.fieldLink RX5 15 "FontRuns$Sheet" "isThere" "Z", Cond.fieldLink RX5 23 "FontRuns$Sheet" "size" "I", Cond.static yX8_isWithin, Cond.initialized RX8, Cond.code yX8_isWithin cX8_isWithin 3 (some .boolean), Cond.methodLink RX6 31 yX6_goesOnWith, Cond.instanceMethod yX6_goesOnWith, Cond.selects RX6 yX6_goesOnWith yX6_goesOnWith, Cond.initialized RX6, Cond.code yX6_goesOnWith cX6_goesOnWith 2 (some .boolean), Cond.methodLink RX6 35 yX6_takesHead]
def wsX6_firstFault_r2 : List Cond := [Cond.instanceMethod yX6_takesHead, Cond.selects RX6 yX6_takesHead yX6_takesHead, Cond.code yX6_takesHead cX6_takesHead 2 (some .boolean), Cond.methodLink RX6 38 yX6_takesSign, Cond.instanceMethod yX6_takesSign, Cond.selects RX6 yX6_takesSign yX6_takesSign, Cond.code yX6_takesSign cX6_takesSign 2 (some .boolean), Cond.fieldLink RX6 51 "FontRuns$FontRow" "has" "[I", Cond.methodLink RX6 41 yX6_takesKind, Cond.instanceMethod yX6_takesKind, Cond.selects RX6 yX6_takesKind yX6_takesKind, Cond.code yX6_takesKind cX6_takesKind 3 (some .boolean), Cond.fieldLink RX6 62 "FontRuns$FontRow" "kind" "[I", Cond.methodLink RX6 55 yX0_isFont, Cond.instanceMethod yX0_isFont, Cond.selects RX0 yX0_isFont yX0_isFont, Cond.initialized RX0, Cond.code yX0_isFont cX0_isFont 2 (some .boolean), Cond.fieldLink RX0 21 "FontRuns$FontRow" "count" "I", Cond.methodLink RX6 45 yX6_takesBreadth, Cond.instanceMethod yX6_takesBreadth, Cond.selects RX6 yX6_takesBreadth yX6_takesBreadth, Cond.code yX6_takesBreadth cX6_takesBreadth 3 (some .boolean), Cond.fieldLink RX6 65 "FontRuns$FontRow" "breadth" "[I"]
def wsX6_firstFault_r3 : List Cond := [Cond.methodLink RX6 48 yX6_takesLetter, Cond.instanceMethod yX6_takesLetter, Cond.selects RX6 yX6_takesLetter yX6_takesLetter, Cond.code yX6_takesLetter cX6_takesLetter 4 (some .boolean), Cond.methodLink RX6 68 yJ6_bitCount_0f7a4, Cond.static yJ6_bitCount_0f7a4, Cond.initialized RJ6, Cond.code yJ6_bitCount_0f7a4 cJ6_bitCount_0f7a4 1 (some .int), Cond.constant RJ6 265 (1431655765), Cond.constant RJ6 266 (858993459), Cond.constant RJ6 267 (252645135)]
def wsX6_firstFault : List Cond := .code yX6_firstFault cX6_firstFault 5 (some .int) :: ((wsX6_firstFault_r1 ++ (wsX6_firstFault_r2 ++ wsX6_firstFault_r3)) ++ wsX60 ++ wsX00 ++ wsX50)
def wsX7_init : List Cond := .code yX7_init cX7_init 1 none :: ([.methodLink RX7 3 objectInit, .instanceMethod objectInit, .code objectInit ⟨#[0xb1]⟩ 1 none, .arrayClass .int, .fieldLink RX7 9 "FontRuns$Writing" "row" "[I"] ++ wsX70)
def wsX7_add : List Cond := .code yX7_add cX7_add 2 (some .boolean) :: ([.fieldLink RX7 15 "FontRuns$Writing" "count" "I", .fieldLink RX7 9 "FontRuns$Writing" "row" "[I", .static yX8_isWithin, .initialized RX8, .code yX8_isWithin cX8_isWithin 3 (some .boolean)] ++ wsX70)
def wsX7_drop : List Cond := .code yX7_drop cX7_drop 2 (some .boolean) :: ([.fieldLink RX7 15 "FontRuns$Writing" "count" "I", .static yX8_isWithin, .initialized RX8, .code yX8_isWithin cX8_isWithin 3 (some .boolean)] ++ wsX70)
def wsX7_takeFrom : List Cond := .code yX7_takeFrom cX7_takeFrom 3 none :: ([.fieldLink RX7 15 "FontRuns$Writing" "count" "I", .fieldLink RX7 9 "FontRuns$Writing" "row" "[I"] ++ wsX70)
def wsX8_init_r1 : List Cond := [Cond.methodLink RX8 3 objectInit, Cond.instanceMethod objectInit, Cond.code objectInit ⟨#[0xb1]⟩ 1 none, Cond.classLink RX8 11 RX5, Cond.fieldLink RX8 13 "FontRuns" "sheets" "[LFontRuns$Sheet;", Cond.instantiable RX5 4, Cond.initialized RX5, Cond.classLink RX8 18 RX6, Cond.instantiable RX6 2, Cond.initialized RX6, Cond.fieldLink RX8 21 "FontRuns" "reader" "LFontRuns$TextReader;", Cond.classLink RX8 25 RX0, Cond.instantiable RX0 4, Cond.initialized RX0, Cond.fieldLink RX8 28 "FontRuns" "fontRow" "LFontRuns$FontRow;", Cond.classLink RX8 32 RX7, Cond.instantiable RX7 2, Cond.initialized RX7, Cond.fieldLink RX8 35 "FontRuns" "writing" "LFontRuns$Writing;", Cond.classLink RX8 39 RX1, Cond.instantiable RX1 2, Cond.initialized RX1, Cond.fieldLink RX8 42 "FontRuns" "preference" "LFontRuns$Preference;", Cond.classLink RX8 46 RX3]
def wsX8_init_r2 : List Cond := [Cond.instantiable RX3 2, Cond.initialized RX3, Cond.fieldLink RX8 49 "FontRuns" "recent" "LFontRuns$Recent;", Cond.classLink RX8 53 RX4, Cond.instantiable RX4 10, Cond.initialized RX4, Cond.fieldLink RX8 56 "FontRuns" "setting" "LFontRuns$Setting;", Cond.classLink RX8 60 RX2, Cond.instantiable RX2 3, Cond.initialized RX2, Cond.fieldLink RX8 63 "FontRuns" "readings" "LFontRuns$Readings;", Cond.fieldLink RX8 67 "FontRuns" "supposedWriting" "LFontRuns$Writing;", Cond.fieldLink RX8 70 "FontRuns" "supposedPreference" "LFontRuns$Preference;", Cond.fieldLink RX8 73 "FontRuns" "supposedSetting" "LFontRuns$Setting;", Cond.instanceMethod yX5_init, Cond.code yX5_init cX5_init 1 none, Cond.methodLink RX5 3 objectInit, Cond.arrayClass .int, Cond.fieldLink RX5 9 "FontRuns$Sheet" "cells" "[I", Cond.instanceMethod yX6_init, Cond.code yX6_init cX6_init 1 none, Cond.methodLink RX6 3 objectInit, Cond.classLink RX6 9 RX0, Cond.fieldLink RX6 12 "FontRuns$TextReader" "told" "LFontRuns$FontRow;"]
def wsX8_init_r3 : List Cond := [Cond.instanceMethod yX0_init, Cond.code yX0_init cX0_init 1 none, Cond.methodLink RX0 3 objectInit, Cond.fieldLink RX0 9 "FontRuns$FontRow" "kind" "[I", Cond.fieldLink RX0 15 "FontRuns$FontRow" "breadth" "[I", Cond.fieldLink RX0 18 "FontRuns$FontRow" "has" "[I", Cond.instanceMethod yX7_init, Cond.code yX7_init cX7_init 1 none, Cond.methodLink RX7 3 objectInit, Cond.fieldLink RX7 9 "FontRuns$Writing" "row" "[I", Cond.instanceMethod yX1_init, Cond.code yX1_init cX1_init 1 none, Cond.methodLink RX1 3 objectInit, Cond.fieldLink RX1 9 "FontRuns$Preference" "row" "[I", Cond.instanceMethod yX3_init, Cond.code yX3_init cX3_init 1 none, Cond.methodLink RX3 3 objectInit, Cond.fieldLink RX3 9 "FontRuns$Recent" "row" "[I", Cond.instanceMethod yX4_init, Cond.code yX4_init cX4_init 1 none, Cond.methodLink RX4 3 objectInit, Cond.fieldLink RX4 9 "FontRuns$Setting" "first" "[I", Cond.fieldLink RX4 15 "FontRuns$Setting" "length" "[I", Cond.fieldLink RX4 18 "FontRuns$Setting" "fitting" "[I"]
def wsX8_init_r4 : List Cond := [Cond.fieldLink RX4 21 "FontRuns$Setting" "chosen" "[I", Cond.fieldLink RX4 24 "FontRuns$Setting" "runOf" "[I", Cond.fieldLink RX4 27 "FontRuns$Setting" "letters" "[I", Cond.classLink RX4 30 "[[I", Cond.fieldLink RX4 32 "FontRuns$Setting" "behind" "[[I", Cond.instanceMethod yX2_init, Cond.code yX2_init cX2_init 1 none, Cond.methodLink RX2 3 objectInit, Cond.fieldLink RX2 9 "FontRuns$Readings" "value" "[I", Cond.classLink RX2 15 "[[I", Cond.fieldLink RX2 17 "FontRuns$Readings" "clusters" "[[I"]
def wsX8_init : List Cond := .code yX8_init cX8_init 2 none :: ((wsX8_init_r1 ++ (wsX8_init_r2 ++ (wsX8_init_r3 ++ wsX8_init_r4))) ++ wsX80 ++ wsX50 ++ wsX60 ++ wsX00 ++ wsX70 ++ wsX10 ++ wsX30 ++ wsX40 ++ wsX20)
def wsX8_isSheet : List Cond := .code yX8_isSheet cX8_isSheet 1 (some .boolean) :: ([.methodLink RX8 128 yX8_isWithin, .static yX8_isWithin, .initialized RX8, .code yX8_isWithin cX8_isWithin 3 (some .boolean)])
def wsX8_isLane : List Cond := .code yX8_isLane cX8_isLane 1 (some .boolean) :: ([.methodLink RX8 128 yX8_isWithin, .static yX8_isWithin, .initialized RX8, .code yX8_isWithin cX8_isWithin 3 (some .boolean)])
def wsX8_faultOfLane : List Cond := .code yX8_faultOfLane cX8_faultOfLane 2 (some .int) :: ([.fieldLink RX8 288 "FontRuns$Sheet" "isThere" "Z", .fieldLink RX8 301 "FontRuns$Sheet" "lane" "I"] ++ wsX50)
def wsX8_failWith : List Cond := .code yX8_failWith cX8_failWith 2 (some .int) :: ([.fieldLink RX8 76 "FontRuns" "latestFault" "I"] ++ wsX80)
def wsX8_settle_r1 : List Cond := [Cond.fieldLink RX8 56 "FontRuns" "setting" "LFontRuns$Setting;", Cond.fieldLink RX8 35 "FontRuns" "writing" "LFontRuns$Writing;", Cond.fieldLink RX8 28 "FontRuns" "fontRow" "LFontRuns$FontRow;", Cond.fieldLink RX8 42 "FontRuns" "preference" "LFontRuns$Preference;", Cond.methodLink RX8 227 yX0_all, Cond.instanceMethod yX0_all, Cond.selects RX0 yX0_all yX0_all, Cond.initialized RX0, Cond.code yX0_all cX0_all 1 (some .int), Cond.fieldLink RX0 21 "FontRuns$FontRow" "count" "I", Cond.methodLink RX8 231 yX4_make, Cond.instanceMethod yX4_make, Cond.selects RX4 yX4_make yX4_make, Cond.initialized RX4, Cond.code yX4_make cX4_make 5 none, Cond.methodLink RX4 35 yX4_cut, Cond.instanceMethod yX4_cut, Cond.selects RX4 yX4_cut yX4_cut, Cond.code yX4_cut cX4_cut 4 none, Cond.fieldLink RX4 51 "FontRuns$Setting" "count" "I", Cond.fieldLink RX4 74 "FontRuns$Writing" "count" "I", Cond.fieldLink RX4 77 "FontRuns$Writing" "row" "[I", Cond.fieldLink RX4 9 "FontRuns$Setting" "first" "[I", Cond.fieldLink RX4 15 "FontRuns$Setting" "length" "[I"]
def wsX8_settle_r2 : List Cond := [Cond.fieldLink RX4 27 "FontRuns$Setting" "letters" "[I", Cond.methodLink RX4 39 yX4_findFitting, Cond.instanceMethod yX4_findFitting, Cond.selects RX4 yX4_findFitting yX4_findFitting, Cond.code yX4_findFitting cX4_findFitting 4 none, Cond.fieldLink RX4 80 "FontRuns$Setting" "boxes" "I", Cond.fieldLink RX4 18 "FontRuns$Setting" "fitting" "[I", Cond.methodLink RX4 83 yX0_fitting, Cond.instanceMethod yX0_fitting, Cond.selects RX0 yX0_fitting yX0_fitting, Cond.code yX0_fitting cX0_fitting 4 (some .int), Cond.fieldLink RX0 18 "FontRuns$FontRow" "has" "[I", Cond.methodLink RX4 43 yX4_findBehind, Cond.instanceMethod yX4_findBehind, Cond.selects RX4 yX4_findBehind yX4_findBehind, Cond.code yX4_findBehind cX4_findBehind 8 none, Cond.fieldLink RX4 32 "FontRuns$Setting" "behind" "[[I", Cond.methodLink RX4 85 Lib.Math.min.name, Cond.static Lib.Math.min.name, Cond.initialized "java/lang/Math", Cond.code Lib.Math.min.name Lib.Math.min.code 2 (some .int), Cond.methodLink RX4 47 yX4_choose, Cond.instanceMethod yX4_choose, Cond.selects RX4 yX4_choose yX4_choose]
def wsX8_settle_r3 : List Cond := [Cond.code yX4_choose cX4_choose 4 none, Cond.fieldLink RX4 59 "FontRuns$Setting" "runs" "I", Cond.fieldLink RX4 21 "FontRuns$Setting" "chosen" "[I", Cond.fieldLink RX4 24 "FontRuns$Setting" "runOf" "[I", Cond.methodLink RX4 88 yX4_firstOfBest, Cond.instanceMethod yX4_firstOfBest, Cond.selects RX4 yX4_firstOfBest yX4_firstOfBest, Cond.code yX4_firstOfBest cX4_firstOfBest 9 (some .int), Cond.fieldLink RX4 92 "FontRuns$Preference" "count" "I", Cond.fieldLink RX4 95 "FontRuns$Preference" "row" "[I"]
def wsX8_settle : List Cond := .code yX8_settle cX8_settle 1 none :: ((wsX8_settle_r1 ++ (wsX8_settle_r2 ++ wsX8_settle_r3)) ++ wsX80 ++ wsX00 ++ wsX40 ++ wsX70 ++ wsX10)
def wsX8_beginWithFontsTold_r1 : List Cond := [Cond.fieldLink RX8 28 "FontRuns" "fontRow" "LFontRuns$FontRow;", Cond.fieldLink RX8 21 "FontRuns" "reader" "LFontRuns$TextReader;", Cond.fieldLink RX8 132 "FontRuns$TextReader" "told" "LFontRuns$FontRow;", Cond.fieldLink RX8 35 "FontRuns" "writing" "LFontRuns$Writing;", Cond.fieldLink RX8 139 "FontRuns$Writing" "count" "I", Cond.fieldLink RX8 42 "FontRuns" "preference" "LFontRuns$Preference;", Cond.fieldLink RX8 106 "FontRuns$FontRow" "count" "I", Cond.fieldLink RX8 49 "FontRuns" "recent" "LFontRuns$Recent;", Cond.fieldLink RX8 144 "FontRuns$Recent" "count" "I", Cond.fieldLink RX8 63 "FontRuns" "readings" "LFontRuns$Readings;", Cond.fieldLink RX8 145 "FontRuns$Readings" "count" "I", Cond.methodLink RX8 135 yX0_takeFrom, Cond.instanceMethod yX0_takeFrom, Cond.selects RX0 yX0_takeFrom yX0_takeFrom, Cond.initialized RX0, Cond.code yX0_takeFrom cX0_takeFrom 3 none, Cond.fieldLink RX0 21 "FontRuns$FontRow" "count" "I", Cond.fieldLink RX0 9 "FontRuns$FontRow" "kind" "[I", Cond.fieldLink RX0 15 "FontRuns$FontRow" "breadth" "[I", Cond.fieldLink RX0 18 "FontRuns$FontRow" "has" "[I", Cond.methodLink RX8 140 yX1_begin, Cond.instanceMethod yX1_begin, Cond.selects RX1 yX1_begin yX1_begin, Cond.initialized RX1]
def wsX8_beginWithFontsTold_r2 : List Cond := [Cond.code yX1_begin cX1_begin 3 none, Cond.methodLink RX1 15 Lib.Math.min.name, Cond.static Lib.Math.min.name, Cond.initialized "java/lang/Math", Cond.code Lib.Math.min.name Lib.Math.min.code 2 (some .int), Cond.fieldLink RX1 21 "FontRuns$Preference" "count" "I", Cond.fieldLink RX1 9 "FontRuns$Preference" "row" "[I", Cond.methodLink RX8 146 yX8_settle, Cond.instanceMethod yX8_settle, Cond.selects RX8 yX8_settle yX8_settle, Cond.initialized RX8, Cond.code yX8_settle cX8_settle 1 none, Cond.fieldLink RX8 56 "FontRuns" "setting" "LFontRuns$Setting;", Cond.methodLink RX8 227 yX0_all, Cond.instanceMethod yX0_all, Cond.selects RX0 yX0_all yX0_all, Cond.code yX0_all cX0_all 1 (some .int), Cond.methodLink RX8 231 yX4_make, Cond.instanceMethod yX4_make, Cond.selects RX4 yX4_make yX4_make, Cond.initialized RX4, Cond.code yX4_make cX4_make 5 none, Cond.methodLink RX4 35 yX4_cut, Cond.instanceMethod yX4_cut]
def wsX8_beginWithFontsTold_r3 : List Cond := [Cond.selects RX4 yX4_cut yX4_cut, Cond.code yX4_cut cX4_cut 4 none, Cond.fieldLink RX4 51 "FontRuns$Setting" "count" "I", Cond.fieldLink RX4 74 "FontRuns$Writing" "count" "I", Cond.fieldLink RX4 77 "FontRuns$Writing" "row" "[I", Cond.fieldLink RX4 9 "FontRuns$Setting" "first" "[I", Cond.fieldLink RX4 15 "FontRuns$Setting" "length" "[I", Cond.fieldLink RX4 27 "FontRuns$Setting" "letters" "[I", Cond.methodLink RX4 39 yX4_findFitting, Cond.instanceMethod yX4_findFitting, Cond.selects RX4 yX4_findFitting yX4_findFitting, Cond.code yX4_findFitting cX4_findFitting 4 none, Cond.fieldLink RX4 80 "FontRuns$Setting" "boxes" "I", Cond.fieldLink RX4 18 "FontRuns$Setting" "fitting" "[I", Cond.methodLink RX4 83 yX0_fitting, Cond.instanceMethod yX0_fitting, Cond.selects RX0 yX0_fitting yX0_fitting, Cond.code yX0_fitting cX0_fitting 4 (some .int), Cond.methodLink RX4 43 yX4_findBehind, Cond.instanceMethod yX4_findBehind, Cond.selects RX4 yX4_findBehind yX4_findBehind, Cond.code yX4_findBehind cX4_findBehind 8 none, Cond.fieldLink RX4 32 "FontRuns$Setting" "behind" "[[I", Cond.methodLink RX4 85 Lib.Math.min.name]
def wsX8_beginWithFontsTold_r4 : List Cond := [Cond.methodLink RX4 47 yX4_choose, Cond.instanceMethod yX4_choose, Cond.selects RX4 yX4_choose yX4_choose, Cond.code yX4_choose cX4_choose 4 none, Cond.fieldLink RX4 59 "FontRuns$Setting" "runs" "I", Cond.fieldLink RX4 21 "FontRuns$Setting" "chosen" "[I", Cond.fieldLink RX4 24 "FontRuns$Setting" "runOf" "[I", Cond.methodLink RX4 88 yX4_firstOfBest, Cond.instanceMethod yX4_firstOfBest, Cond.selects RX4 yX4_firstOfBest yX4_firstOfBest, Cond.code yX4_firstOfBest cX4_firstOfBest 9 (some .int), Cond.fieldLink RX4 92 "FontRuns$Preference" "count" "I", Cond.fieldLink RX4 95 "FontRuns$Preference" "row" "[I"]
def wsX8_beginWithFontsTold : List Cond := .code yX8_beginWithFontsTold cX8_beginWithFontsTold 1 none :: ((wsX8_beginWithFontsTold_r1 ++ (wsX8_beginWithFontsTold_r2 ++ (wsX8_beginWithFontsTold_r3 ++ wsX8_beginWithFontsTold_r4))) ++ wsX80 ++ wsX60 ++ wsX70 ++ wsX00 ++ wsX30 ++ wsX20 ++ wsX10 ++ wsX40)
def wsX8_fonts_r1 : List Cond := [Cond.fieldLink RX8 76 "FontRuns" "latestFault" "I", Cond.fieldLink RX8 13 "FontRuns" "sheets" "[LFontRuns$Sheet;", Cond.fieldLink RX8 21 "FontRuns" "reader" "LFontRuns$TextReader;", Cond.fieldLink RX8 28 "FontRuns" "fontRow" "LFontRuns$FontRow;", Cond.fieldLink RX8 106 "FontRuns$FontRow" "count" "I", Cond.methodLink RX8 80 yX8_isSheet, Cond.static yX8_isSheet, Cond.initialized RX8, Cond.code yX8_isSheet cX8_isSheet 1 (some .boolean), Cond.methodLink RX8 128 yX8_isWithin, Cond.static yX8_isWithin, Cond.code yX8_isWithin cX8_isWithin 3 (some .boolean), Cond.methodLink RX8 84 yX8_isLane, Cond.static yX8_isLane, Cond.code yX8_isLane cX8_isLane 1 (some .boolean), Cond.methodLink RX8 87 yX8_faultOfLane, Cond.static yX8_faultOfLane, Cond.code yX8_faultOfLane cX8_faultOfLane 2 (some .int), Cond.fieldLink RX8 288 "FontRuns$Sheet" "isThere" "Z", Cond.fieldLink RX8 301 "FontRuns$Sheet" "lane" "I", Cond.methodLink RX8 91 yX5_hasCells, Cond.instanceMethod yX5_hasCells, Cond.selects RX5 yX5_hasCells yX5_hasCells, Cond.initialized RX5]
def wsX8_fonts_r2 : List Cond := [Cond.code yX5_hasCells cX5_hasCells 3 (some .boolean), Cond.fieldLink RX5 15 "FontRuns$Sheet" "isThere" "Z", Cond.fieldLink RX5 23 "FontRuns$Sheet" "size" "I", Cond.methodLink RX8 95 yX8_failWith, Cond.instanceMethod yX8_failWith, Cond.selects RX8 yX8_failWith yX8_failWith, Cond.code yX8_failWith cX8_failWith 2 (some .int), Cond.methodLink RX8 99 yX6_firstFault, Cond.instanceMethod yX6_firstFault, Cond.selects RX6 yX6_firstFault yX6_firstFault, Cond.initialized RX6, Cond.code yX6_firstFault cX6_firstFault 5 (some .int), Cond.fieldLink RX6 12 "FontRuns$TextReader" "told" "LFontRuns$FontRow;", Cond.fieldLink RX6 18 "FontRuns$FontRow" "count" "I", Cond.fieldLink RX6 22 "FontRuns$TextReader" "due" "I", Cond.methodLink RX6 25 yX5_at, Cond.instanceMethod yX5_at, Cond.selects RX5 yX5_at yX5_at, Cond.code yX5_at cX5_at 2 (some .int), Cond.fieldLink RX5 9 "FontRuns$Sheet" "cells" "[I", Cond.methodLink RX5 30 yX5_hasCell, Cond.instanceMethod yX5_hasCell, Cond.selects RX5 yX5_hasCell yX5_hasCell, Cond.code yX5_hasCell cX5_hasCell 2 (some .boolean)]
def wsX8_fonts_r3 : List Cond := [Cond.methodLink RX6 31 yX6_goesOnWith, Cond.instanceMethod yX6_goesOnWith, Cond.selects RX6 yX6_goesOnWith yX6_goesOnWith, Cond.code yX6_goesOnWith cX6_goesOnWith 2 (some .boolean), Cond.methodLink RX6 35 yX6_takesHead, Cond.instanceMethod yX6_takesHead, Cond.selects RX6 yX6_takesHead yX6_takesHead, Cond.code yX6_takesHead cX6_takesHead 2 (some .boolean), Cond.methodLink RX6 38 yX6_takesSign, Cond.instanceMethod yX6_takesSign, Cond.selects RX6 yX6_takesSign yX6_takesSign, Cond.code yX6_takesSign cX6_takesSign 2 (some .boolean), Cond.fieldLink RX6 51 "FontRuns$FontRow" "has" "[I", Cond.methodLink RX6 41 yX6_takesKind, Cond.instanceMethod yX6_takesKind, Cond.selects RX6 yX6_takesKind yX6_takesKind, Cond.code yX6_takesKind cX6_takesKind 3 (some .boolean), Cond.fieldLink RX6 62 "FontRuns$FontRow" "kind" "[I", Cond.methodLink RX6 55 yX0_isFont, Cond.instanceMethod yX0_isFont, Cond.selects RX0 yX0_isFont yX0_isFont, Cond.initialized RX0, Cond.code yX0_isFont cX0_isFont 2 (some .boolean), Cond.fieldLink RX0 21 "FontRuns$FontRow" "count" "I"]
def wsX8_fonts_r4 : List Cond := [Cond.methodLink RX6 45 yX6_takesBreadth, Cond.instanceMethod yX6_takesBreadth, Cond.selects RX6 yX6_takesBreadth yX6_takesBreadth, Cond.code yX6_takesBreadth cX6_takesBreadth 3 (some .boolean), Cond.fieldLink RX6 65 "FontRuns$FontRow" "breadth" "[I", Cond.methodLink RX6 48 yX6_takesLetter, Cond.instanceMethod yX6_takesLetter, Cond.selects RX6 yX6_takesLetter yX6_takesLetter, Cond.code yX6_takesLetter cX6_takesLetter 4 (some .boolean), Cond.methodLink RX6 68 yJ6_bitCount_0f7a4, Cond.static yJ6_bitCount_0f7a4, Cond.initialized RJ6, Cond.code yJ6_bitCount_0f7a4 cJ6_bitCount_0f7a4 1 (some .int), Cond.constant RJ6 265 (1431655765), Cond.constant RJ6 266 (858993459), Cond.constant RJ6 267 (252645135), Cond.methodLink RX8 103 yX8_beginWithFontsTold, Cond.instanceMethod yX8_beginWithFontsTold, Cond.selects RX8 yX8_beginWithFontsTold yX8_beginWithFontsTold, Cond.code yX8_beginWithFontsTold cX8_beginWithFontsTold 1 none, Cond.fieldLink RX8 132 "FontRuns$TextReader" "told" "LFontRuns$FontRow;", Cond.fieldLink RX8 35 "FontRuns" "writing" "LFontRuns$Writing;", Cond.fieldLink RX8 139 "FontRuns$Writing" "count" "I", Cond.fieldLink RX8 42 "FontRuns" "preference" "LFontRuns$Preference;"]
def wsX8_fonts_r5 : List Cond := [Cond.fieldLink RX8 49 "FontRuns" "recent" "LFontRuns$Recent;", Cond.fieldLink RX8 144 "FontRuns$Recent" "count" "I", Cond.fieldLink RX8 63 "FontRuns" "readings" "LFontRuns$Readings;", Cond.fieldLink RX8 145 "FontRuns$Readings" "count" "I", Cond.methodLink RX8 135 yX0_takeFrom, Cond.instanceMethod yX0_takeFrom, Cond.selects RX0 yX0_takeFrom yX0_takeFrom, Cond.code yX0_takeFrom cX0_takeFrom 3 none, Cond.fieldLink RX0 9 "FontRuns$FontRow" "kind" "[I", Cond.fieldLink RX0 15 "FontRuns$FontRow" "breadth" "[I", Cond.fieldLink RX0 18 "FontRuns$FontRow" "has" "[I", Cond.methodLink RX8 140 yX1_begin, Cond.instanceMethod yX1_begin, Cond.selects RX1 yX1_begin yX1_begin, Cond.initialized RX1, Cond.code yX1_begin cX1_begin 3 none, Cond.methodLink RX1 15 Lib.Math.min.name, Cond.static Lib.Math.min.name, Cond.initialized "java/lang/Math", Cond.code Lib.Math.min.name Lib.Math.min.code 2 (some .int), Cond.fieldLink RX1 21 "FontRuns$Preference" "count" "I", Cond.fieldLink RX1 9 "FontRuns$Preference" "row" "[I", Cond.methodLink RX8 146 yX8_settle, Cond.instanceMethod yX8_settle]
def wsX8_fonts_r6 : List Cond := [Cond.selects RX8 yX8_settle yX8_settle, Cond.code yX8_settle cX8_settle 1 none, Cond.fieldLink RX8 56 "FontRuns" "setting" "LFontRuns$Setting;", Cond.methodLink RX8 227 yX0_all, Cond.instanceMethod yX0_all, Cond.selects RX0 yX0_all yX0_all, Cond.code yX0_all cX0_all 1 (some .int), Cond.methodLink RX8 231 yX4_make, Cond.instanceMethod yX4_make, Cond.selects RX4 yX4_make yX4_make, Cond.initialized RX4, Cond.code yX4_make cX4_make 5 none, Cond.methodLink RX4 35 yX4_cut, Cond.instanceMethod yX4_cut, Cond.selects RX4 yX4_cut yX4_cut, Cond.code yX4_cut cX4_cut 4 none, Cond.fieldLink RX4 51 "FontRuns$Setting" "count" "I", Cond.fieldLink RX4 74 "FontRuns$Writing" "count" "I", Cond.fieldLink RX4 77 "FontRuns$Writing" "row" "[I", Cond.fieldLink RX4 9 "FontRuns$Setting" "first" "[I", Cond.fieldLink RX4 15 "FontRuns$Setting" "length" "[I", Cond.fieldLink RX4 27 "FontRuns$Setting" "letters" "[I", Cond.methodLink RX4 39 yX4_findFitting, Cond.instanceMethod yX4_findFitting]
def wsX8_fonts_r7 : List Cond := [Cond.selects RX4 yX4_findFitting yX4_findFitting, Cond.code yX4_findFitting cX4_findFitting 4 none, Cond.fieldLink RX4 80 "FontRuns$Setting" "boxes" "I", Cond.fieldLink RX4 18 "FontRuns$Setting" "fitting" "[I", Cond.methodLink RX4 83 yX0_fitting, Cond.instanceMethod yX0_fitting, Cond.selects RX0 yX0_fitting yX0_fitting, Cond.code yX0_fitting cX0_fitting 4 (some .int), Cond.methodLink RX4 43 yX4_findBehind, Cond.instanceMethod yX4_findBehind, Cond.selects RX4 yX4_findBehind yX4_findBehind, Cond.code yX4_findBehind cX4_findBehind 8 none, Cond.fieldLink RX4 32 "FontRuns$Setting" "behind" "[[I", Cond.methodLink RX4 85 Lib.Math.min.name, Cond.methodLink RX4 47 yX4_choose, Cond.instanceMethod yX4_choose, Cond.selects RX4 yX4_choose yX4_choose, Cond.code yX4_choose cX4_choose 4 none, Cond.fieldLink RX4 59 "FontRuns$Setting" "runs" "I", Cond.fieldLink RX4 21 "FontRuns$Setting" "chosen" "[I", Cond.fieldLink RX4 24 "FontRuns$Setting" "runOf" "[I", Cond.methodLink RX4 88 yX4_firstOfBest, Cond.instanceMethod yX4_firstOfBest, Cond.selects RX4 yX4_firstOfBest yX4_firstOfBest]
def wsX8_fonts_r8 : List Cond := [Cond.code yX4_firstOfBest cX4_firstOfBest 9 (some .int), Cond.fieldLink RX4 92 "FontRuns$Preference" "count" "I", Cond.fieldLink RX4 95 "FontRuns$Preference" "row" "[I"]
def wsX8_fonts : List Cond := .code yX8_fonts cX8_fonts 8 (some .int) :: ((wsX8_fonts_r1 ++ (wsX8_fonts_r2 ++ (wsX8_fonts_r3 ++ (wsX8_fonts_r4 ++ (wsX8_fonts_r5 ++ (wsX8_fonts_r6 ++ (wsX8_fonts_r7 ++ wsX8_fonts_r8))))))) ++ wsX80 ++ wsX00 ++ wsX50 ++ wsX60 ++ wsX70 ++ wsX30 ++ wsX20 ++ wsX10 ++ wsX40)
def wsX8_ofFont_r1 : List Cond := [Cond.fieldLink RX8 28 "FontRuns" "fontRow" "LFontRuns$FontRow;", Cond.fieldLink RX8 112 "FontRuns$FontRow" "kind" "[I", Cond.fieldLink RX8 116 "FontRuns$FontRow" "breadth" "[I", Cond.fieldLink RX8 122 "FontRuns$FontRow" "has" "[I", Cond.fieldLink RX8 42 "FontRuns" "preference" "LFontRuns$Preference;", Cond.methodLink RX8 109 yX0_isFont, Cond.instanceMethod yX0_isFont, Cond.selects RX0 yX0_isFont yX0_isFont, Cond.initialized RX0, Cond.code yX0_isFont cX0_isFont 2 (some .boolean), Cond.fieldLink RX0 21 "FontRuns$FontRow" "count" "I", Cond.static yX8_isWithin, Cond.initialized RX8, Cond.code yX8_isWithin cX8_isWithin 3 (some .boolean), Cond.methodLink RX8 119 yX0_step, Cond.instanceMethod yX0_step, Cond.selects RX0 yX0_step yX0_step, Cond.code yX0_step cX0_step 2 (some .int), Cond.fieldLink RX0 9 "FontRuns$FontRow" "kind" "[I", Cond.fieldLink RX0 15 "FontRuns$FontRow" "breadth" "[I", Cond.methodLink RX0 29 yX0_isFont, Cond.static yX8_stepOf, Cond.code yX8_stepOf cX8_stepOf 2 (some .int), Cond.methodLink RX8 125 yX1_placeOf]
def wsX8_ofFont_r2 : List Cond := [Cond.instanceMethod yX1_placeOf, Cond.selects RX1 yX1_placeOf yX1_placeOf, Cond.initialized RX1, Cond.code yX1_placeOf cX1_placeOf 3 (some .int), Cond.fieldLink RX1 21 "FontRuns$Preference" "count" "I", Cond.fieldLink RX1 9 "FontRuns$Preference" "row" "[I"]
def wsX8_ofFont : List Cond := .code yX8_ofFont cX8_ofFont 3 (some .int) :: ((wsX8_ofFont_r1 ++ wsX8_ofFont_r2) ++ wsX80 ++ wsX00 ++ wsX10)
def wsX8_width : List Cond := .code yX8_width cX8_width 4 (some .int) :: ([.fieldLink RX8 28 "FontRuns" "fontRow" "LFontRuns$FontRow;", .fieldLink RX8 116 "FontRuns$FontRow" "breadth" "[I", .methodLink RX8 109 yX0_isFont, .instanceMethod yX0_isFont, .selects RX0 yX0_isFont yX0_isFont, .initialized RX0, .code yX0_isFont cX0_isFont 2 (some .boolean), .fieldLink RX0 21 "FontRuns$FontRow" "count" "I", .static yX8_isWithin, .initialized RX8, .code yX8_isWithin cX8_isWithin 3 (some .boolean), .methodLink RX8 128 yX8_isWithin] ++ wsX80 ++ wsX00)
def wsX8_faultOfCells : List Cond := .code yX8_faultOfCells cX8_faultOfCells 5 (some .int) :: ([.methodLink RX8 87 yX8_faultOfLane, .static yX8_faultOfLane, .initialized RX8, .code yX8_faultOfLane cX8_faultOfLane 2 (some .int), .fieldLink RX8 288 "FontRuns$Sheet" "isThere" "Z", .fieldLink RX8 301 "FontRuns$Sheet" "lane" "I", .methodLink RX8 91 yX5_hasCells, .instanceMethod yX5_hasCells, .selects RX5 yX5_hasCells yX5_hasCells, .initialized RX5, .code yX5_hasCells cX5_hasCells 3 (some .boolean), .fieldLink RX5 15 "FontRuns$Sheet" "isThere" "Z", .fieldLink RX5 23 "FontRuns$Sheet" "size" "I", .static yX8_isWithin, .code yX8_isWithin cX8_isWithin 3 (some .boolean)] ++ wsX50)
def wsX8_areLetters : List Cond := .code yX8_areLetters cX8_areLetters 4 (some .boolean) :: ([.methodLink RX8 157 yX5_at, .instanceMethod yX5_at, .selects RX5 yX5_at yX5_at, .initialized RX5, .code yX5_at cX5_at 2 (some .int), .fieldLink RX5 9 "FontRuns$Sheet" "cells" "[I", .methodLink RX5 30 yX5_hasCell, .instanceMethod yX5_hasCell, .selects RX5 yX5_hasCell yX5_hasCell, .code yX5_hasCell cX5_hasCell 2 (some .boolean), .fieldLink RX5 15 "FontRuns$Sheet" "isThere" "Z", .fieldLink RX5 23 "FontRuns$Sheet" "size" "I", .static yX8_isWithin, .initialized RX8, .code yX8_isWithin cX8_isWithin 3 (some .boolean), .methodLink RX8 128 yX8_isWithin] ++ wsX50)
def wsX8_writeOne : List Cond := .code yX8_writeOne cX8_writeOne 2 none :: ([.fieldLink RX8 35 "FontRuns" "writing" "LFontRuns$Writing;", .fieldLink RX8 203 "FontRuns" "everWritten" "I", .constantLong RX8 225 (31), .fieldLink RX8 206 "FontRuns" "writtenCheck" "J", .methodLink RX8 222 yX7_add, .instanceMethod yX7_add, .selects RX7 yX7_add yX7_add, .initialized RX7, .code yX7_add cX7_add 2 (some .boolean), .fieldLink RX7 15 "FontRuns$Writing" "count" "I", .fieldLink RX7 9 "FontRuns$Writing" "row" "[I", .static yX8_isWithin, .initialized RX8, .code yX8_isWithin cX8_isWithin 3 (some .boolean)] ++ wsX80 ++ wsX70)
def wsX8_write_r1 : List Cond := [Cond.fieldLink RX8 76 "FontRuns" "latestFault" "I", Cond.fieldLink RX8 13 "FontRuns" "sheets" "[LFontRuns$Sheet;", Cond.fieldLink RX8 28 "FontRuns" "fontRow" "LFontRuns$FontRow;", Cond.fieldLink RX8 106 "FontRuns$FontRow" "count" "I", Cond.fieldLink RX8 35 "FontRuns" "writing" "LFontRuns$Writing;", Cond.fieldLink RX8 139 "FontRuns$Writing" "count" "I", Cond.methodLink RX8 80 yX8_isSheet, Cond.static yX8_isSheet, Cond.initialized RX8, Cond.code yX8_isSheet cX8_isSheet 1 (some .boolean), Cond.methodLink RX8 128 yX8_isWithin, Cond.static yX8_isWithin, Cond.code yX8_isWithin cX8_isWithin 3 (some .boolean), Cond.methodLink RX8 84 yX8_isLane, Cond.static yX8_isLane, Cond.code yX8_isLane cX8_isLane 1 (some .boolean), Cond.methodLink RX8 149 yX8_faultOfCells, Cond.static yX8_faultOfCells, Cond.code yX8_faultOfCells cX8_faultOfCells 5 (some .int), Cond.methodLink RX8 87 yX8_faultOfLane, Cond.static yX8_faultOfLane, Cond.code yX8_faultOfLane cX8_faultOfLane 2 (some .int), Cond.fieldLink RX8 288 "FontRuns$Sheet" "isThere" "Z", Cond.fieldLink RX8 301 "FontRuns$Sheet" "lane" "I"]
def wsX8_write_r2 : List Cond := [Cond.methodLink RX8 91 yX5_hasCells, Cond.instanceMethod yX5_hasCells, Cond.selects RX5 yX5_hasCells yX5_hasCells, Cond.initialized RX5, Cond.code yX5_hasCells cX5_hasCells 3 (some .boolean), Cond.fieldLink RX5 15 "FontRuns$Sheet" "isThere" "Z", Cond.fieldLink RX5 23 "FontRuns$Sheet" "size" "I", Cond.methodLink RX8 95 yX8_failWith, Cond.instanceMethod yX8_failWith, Cond.selects RX8 yX8_failWith yX8_failWith, Cond.code yX8_failWith cX8_failWith 2 (some .int), Cond.methodLink RX8 153 yX8_areLetters, Cond.static yX8_areLetters, Cond.code yX8_areLetters cX8_areLetters 4 (some .boolean), Cond.methodLink RX8 157 yX5_at, Cond.instanceMethod yX5_at, Cond.selects RX5 yX5_at yX5_at, Cond.code yX5_at cX5_at 2 (some .int), Cond.fieldLink RX5 9 "FontRuns$Sheet" "cells" "[I", Cond.methodLink RX5 30 yX5_hasCell, Cond.instanceMethod yX5_hasCell, Cond.selects RX5 yX5_hasCell yX5_hasCell, Cond.code yX5_hasCell cX5_hasCell 2 (some .boolean), Cond.methodLink RX8 160 yX8_writeOne]
def wsX8_write_r3 : List Cond := [Cond.instanceMethod yX8_writeOne, Cond.selects RX8 yX8_writeOne yX8_writeOne, Cond.code yX8_writeOne cX8_writeOne 2 none, Cond.fieldLink RX8 203 "FontRuns" "everWritten" "I", Cond.constantLong RX8 225 (31), Cond.fieldLink RX8 206 "FontRuns" "writtenCheck" "J", Cond.methodLink RX8 222 yX7_add, Cond.instanceMethod yX7_add, Cond.selects RX7 yX7_add yX7_add, Cond.initialized RX7, Cond.code yX7_add cX7_add 2 (some .boolean), Cond.fieldLink RX7 15 "FontRuns$Writing" "count" "I", Cond.fieldLink RX7 9 "FontRuns$Writing" "row" "[I", Cond.methodLink RX8 146 yX8_settle, Cond.instanceMethod yX8_settle, Cond.selects RX8 yX8_settle yX8_settle, Cond.code yX8_settle cX8_settle 1 none, Cond.fieldLink RX8 56 "FontRuns" "setting" "LFontRuns$Setting;", Cond.fieldLink RX8 42 "FontRuns" "preference" "LFontRuns$Preference;", Cond.methodLink RX8 227 yX0_all, Cond.instanceMethod yX0_all, Cond.selects RX0 yX0_all yX0_all, Cond.initialized RX0, Cond.code yX0_all cX0_all 1 (some .int)]
def wsX8_write_r4 : List Cond := [Cond.fieldLink RX0 21 "FontRuns$FontRow" "count" "I", Cond.methodLink RX8 231 yX4_make, Cond.instanceMethod yX4_make, Cond.selects RX4 yX4_make yX4_make, Cond.initialized RX4, Cond.code yX4_make cX4_make 5 none, Cond.methodLink RX4 35 yX4_cut, Cond.instanceMethod yX4_cut, Cond.selects RX4 yX4_cut yX4_cut, Cond.code yX4_cut cX4_cut 4 none, Cond.fieldLink RX4 51 "FontRuns$Setting" "count" "I", Cond.fieldLink RX4 74 "FontRuns$Writing" "count" "I", Cond.fieldLink RX4 77 "FontRuns$Writing" "row" "[I", Cond.fieldLink RX4 9 "FontRuns$Setting" "first" "[I", Cond.fieldLink RX4 15 "FontRuns$Setting" "length" "[I", Cond.fieldLink RX4 27 "FontRuns$Setting" "letters" "[I", Cond.methodLink RX4 39 yX4_findFitting, Cond.instanceMethod yX4_findFitting, Cond.selects RX4 yX4_findFitting yX4_findFitting, Cond.code yX4_findFitting cX4_findFitting 4 none, Cond.fieldLink RX4 80 "FontRuns$Setting" "boxes" "I", Cond.fieldLink RX4 18 "FontRuns$Setting" "fitting" "[I", Cond.methodLink RX4 83 yX0_fitting, Cond.instanceMethod yX0_fitting]
def wsX8_write_r5 : List Cond := [Cond.selects RX0 yX0_fitting yX0_fitting, Cond.code yX0_fitting cX0_fitting 4 (some .int), Cond.fieldLink RX0 18 "FontRuns$FontRow" "has" "[I", Cond.methodLink RX4 43 yX4_findBehind, Cond.instanceMethod yX4_findBehind, Cond.selects RX4 yX4_findBehind yX4_findBehind, Cond.code yX4_findBehind cX4_findBehind 8 none, Cond.fieldLink RX4 32 "FontRuns$Setting" "behind" "[[I", Cond.methodLink RX4 85 Lib.Math.min.name, Cond.static Lib.Math.min.name, Cond.initialized "java/lang/Math", Cond.code Lib.Math.min.name Lib.Math.min.code 2 (some .int), Cond.methodLink RX4 47 yX4_choose, Cond.instanceMethod yX4_choose, Cond.selects RX4 yX4_choose yX4_choose, Cond.code yX4_choose cX4_choose 4 none, Cond.fieldLink RX4 59 "FontRuns$Setting" "runs" "I", Cond.fieldLink RX4 21 "FontRuns$Setting" "chosen" "[I", Cond.fieldLink RX4 24 "FontRuns$Setting" "runOf" "[I", Cond.methodLink RX4 88 yX4_firstOfBest, Cond.instanceMethod yX4_firstOfBest, Cond.selects RX4 yX4_firstOfBest yX4_firstOfBest, Cond.code yX4_firstOfBest cX4_firstOfBest 9 (some .int), Cond.fieldLink RX4 92 "FontRuns$Preference" "count" "I"]
def wsX8_write_r6 : List Cond := [Cond.fieldLink RX4 95 "FontRuns$Preference" "row" "[I"]
def wsX8_write : List Cond := .code yX8_write cX8_write 8 (some .int) :: ((wsX8_write_r1 ++ (wsX8_write_r2 ++ (wsX8_write_r3 ++ (wsX8_write_r4 ++ (wsX8_write_r5 ++ wsX8_write_r6))))) ++ wsX80 ++ wsX00 ++ wsX70 ++ wsX50 ++ wsX40 ++ wsX10)
def wsX8_erase_r1 : List Cond := [Cond.fieldLink RX8 35 "FontRuns" "writing" "LFontRuns$Writing;", Cond.fieldLink RX8 139 "FontRuns$Writing" "count" "I", Cond.methodLink RX8 128 yX8_isWithin, Cond.static yX8_isWithin, Cond.initialized RX8, Cond.code yX8_isWithin cX8_isWithin 3 (some .boolean), Cond.methodLink RX8 163 yX7_drop, Cond.instanceMethod yX7_drop, Cond.selects RX7 yX7_drop yX7_drop, Cond.initialized RX7, Cond.code yX7_drop cX7_drop 2 (some .boolean), Cond.fieldLink RX7 15 "FontRuns$Writing" "count" "I", Cond.methodLink RX8 146 yX8_settle, Cond.instanceMethod yX8_settle, Cond.selects RX8 yX8_settle yX8_settle, Cond.code yX8_settle cX8_settle 1 none, Cond.fieldLink RX8 56 "FontRuns" "setting" "LFontRuns$Setting;", Cond.fieldLink RX8 28 "FontRuns" "fontRow" "LFontRuns$FontRow;", Cond.fieldLink RX8 42 "FontRuns" "preference" "LFontRuns$Preference;", Cond.methodLink RX8 227 yX0_all, Cond.instanceMethod yX0_all, Cond.selects RX0 yX0_all yX0_all, Cond.initialized RX0, Cond.code yX0_all cX0_all 1 (some .int)]
def wsX8_erase_r2 : List Cond := [Cond.fieldLink RX0 21 "FontRuns$FontRow" "count" "I", Cond.methodLink RX8 231 yX4_make, Cond.instanceMethod yX4_make, Cond.selects RX4 yX4_make yX4_make, Cond.initialized RX4, Cond.code yX4_make cX4_make 5 none, Cond.methodLink RX4 35 yX4_cut, Cond.instanceMethod yX4_cut, Cond.selects RX4 yX4_cut yX4_cut, Cond.code yX4_cut cX4_cut 4 none, Cond.fieldLink RX4 51 "FontRuns$Setting" "count" "I", Cond.fieldLink RX4 74 "FontRuns$Writing" "count" "I", Cond.fieldLink RX4 77 "FontRuns$Writing" "row" "[I", Cond.fieldLink RX4 9 "FontRuns$Setting" "first" "[I", Cond.fieldLink RX4 15 "FontRuns$Setting" "length" "[I", Cond.fieldLink RX4 27 "FontRuns$Setting" "letters" "[I", Cond.methodLink RX4 39 yX4_findFitting, Cond.instanceMethod yX4_findFitting, Cond.selects RX4 yX4_findFitting yX4_findFitting, Cond.code yX4_findFitting cX4_findFitting 4 none, Cond.fieldLink RX4 80 "FontRuns$Setting" "boxes" "I", Cond.fieldLink RX4 18 "FontRuns$Setting" "fitting" "[I", Cond.methodLink RX4 83 yX0_fitting, Cond.instanceMethod yX0_fitting]
def wsX8_erase_r3 : List Cond := [Cond.selects RX0 yX0_fitting yX0_fitting, Cond.code yX0_fitting cX0_fitting 4 (some .int), Cond.fieldLink RX0 18 "FontRuns$FontRow" "has" "[I", Cond.methodLink RX4 43 yX4_findBehind, Cond.instanceMethod yX4_findBehind, Cond.selects RX4 yX4_findBehind yX4_findBehind, Cond.code yX4_findBehind cX4_findBehind 8 none, Cond.fieldLink RX4 32 "FontRuns$Setting" "behind" "[[I", Cond.methodLink RX4 85 Lib.Math.min.name, Cond.static Lib.Math.min.name, Cond.initialized "java/lang/Math", Cond.code Lib.Math.min.name Lib.Math.min.code 2 (some .int), Cond.methodLink RX4 47 yX4_choose, Cond.instanceMethod yX4_choose, Cond.selects RX4 yX4_choose yX4_choose, Cond.code yX4_choose cX4_choose 4 none, Cond.fieldLink RX4 59 "FontRuns$Setting" "runs" "I", Cond.fieldLink RX4 21 "FontRuns$Setting" "chosen" "[I", Cond.fieldLink RX4 24 "FontRuns$Setting" "runOf" "[I", Cond.methodLink RX4 88 yX4_firstOfBest, Cond.instanceMethod yX4_firstOfBest, Cond.selects RX4 yX4_firstOfBest yX4_firstOfBest, Cond.code yX4_firstOfBest cX4_firstOfBest 9 (some .int), Cond.fieldLink RX4 92 "FontRuns$Preference" "count" "I"]
def wsX8_erase_r4 : List Cond := [Cond.fieldLink RX4 95 "FontRuns$Preference" "row" "[I"]
def wsX8_erase : List Cond := .code yX8_erase cX8_erase 2 (some .int) :: ((wsX8_erase_r1 ++ (wsX8_erase_r2 ++ (wsX8_erase_r3 ++ wsX8_erase_r4))) ++ wsX80 ++ wsX70 ++ wsX00 ++ wsX40 ++ wsX10)
def wsX8_letter : List Cond := .code yX8_letter cX8_letter 2 (some .int) :: ([.fieldLink RX8 35 "FontRuns" "writing" "LFontRuns$Writing;", .fieldLink RX8 139 "FontRuns$Writing" "count" "I", .fieldLink RX8 166 "FontRuns$Writing" "row" "[I", .methodLink RX8 128 yX8_isWithin, .static yX8_isWithin, .initialized RX8, .code yX8_isWithin cX8_isWithin 3 (some .boolean)] ++ wsX80 ++ wsX70)
def wsX8_ofCluster : List Cond := .code yX8_ofCluster cX8_ofCluster 3 (some .int) :: ([.fieldLink RX8 56 "FontRuns" "setting" "LFontRuns$Setting;", .fieldLink RX8 172 "FontRuns$Setting" "first" "[I", .fieldLink RX8 175 "FontRuns$Setting" "length" "[I", .fieldLink RX8 178 "FontRuns$Setting" "fitting" "[I", .fieldLink RX8 181 "FontRuns$Setting" "chosen" "[I", .fieldLink RX8 184 "FontRuns$Setting" "runOf" "[I", .methodLink RX8 169 yX4_isCluster, .instanceMethod yX4_isCluster, .selects RX4 yX4_isCluster yX4_isCluster, .initialized RX4, .code yX4_isCluster cX4_isCluster 2 (some .boolean), .fieldLink RX4 51 "FontRuns$Setting" "count" "I", .static yX8_isWithin, .initialized RX8, .code yX8_isWithin cX8_isWithin 3 (some .boolean)] ++ wsX80 ++ wsX40)
def wsX8_ofRun_r1 : List Cond := [Cond.fieldLink RX8 56 "FontRuns" "setting" "LFontRuns$Setting;", Cond.fieldLink RX8 187 "FontRuns$Setting" "runs" "I", Cond.fieldLink RX8 181 "FontRuns$Setting" "chosen" "[I", Cond.fieldLink RX8 28 "FontRuns" "fontRow" "LFontRuns$FontRow;", Cond.methodLink RX8 128 yX8_isWithin, Cond.static yX8_isWithin, Cond.initialized RX8, Cond.code yX8_isWithin cX8_isWithin 3 (some .boolean), Cond.methodLink RX8 190 yX4_firstOfRun, Cond.instanceMethod yX4_firstOfRun, Cond.selects RX4 yX4_firstOfRun yX4_firstOfRun, Cond.initialized RX4, Cond.code yX4_firstOfRun cX4_firstOfRun 3 (some .int), Cond.fieldLink RX4 51 "FontRuns$Setting" "count" "I", Cond.fieldLink RX4 24 "FontRuns$Setting" "runOf" "[I", Cond.methodLink RX8 193 yX4_clustersOfRun, Cond.instanceMethod yX4_clustersOfRun, Cond.selects RX4 yX4_clustersOfRun yX4_clustersOfRun, Cond.code yX4_clustersOfRun cX4_clustersOfRun 4 (some .int), Cond.methodLink RX8 119 yX0_step, Cond.instanceMethod yX0_step, Cond.selects RX0 yX0_step yX0_step, Cond.initialized RX0, Cond.code yX0_step cX0_step 2 (some .int)]
def wsX8_ofRun_r2 : List Cond := [Cond.fieldLink RX0 9 "FontRuns$FontRow" "kind" "[I", Cond.fieldLink RX0 15 "FontRuns$FontRow" "breadth" "[I", Cond.methodLink RX0 29 yX0_isFont, Cond.instanceMethod yX0_isFont, Cond.selects RX0 yX0_isFont yX0_isFont, Cond.code yX0_isFont cX0_isFont 2 (some .boolean), Cond.fieldLink RX0 21 "FontRuns$FontRow" "count" "I", Cond.static yX8_stepOf, Cond.code yX8_stepOf cX8_stepOf 2 (some .int)]
def wsX8_ofRun : List Cond := .code yX8_ofRun cX8_ofRun 5 (some .int) :: ((wsX8_ofRun_r1 ++ wsX8_ofRun_r2) ++ wsX80 ++ wsX40 ++ wsX00)
def wsX8_prefer_r1 : List Cond := [Cond.fieldLink RX8 28 "FontRuns" "fontRow" "LFontRuns$FontRow;", Cond.fieldLink RX8 42 "FontRuns" "preference" "LFontRuns$Preference;", Cond.fieldLink RX8 49 "FontRuns" "recent" "LFontRuns$Recent;", Cond.methodLink RX8 109 yX0_isFont, Cond.instanceMethod yX0_isFont, Cond.selects RX0 yX0_isFont yX0_isFont, Cond.initialized RX0, Cond.code yX0_isFont cX0_isFont 2 (some .boolean), Cond.fieldLink RX0 21 "FontRuns$FontRow" "count" "I", Cond.static yX8_isWithin, Cond.initialized RX8, Cond.code yX8_isWithin cX8_isWithin 3 (some .boolean), Cond.methodLink RX8 125 yX1_placeOf, Cond.instanceMethod yX1_placeOf, Cond.selects RX1 yX1_placeOf yX1_placeOf, Cond.initialized RX1, Cond.code yX1_placeOf cX1_placeOf 3 (some .int), Cond.fieldLink RX1 21 "FontRuns$Preference" "count" "I", Cond.fieldLink RX1 9 "FontRuns$Preference" "row" "[I", Cond.methodLink RX8 196 yX1_lead, Cond.instanceMethod yX1_lead, Cond.selects RX1 yX1_lead yX1_lead, Cond.code yX1_lead cX1_lead 4 (some .boolean), Cond.methodLink RX1 25 yX1_placeOf]
def wsX8_prefer_r2 : List Cond := [Cond.methodLink RX8 199 yX3_keep, Cond.instanceMethod yX3_keep, Cond.selects RX3 yX3_keep yX3_keep, Cond.initialized RX3, Cond.code yX3_keep cX3_keep 3 none, Cond.fieldLink RX3 9 "FontRuns$Recent" "row" "[I", Cond.fieldLink RX3 15 "FontRuns$Recent" "count" "I", Cond.methodLink RX3 19 Lib.Math.min.name, Cond.static Lib.Math.min.name, Cond.initialized "java/lang/Math", Cond.code Lib.Math.min.name Lib.Math.min.code 2 (some .int), Cond.methodLink RX8 146 yX8_settle, Cond.instanceMethod yX8_settle, Cond.selects RX8 yX8_settle yX8_settle, Cond.code yX8_settle cX8_settle 1 none, Cond.fieldLink RX8 56 "FontRuns" "setting" "LFontRuns$Setting;", Cond.fieldLink RX8 35 "FontRuns" "writing" "LFontRuns$Writing;", Cond.methodLink RX8 227 yX0_all, Cond.instanceMethod yX0_all, Cond.selects RX0 yX0_all yX0_all, Cond.code yX0_all cX0_all 1 (some .int), Cond.methodLink RX8 231 yX4_make, Cond.instanceMethod yX4_make, Cond.selects RX4 yX4_make yX4_make]
def wsX8_prefer_r3 : List Cond := [Cond.initialized RX4, Cond.code yX4_make cX4_make 5 none, Cond.methodLink RX4 35 yX4_cut, Cond.instanceMethod yX4_cut, Cond.selects RX4 yX4_cut yX4_cut, Cond.code yX4_cut cX4_cut 4 none, Cond.fieldLink RX4 51 "FontRuns$Setting" "count" "I", Cond.fieldLink RX4 74 "FontRuns$Writing" "count" "I", Cond.fieldLink RX4 77 "FontRuns$Writing" "row" "[I", Cond.fieldLink RX4 9 "FontRuns$Setting" "first" "[I", Cond.fieldLink RX4 15 "FontRuns$Setting" "length" "[I", Cond.fieldLink RX4 27 "FontRuns$Setting" "letters" "[I", Cond.methodLink RX4 39 yX4_findFitting, Cond.instanceMethod yX4_findFitting, Cond.selects RX4 yX4_findFitting yX4_findFitting, Cond.code yX4_findFitting cX4_findFitting 4 none, Cond.fieldLink RX4 80 "FontRuns$Setting" "boxes" "I", Cond.fieldLink RX4 18 "FontRuns$Setting" "fitting" "[I", Cond.methodLink RX4 83 yX0_fitting, Cond.instanceMethod yX0_fitting, Cond.selects RX0 yX0_fitting yX0_fitting, Cond.code yX0_fitting cX0_fitting 4 (some .int), Cond.fieldLink RX0 18 "FontRuns$FontRow" "has" "[I", Cond.methodLink RX4 43 yX4_findBehind]
def wsX8_prefer_r4 : List Cond := [Cond.instanceMethod yX4_findBehind, Cond.selects RX4 yX4_findBehind yX4_findBehind, Cond.code yX4_findBehind cX4_findBehind 8 none, Cond.fieldLink RX4 32 "FontRuns$Setting" "behind" "[[I", Cond.methodLink RX4 85 Lib.Math.min.name, Cond.methodLink RX4 47 yX4_choose, Cond.instanceMethod yX4_choose, Cond.selects RX4 yX4_choose yX4_choose, Cond.code yX4_choose cX4_choose 4 none, Cond.fieldLink RX4 59 "FontRuns$Setting" "runs" "I", Cond.fieldLink RX4 21 "FontRuns$Setting" "chosen" "[I", Cond.fieldLink RX4 24 "FontRuns$Setting" "runOf" "[I", Cond.methodLink RX4 88 yX4_firstOfBest, Cond.instanceMethod yX4_firstOfBest, Cond.selects RX4 yX4_firstOfBest yX4_firstOfBest, Cond.code yX4_firstOfBest cX4_firstOfBest 9 (some .int), Cond.fieldLink RX4 92 "FontRuns$Preference" "count" "I", Cond.fieldLink RX4 95 "FontRuns$Preference" "row" "[I"]
def wsX8_prefer : List Cond := .code yX8_prefer cX8_prefer 3 (some .int) :: ((wsX8_prefer_r1 ++ (wsX8_prefer_r2 ++ (wsX8_prefer_r3 ++ wsX8_prefer_r4))) ++ wsX80 ++ wsX00 ++ wsX10 ++ wsX30 ++ wsX40 ++ wsX70)
def wsX8_latest : List Cond := .code yX8_latest cX8_latest 2 (some .int) :: ([.fieldLink RX8 49 "FontRuns" "recent" "LFontRuns$Recent;", .fieldLink RX8 144 "FontRuns$Recent" "count" "I", .fieldLink RX8 202 "FontRuns$Recent" "row" "[I", .methodLink RX8 128 yX8_isWithin, .static yX8_isWithin, .initialized RX8, .code yX8_isWithin cX8_isWithin 3 (some .boolean)] ++ wsX80 ++ wsX30)
def wsX8_tally : List Cond := .code yX8_tally cX8_tally 1 (some .int) :: ([.fieldLink RX8 203 "FontRuns" "everWritten" "I"] ++ wsX80)
def wsX8_check : List Cond := .code yX8_check cX8_check 1 (some .long) :: ([.fieldLink RX8 206 "FontRuns" "writtenCheck" "J"] ++ wsX80)
def wsX8_isOfDay : List Cond := .code yX8_isOfDay cX8_isOfDay 1 (some .boolean) :: ([.methodLink RX8 128 yX8_isWithin, .static yX8_isWithin, .initialized RX8, .code yX8_isWithin cX8_isWithin 3 (some .boolean)])
def wsX8_isAct : List Cond := .code yX8_isAct cX8_isAct 2 (some .boolean) :: ([.methodLink RX8 128 yX8_isWithin, .static yX8_isWithin, .initialized RX8, .code yX8_isWithin cX8_isWithin 3 (some .boolean)])
def wsX8_areActs : List Cond := .code yX8_areActs cX8_areActs 4 (some .boolean) :: ([.methodLink RX8 157 yX5_at, .instanceMethod yX5_at, .selects RX5 yX5_at yX5_at, .initialized RX5, .code yX5_at cX5_at 2 (some .int), .fieldLink RX5 9 "FontRuns$Sheet" "cells" "[I", .methodLink RX5 30 yX5_hasCell, .instanceMethod yX5_hasCell, .selects RX5 yX5_hasCell yX5_hasCell, .code yX5_hasCell cX5_hasCell 2 (some .boolean), .fieldLink RX5 15 "FontRuns$Sheet" "isThere" "Z", .fieldLink RX5 23 "FontRuns$Sheet" "size" "I", .static yX8_isWithin, .initialized RX8, .code yX8_isWithin cX8_isWithin 3 (some .boolean), .methodLink RX8 235 yX8_isAct, .static yX8_isAct, .code yX8_isAct cX8_isAct 2 (some .boolean), .methodLink RX8 128 yX8_isWithin] ++ wsX50)
def wsX8_supposeAct_r1 : List Cond := [Cond.fieldLink RX8 67 "FontRuns" "supposedWriting" "LFontRuns$Writing;", Cond.fieldLink RX8 70 "FontRuns" "supposedPreference" "LFontRuns$Preference;", Cond.methodLink RX8 222 yX7_add, Cond.instanceMethod yX7_add, Cond.selects RX7 yX7_add yX7_add, Cond.initialized RX7, Cond.code yX7_add cX7_add 2 (some .boolean), Cond.fieldLink RX7 15 "FontRuns$Writing" "count" "I", Cond.fieldLink RX7 9 "FontRuns$Writing" "row" "[I", Cond.static yX8_isWithin, Cond.initialized RX8, Cond.code yX8_isWithin cX8_isWithin 3 (some .boolean), Cond.methodLink RX8 163 yX7_drop, Cond.instanceMethod yX7_drop, Cond.selects RX7 yX7_drop yX7_drop, Cond.code yX7_drop cX7_drop 2 (some .boolean), Cond.methodLink RX8 196 yX1_lead, Cond.instanceMethod yX1_lead, Cond.selects RX1 yX1_lead yX1_lead, Cond.initialized RX1, Cond.code yX1_lead cX1_lead 4 (some .boolean), Cond.fieldLink RX1 9 "FontRuns$Preference" "row" "[I", Cond.methodLink RX1 25 yX1_placeOf, Cond.instanceMethod yX1_placeOf]
def wsX8_supposeAct_r2 : List Cond := [Cond.selects RX1 yX1_placeOf yX1_placeOf, Cond.code yX1_placeOf cX1_placeOf 3 (some .int), Cond.fieldLink RX1 21 "FontRuns$Preference" "count" "I"]
def wsX8_supposeAct : List Cond := .code yX8_supposeAct cX8_supposeAct 3 (some .boolean) :: ((wsX8_supposeAct_r1 ++ wsX8_supposeAct_r2) ++ wsX80 ++ wsX70 ++ wsX10)
def wsX8_supposeActs_r1 : List Cond := [Cond.fieldLink RX8 67 "FontRuns" "supposedWriting" "LFontRuns$Writing;", Cond.fieldLink RX8 35 "FontRuns" "writing" "LFontRuns$Writing;", Cond.fieldLink RX8 70 "FontRuns" "supposedPreference" "LFontRuns$Preference;", Cond.fieldLink RX8 42 "FontRuns" "preference" "LFontRuns$Preference;", Cond.methodLink RX8 238 yX7_takeFrom, Cond.instanceMethod yX7_takeFrom, Cond.selects RX7 yX7_takeFrom yX7_takeFrom, Cond.initialized RX7, Cond.code yX7_takeFrom cX7_takeFrom 3 none, Cond.fieldLink RX7 15 "FontRuns$Writing" "count" "I", Cond.fieldLink RX7 9 "FontRuns$Writing" "row" "[I", Cond.methodLink RX8 241 yX1_takeFrom, Cond.instanceMethod yX1_takeFrom, Cond.selects RX1 yX1_takeFrom yX1_takeFrom, Cond.initialized RX1, Cond.code yX1_takeFrom cX1_takeFrom 3 none, Cond.fieldLink RX1 21 "FontRuns$Preference" "count" "I", Cond.fieldLink RX1 9 "FontRuns$Preference" "row" "[I", Cond.methodLink RX8 157 yX5_at, Cond.instanceMethod yX5_at, Cond.selects RX5 yX5_at yX5_at, Cond.initialized RX5, Cond.code yX5_at cX5_at 2 (some .int), Cond.fieldLink RX5 9 "FontRuns$Sheet" "cells" "[I"]
def wsX8_supposeActs_r2 : List Cond := [Cond.methodLink RX5 30 yX5_hasCell, Cond.instanceMethod yX5_hasCell, Cond.selects RX5 yX5_hasCell yX5_hasCell, Cond.code yX5_hasCell cX5_hasCell 2 (some .boolean), Cond.fieldLink RX5 15 "FontRuns$Sheet" "isThere" "Z", Cond.fieldLink RX5 23 "FontRuns$Sheet" "size" "I", Cond.static yX8_isWithin, Cond.initialized RX8, Cond.code yX8_isWithin cX8_isWithin 3 (some .boolean), Cond.methodLink RX8 244 yX8_supposeAct, Cond.instanceMethod yX8_supposeAct, Cond.selects RX8 yX8_supposeAct yX8_supposeAct, Cond.code yX8_supposeAct cX8_supposeAct 3 (some .boolean), Cond.methodLink RX8 222 yX7_add, Cond.instanceMethod yX7_add, Cond.selects RX7 yX7_add yX7_add, Cond.code yX7_add cX7_add 2 (some .boolean), Cond.methodLink RX8 163 yX7_drop, Cond.instanceMethod yX7_drop, Cond.selects RX7 yX7_drop yX7_drop, Cond.code yX7_drop cX7_drop 2 (some .boolean), Cond.methodLink RX8 196 yX1_lead, Cond.instanceMethod yX1_lead, Cond.selects RX1 yX1_lead yX1_lead]
def wsX8_supposeActs_r3 : List Cond := [Cond.code yX1_lead cX1_lead 4 (some .boolean), Cond.methodLink RX1 25 yX1_placeOf, Cond.instanceMethod yX1_placeOf, Cond.selects RX1 yX1_placeOf yX1_placeOf, Cond.code yX1_placeOf cX1_placeOf 3 (some .int)]
def wsX8_supposeActs : List Cond := .code yX8_supposeActs cX8_supposeActs 5 (some .int) :: ((wsX8_supposeActs_r1 ++ (wsX8_supposeActs_r2 ++ wsX8_supposeActs_r3)) ++ wsX80 ++ wsX70 ++ wsX10 ++ wsX50)
def wsX8_ofSupposedDay_r1 : List Cond := [Cond.fieldLink RX8 70 "FontRuns" "supposedPreference" "LFontRuns$Preference;", Cond.fieldLink RX8 73 "FontRuns" "supposedSetting" "LFontRuns$Setting;", Cond.fieldLink RX8 67 "FontRuns" "supposedWriting" "LFontRuns$Writing;", Cond.fieldLink RX8 28 "FontRuns" "fontRow" "LFontRuns$FontRow;", Cond.fieldLink RX8 250 "FontRuns$Setting" "count" "I", Cond.fieldLink RX8 251 "FontRuns$Setting" "boxes" "I", Cond.methodLink RX8 125 yX1_placeOf, Cond.instanceMethod yX1_placeOf, Cond.selects RX1 yX1_placeOf yX1_placeOf, Cond.initialized RX1, Cond.code yX1_placeOf cX1_placeOf 3 (some .int), Cond.fieldLink RX1 21 "FontRuns$Preference" "count" "I", Cond.fieldLink RX1 9 "FontRuns$Preference" "row" "[I", Cond.methodLink RX8 227 yX0_all, Cond.instanceMethod yX0_all, Cond.selects RX0 yX0_all yX0_all, Cond.initialized RX0, Cond.code yX0_all cX0_all 1 (some .int), Cond.fieldLink RX0 21 "FontRuns$FontRow" "count" "I", Cond.methodLink RX8 231 yX4_make, Cond.instanceMethod yX4_make, Cond.selects RX4 yX4_make yX4_make, Cond.initialized RX4, Cond.code yX4_make cX4_make 5 none]
def wsX8_ofSupposedDay_r2 : List Cond := [Cond.methodLink RX4 35 yX4_cut, Cond.instanceMethod yX4_cut, Cond.selects RX4 yX4_cut yX4_cut, Cond.code yX4_cut cX4_cut 4 none, Cond.fieldLink RX4 51 "FontRuns$Setting" "count" "I", Cond.fieldLink RX4 74 "FontRuns$Writing" "count" "I", Cond.fieldLink RX4 77 "FontRuns$Writing" "row" "[I", Cond.fieldLink RX4 9 "FontRuns$Setting" "first" "[I", Cond.fieldLink RX4 15 "FontRuns$Setting" "length" "[I", Cond.fieldLink RX4 27 "FontRuns$Setting" "letters" "[I", Cond.methodLink RX4 39 yX4_findFitting, Cond.instanceMethod yX4_findFitting, Cond.selects RX4 yX4_findFitting yX4_findFitting, Cond.code yX4_findFitting cX4_findFitting 4 none, Cond.fieldLink RX4 80 "FontRuns$Setting" "boxes" "I", Cond.fieldLink RX4 18 "FontRuns$Setting" "fitting" "[I", Cond.methodLink RX4 83 yX0_fitting, Cond.instanceMethod yX0_fitting, Cond.selects RX0 yX0_fitting yX0_fitting, Cond.code yX0_fitting cX0_fitting 4 (some .int), Cond.fieldLink RX0 18 "FontRuns$FontRow" "has" "[I", Cond.methodLink RX4 43 yX4_findBehind, Cond.instanceMethod yX4_findBehind, Cond.selects RX4 yX4_findBehind yX4_findBehind]
def wsX8_ofSupposedDay_r3 : List Cond := [Cond.code yX4_findBehind cX4_findBehind 8 none, Cond.fieldLink RX4 32 "FontRuns$Setting" "behind" "[[I", Cond.methodLink RX4 85 Lib.Math.min.name, Cond.static Lib.Math.min.name, Cond.initialized "java/lang/Math", Cond.code Lib.Math.min.name Lib.Math.min.code 2 (some .int), Cond.methodLink RX4 47 yX4_choose, Cond.instanceMethod yX4_choose, Cond.selects RX4 yX4_choose yX4_choose, Cond.code yX4_choose cX4_choose 4 none, Cond.fieldLink RX4 59 "FontRuns$Setting" "runs" "I", Cond.fieldLink RX4 21 "FontRuns$Setting" "chosen" "[I", Cond.fieldLink RX4 24 "FontRuns$Setting" "runOf" "[I", Cond.methodLink RX4 88 yX4_firstOfBest, Cond.instanceMethod yX4_firstOfBest, Cond.selects RX4 yX4_firstOfBest yX4_firstOfBest, Cond.code yX4_firstOfBest cX4_firstOfBest 9 (some .int), Cond.fieldLink RX4 92 "FontRuns$Preference" "count" "I", Cond.fieldLink RX4 95 "FontRuns$Preference" "row" "[I", Cond.methodLink RX8 247 yX4_changes, Cond.instanceMethod yX4_changes, Cond.selects RX4 yX4_changes yX4_changes, Cond.code yX4_changes cX4_changes 1 (some .int), Cond.methodLink RX4 62 Lib.Math.max.name]
def wsX8_ofSupposedDay_r4 : List Cond := [Cond.static Lib.Math.max.name, Cond.code Lib.Math.max.name Lib.Math.max.code 2 (some .int), Cond.methodLink RX8 254 yX4_advance, Cond.instanceMethod yX4_advance, Cond.selects RX4 yX4_advance yX4_advance, Cond.code yX4_advance cX4_advance 4 (some .int), Cond.methodLink RX4 68 yX0_step, Cond.instanceMethod yX0_step, Cond.selects RX0 yX0_step yX0_step, Cond.code yX0_step cX0_step 2 (some .int), Cond.fieldLink RX0 9 "FontRuns$FontRow" "kind" "[I", Cond.fieldLink RX0 15 "FontRuns$FontRow" "breadth" "[I", Cond.methodLink RX0 29 yX0_isFont, Cond.instanceMethod yX0_isFont, Cond.selects RX0 yX0_isFont yX0_isFont, Cond.code yX0_isFont cX0_isFont 2 (some .boolean), Cond.static yX8_isWithin, Cond.initialized RX8, Cond.code yX8_isWithin cX8_isWithin 3 (some .boolean), Cond.static yX8_stepOf, Cond.code yX8_stepOf cX8_stepOf 2 (some .int)]
def wsX8_ofSupposedDay : List Cond := .code yX8_ofSupposedDay cX8_ofSupposedDay 2 (some .int) :: ((wsX8_ofSupposedDay_r1 ++ (wsX8_ofSupposedDay_r2 ++ (wsX8_ofSupposedDay_r3 ++ wsX8_ofSupposedDay_r4))) ++ wsX80 ++ wsX40 ++ wsX10 ++ wsX00 ++ wsX70)
def wsX8_day_r1 : List Cond := [Cond.fieldLink RX8 76 "FontRuns" "latestFault" "I", Cond.fieldLink RX8 13 "FontRuns" "sheets" "[LFontRuns$Sheet;", Cond.fieldLink RX8 28 "FontRuns" "fontRow" "LFontRuns$FontRow;", Cond.fieldLink RX8 106 "FontRuns$FontRow" "count" "I", Cond.methodLink RX8 80 yX8_isSheet, Cond.static yX8_isSheet, Cond.initialized RX8, Cond.code yX8_isSheet cX8_isSheet 1 (some .boolean), Cond.methodLink RX8 128 yX8_isWithin, Cond.static yX8_isWithin, Cond.code yX8_isWithin cX8_isWithin 3 (some .boolean), Cond.methodLink RX8 84 yX8_isLane, Cond.static yX8_isLane, Cond.code yX8_isLane cX8_isLane 1 (some .boolean), Cond.methodLink RX8 210 yX8_isOfDay, Cond.static yX8_isOfDay, Cond.code yX8_isOfDay cX8_isOfDay 1 (some .boolean), Cond.methodLink RX8 149 yX8_faultOfCells, Cond.static yX8_faultOfCells, Cond.code yX8_faultOfCells cX8_faultOfCells 5 (some .int), Cond.methodLink RX8 87 yX8_faultOfLane, Cond.static yX8_faultOfLane, Cond.code yX8_faultOfLane cX8_faultOfLane 2 (some .int), Cond.fieldLink RX8 288 "FontRuns$Sheet" "isThere" "Z"]
def wsX8_day_r2 : List Cond := [Cond.fieldLink RX8 301 "FontRuns$Sheet" "lane" "I", Cond.methodLink RX8 91 yX5_hasCells, Cond.instanceMethod yX5_hasCells, Cond.selects RX5 yX5_hasCells yX5_hasCells, Cond.initialized RX5, Cond.code yX5_hasCells cX5_hasCells 3 (some .boolean), Cond.fieldLink RX5 15 "FontRuns$Sheet" "isThere" "Z", Cond.fieldLink RX5 23 "FontRuns$Sheet" "size" "I", Cond.methodLink RX8 95 yX8_failWith, Cond.instanceMethod yX8_failWith, Cond.selects RX8 yX8_failWith yX8_failWith, Cond.code yX8_failWith cX8_failWith 2 (some .int), Cond.methodLink RX8 213 yX8_areActs, Cond.static yX8_areActs, Cond.code yX8_areActs cX8_areActs 4 (some .boolean), Cond.methodLink RX8 157 yX5_at, Cond.instanceMethod yX5_at, Cond.selects RX5 yX5_at yX5_at, Cond.code yX5_at cX5_at 2 (some .int), Cond.fieldLink RX5 9 "FontRuns$Sheet" "cells" "[I", Cond.methodLink RX5 30 yX5_hasCell, Cond.instanceMethod yX5_hasCell, Cond.selects RX5 yX5_hasCell yX5_hasCell, Cond.code yX5_hasCell cX5_hasCell 2 (some .boolean)]
def wsX8_day_r3 : List Cond := [Cond.methodLink RX8 235 yX8_isAct, Cond.static yX8_isAct, Cond.code yX8_isAct cX8_isAct 2 (some .boolean), Cond.methodLink RX8 216 yX8_supposeActs, Cond.instanceMethod yX8_supposeActs, Cond.selects RX8 yX8_supposeActs yX8_supposeActs, Cond.code yX8_supposeActs cX8_supposeActs 5 (some .int), Cond.fieldLink RX8 67 "FontRuns" "supposedWriting" "LFontRuns$Writing;", Cond.fieldLink RX8 35 "FontRuns" "writing" "LFontRuns$Writing;", Cond.fieldLink RX8 70 "FontRuns" "supposedPreference" "LFontRuns$Preference;", Cond.fieldLink RX8 42 "FontRuns" "preference" "LFontRuns$Preference;", Cond.methodLink RX8 238 yX7_takeFrom, Cond.instanceMethod yX7_takeFrom, Cond.selects RX7 yX7_takeFrom yX7_takeFrom, Cond.initialized RX7, Cond.code yX7_takeFrom cX7_takeFrom 3 none, Cond.fieldLink RX7 15 "FontRuns$Writing" "count" "I", Cond.fieldLink RX7 9 "FontRuns$Writing" "row" "[I", Cond.methodLink RX8 241 yX1_takeFrom, Cond.instanceMethod yX1_takeFrom, Cond.selects RX1 yX1_takeFrom yX1_takeFrom, Cond.initialized RX1, Cond.code yX1_takeFrom cX1_takeFrom 3 none, Cond.fieldLink RX1 21 "FontRuns$Preference" "count" "I"]
def wsX8_day_r4 : List Cond := [Cond.fieldLink RX1 9 "FontRuns$Preference" "row" "[I", Cond.methodLink RX8 244 yX8_supposeAct, Cond.instanceMethod yX8_supposeAct, Cond.selects RX8 yX8_supposeAct yX8_supposeAct, Cond.code yX8_supposeAct cX8_supposeAct 3 (some .boolean), Cond.methodLink RX8 222 yX7_add, Cond.instanceMethod yX7_add, Cond.selects RX7 yX7_add yX7_add, Cond.code yX7_add cX7_add 2 (some .boolean), Cond.methodLink RX8 163 yX7_drop, Cond.instanceMethod yX7_drop, Cond.selects RX7 yX7_drop yX7_drop, Cond.code yX7_drop cX7_drop 2 (some .boolean), Cond.methodLink RX8 196 yX1_lead, Cond.instanceMethod yX1_lead, Cond.selects RX1 yX1_lead yX1_lead, Cond.code yX1_lead cX1_lead 4 (some .boolean), Cond.methodLink RX1 25 yX1_placeOf, Cond.instanceMethod yX1_placeOf, Cond.selects RX1 yX1_placeOf yX1_placeOf, Cond.code yX1_placeOf cX1_placeOf 3 (some .int), Cond.methodLink RX8 219 yX8_ofSupposedDay, Cond.instanceMethod yX8_ofSupposedDay, Cond.selects RX8 yX8_ofSupposedDay yX8_ofSupposedDay]
def wsX8_day_r5 : List Cond := [Cond.code yX8_ofSupposedDay cX8_ofSupposedDay 2 (some .int), Cond.fieldLink RX8 73 "FontRuns" "supposedSetting" "LFontRuns$Setting;", Cond.fieldLink RX8 250 "FontRuns$Setting" "count" "I", Cond.fieldLink RX8 251 "FontRuns$Setting" "boxes" "I", Cond.methodLink RX8 125 yX1_placeOf, Cond.methodLink RX8 227 yX0_all, Cond.instanceMethod yX0_all, Cond.selects RX0 yX0_all yX0_all, Cond.initialized RX0, Cond.code yX0_all cX0_all 1 (some .int), Cond.fieldLink RX0 21 "FontRuns$FontRow" "count" "I", Cond.methodLink RX8 231 yX4_make, Cond.instanceMethod yX4_make, Cond.selects RX4 yX4_make yX4_make, Cond.initialized RX4, Cond.code yX4_make cX4_make 5 none, Cond.methodLink RX4 35 yX4_cut, Cond.instanceMethod yX4_cut, Cond.selects RX4 yX4_cut yX4_cut, Cond.code yX4_cut cX4_cut 4 none, Cond.fieldLink RX4 51 "FontRuns$Setting" "count" "I", Cond.fieldLink RX4 74 "FontRuns$Writing" "count" "I", Cond.fieldLink RX4 77 "FontRuns$Writing" "row" "[I", Cond.fieldLink RX4 9 "FontRuns$Setting" "first" "[I"]
def wsX8_day_r6 : List Cond := [Cond.fieldLink RX4 15 "FontRuns$Setting" "length" "[I", Cond.fieldLink RX4 27 "FontRuns$Setting" "letters" "[I", Cond.methodLink RX4 39 yX4_findFitting, Cond.instanceMethod yX4_findFitting, Cond.selects RX4 yX4_findFitting yX4_findFitting, Cond.code yX4_findFitting cX4_findFitting 4 none, Cond.fieldLink RX4 80 "FontRuns$Setting" "boxes" "I", Cond.fieldLink RX4 18 "FontRuns$Setting" "fitting" "[I", Cond.methodLink RX4 83 yX0_fitting, Cond.instanceMethod yX0_fitting, Cond.selects RX0 yX0_fitting yX0_fitting, Cond.code yX0_fitting cX0_fitting 4 (some .int), Cond.fieldLink RX0 18 "FontRuns$FontRow" "has" "[I", Cond.methodLink RX4 43 yX4_findBehind, Cond.instanceMethod yX4_findBehind, Cond.selects RX4 yX4_findBehind yX4_findBehind, Cond.code yX4_findBehind cX4_findBehind 8 none, Cond.fieldLink RX4 32 "FontRuns$Setting" "behind" "[[I", Cond.methodLink RX4 85 Lib.Math.min.name, Cond.static Lib.Math.min.name, Cond.initialized "java/lang/Math", Cond.code Lib.Math.min.name Lib.Math.min.code 2 (some .int), Cond.methodLink RX4 47 yX4_choose, Cond.instanceMethod yX4_choose]
def wsX8_day_r7 : List Cond := [Cond.selects RX4 yX4_choose yX4_choose, Cond.code yX4_choose cX4_choose 4 none, Cond.fieldLink RX4 59 "FontRuns$Setting" "runs" "I", Cond.fieldLink RX4 21 "FontRuns$Setting" "chosen" "[I", Cond.fieldLink RX4 24 "FontRuns$Setting" "runOf" "[I", Cond.methodLink RX4 88 yX4_firstOfBest, Cond.instanceMethod yX4_firstOfBest, Cond.selects RX4 yX4_firstOfBest yX4_firstOfBest, Cond.code yX4_firstOfBest cX4_firstOfBest 9 (some .int), Cond.fieldLink RX4 92 "FontRuns$Preference" "count" "I", Cond.fieldLink RX4 95 "FontRuns$Preference" "row" "[I", Cond.methodLink RX8 247 yX4_changes, Cond.instanceMethod yX4_changes, Cond.selects RX4 yX4_changes yX4_changes, Cond.code yX4_changes cX4_changes 1 (some .int), Cond.methodLink RX4 62 Lib.Math.max.name, Cond.static Lib.Math.max.name, Cond.code Lib.Math.max.name Lib.Math.max.code 2 (some .int), Cond.methodLink RX8 254 yX4_advance, Cond.instanceMethod yX4_advance, Cond.selects RX4 yX4_advance yX4_advance, Cond.code yX4_advance cX4_advance 4 (some .int), Cond.methodLink RX4 68 yX0_step, Cond.instanceMethod yX0_step]
def wsX8_day_r8 : List Cond := [Cond.selects RX0 yX0_step yX0_step, Cond.code yX0_step cX0_step 2 (some .int), Cond.fieldLink RX0 9 "FontRuns$FontRow" "kind" "[I", Cond.fieldLink RX0 15 "FontRuns$FontRow" "breadth" "[I", Cond.methodLink RX0 29 yX0_isFont, Cond.instanceMethod yX0_isFont, Cond.selects RX0 yX0_isFont yX0_isFont, Cond.code yX0_isFont cX0_isFont 2 (some .boolean), Cond.static yX8_stepOf, Cond.code yX8_stepOf cX8_stepOf 2 (some .int)]
def wsX8_day : List Cond := .code yX8_day cX8_day 9 (some .int) :: ((wsX8_day_r1 ++ (wsX8_day_r2 ++ (wsX8_day_r3 ++ (wsX8_day_r4 ++ (wsX8_day_r5 ++ (wsX8_day_r6 ++ (wsX8_day_r7 ++ wsX8_day_r8))))))) ++ wsX80 ++ wsX00 ++ wsX50 ++ wsX70 ++ wsX10 ++ wsX40)
def wsX8_best_r1 : List Cond := [Cond.fieldLink RX8 28 "FontRuns" "fontRow" "LFontRuns$FontRow;", Cond.fieldLink RX8 106 "FontRuns$FontRow" "count" "I", Cond.fieldLink RX8 56 "FontRuns" "setting" "LFontRuns$Setting;", Cond.fieldLink RX8 187 "FontRuns$Setting" "runs" "I", Cond.fieldLink RX8 251 "FontRuns$Setting" "boxes" "I", Cond.methodLink RX8 128 yX8_isWithin, Cond.static yX8_isWithin, Cond.initialized RX8, Cond.code yX8_isWithin cX8_isWithin 3 (some .boolean), Cond.methodLink RX8 247 yX4_changes, Cond.instanceMethod yX4_changes, Cond.selects RX4 yX4_changes yX4_changes, Cond.initialized RX4, Cond.code yX4_changes cX4_changes 1 (some .int), Cond.fieldLink RX4 59 "FontRuns$Setting" "runs" "I", Cond.methodLink RX4 62 Lib.Math.max.name, Cond.static Lib.Math.max.name, Cond.initialized "java/lang/Math", Cond.code Lib.Math.max.name Lib.Math.max.code 2 (some .int), Cond.methodLink RX8 254 yX4_advance, Cond.instanceMethod yX4_advance, Cond.selects RX4 yX4_advance yX4_advance, Cond.code yX4_advance cX4_advance 4 (some .int), Cond.fieldLink RX4 51 "FontRuns$Setting" "count" "I"]
def wsX8_best_r2 : List Cond := [Cond.fieldLink RX4 21 "FontRuns$Setting" "chosen" "[I", Cond.methodLink RX4 68 yX0_step, Cond.instanceMethod yX0_step, Cond.selects RX0 yX0_step yX0_step, Cond.initialized RX0, Cond.code yX0_step cX0_step 2 (some .int), Cond.fieldLink RX0 9 "FontRuns$FontRow" "kind" "[I", Cond.fieldLink RX0 15 "FontRuns$FontRow" "breadth" "[I", Cond.methodLink RX0 29 yX0_isFont, Cond.instanceMethod yX0_isFont, Cond.selects RX0 yX0_isFont yX0_isFont, Cond.code yX0_isFont cX0_isFont 2 (some .boolean), Cond.fieldLink RX0 21 "FontRuns$FontRow" "count" "I", Cond.static yX8_stepOf, Cond.code yX8_stepOf cX8_stepOf 2 (some .int)]
def wsX8_best : List Cond := .code yX8_best cX8_best 2 (some .int) :: ((wsX8_best_r1 ++ wsX8_best_r2) ++ wsX80 ++ wsX00 ++ wsX40)
def wsX8_without_r1 : List Cond := [Cond.fieldLink RX8 28 "FontRuns" "fontRow" "LFontRuns$FontRow;", Cond.fieldLink RX8 106 "FontRuns$FontRow" "count" "I", Cond.fieldLink RX8 73 "FontRuns" "supposedSetting" "LFontRuns$Setting;", Cond.fieldLink RX8 35 "FontRuns" "writing" "LFontRuns$Writing;", Cond.fieldLink RX8 42 "FontRuns" "preference" "LFontRuns$Preference;", Cond.methodLink RX8 109 yX0_isFont, Cond.instanceMethod yX0_isFont, Cond.selects RX0 yX0_isFont yX0_isFont, Cond.initialized RX0, Cond.code yX0_isFont cX0_isFont 2 (some .boolean), Cond.fieldLink RX0 21 "FontRuns$FontRow" "count" "I", Cond.static yX8_isWithin, Cond.initialized RX8, Cond.code yX8_isWithin cX8_isWithin 3 (some .boolean), Cond.methodLink RX8 227 yX0_all, Cond.instanceMethod yX0_all, Cond.selects RX0 yX0_all yX0_all, Cond.code yX0_all cX0_all 1 (some .int), Cond.methodLink RX8 231 yX4_make, Cond.instanceMethod yX4_make, Cond.selects RX4 yX4_make yX4_make, Cond.initialized RX4, Cond.code yX4_make cX4_make 5 none, Cond.methodLink RX4 35 yX4_cut]
def wsX8_without_r2 : List Cond := [Cond.instanceMethod yX4_cut, Cond.selects RX4 yX4_cut yX4_cut, Cond.code yX4_cut cX4_cut 4 none, Cond.fieldLink RX4 51 "FontRuns$Setting" "count" "I", Cond.fieldLink RX4 74 "FontRuns$Writing" "count" "I", Cond.fieldLink RX4 77 "FontRuns$Writing" "row" "[I", Cond.fieldLink RX4 9 "FontRuns$Setting" "first" "[I", Cond.fieldLink RX4 15 "FontRuns$Setting" "length" "[I", Cond.fieldLink RX4 27 "FontRuns$Setting" "letters" "[I", Cond.methodLink RX4 39 yX4_findFitting, Cond.instanceMethod yX4_findFitting, Cond.selects RX4 yX4_findFitting yX4_findFitting, Cond.code yX4_findFitting cX4_findFitting 4 none, Cond.fieldLink RX4 80 "FontRuns$Setting" "boxes" "I", Cond.fieldLink RX4 18 "FontRuns$Setting" "fitting" "[I", Cond.methodLink RX4 83 yX0_fitting, Cond.instanceMethod yX0_fitting, Cond.selects RX0 yX0_fitting yX0_fitting, Cond.code yX0_fitting cX0_fitting 4 (some .int), Cond.fieldLink RX0 18 "FontRuns$FontRow" "has" "[I", Cond.methodLink RX4 43 yX4_findBehind, Cond.instanceMethod yX4_findBehind, Cond.selects RX4 yX4_findBehind yX4_findBehind, Cond.code yX4_findBehind cX4_findBehind 8 none]
def wsX8_without_r3 : List Cond := [Cond.fieldLink RX4 32 "FontRuns$Setting" "behind" "[[I", Cond.methodLink RX4 85 Lib.Math.min.name, Cond.static Lib.Math.min.name, Cond.initialized "java/lang/Math", Cond.code Lib.Math.min.name Lib.Math.min.code 2 (some .int), Cond.methodLink RX4 47 yX4_choose, Cond.instanceMethod yX4_choose, Cond.selects RX4 yX4_choose yX4_choose, Cond.code yX4_choose cX4_choose 4 none, Cond.fieldLink RX4 59 "FontRuns$Setting" "runs" "I", Cond.fieldLink RX4 21 "FontRuns$Setting" "chosen" "[I", Cond.fieldLink RX4 24 "FontRuns$Setting" "runOf" "[I", Cond.methodLink RX4 88 yX4_firstOfBest, Cond.instanceMethod yX4_firstOfBest, Cond.selects RX4 yX4_firstOfBest yX4_firstOfBest, Cond.code yX4_firstOfBest cX4_firstOfBest 9 (some .int), Cond.fieldLink RX4 92 "FontRuns$Preference" "count" "I", Cond.fieldLink RX4 95 "FontRuns$Preference" "row" "[I", Cond.methodLink RX8 247 yX4_changes, Cond.instanceMethod yX4_changes, Cond.selects RX4 yX4_changes yX4_changes, Cond.code yX4_changes cX4_changes 1 (some .int), Cond.methodLink RX4 62 Lib.Math.max.name, Cond.static Lib.Math.max.name]
def wsX8_without_r4 : List Cond := [Cond.code Lib.Math.max.name Lib.Math.max.code 2 (some .int)]
def wsX8_without : List Cond := .code yX8_without cX8_without 2 (some .int) :: ((wsX8_without_r1 ++ (wsX8_without_r2 ++ (wsX8_without_r3 ++ wsX8_without_r4))) ++ wsX80 ++ wsX00 ++ wsX40 ++ wsX70 ++ wsX10)
def wsX8_leastEnough : List Cond := .code yX8_leastEnough cX8_leastEnough 3 (some .int) :: ([.fieldLink RX8 28 "FontRuns" "fontRow" "LFontRuns$FontRow;", .fieldLink RX8 56 "FontRuns" "setting" "LFontRuns$Setting;", .methodLink RX8 227 yX0_all, .instanceMethod yX0_all, .selects RX0 yX0_all yX0_all, .initialized RX0, .code yX0_all cX0_all 1 (some .int), .fieldLink RX0 21 "FontRuns$FontRow" "count" "I", .methodLink RX8 266 yX4_isServedBy, .instanceMethod yX4_isServedBy, .selects RX4 yX4_isServedBy yX4_isServedBy, .initialized RX4, .code yX4_isServedBy cX4_isServedBy 3 (some .boolean), .fieldLink RX4 51 "FontRuns$Setting" "count" "I", .fieldLink RX4 18 "FontRuns$Setting" "fitting" "[I", .methodLink RX8 261 yJ6_bitCount_0f7a4, .static yJ6_bitCount_0f7a4, .initialized RJ6, .code yJ6_bitCount_0f7a4 cJ6_bitCount_0f7a4 1 (some .int), .constant RJ6 265 (1431655765), .constant RJ6 266 (858993459), .constant RJ6 267 (252645135)] ++ wsX80 ++ wsX00 ++ wsX40)
def wsX8_enough_r1 : List Cond := [Cond.fieldLink RX8 28 "FontRuns" "fontRow" "LFontRuns$FontRow;", Cond.fieldLink RX8 106 "FontRuns$FontRow" "count" "I", Cond.methodLink RX8 128 yX8_isWithin, Cond.static yX8_isWithin, Cond.initialized RX8, Cond.code yX8_isWithin cX8_isWithin 3 (some .boolean), Cond.methodLink RX8 258 yX8_leastEnough, Cond.instanceMethod yX8_leastEnough, Cond.selects RX8 yX8_leastEnough yX8_leastEnough, Cond.code yX8_leastEnough cX8_leastEnough 3 (some .int), Cond.fieldLink RX8 56 "FontRuns" "setting" "LFontRuns$Setting;", Cond.methodLink RX8 227 yX0_all, Cond.instanceMethod yX0_all, Cond.selects RX0 yX0_all yX0_all, Cond.initialized RX0, Cond.code yX0_all cX0_all 1 (some .int), Cond.fieldLink RX0 21 "FontRuns$FontRow" "count" "I", Cond.methodLink RX8 266 yX4_isServedBy, Cond.instanceMethod yX4_isServedBy, Cond.selects RX4 yX4_isServedBy yX4_isServedBy, Cond.initialized RX4, Cond.code yX4_isServedBy cX4_isServedBy 3 (some .boolean), Cond.fieldLink RX4 51 "FontRuns$Setting" "count" "I", Cond.fieldLink RX4 18 "FontRuns$Setting" "fitting" "[I"]
def wsX8_enough_r2 : List Cond := [Cond.methodLink RX8 261 yJ6_bitCount_0f7a4, Cond.static yJ6_bitCount_0f7a4, Cond.initialized RJ6, Cond.code yJ6_bitCount_0f7a4 cJ6_bitCount_0f7a4 1 (some .int), Cond.constant RJ6 265 (1431655765), Cond.constant RJ6 266 (858993459), Cond.constant RJ6 267 (252645135)]
def wsX8_enough : List Cond := .code yX8_enough cX8_enough 3 (some .int) :: ((wsX8_enough_r1 ++ wsX8_enough_r2) ++ wsX80 ++ wsX00 ++ wsX40)
def wsX8_reading : List Cond := .code yX8_reading cX8_reading 3 (some .int) :: ([.fieldLink RX8 28 "FontRuns" "fontRow" "LFontRuns$FontRow;", .fieldLink RX8 106 "FontRuns$FontRow" "count" "I", .fieldLink RX8 63 "FontRuns" "readings" "LFontRuns$Readings;", .fieldLink RX8 145 "FontRuns$Readings" "count" "I", .fieldLink RX8 56 "FontRuns" "setting" "LFontRuns$Setting;", .methodLink RX8 128 yX8_isWithin, .static yX8_isWithin, .initialized RX8, .code yX8_isWithin cX8_isWithin 3 (some .boolean), .methodLink RX8 269 yX2_add, .instanceMethod yX2_add, .selects RX2 yX2_add yX2_add, .initialized RX2, .code yX2_add cX2_add 4 (some .boolean), .fieldLink RX2 20 "FontRuns$Readings" "count" "I", .fieldLink RX2 9 "FontRuns$Readings" "value" "[I", .fieldLink RX2 17 "FontRuns$Readings" "clusters" "[[I", .methodLink RX2 28 yX4_clustersIn, .instanceMethod yX4_clustersIn, .selects RX4 yX4_clustersIn yX4_clustersIn, .initialized RX4, .code yX4_clustersIn cX4_clustersIn 4 (some .int), .fieldLink RX4 51 "FontRuns$Setting" "count" "I", .fieldLink RX4 21 "FontRuns$Setting" "chosen" "[I"] ++ wsX80 ++ wsX00 ++ wsX20 ++ wsX40)
def wsX8_back : List Cond := .code yX8_back cX8_back 2 (some .int) :: ([.fieldLink RX8 63 "FontRuns" "readings" "LFontRuns$Readings;", .fieldLink RX8 145 "FontRuns$Readings" "count" "I", .methodLink RX8 128 yX8_isWithin, .static yX8_isWithin, .initialized RX8, .code yX8_isWithin cX8_isWithin 3 (some .boolean)] ++ wsX80 ++ wsX20)
def wsX8_kinds_r1 : List Cond := [Cond.fieldLink RX8 28 "FontRuns" "fontRow" "LFontRuns$FontRow;", Cond.fieldLink RX8 63 "FontRuns" "readings" "LFontRuns$Readings;", Cond.fieldLink RX8 116 "FontRuns$FontRow" "breadth" "[I", Cond.methodLink RX8 109 yX0_isFont, Cond.instanceMethod yX0_isFont, Cond.selects RX0 yX0_isFont yX0_isFont, Cond.initialized RX0, Cond.code yX0_isFont cX0_isFont 2 (some .boolean), Cond.fieldLink RX0 21 "FontRuns$FontRow" "count" "I", Cond.static yX8_isWithin, Cond.initialized RX8, Cond.code yX8_isWithin cX8_isWithin 3 (some .boolean), Cond.methodLink RX8 272 yX8_stepOf, Cond.static yX8_stepOf, Cond.code yX8_stepOf cX8_stepOf 2 (some .int), Cond.methodLink RX8 276 yX2_areSo, Cond.instanceMethod yX2_areSo, Cond.selects RX2 yX2_areSo yX2_areSo, Cond.initialized RX2, Cond.code yX2_areSo cX2_areSo 7 (some .boolean), Cond.fieldLink RX2 20 "FontRuns$Readings" "count" "I", Cond.fieldLink RX2 34 "FontRuns$FontRow" "count" "I", Cond.fieldLink RX2 17 "FontRuns$Readings" "clusters" "[[I", Cond.fieldLink RX2 9 "FontRuns$Readings" "value" "[I"]
def wsX8_kinds_r2 : List Cond := [Cond.methodLink RX2 37 yX0_step, Cond.instanceMethod yX0_step, Cond.selects RX0 yX0_step yX0_step, Cond.code yX0_step cX0_step 2 (some .int), Cond.fieldLink RX0 9 "FontRuns$FontRow" "kind" "[I", Cond.fieldLink RX0 15 "FontRuns$FontRow" "breadth" "[I", Cond.methodLink RX0 29 yX0_isFont]
def wsX8_kinds : List Cond := .code yX8_kinds cX8_kinds 4 (some .int) :: ((wsX8_kinds_r1 ++ wsX8_kinds_r2) ++ wsX80 ++ wsX00 ++ wsX20)
def wsX8_widths_r1 : List Cond := [Cond.fieldLink RX8 28 "FontRuns" "fontRow" "LFontRuns$FontRow;", Cond.fieldLink RX8 63 "FontRuns" "readings" "LFontRuns$Readings;", Cond.fieldLink RX8 112 "FontRuns$FontRow" "kind" "[I", Cond.methodLink RX8 109 yX0_isFont, Cond.instanceMethod yX0_isFont, Cond.selects RX0 yX0_isFont yX0_isFont, Cond.initialized RX0, Cond.code yX0_isFont cX0_isFont 2 (some .boolean), Cond.fieldLink RX0 21 "FontRuns$FontRow" "count" "I", Cond.static yX8_isWithin, Cond.initialized RX8, Cond.code yX8_isWithin cX8_isWithin 3 (some .boolean), Cond.methodLink RX8 272 yX8_stepOf, Cond.static yX8_stepOf, Cond.code yX8_stepOf cX8_stepOf 2 (some .int), Cond.methodLink RX8 276 yX2_areSo, Cond.instanceMethod yX2_areSo, Cond.selects RX2 yX2_areSo yX2_areSo, Cond.initialized RX2, Cond.code yX2_areSo cX2_areSo 7 (some .boolean), Cond.fieldLink RX2 20 "FontRuns$Readings" "count" "I", Cond.fieldLink RX2 34 "FontRuns$FontRow" "count" "I", Cond.fieldLink RX2 17 "FontRuns$Readings" "clusters" "[[I", Cond.fieldLink RX2 9 "FontRuns$Readings" "value" "[I"]
def wsX8_widths_r2 : List Cond := [Cond.methodLink RX2 37 yX0_step, Cond.instanceMethod yX0_step, Cond.selects RX0 yX0_step yX0_step, Cond.code yX0_step cX0_step 2 (some .int), Cond.fieldLink RX0 9 "FontRuns$FontRow" "kind" "[I", Cond.fieldLink RX0 15 "FontRuns$FontRow" "breadth" "[I", Cond.methodLink RX0 29 yX0_isFont]
def wsX8_widths : List Cond := .code yX8_widths cX8_widths 4 (some .int) :: ((wsX8_widths_r1 ++ wsX8_widths_r2) ++ wsX80 ++ wsX00 ++ wsX20)
def wsX8_lettersWithChanges_r1 : List Cond := [Cond.fieldLink RX8 67 "FontRuns" "supposedWriting" "LFontRuns$Writing;", Cond.fieldLink RX8 35 "FontRuns" "writing" "LFontRuns$Writing;", Cond.fieldLink RX8 73 "FontRuns" "supposedSetting" "LFontRuns$Setting;", Cond.fieldLink RX8 28 "FontRuns" "fontRow" "LFontRuns$FontRow;", Cond.fieldLink RX8 42 "FontRuns" "preference" "LFontRuns$Preference;", Cond.methodLink RX8 238 yX7_takeFrom, Cond.instanceMethod yX7_takeFrom, Cond.selects RX7 yX7_takeFrom yX7_takeFrom, Cond.initialized RX7, Cond.code yX7_takeFrom cX7_takeFrom 3 none, Cond.fieldLink RX7 15 "FontRuns$Writing" "count" "I", Cond.fieldLink RX7 9 "FontRuns$Writing" "row" "[I", Cond.methodLink RX8 222 yX7_add, Cond.instanceMethod yX7_add, Cond.selects RX7 yX7_add yX7_add, Cond.code yX7_add cX7_add 2 (some .boolean), Cond.static yX8_isWithin, Cond.initialized RX8, Cond.code yX8_isWithin cX8_isWithin 3 (some .boolean), Cond.methodLink RX8 227 yX0_all, Cond.instanceMethod yX0_all, Cond.selects RX0 yX0_all yX0_all, Cond.initialized RX0, Cond.code yX0_all cX0_all 1 (some .int)]
def wsX8_lettersWithChanges_r2 : List Cond := [Cond.fieldLink RX0 21 "FontRuns$FontRow" "count" "I", Cond.methodLink RX8 231 yX4_make, Cond.instanceMethod yX4_make, Cond.selects RX4 yX4_make yX4_make, Cond.initialized RX4, Cond.code yX4_make cX4_make 5 none, Cond.methodLink RX4 35 yX4_cut, Cond.instanceMethod yX4_cut, Cond.selects RX4 yX4_cut yX4_cut, Cond.code yX4_cut cX4_cut 4 none, Cond.fieldLink RX4 51 "FontRuns$Setting" "count" "I", Cond.fieldLink RX4 74 "FontRuns$Writing" "count" "I", Cond.fieldLink RX4 77 "FontRuns$Writing" "row" "[I", Cond.fieldLink RX4 9 "FontRuns$Setting" "first" "[I", Cond.fieldLink RX4 15 "FontRuns$Setting" "length" "[I", Cond.fieldLink RX4 27 "FontRuns$Setting" "letters" "[I", Cond.methodLink RX4 39 yX4_findFitting, Cond.instanceMethod yX4_findFitting, Cond.selects RX4 yX4_findFitting yX4_findFitting, Cond.code yX4_findFitting cX4_findFitting 4 none, Cond.fieldLink RX4 80 "FontRuns$Setting" "boxes" "I", Cond.fieldLink RX4 18 "FontRuns$Setting" "fitting" "[I", Cond.methodLink RX4 83 yX0_fitting, Cond.instanceMethod yX0_fitting]
def wsX8_lettersWithChanges_r3 : List Cond := [Cond.selects RX0 yX0_fitting yX0_fitting, Cond.code yX0_fitting cX0_fitting 4 (some .int), Cond.fieldLink RX0 18 "FontRuns$FontRow" "has" "[I", Cond.methodLink RX4 43 yX4_findBehind, Cond.instanceMethod yX4_findBehind, Cond.selects RX4 yX4_findBehind yX4_findBehind, Cond.code yX4_findBehind cX4_findBehind 8 none, Cond.fieldLink RX4 32 "FontRuns$Setting" "behind" "[[I", Cond.methodLink RX4 85 Lib.Math.min.name, Cond.static Lib.Math.min.name, Cond.initialized "java/lang/Math", Cond.code Lib.Math.min.name Lib.Math.min.code 2 (some .int), Cond.methodLink RX4 47 yX4_choose, Cond.instanceMethod yX4_choose, Cond.selects RX4 yX4_choose yX4_choose, Cond.code yX4_choose cX4_choose 4 none, Cond.fieldLink RX4 59 "FontRuns$Setting" "runs" "I", Cond.fieldLink RX4 21 "FontRuns$Setting" "chosen" "[I", Cond.fieldLink RX4 24 "FontRuns$Setting" "runOf" "[I", Cond.methodLink RX4 88 yX4_firstOfBest, Cond.instanceMethod yX4_firstOfBest, Cond.selects RX4 yX4_firstOfBest yX4_firstOfBest, Cond.code yX4_firstOfBest cX4_firstOfBest 9 (some .int), Cond.fieldLink RX4 92 "FontRuns$Preference" "count" "I"]
def wsX8_lettersWithChanges_r4 : List Cond := [Cond.fieldLink RX4 95 "FontRuns$Preference" "row" "[I", Cond.methodLink RX8 247 yX4_changes, Cond.instanceMethod yX4_changes, Cond.selects RX4 yX4_changes yX4_changes, Cond.code yX4_changes cX4_changes 1 (some .int), Cond.methodLink RX4 62 Lib.Math.max.name, Cond.static Lib.Math.max.name, Cond.code Lib.Math.max.name Lib.Math.max.code 2 (some .int)]
def wsX8_lettersWithChanges : List Cond := .code yX8_lettersWithChanges cX8_lettersWithChanges 4 (some .int) :: ((wsX8_lettersWithChanges_r1 ++ (wsX8_lettersWithChanges_r2 ++ (wsX8_lettersWithChanges_r3 ++ wsX8_lettersWithChanges_r4))) ++ wsX80 ++ wsX70 ++ wsX00 ++ wsX40 ++ wsX10)
def wsX8_odds_r1 : List Cond := [Cond.constantLong RX8 280 (-9223372036854775808), Cond.fieldLink RX8 28 "FontRuns" "fontRow" "LFontRuns$FontRow;", Cond.fieldLink RX8 106 "FontRuns$FontRow" "count" "I", Cond.fieldLink RX8 35 "FontRuns" "writing" "LFontRuns$Writing;", Cond.fieldLink RX8 139 "FontRuns$Writing" "count" "I", Cond.methodLink RX8 128 yX8_isWithin, Cond.static yX8_isWithin, Cond.initialized RX8, Cond.code yX8_isWithin cX8_isWithin 3 (some .boolean), Cond.methodLink RX8 282 yX8_lettersWithChanges, Cond.instanceMethod yX8_lettersWithChanges, Cond.selects RX8 yX8_lettersWithChanges yX8_lettersWithChanges, Cond.code yX8_lettersWithChanges cX8_lettersWithChanges 4 (some .int), Cond.fieldLink RX8 67 "FontRuns" "supposedWriting" "LFontRuns$Writing;", Cond.fieldLink RX8 73 "FontRuns" "supposedSetting" "LFontRuns$Setting;", Cond.fieldLink RX8 42 "FontRuns" "preference" "LFontRuns$Preference;", Cond.methodLink RX8 238 yX7_takeFrom, Cond.instanceMethod yX7_takeFrom, Cond.selects RX7 yX7_takeFrom yX7_takeFrom, Cond.initialized RX7, Cond.code yX7_takeFrom cX7_takeFrom 3 none, Cond.fieldLink RX7 15 "FontRuns$Writing" "count" "I", Cond.fieldLink RX7 9 "FontRuns$Writing" "row" "[I", Cond.methodLink RX8 222 yX7_add]
def wsX8_odds_r2 : List Cond := [Cond.instanceMethod yX7_add, Cond.selects RX7 yX7_add yX7_add, Cond.code yX7_add cX7_add 2 (some .boolean), Cond.methodLink RX8 227 yX0_all, Cond.instanceMethod yX0_all, Cond.selects RX0 yX0_all yX0_all, Cond.initialized RX0, Cond.code yX0_all cX0_all 1 (some .int), Cond.fieldLink RX0 21 "FontRuns$FontRow" "count" "I", Cond.methodLink RX8 231 yX4_make, Cond.instanceMethod yX4_make, Cond.selects RX4 yX4_make yX4_make, Cond.initialized RX4, Cond.code yX4_make cX4_make 5 none, Cond.methodLink RX4 35 yX4_cut, Cond.instanceMethod yX4_cut, Cond.selects RX4 yX4_cut yX4_cut, Cond.code yX4_cut cX4_cut 4 none, Cond.fieldLink RX4 51 "FontRuns$Setting" "count" "I", Cond.fieldLink RX4 74 "FontRuns$Writing" "count" "I", Cond.fieldLink RX4 77 "FontRuns$Writing" "row" "[I", Cond.fieldLink RX4 9 "FontRuns$Setting" "first" "[I", Cond.fieldLink RX4 15 "FontRuns$Setting" "length" "[I", Cond.fieldLink RX4 27 "FontRuns$Setting" "letters" "[I"]
def wsX8_odds_r3 : List Cond := [Cond.methodLink RX4 39 yX4_findFitting, Cond.instanceMethod yX4_findFitting, Cond.selects RX4 yX4_findFitting yX4_findFitting, Cond.code yX4_findFitting cX4_findFitting 4 none, Cond.fieldLink RX4 80 "FontRuns$Setting" "boxes" "I", Cond.fieldLink RX4 18 "FontRuns$Setting" "fitting" "[I", Cond.methodLink RX4 83 yX0_fitting, Cond.instanceMethod yX0_fitting, Cond.selects RX0 yX0_fitting yX0_fitting, Cond.code yX0_fitting cX0_fitting 4 (some .int), Cond.fieldLink RX0 18 "FontRuns$FontRow" "has" "[I", Cond.methodLink RX4 43 yX4_findBehind, Cond.instanceMethod yX4_findBehind, Cond.selects RX4 yX4_findBehind yX4_findBehind, Cond.code yX4_findBehind cX4_findBehind 8 none, Cond.fieldLink RX4 32 "FontRuns$Setting" "behind" "[[I", Cond.methodLink RX4 85 Lib.Math.min.name, Cond.static Lib.Math.min.name, Cond.initialized "java/lang/Math", Cond.code Lib.Math.min.name Lib.Math.min.code 2 (some .int), Cond.methodLink RX4 47 yX4_choose, Cond.instanceMethod yX4_choose, Cond.selects RX4 yX4_choose yX4_choose, Cond.code yX4_choose cX4_choose 4 none]
def wsX8_odds_r4 : List Cond := [Cond.fieldLink RX4 59 "FontRuns$Setting" "runs" "I", Cond.fieldLink RX4 21 "FontRuns$Setting" "chosen" "[I", Cond.fieldLink RX4 24 "FontRuns$Setting" "runOf" "[I", Cond.methodLink RX4 88 yX4_firstOfBest, Cond.instanceMethod yX4_firstOfBest, Cond.selects RX4 yX4_firstOfBest yX4_firstOfBest, Cond.code yX4_firstOfBest cX4_firstOfBest 9 (some .int), Cond.fieldLink RX4 92 "FontRuns$Preference" "count" "I", Cond.fieldLink RX4 95 "FontRuns$Preference" "row" "[I", Cond.methodLink RX8 247 yX4_changes, Cond.instanceMethod yX4_changes, Cond.selects RX4 yX4_changes yX4_changes, Cond.code yX4_changes cX4_changes 1 (some .int), Cond.methodLink RX4 62 Lib.Math.max.name, Cond.static Lib.Math.max.name, Cond.code Lib.Math.max.name Lib.Math.max.code 2 (some .int)]
def wsX8_odds : List Cond := .code yX8_odds cX8_odds 5 (some .long) :: ((wsX8_odds_r1 ++ (wsX8_odds_r2 ++ (wsX8_odds_r3 ++ wsX8_odds_r4))) ++ wsX80 ++ wsX00 ++ wsX70 ++ wsX40 ++ wsX10)
def wsX8_sheet_r1 : List Cond := [Cond.fieldLink RX8 76 "FontRuns" "latestFault" "I", Cond.fieldLink RX8 13 "FontRuns" "sheets" "[LFontRuns$Sheet;", Cond.methodLink RX8 80 yX8_isSheet, Cond.static yX8_isSheet, Cond.initialized RX8, Cond.code yX8_isSheet cX8_isSheet 1 (some .boolean), Cond.methodLink RX8 128 yX8_isWithin, Cond.static yX8_isWithin, Cond.code yX8_isWithin cX8_isWithin 3 (some .boolean), Cond.methodLink RX8 84 yX8_isLane, Cond.static yX8_isLane, Cond.code yX8_isLane cX8_isLane 1 (some .boolean), Cond.methodLink RX8 95 yX8_failWith, Cond.instanceMethod yX8_failWith, Cond.selects RX8 yX8_failWith yX8_failWith, Cond.code yX8_failWith cX8_failWith 2 (some .int), Cond.methodLink RX8 285 yX5_begin, Cond.instanceMethod yX5_begin, Cond.selects RX5 yX5_begin yX5_begin, Cond.initialized RX5, Cond.code yX5_begin cX5_begin 4 none, Cond.fieldLink RX5 9 "FontRuns$Sheet" "cells" "[I", Cond.fieldLink RX5 15 "FontRuns$Sheet" "isThere" "Z", Cond.fieldLink RX5 19 "FontRuns$Sheet" "lane" "I"]
def wsX8_sheet_r2 : List Cond := [Cond.fieldLink RX5 23 "FontRuns$Sheet" "size" "I"]
def wsX8_sheet : List Cond := .code yX8_sheet cX8_sheet 4 (some .int) :: ((wsX8_sheet_r1 ++ wsX8_sheet_r2) ++ wsX80 ++ wsX50)
def wsX8_lose : List Cond := .code yX8_lose cX8_lose 3 (some .int) :: ([.fieldLink RX8 13 "FontRuns" "sheets" "[LFontRuns$Sheet;", .fieldLink RX8 288 "FontRuns$Sheet" "isThere" "Z", .methodLink RX8 80 yX8_isSheet, .static yX8_isSheet, .initialized RX8, .code yX8_isSheet cX8_isSheet 1 (some .boolean), .methodLink RX8 128 yX8_isWithin, .static yX8_isWithin, .code yX8_isWithin cX8_isWithin 3 (some .boolean)] ++ wsX80 ++ wsX50)
def wsX8_put_r1 : List Cond := [Cond.fieldLink RX8 76 "FontRuns" "latestFault" "I", Cond.fieldLink RX8 13 "FontRuns" "sheets" "[LFontRuns$Sheet;", Cond.fieldLink RX8 288 "FontRuns$Sheet" "isThere" "Z", Cond.fieldLink RX8 295 "FontRuns$Sheet" "cells" "[I", Cond.methodLink RX8 80 yX8_isSheet, Cond.static yX8_isSheet, Cond.initialized RX8, Cond.code yX8_isSheet cX8_isSheet 1 (some .boolean), Cond.methodLink RX8 128 yX8_isWithin, Cond.static yX8_isWithin, Cond.code yX8_isWithin cX8_isWithin 3 (some .boolean), Cond.methodLink RX8 95 yX8_failWith, Cond.instanceMethod yX8_failWith, Cond.selects RX8 yX8_failWith yX8_failWith, Cond.code yX8_failWith cX8_failWith 2 (some .int), Cond.methodLink RX8 292 yX5_hasCell, Cond.instanceMethod yX5_hasCell, Cond.selects RX5 yX5_hasCell yX5_hasCell, Cond.initialized RX5, Cond.code yX5_hasCell cX5_hasCell 2 (some .boolean), Cond.fieldLink RX5 15 "FontRuns$Sheet" "isThere" "Z", Cond.fieldLink RX5 23 "FontRuns$Sheet" "size" "I", Cond.methodLink RX8 298 yX5_cut, Cond.instanceMethod yX5_cut]
def wsX8_put_r2 : List Cond := [Cond.selects RX5 yX5_cut yX5_cut, Cond.code yX5_cut cX5_cut 2 (some .int), Cond.fieldLink RX5 19 "FontRuns$Sheet" "lane" "I"]
def wsX8_put : List Cond := .code yX8_put cX8_put 5 (some .int) :: ((wsX8_put_r1 ++ wsX8_put_r2) ++ wsX80 ++ wsX50)
def wsX8_cell_r1 : List Cond := [Cond.fieldLink RX8 76 "FontRuns" "latestFault" "I", Cond.constantLong RX8 280 (-9223372036854775808), Cond.fieldLink RX8 13 "FontRuns" "sheets" "[LFontRuns$Sheet;", Cond.methodLink RX8 80 yX8_isSheet, Cond.static yX8_isSheet, Cond.initialized RX8, Cond.code yX8_isSheet cX8_isSheet 1 (some .boolean), Cond.methodLink RX8 128 yX8_isWithin, Cond.static yX8_isWithin, Cond.code yX8_isWithin cX8_isWithin 3 (some .boolean), Cond.methodLink RX8 84 yX8_isLane, Cond.static yX8_isLane, Cond.code yX8_isLane cX8_isLane 1 (some .boolean), Cond.methodLink RX8 87 yX8_faultOfLane, Cond.static yX8_faultOfLane, Cond.code yX8_faultOfLane cX8_faultOfLane 2 (some .int), Cond.fieldLink RX8 288 "FontRuns$Sheet" "isThere" "Z", Cond.fieldLink RX8 301 "FontRuns$Sheet" "lane" "I", Cond.methodLink RX8 292 yX5_hasCell, Cond.instanceMethod yX5_hasCell, Cond.selects RX5 yX5_hasCell yX5_hasCell, Cond.initialized RX5, Cond.code yX5_hasCell cX5_hasCell 2 (some .boolean), Cond.fieldLink RX5 15 "FontRuns$Sheet" "isThere" "Z"]
def wsX8_cell_r2 : List Cond := [Cond.fieldLink RX5 23 "FontRuns$Sheet" "size" "I", Cond.methodLink RX8 157 yX5_at, Cond.instanceMethod yX5_at, Cond.selects RX5 yX5_at yX5_at, Cond.code yX5_at cX5_at 2 (some .int), Cond.fieldLink RX5 9 "FontRuns$Sheet" "cells" "[I", Cond.methodLink RX5 30 yX5_hasCell]
def wsX8_cell : List Cond := .code yX8_cell cX8_cell 6 (some .long) :: ((wsX8_cell_r1 ++ wsX8_cell_r2) ++ wsX80 ++ wsX50)
def wsX8_copy_r1 : List Cond := [Cond.fieldLink RX8 76 "FontRuns" "latestFault" "I", Cond.fieldLink RX8 13 "FontRuns" "sheets" "[LFontRuns$Sheet;", Cond.fieldLink RX8 288 "FontRuns$Sheet" "isThere" "Z", Cond.fieldLink RX8 301 "FontRuns$Sheet" "lane" "I", Cond.fieldLink RX8 295 "FontRuns$Sheet" "cells" "[I", Cond.methodLink RX8 304 arraycopyName, Cond.native arraycopyName, Cond.static arraycopyName, Cond.initialized "java/lang/System", Cond.methodLink RX8 80 yX8_isSheet, Cond.static yX8_isSheet, Cond.initialized RX8, Cond.code yX8_isSheet cX8_isSheet 1 (some .boolean), Cond.methodLink RX8 128 yX8_isWithin, Cond.static yX8_isWithin, Cond.code yX8_isWithin cX8_isWithin 3 (some .boolean), Cond.methodLink RX8 95 yX8_failWith, Cond.instanceMethod yX8_failWith, Cond.selects RX8 yX8_failWith yX8_failWith, Cond.code yX8_failWith cX8_failWith 2 (some .int), Cond.methodLink RX8 91 yX5_hasCells, Cond.instanceMethod yX5_hasCells, Cond.selects RX5 yX5_hasCells yX5_hasCells, Cond.initialized RX5]
def wsX8_copy_r2 : List Cond := [Cond.code yX5_hasCells cX5_hasCells 3 (some .boolean), Cond.fieldLink RX5 15 "FontRuns$Sheet" "isThere" "Z", Cond.fieldLink RX5 23 "FontRuns$Sheet" "size" "I"]
def wsX8_copy : List Cond := .code yX8_copy cX8_copy 8 (some .int) :: ((wsX8_copy_r1 ++ wsX8_copy_r2) ++ wsX80 ++ wsX50)
def wsX8_leave : List Cond := .code yX8_leave cX8_leave 2 none :: ([.fieldLink RX8 322 "FontRuns" "trail" "I"] ++ wsX80)
def wsX8_plainTold : List Cond := .code yX8_plainTold cX8_plainTold 2 (some .int) :: ([.methodLink RX8 319 yX8_leave, .instanceMethod yX8_leave, .selects RX8 yX8_leave yX8_leave, .initialized RX8, .code yX8_leave cX8_leave 2 none, .fieldLink RX8 322 "FontRuns" "trail" "I"] ++ wsX80)
def wsX8_broadTold : List Cond := .code yX8_broadTold cX8_broadTold 2 (some .int) :: ([.methodLink RX8 319 yX8_leave, .instanceMethod yX8_leave, .selects RX8 yX8_leave yX8_leave, .initialized RX8, .code yX8_leave cX8_leave 2 none, .fieldLink RX8 322 "FontRuns" "trail" "I", .methodLink RX8 316 yX8_plainTold, .instanceMethod yX8_plainTold, .selects RX8 yX8_plainTold yX8_plainTold, .code yX8_plainTold cX8_plainTold 2 (some .int)] ++ wsX80)
def wsX8_doubleTold : List Cond := .code yX8_doubleTold cX8_doubleTold 3 (some .int) :: ([.methodLink RX8 319 yX8_leave, .instanceMethod yX8_leave, .selects RX8 yX8_leave yX8_leave, .initialized RX8, .code yX8_leave cX8_leave 2 none, .fieldLink RX8 322 "FontRuns" "trail" "I", .methodLink RX8 313 yX8_broadTold, .instanceMethod yX8_broadTold, .selects RX8 yX8_broadTold yX8_broadTold, .code yX8_broadTold cX8_broadTold 2 (some .int), .methodLink RX8 316 yX8_plainTold, .instanceMethod yX8_plainTold, .selects RX8 yX8_plainTold yX8_plainTold, .code yX8_plainTold cX8_plainTold 2 (some .int)] ++ wsX80)
def wsX8_tell_r1 : List Cond := [Cond.fieldLink RX8 28 "FontRuns" "fontRow" "LFontRuns$FontRow;", Cond.fieldLink RX8 116 "FontRuns$FontRow" "breadth" "[I", Cond.fieldLink RX8 112 "FontRuns$FontRow" "kind" "[I", Cond.methodLink RX8 109 yX0_isFont, Cond.instanceMethod yX0_isFont, Cond.selects RX0 yX0_isFont yX0_isFont, Cond.initialized RX0, Cond.code yX0_isFont cX0_isFont 2 (some .boolean), Cond.fieldLink RX0 21 "FontRuns$FontRow" "count" "I", Cond.static yX8_isWithin, Cond.initialized RX8, Cond.code yX8_isWithin cX8_isWithin 3 (some .boolean), Cond.methodLink RX8 310 yX8_doubleTold, Cond.instanceMethod yX8_doubleTold, Cond.selects RX8 yX8_doubleTold yX8_doubleTold, Cond.code yX8_doubleTold cX8_doubleTold 3 (some .int), Cond.methodLink RX8 319 yX8_leave, Cond.instanceMethod yX8_leave, Cond.selects RX8 yX8_leave yX8_leave, Cond.code yX8_leave cX8_leave 2 none, Cond.fieldLink RX8 322 "FontRuns" "trail" "I", Cond.methodLink RX8 313 yX8_broadTold, Cond.instanceMethod yX8_broadTold, Cond.selects RX8 yX8_broadTold yX8_broadTold]
def wsX8_tell_r2 : List Cond := [Cond.code yX8_broadTold cX8_broadTold 2 (some .int), Cond.methodLink RX8 316 yX8_plainTold, Cond.instanceMethod yX8_plainTold, Cond.selects RX8 yX8_plainTold yX8_plainTold, Cond.code yX8_plainTold cX8_plainTold 2 (some .int)]
def wsX8_tell : List Cond := .code yX8_tell cX8_tell 3 (some .int) :: ((wsX8_tell_r1 ++ wsX8_tell_r2) ++ wsX80 ++ wsX00)
def wsX8_sample : List Cond := .code yX8_sample cX8_sample 2 (some .int) :: ([.fieldLink RX8 28 "FontRuns" "fontRow" "LFontRuns$FontRow;", .fieldLink RX8 112 "FontRuns$FontRow" "kind" "[I", .fieldLink RX8 122 "FontRuns$FontRow" "has" "[I", .methodLink RX8 109 yX0_isFont, .instanceMethod yX0_isFont, .selects RX0 yX0_isFont yX0_isFont, .initialized RX0, .code yX0_isFont cX0_isFont 2 (some .boolean), .fieldLink RX0 21 "FontRuns$FontRow" "count" "I", .static yX8_isWithin, .initialized RX8, .code yX8_isWithin cX8_isWithin 3 (some .boolean), .methodLink RX8 319 yX8_leave, .instanceMethod yX8_leave, .selects RX8 yX8_leave yX8_leave, .code yX8_leave cX8_leave 2 none, .fieldLink RX8 322 "FontRuns" "trail" "I", .methodLink RX8 261 yJ6_bitCount_0f7a4, .static yJ6_bitCount_0f7a4, .initialized RJ6, .code yJ6_bitCount_0f7a4 cJ6_bitCount_0f7a4 1 (some .int), .constant RJ6 265 (1431655765), .constant RJ6 266 (858993459), .constant RJ6 267 (252645135)] ++ wsX80 ++ wsX00)
def wsX8_as : List Cond := .code yX8_as cX8_as 3 (some .int) :: ([.fieldLink RX8 76 "FontRuns" "latestFault" "I", .fieldLink RX8 28 "FontRuns" "fontRow" "LFontRuns$FontRow;", .fieldLink RX8 112 "FontRuns$FontRow" "kind" "[I", .methodLink RX8 109 yX0_isFont, .instanceMethod yX0_isFont, .selects RX0 yX0_isFont yX0_isFont, .initialized RX0, .code yX0_isFont cX0_isFont 2 (some .boolean), .fieldLink RX0 21 "FontRuns$FontRow" "count" "I", .static yX8_isWithin, .initialized RX8, .code yX8_isWithin cX8_isWithin 3 (some .boolean), .methodLink RX8 128 yX8_isWithin, .methodLink RX8 95 yX8_failWith, .instanceMethod yX8_failWith, .selects RX8 yX8_failWith yX8_failWith, .code yX8_failWith cX8_failWith 2 (some .int)] ++ wsX80 ++ wsX00)
def wsX8_trace : List Cond := .code yX8_trace cX8_trace 1 (some .int) :: ([.fieldLink RX8 322 "FontRuns" "trail" "I"] ++ wsX80)
def wsX8_fault : List Cond := .code yX8_fault cX8_fault 1 (some .int) :: ([.fieldLink RX8 76 "FontRuns" "latestFault" "I"] ++ wsX80)
def wsX8_many : List Cond := .code yX8_many cX8_many 2 (some .int) :: ([.fieldLink RX8 28 "FontRuns" "fontRow" "LFontRuns$FontRow;", .fieldLink RX8 106 "FontRuns$FontRow" "count" "I", .fieldLink RX8 35 "FontRuns" "writing" "LFontRuns$Writing;", .fieldLink RX8 139 "FontRuns$Writing" "count" "I", .fieldLink RX8 56 "FontRuns" "setting" "LFontRuns$Setting;", .fieldLink RX8 250 "FontRuns$Setting" "count" "I", .fieldLink RX8 63 "FontRuns" "readings" "LFontRuns$Readings;", .fieldLink RX8 145 "FontRuns$Readings" "count" "I"] ++ wsX80 ++ wsX00 ++ wsX70 ++ wsX40 ++ wsX20)
def wsX9_init : List Cond := .code yX9_init cX9_init 1 none :: ([.methodLink RX9 1 objectInit, .instanceMethod objectInit, .code objectInit ⟨#[0xb1]⟩ 1 none, .arrayClass .int, .fieldLink RX9 9 "FontRunsModel" "sorts" "[I", .fieldLink RX9 13 "FontRunsModel" "sheetLong" "[I", .fieldLink RX9 16 "FontRunsModel" "cells" "[I", .fieldLink RX9 19 "FontRunsModel" "kind" "[I", .fieldLink RX9 22 "FontRunsModel" "width" "[I", .fieldLink RX9 25 "FontRunsModel" "has" "[I", .fieldLink RX9 28 "FontRunsModel" "preference" "[I", .fieldLink RX9 31 "FontRunsModel" "latest" "[I", .fieldLink RX9 34 "FontRunsModel" "writing" "[I", .fieldLink RX9 37 "FontRunsModel" "readKind" "[I", .fieldLink RX9 40 "FontRunsModel" "readWidth" "[I", .fieldLink RX9 43 "FontRunsModel" "readHas" "[I", .fieldLink RX9 46 "FontRunsModel" "start" "[I", .fieldLink RX9 49 "FontRunsModel" "fits" "[I", .fieldLink RX9 52 "FontRunsModel" "changes" "[I", .fieldLink RX9 55 "FontRunsModel" "chosen" "[I", .fieldLink RX9 58 "FontRunsModel" "kept" "[I", .fieldLink RX9 61 "FontRunsModel" "readFar" "[I"] ++ wsX90)
def wsX9_fails : List Cond := .code yX9_fails cX9_fails 2 (some .int) :: ([.fieldLink RX9 64 "FontRunsModel" "fault" "I"] ++ wsX90)
def wsX9_lost : List Cond := .code yX9_lost cX9_lost 2 (some .long) :: ([.fieldLink RX9 64 "FontRunsModel" "fault" "I", .constantLong RX9 68 (-9223372036854775808)] ++ wsX90)
def wsX9_within : List Cond := .code yX9_within cX9_within 3 (some .boolean) :: ([])
def wsX9_isSheet : List Cond := .code yX9_isSheet cX9_isSheet 1 (some .boolean) :: ([.methodLink RX9 70 yX9_within, .static yX9_within, .initialized RX9, .code yX9_within cX9_within 3 (some .boolean)])
def wsX9_isSort : List Cond := .code yX9_isSort cX9_isSort 1 (some .boolean) :: ([.methodLink RX9 70 yX9_within, .static yX9_within, .initialized RX9, .code yX9_within cX9_within 3 (some .boolean)])
def wsX9_against : List Cond := .code yX9_against cX9_against 5 (some .int) :: ([.fieldLink RX9 9 "FontRunsModel" "sorts" "[I", .fieldLink RX9 13 "FontRunsModel" "sheetLong" "[I"] ++ wsX90)
def wsX9_isFont : List Cond := .code yX9_isFont cX9_isFont 2 (some .boolean) :: ([.fieldLink RX9 74 "FontRunsModel" "fonts" "I"] ++ wsX90)
def wsX9_isOf : List Cond := .code yX9_isOf cX9_isOf 2 (some .boolean) :: ([])
def wsX9_size : List Cond := .code yX9_size cX9_size 3 (some .int) :: ([])
def wsX9_isSign : List Cond := .code yX9_isSign cX9_isSign 3 (some .boolean) :: ([.fieldLink RX9 77 "FontRunsModel" "at" "I", .fieldLink RX9 16 "FontRunsModel" "cells" "[I"] ++ wsX90)
def wsX9_readFont : List Cond := .code yX9_readFont cX9_readFont 5 (some .boolean) :: ([.fieldLink RX9 77 "FontRunsModel" "at" "I", .fieldLink RX9 16 "FontRunsModel" "cells" "[I", .fieldLink RX9 37 "FontRunsModel" "readKind" "[I", .fieldLink RX9 98 "FontRunsModel" "readFonts" "I", .fieldLink RX9 40 "FontRunsModel" "readWidth" "[I", .fieldLink RX9 43 "FontRunsModel" "readHas" "[I", .methodLink RX9 70 yX9_within, .static yX9_within, .initialized RX9, .code yX9_within cX9_within 3 (some .boolean), .methodLink RX9 114 yX9_size, .static yX9_size, .code yX9_size cX9_size 3 (some .int), .methodLink RX9 117 yX9_isOf, .static yX9_isOf, .code yX9_isOf cX9_isOf 2 (some .boolean)] ++ wsX90)
def wsX9_readAll : List Cond := .code yX9_readAll cX9_readAll 2 (some .boolean) :: ([.fieldLink RX9 98 "FontRunsModel" "readFonts" "I", .fieldLink RX9 77 "FontRunsModel" "at" "I", .methodLink RX9 107 yX9_isSign, .instanceMethod yX9_isSign, .selects RX9 yX9_isSign yX9_isSign, .initialized RX9, .code yX9_isSign cX9_isSign 3 (some .boolean), .fieldLink RX9 16 "FontRunsModel" "cells" "[I", .methodLink RX9 111 yX9_readFont, .instanceMethod yX9_readFont, .selects RX9 yX9_readFont yX9_readFont, .code yX9_readFont cX9_readFont 5 (some .boolean), .fieldLink RX9 37 "FontRunsModel" "readKind" "[I", .fieldLink RX9 40 "FontRunsModel" "readWidth" "[I", .fieldLink RX9 43 "FontRunsModel" "readHas" "[I", .methodLink RX9 70 yX9_within, .static yX9_within, .code yX9_within cX9_within 3 (some .boolean), .methodLink RX9 114 yX9_size, .static yX9_size, .code yX9_size cX9_size 3 (some .int), .methodLink RX9 117 yX9_isOf, .static yX9_isOf, .code yX9_isOf cX9_isOf 2 (some .boolean)] ++ wsX90)
def wsX9_fonts_r1 : List Cond := [Cond.fieldLink RX9 64 "FontRunsModel" "fault" "I", Cond.fieldLink RX9 77 "FontRunsModel" "at" "I", Cond.fieldLink RX9 98 "FontRunsModel" "readFonts" "I", Cond.fieldLink RX9 74 "FontRunsModel" "fonts" "I", Cond.fieldLink RX9 19 "FontRunsModel" "kind" "[I", Cond.fieldLink RX9 37 "FontRunsModel" "readKind" "[I", Cond.fieldLink RX9 22 "FontRunsModel" "width" "[I", Cond.fieldLink RX9 40 "FontRunsModel" "readWidth" "[I", Cond.fieldLink RX9 25 "FontRunsModel" "has" "[I", Cond.fieldLink RX9 43 "FontRunsModel" "readHas" "[I", Cond.fieldLink RX9 28 "FontRunsModel" "preference" "[I", Cond.fieldLink RX9 31 "FontRunsModel" "latest" "[I", Cond.fieldLink RX9 101 "FontRunsModel" "many" "I", Cond.fieldLink RX9 104 "FontRunsModel" "readings" "I", Cond.methodLink RX9 80 yX9_isSheet, Cond.static yX9_isSheet, Cond.initialized RX9, Cond.code yX9_isSheet cX9_isSheet 1 (some .boolean), Cond.methodLink RX9 70 yX9_within, Cond.static yX9_within, Cond.code yX9_within cX9_within 3 (some .boolean), Cond.methodLink RX9 84 yX9_isSort, Cond.static yX9_isSort, Cond.code yX9_isSort cX9_isSort 1 (some .boolean)]
def wsX9_fonts_r2 : List Cond := [Cond.methodLink RX9 87 yX9_against, Cond.instanceMethod yX9_against, Cond.selects RX9 yX9_against yX9_against, Cond.code yX9_against cX9_against 5 (some .int), Cond.fieldLink RX9 9 "FontRunsModel" "sorts" "[I", Cond.fieldLink RX9 13 "FontRunsModel" "sheetLong" "[I", Cond.methodLink RX9 91 yX9_fails, Cond.instanceMethod yX9_fails, Cond.selects RX9 yX9_fails yX9_fails, Cond.code yX9_fails cX9_fails 2 (some .int), Cond.methodLink RX9 95 yX9_readAll, Cond.instanceMethod yX9_readAll, Cond.selects RX9 yX9_readAll yX9_readAll, Cond.code yX9_readAll cX9_readAll 2 (some .boolean), Cond.methodLink RX9 107 yX9_isSign, Cond.instanceMethod yX9_isSign, Cond.selects RX9 yX9_isSign yX9_isSign, Cond.code yX9_isSign cX9_isSign 3 (some .boolean), Cond.fieldLink RX9 16 "FontRunsModel" "cells" "[I", Cond.methodLink RX9 111 yX9_readFont, Cond.instanceMethod yX9_readFont, Cond.selects RX9 yX9_readFont yX9_readFont, Cond.code yX9_readFont cX9_readFont 5 (some .boolean), Cond.methodLink RX9 114 yX9_size]
def wsX9_fonts_r3 : List Cond := [Cond.static yX9_size, Cond.code yX9_size cX9_size 3 (some .int), Cond.methodLink RX9 117 yX9_isOf, Cond.static yX9_isOf, Cond.code yX9_isOf cX9_isOf 2 (some .boolean)]
def wsX9_fonts : List Cond := .code yX9_fonts cX9_fonts 8 (some .int) :: ((wsX9_fonts_r1 ++ (wsX9_fonts_r2 ++ wsX9_fonts_r3)) ++ wsX90)
def wsX9_stepOf : List Cond := .code yX9_stepOf cX9_stepOf 2 (some .int) :: ([.fieldLink RX9 19 "FontRunsModel" "kind" "[I", .fieldLink RX9 22 "FontRunsModel" "width" "[I"] ++ wsX90)
def wsX9_placeOf : List Cond := .code yX9_placeOf cX9_placeOf 3 (some .int) :: ([.fieldLink RX9 28 "FontRunsModel" "preference" "[I"] ++ wsX90)
def wsX9_ofFont : List Cond := .code yX9_ofFont cX9_ofFont 3 (some .int) :: ([.fieldLink RX9 19 "FontRunsModel" "kind" "[I", .fieldLink RX9 22 "FontRunsModel" "width" "[I", .fieldLink RX9 25 "FontRunsModel" "has" "[I", .methodLink RX9 120 yX9_isFont, .instanceMethod yX9_isFont, .selects RX9 yX9_isFont yX9_isFont, .initialized RX9, .code yX9_isFont cX9_isFont 2 (some .boolean), .fieldLink RX9 74 "FontRunsModel" "fonts" "I", .methodLink RX9 123 yX9_stepOf, .instanceMethod yX9_stepOf, .selects RX9 yX9_stepOf yX9_stepOf, .code yX9_stepOf cX9_stepOf 2 (some .int), .methodLink RX9 126 yX9_placeOf, .instanceMethod yX9_placeOf, .selects RX9 yX9_placeOf yX9_placeOf, .code yX9_placeOf cX9_placeOf 3 (some .int), .fieldLink RX9 28 "FontRunsModel" "preference" "[I"] ++ wsX90)
def wsX9_width : List Cond := .code yX9_width cX9_width 4 (some .int) :: ([.fieldLink RX9 22 "FontRunsModel" "width" "[I", .methodLink RX9 120 yX9_isFont, .instanceMethod yX9_isFont, .selects RX9 yX9_isFont yX9_isFont, .initialized RX9, .code yX9_isFont cX9_isFont 2 (some .boolean), .fieldLink RX9 74 "FontRunsModel" "fonts" "I", .methodLink RX9 70 yX9_within, .static yX9_within, .code yX9_within cX9_within 3 (some .boolean)] ++ wsX90)
def wsX9_write_r1 : List Cond := [Cond.fieldLink RX9 64 "FontRunsModel" "fault" "I", Cond.fieldLink RX9 74 "FontRunsModel" "fonts" "I", Cond.fieldLink RX9 16 "FontRunsModel" "cells" "[I", Cond.fieldLink RX9 101 "FontRunsModel" "many" "I", Cond.fieldLink RX9 34 "FontRunsModel" "writing" "[I", Cond.fieldLink RX9 129 "FontRunsModel" "tally" "I", Cond.constantLong RX9 132 (31), Cond.fieldLink RX9 134 "FontRunsModel" "check" "J", Cond.methodLink RX9 80 yX9_isSheet, Cond.static yX9_isSheet, Cond.initialized RX9, Cond.code yX9_isSheet cX9_isSheet 1 (some .boolean), Cond.methodLink RX9 70 yX9_within, Cond.static yX9_within, Cond.code yX9_within cX9_within 3 (some .boolean), Cond.methodLink RX9 84 yX9_isSort, Cond.static yX9_isSort, Cond.code yX9_isSort cX9_isSort 1 (some .boolean), Cond.methodLink RX9 87 yX9_against, Cond.instanceMethod yX9_against, Cond.selects RX9 yX9_against yX9_against, Cond.code yX9_against cX9_against 5 (some .int), Cond.fieldLink RX9 9 "FontRunsModel" "sorts" "[I", Cond.fieldLink RX9 13 "FontRunsModel" "sheetLong" "[I"]
def wsX9_write_r2 : List Cond := [Cond.methodLink RX9 91 yX9_fails, Cond.instanceMethod yX9_fails, Cond.selects RX9 yX9_fails yX9_fails, Cond.code yX9_fails cX9_fails 2 (some .int)]
def wsX9_write : List Cond := .code yX9_write cX9_write 8 (some .int) :: ((wsX9_write_r1 ++ wsX9_write_r2) ++ wsX90)
def wsX9_erase : List Cond := .code yX9_erase cX9_erase 2 (some .int) :: ([.fieldLink RX9 101 "FontRunsModel" "many" "I", .methodLink RX9 70 yX9_within, .static yX9_within, .initialized RX9, .code yX9_within cX9_within 3 (some .boolean)] ++ wsX90)
def wsX9_letter : List Cond := .code yX9_letter cX9_letter 2 (some .int) :: ([.fieldLink RX9 101 "FontRunsModel" "many" "I", .fieldLink RX9 34 "FontRunsModel" "writing" "[I", .methodLink RX9 70 yX9_within, .static yX9_within, .initialized RX9, .code yX9_within cX9_within 3 (some .boolean)] ++ wsX90)
def wsX9_findClusters : List Cond := .code yX9_findClusters cX9_findClusters 5 none :: ([.fieldLink RX9 138 "FontRunsModel" "clusters" "I", .fieldLink RX9 141 "FontRunsModel" "boxes" "I", .fieldLink RX9 101 "FontRunsModel" "many" "I", .fieldLink RX9 34 "FontRunsModel" "writing" "[I", .fieldLink RX9 46 "FontRunsModel" "start" "[I", .fieldLink RX9 49 "FontRunsModel" "fits" "[I", .fieldLink RX9 74 "FontRunsModel" "fonts" "I", .fieldLink RX9 25 "FontRunsModel" "has" "[I"] ++ wsX90)
def wsX9_canSet : List Cond := .code yX9_canSet cX9_canSet 4 (some .boolean) :: ([.fieldLink RX9 49 "FontRunsModel" "fits" "[I", .methodLink RX9 117 yX9_isOf, .static yX9_isOf, .initialized RX9, .code yX9_isOf cX9_isOf 2 (some .boolean)] ++ wsX90)
def wsX9_fewestBehind : List Cond := .code yX9_fewestBehind cX9_fewestBehind 7 (some .int) :: ([.fieldLink RX9 138 "FontRunsModel" "clusters" "I", .fieldLink RX9 74 "FontRunsModel" "fonts" "I", .fieldLink RX9 52 "FontRunsModel" "changes" "[I", .methodLink RX9 144 yX9_canSet, .instanceMethod yX9_canSet, .selects RX9 yX9_canSet yX9_canSet, .initialized RX9, .code yX9_canSet cX9_canSet 4 (some .boolean), .fieldLink RX9 49 "FontRunsModel" "fits" "[I", .methodLink RX9 117 yX9_isOf, .static yX9_isOf, .code yX9_isOf cX9_isOf 2 (some .boolean)] ++ wsX90)
def wsX9_findChanges_r1 : List Cond := [Cond.fieldLink RX9 138 "FontRunsModel" "clusters" "I", Cond.fieldLink RX9 74 "FontRunsModel" "fonts" "I", Cond.fieldLink RX9 52 "FontRunsModel" "changes" "[I", Cond.methodLink RX9 147 yX9_findClusters, Cond.instanceMethod yX9_findClusters, Cond.selects RX9 yX9_findClusters yX9_findClusters, Cond.initialized RX9, Cond.code yX9_findClusters cX9_findClusters 5 none, Cond.fieldLink RX9 141 "FontRunsModel" "boxes" "I", Cond.fieldLink RX9 101 "FontRunsModel" "many" "I", Cond.fieldLink RX9 34 "FontRunsModel" "writing" "[I", Cond.fieldLink RX9 46 "FontRunsModel" "start" "[I", Cond.fieldLink RX9 49 "FontRunsModel" "fits" "[I", Cond.fieldLink RX9 25 "FontRunsModel" "has" "[I", Cond.methodLink RX9 151 yX9_fewestBehind, Cond.instanceMethod yX9_fewestBehind, Cond.selects RX9 yX9_fewestBehind yX9_fewestBehind, Cond.code yX9_fewestBehind cX9_fewestBehind 7 (some .int), Cond.methodLink RX9 144 yX9_canSet, Cond.instanceMethod yX9_canSet, Cond.selects RX9 yX9_canSet yX9_canSet, Cond.code yX9_canSet cX9_canSet 4 (some .boolean), Cond.methodLink RX9 117 yX9_isOf, Cond.static yX9_isOf]
def wsX9_findChanges_r2 : List Cond := [Cond.code yX9_isOf cX9_isOf 2 (some .boolean)]
def wsX9_findChanges : List Cond := .code yX9_findChanges cX9_findChanges 4 (some .int) :: ((wsX9_findChanges_r1 ++ wsX9_findChanges_r2) ++ wsX90)
def wsX9_isBestFor : List Cond := .code yX9_isBestFor cX9_isBestFor 5 (some .boolean) :: ([.fieldLink RX9 55 "FontRunsModel" "chosen" "[I", .fieldLink RX9 52 "FontRunsModel" "changes" "[I", .methodLink RX9 144 yX9_canSet, .instanceMethod yX9_canSet, .selects RX9 yX9_canSet yX9_canSet, .initialized RX9, .code yX9_canSet cX9_canSet 4 (some .boolean), .fieldLink RX9 49 "FontRunsModel" "fits" "[I", .methodLink RX9 117 yX9_isOf, .static yX9_isOf, .code yX9_isOf cX9_isOf 2 (some .boolean)] ++ wsX90)
def wsX9_findBest_r1 : List Cond := [Cond.fieldLink RX9 158 "FontRunsModel" "advance" "I", Cond.fieldLink RX9 161 "FontRunsModel" "runs" "I", Cond.fieldLink RX9 138 "FontRunsModel" "clusters" "I", Cond.fieldLink RX9 28 "FontRunsModel" "preference" "[I", Cond.fieldLink RX9 55 "FontRunsModel" "chosen" "[I", Cond.methodLink RX9 155 yX9_findChanges, Cond.instanceMethod yX9_findChanges, Cond.selects RX9 yX9_findChanges yX9_findChanges, Cond.initialized RX9, Cond.code yX9_findChanges cX9_findChanges 4 (some .int), Cond.fieldLink RX9 74 "FontRunsModel" "fonts" "I", Cond.fieldLink RX9 52 "FontRunsModel" "changes" "[I", Cond.methodLink RX9 147 yX9_findClusters, Cond.instanceMethod yX9_findClusters, Cond.selects RX9 yX9_findClusters yX9_findClusters, Cond.code yX9_findClusters cX9_findClusters 5 none, Cond.fieldLink RX9 141 "FontRunsModel" "boxes" "I", Cond.fieldLink RX9 101 "FontRunsModel" "many" "I", Cond.fieldLink RX9 34 "FontRunsModel" "writing" "[I", Cond.fieldLink RX9 46 "FontRunsModel" "start" "[I", Cond.fieldLink RX9 49 "FontRunsModel" "fits" "[I", Cond.fieldLink RX9 25 "FontRunsModel" "has" "[I", Cond.methodLink RX9 151 yX9_fewestBehind, Cond.instanceMethod yX9_fewestBehind]
def wsX9_findBest_r2 : List Cond := [Cond.selects RX9 yX9_fewestBehind yX9_fewestBehind, Cond.code yX9_fewestBehind cX9_fewestBehind 7 (some .int), Cond.methodLink RX9 144 yX9_canSet, Cond.instanceMethod yX9_canSet, Cond.selects RX9 yX9_canSet yX9_canSet, Cond.code yX9_canSet cX9_canSet 4 (some .boolean), Cond.methodLink RX9 117 yX9_isOf, Cond.static yX9_isOf, Cond.code yX9_isOf cX9_isOf 2 (some .boolean), Cond.methodLink RX9 164 yX9_isBestFor, Cond.instanceMethod yX9_isBestFor, Cond.selects RX9 yX9_isBestFor yX9_isBestFor, Cond.code yX9_isBestFor cX9_isBestFor 5 (some .boolean), Cond.methodLink RX9 123 yX9_stepOf, Cond.instanceMethod yX9_stepOf, Cond.selects RX9 yX9_stepOf yX9_stepOf, Cond.code yX9_stepOf cX9_stepOf 2 (some .int), Cond.fieldLink RX9 19 "FontRunsModel" "kind" "[I", Cond.fieldLink RX9 22 "FontRunsModel" "width" "[I"]
def wsX9_findBest : List Cond := .code yX9_findBest cX9_findBest 6 (some .int) :: ((wsX9_findBest_r1 ++ wsX9_findBest_r2) ++ wsX90)
def wsX9_runOf : List Cond := .code yX9_runOf cX9_runOf 4 (some .int) :: ([.fieldLink RX9 55 "FontRunsModel" "chosen" "[I"] ++ wsX90)
def wsX9_ofCluster_r1 : List Cond := [Cond.fieldLink RX9 138 "FontRunsModel" "clusters" "I", Cond.fieldLink RX9 46 "FontRunsModel" "start" "[I", Cond.fieldLink RX9 49 "FontRunsModel" "fits" "[I", Cond.fieldLink RX9 55 "FontRunsModel" "chosen" "[I", Cond.methodLink RX9 167 yX9_findBest, Cond.instanceMethod yX9_findBest, Cond.selects RX9 yX9_findBest yX9_findBest, Cond.initialized RX9, Cond.code yX9_findBest cX9_findBest 6 (some .int), Cond.fieldLink RX9 158 "FontRunsModel" "advance" "I", Cond.fieldLink RX9 161 "FontRunsModel" "runs" "I", Cond.fieldLink RX9 28 "FontRunsModel" "preference" "[I", Cond.methodLink RX9 155 yX9_findChanges, Cond.instanceMethod yX9_findChanges, Cond.selects RX9 yX9_findChanges yX9_findChanges, Cond.code yX9_findChanges cX9_findChanges 4 (some .int), Cond.fieldLink RX9 74 "FontRunsModel" "fonts" "I", Cond.fieldLink RX9 52 "FontRunsModel" "changes" "[I", Cond.methodLink RX9 147 yX9_findClusters, Cond.instanceMethod yX9_findClusters, Cond.selects RX9 yX9_findClusters yX9_findClusters, Cond.code yX9_findClusters cX9_findClusters 5 none, Cond.fieldLink RX9 141 "FontRunsModel" "boxes" "I", Cond.fieldLink RX9 101 "FontRunsModel" "many" "I"]
def wsX9_ofCluster_r2 : List Cond := [Cond.fieldLink RX9 34 "FontRunsModel" "writing" "[I", Cond.fieldLink RX9 25 "FontRunsModel" "has" "[I", Cond.methodLink RX9 151 yX9_fewestBehind, Cond.instanceMethod yX9_fewestBehind, Cond.selects RX9 yX9_fewestBehind yX9_fewestBehind, Cond.code yX9_fewestBehind cX9_fewestBehind 7 (some .int), Cond.methodLink RX9 144 yX9_canSet, Cond.instanceMethod yX9_canSet, Cond.selects RX9 yX9_canSet yX9_canSet, Cond.code yX9_canSet cX9_canSet 4 (some .boolean), Cond.methodLink RX9 117 yX9_isOf, Cond.static yX9_isOf, Cond.code yX9_isOf cX9_isOf 2 (some .boolean), Cond.methodLink RX9 164 yX9_isBestFor, Cond.instanceMethod yX9_isBestFor, Cond.selects RX9 yX9_isBestFor yX9_isBestFor, Cond.code yX9_isBestFor cX9_isBestFor 5 (some .boolean), Cond.methodLink RX9 123 yX9_stepOf, Cond.instanceMethod yX9_stepOf, Cond.selects RX9 yX9_stepOf yX9_stepOf, Cond.code yX9_stepOf cX9_stepOf 2 (some .int), Cond.fieldLink RX9 19 "FontRunsModel" "kind" "[I", Cond.fieldLink RX9 22 "FontRunsModel" "width" "[I", Cond.methodLink RX9 70 yX9_within]
def wsX9_ofCluster_r3 : List Cond := [Cond.static yX9_within, Cond.code yX9_within cX9_within 3 (some .boolean), Cond.methodLink RX9 171 yX9_runOf, Cond.instanceMethod yX9_runOf, Cond.selects RX9 yX9_runOf yX9_runOf, Cond.code yX9_runOf cX9_runOf 4 (some .int)]
def wsX9_ofCluster : List Cond := .code yX9_ofCluster cX9_ofCluster 3 (some .int) :: ((wsX9_ofCluster_r1 ++ (wsX9_ofCluster_r2 ++ wsX9_ofCluster_r3)) ++ wsX90)
def wsX9_ofRun_r1 : List Cond := [Cond.fieldLink RX9 161 "FontRunsModel" "runs" "I", Cond.fieldLink RX9 138 "FontRunsModel" "clusters" "I", Cond.fieldLink RX9 55 "FontRunsModel" "chosen" "[I", Cond.methodLink RX9 167 yX9_findBest, Cond.instanceMethod yX9_findBest, Cond.selects RX9 yX9_findBest yX9_findBest, Cond.initialized RX9, Cond.code yX9_findBest cX9_findBest 6 (some .int), Cond.fieldLink RX9 158 "FontRunsModel" "advance" "I", Cond.fieldLink RX9 28 "FontRunsModel" "preference" "[I", Cond.methodLink RX9 155 yX9_findChanges, Cond.instanceMethod yX9_findChanges, Cond.selects RX9 yX9_findChanges yX9_findChanges, Cond.code yX9_findChanges cX9_findChanges 4 (some .int), Cond.fieldLink RX9 74 "FontRunsModel" "fonts" "I", Cond.fieldLink RX9 52 "FontRunsModel" "changes" "[I", Cond.methodLink RX9 147 yX9_findClusters, Cond.instanceMethod yX9_findClusters, Cond.selects RX9 yX9_findClusters yX9_findClusters, Cond.code yX9_findClusters cX9_findClusters 5 none, Cond.fieldLink RX9 141 "FontRunsModel" "boxes" "I", Cond.fieldLink RX9 101 "FontRunsModel" "many" "I", Cond.fieldLink RX9 34 "FontRunsModel" "writing" "[I", Cond.fieldLink RX9 46 "FontRunsModel" "start" "[I"]
def wsX9_ofRun_r2 : List Cond := [Cond.fieldLink RX9 49 "FontRunsModel" "fits" "[I", Cond.fieldLink RX9 25 "FontRunsModel" "has" "[I", Cond.methodLink RX9 151 yX9_fewestBehind, Cond.instanceMethod yX9_fewestBehind, Cond.selects RX9 yX9_fewestBehind yX9_fewestBehind, Cond.code yX9_fewestBehind cX9_fewestBehind 7 (some .int), Cond.methodLink RX9 144 yX9_canSet, Cond.instanceMethod yX9_canSet, Cond.selects RX9 yX9_canSet yX9_canSet, Cond.code yX9_canSet cX9_canSet 4 (some .boolean), Cond.methodLink RX9 117 yX9_isOf, Cond.static yX9_isOf, Cond.code yX9_isOf cX9_isOf 2 (some .boolean), Cond.methodLink RX9 164 yX9_isBestFor, Cond.instanceMethod yX9_isBestFor, Cond.selects RX9 yX9_isBestFor yX9_isBestFor, Cond.code yX9_isBestFor cX9_isBestFor 5 (some .boolean), Cond.methodLink RX9 123 yX9_stepOf, Cond.instanceMethod yX9_stepOf, Cond.selects RX9 yX9_stepOf yX9_stepOf, Cond.code yX9_stepOf cX9_stepOf 2 (some .int), Cond.fieldLink RX9 19 "FontRunsModel" "kind" "[I", Cond.fieldLink RX9 22 "FontRunsModel" "width" "[I", Cond.methodLink RX9 70 yX9_within]
def wsX9_ofRun_r3 : List Cond := [Cond.static yX9_within, Cond.code yX9_within cX9_within 3 (some .boolean), Cond.methodLink RX9 171 yX9_runOf, Cond.instanceMethod yX9_runOf, Cond.selects RX9 yX9_runOf yX9_runOf, Cond.code yX9_runOf cX9_runOf 4 (some .int)]
def wsX9_ofRun : List Cond := .code yX9_ofRun cX9_ofRun 7 (some .int) :: ((wsX9_ofRun_r1 ++ (wsX9_ofRun_r2 ++ wsX9_ofRun_r3)) ++ wsX90)
def wsX9_comesFirst : List Cond := .code yX9_comesFirst cX9_comesFirst 4 (some .int) :: ([.fieldLink RX9 28 "FontRunsModel" "preference" "[I", .methodLink RX9 126 yX9_placeOf, .instanceMethod yX9_placeOf, .selects RX9 yX9_placeOf yX9_placeOf, .initialized RX9, .code yX9_placeOf cX9_placeOf 3 (some .int)] ++ wsX90)
def wsX9_prefer : List Cond := .code yX9_prefer cX9_prefer 3 (some .int) :: ([.fieldLink RX9 31 "FontRunsModel" "latest" "[I", .methodLink RX9 120 yX9_isFont, .instanceMethod yX9_isFont, .selects RX9 yX9_isFont yX9_isFont, .initialized RX9, .code yX9_isFont cX9_isFont 2 (some .boolean), .fieldLink RX9 74 "FontRunsModel" "fonts" "I", .methodLink RX9 174 yX9_comesFirst, .instanceMethod yX9_comesFirst, .selects RX9 yX9_comesFirst yX9_comesFirst, .code yX9_comesFirst cX9_comesFirst 4 (some .int), .fieldLink RX9 28 "FontRunsModel" "preference" "[I", .methodLink RX9 126 yX9_placeOf, .instanceMethod yX9_placeOf, .selects RX9 yX9_placeOf yX9_placeOf, .code yX9_placeOf cX9_placeOf 3 (some .int)] ++ wsX90)
def wsX9_latest : List Cond := .code yX9_latest cX9_latest 2 (some .int) :: ([.fieldLink RX9 74 "FontRunsModel" "fonts" "I", .fieldLink RX9 31 "FontRunsModel" "latest" "[I", .methodLink RX9 70 yX9_within, .static yX9_within, .initialized RX9, .code yX9_within cX9_within 3 (some .boolean)] ++ wsX90)
def wsX9_tally : List Cond := .code yX9_tally cX9_tally 1 (some .int) :: ([.fieldLink RX9 129 "FontRunsModel" "tally" "I"] ++ wsX90)
def wsX9_check : List Cond := .code yX9_check cX9_check 1 (some .long) :: ([.fieldLink RX9 134 "FontRunsModel" "check" "J"] ++ wsX90)
def wsX9_does : List Cond := .code yX9_does cX9_does 3 (some .boolean) :: ([.fieldLink RX9 101 "FontRunsModel" "many" "I", .fieldLink RX9 34 "FontRunsModel" "writing" "[I", .methodLink RX9 120 yX9_isFont, .instanceMethod yX9_isFont, .selects RX9 yX9_isFont yX9_isFont, .initialized RX9, .code yX9_isFont cX9_isFont 2 (some .boolean), .fieldLink RX9 74 "FontRunsModel" "fonts" "I", .methodLink RX9 174 yX9_comesFirst, .instanceMethod yX9_comesFirst, .selects RX9 yX9_comesFirst yX9_comesFirst, .code yX9_comesFirst cX9_comesFirst 4 (some .int), .fieldLink RX9 28 "FontRunsModel" "preference" "[I", .methodLink RX9 126 yX9_placeOf, .instanceMethod yX9_placeOf, .selects RX9 yX9_placeOf yX9_placeOf, .code yX9_placeOf cX9_placeOf 3 (some .int)] ++ wsX90)
def wsX9_isPair : List Cond := .code yX9_isPair cX9_isPair 2 (some .boolean) :: ([.methodLink RX9 70 yX9_within, .static yX9_within, .initialized RX9, .code yX9_within cX9_within 3 (some .boolean)])
def wsX9_goDay : List Cond := .code yX9_goDay cX9_goDay 4 (some .int) :: ([.fieldLink RX9 16 "FontRunsModel" "cells" "[I", .methodLink RX9 177 yX9_does, .instanceMethod yX9_does, .selects RX9 yX9_does yX9_does, .initialized RX9, .code yX9_does cX9_does 3 (some .boolean), .fieldLink RX9 101 "FontRunsModel" "many" "I", .fieldLink RX9 34 "FontRunsModel" "writing" "[I", .methodLink RX9 120 yX9_isFont, .instanceMethod yX9_isFont, .selects RX9 yX9_isFont yX9_isFont, .code yX9_isFont cX9_isFont 2 (some .boolean), .fieldLink RX9 74 "FontRunsModel" "fonts" "I", .methodLink RX9 174 yX9_comesFirst, .instanceMethod yX9_comesFirst, .selects RX9 yX9_comesFirst yX9_comesFirst, .code yX9_comesFirst cX9_comesFirst 4 (some .int), .fieldLink RX9 28 "FontRunsModel" "preference" "[I", .methodLink RX9 126 yX9_placeOf, .instanceMethod yX9_placeOf, .selects RX9 yX9_placeOf yX9_placeOf, .code yX9_placeOf cX9_placeOf 3 (some .int)] ++ wsX90)
def wsX9_keep : List Cond := .code yX9_keep cX9_keep 2 none :: ([.fieldLink RX9 58 "FontRunsModel" "kept" "[I", .fieldLink RX9 101 "FontRunsModel" "many" "I", .fieldLink RX9 34 "FontRunsModel" "writing" "[I", .fieldLink RX9 28 "FontRunsModel" "preference" "[I"] ++ wsX90)
def wsX9_putBack : List Cond := .code yX9_putBack cX9_putBack 2 none :: ([.fieldLink RX9 58 "FontRunsModel" "kept" "[I", .fieldLink RX9 101 "FontRunsModel" "many" "I", .fieldLink RX9 34 "FontRunsModel" "writing" "[I", .fieldLink RX9 28 "FontRunsModel" "preference" "[I"] ++ wsX90)
def wsX9_tellDay_r1 : List Cond := [Cond.fieldLink RX9 138 "FontRunsModel" "clusters" "I", Cond.fieldLink RX9 141 "FontRunsModel" "boxes" "I", Cond.fieldLink RX9 158 "FontRunsModel" "advance" "I", Cond.methodLink RX9 120 yX9_isFont, Cond.instanceMethod yX9_isFont, Cond.selects RX9 yX9_isFont yX9_isFont, Cond.initialized RX9, Cond.code yX9_isFont cX9_isFont 2 (some .boolean), Cond.fieldLink RX9 74 "FontRunsModel" "fonts" "I", Cond.methodLink RX9 126 yX9_placeOf, Cond.instanceMethod yX9_placeOf, Cond.selects RX9 yX9_placeOf yX9_placeOf, Cond.code yX9_placeOf cX9_placeOf 3 (some .int), Cond.fieldLink RX9 28 "FontRunsModel" "preference" "[I", Cond.methodLink RX9 167 yX9_findBest, Cond.instanceMethod yX9_findBest, Cond.selects RX9 yX9_findBest yX9_findBest, Cond.code yX9_findBest cX9_findBest 6 (some .int), Cond.fieldLink RX9 161 "FontRunsModel" "runs" "I", Cond.fieldLink RX9 55 "FontRunsModel" "chosen" "[I", Cond.methodLink RX9 155 yX9_findChanges, Cond.instanceMethod yX9_findChanges, Cond.selects RX9 yX9_findChanges yX9_findChanges, Cond.code yX9_findChanges cX9_findChanges 4 (some .int)]
def wsX9_tellDay_r2 : List Cond := [Cond.fieldLink RX9 52 "FontRunsModel" "changes" "[I", Cond.methodLink RX9 147 yX9_findClusters, Cond.instanceMethod yX9_findClusters, Cond.selects RX9 yX9_findClusters yX9_findClusters, Cond.code yX9_findClusters cX9_findClusters 5 none, Cond.fieldLink RX9 101 "FontRunsModel" "many" "I", Cond.fieldLink RX9 34 "FontRunsModel" "writing" "[I", Cond.fieldLink RX9 46 "FontRunsModel" "start" "[I", Cond.fieldLink RX9 49 "FontRunsModel" "fits" "[I", Cond.fieldLink RX9 25 "FontRunsModel" "has" "[I", Cond.methodLink RX9 151 yX9_fewestBehind, Cond.instanceMethod yX9_fewestBehind, Cond.selects RX9 yX9_fewestBehind yX9_fewestBehind, Cond.code yX9_fewestBehind cX9_fewestBehind 7 (some .int), Cond.methodLink RX9 144 yX9_canSet, Cond.instanceMethod yX9_canSet, Cond.selects RX9 yX9_canSet yX9_canSet, Cond.code yX9_canSet cX9_canSet 4 (some .boolean), Cond.methodLink RX9 117 yX9_isOf, Cond.static yX9_isOf, Cond.code yX9_isOf cX9_isOf 2 (some .boolean), Cond.methodLink RX9 164 yX9_isBestFor, Cond.instanceMethod yX9_isBestFor, Cond.selects RX9 yX9_isBestFor yX9_isBestFor]
def wsX9_tellDay_r3 : List Cond := [Cond.code yX9_isBestFor cX9_isBestFor 5 (some .boolean), Cond.methodLink RX9 123 yX9_stepOf, Cond.instanceMethod yX9_stepOf, Cond.selects RX9 yX9_stepOf yX9_stepOf, Cond.code yX9_stepOf cX9_stepOf 2 (some .int), Cond.fieldLink RX9 19 "FontRunsModel" "kind" "[I", Cond.fieldLink RX9 22 "FontRunsModel" "width" "[I"]
def wsX9_tellDay : List Cond := .code yX9_tellDay cX9_tellDay 3 (some .int) :: ((wsX9_tellDay_r1 ++ (wsX9_tellDay_r2 ++ wsX9_tellDay_r3)) ++ wsX90)
def wsX9_day_r1 : List Cond := [Cond.fieldLink RX9 64 "FontRunsModel" "fault" "I", Cond.fieldLink RX9 74 "FontRunsModel" "fonts" "I", Cond.fieldLink RX9 16 "FontRunsModel" "cells" "[I", Cond.methodLink RX9 80 yX9_isSheet, Cond.static yX9_isSheet, Cond.initialized RX9, Cond.code yX9_isSheet cX9_isSheet 1 (some .boolean), Cond.methodLink RX9 70 yX9_within, Cond.static yX9_within, Cond.code yX9_within cX9_within 3 (some .boolean), Cond.methodLink RX9 84 yX9_isSort, Cond.static yX9_isSort, Cond.code yX9_isSort cX9_isSort 1 (some .boolean), Cond.methodLink RX9 87 yX9_against, Cond.instanceMethod yX9_against, Cond.selects RX9 yX9_against yX9_against, Cond.code yX9_against cX9_against 5 (some .int), Cond.fieldLink RX9 9 "FontRunsModel" "sorts" "[I", Cond.fieldLink RX9 13 "FontRunsModel" "sheetLong" "[I", Cond.methodLink RX9 91 yX9_fails, Cond.instanceMethod yX9_fails, Cond.selects RX9 yX9_fails yX9_fails, Cond.code yX9_fails cX9_fails 2 (some .int), Cond.methodLink RX9 180 yX9_isPair]
def wsX9_day_r2 : List Cond := [Cond.static yX9_isPair, Cond.code yX9_isPair cX9_isPair 2 (some .boolean), Cond.methodLink RX9 183 yX9_keep, Cond.instanceMethod yX9_keep, Cond.selects RX9 yX9_keep yX9_keep, Cond.code yX9_keep cX9_keep 2 none, Cond.fieldLink RX9 58 "FontRunsModel" "kept" "[I", Cond.fieldLink RX9 101 "FontRunsModel" "many" "I", Cond.fieldLink RX9 34 "FontRunsModel" "writing" "[I", Cond.fieldLink RX9 28 "FontRunsModel" "preference" "[I", Cond.methodLink RX9 186 yX9_goDay, Cond.instanceMethod yX9_goDay, Cond.selects RX9 yX9_goDay yX9_goDay, Cond.code yX9_goDay cX9_goDay 4 (some .int), Cond.methodLink RX9 177 yX9_does, Cond.instanceMethod yX9_does, Cond.selects RX9 yX9_does yX9_does, Cond.code yX9_does cX9_does 3 (some .boolean), Cond.methodLink RX9 120 yX9_isFont, Cond.instanceMethod yX9_isFont, Cond.selects RX9 yX9_isFont yX9_isFont, Cond.code yX9_isFont cX9_isFont 2 (some .boolean), Cond.methodLink RX9 174 yX9_comesFirst, Cond.instanceMethod yX9_comesFirst]
def wsX9_day_r3 : List Cond := [Cond.selects RX9 yX9_comesFirst yX9_comesFirst, Cond.code yX9_comesFirst cX9_comesFirst 4 (some .int), Cond.methodLink RX9 126 yX9_placeOf, Cond.instanceMethod yX9_placeOf, Cond.selects RX9 yX9_placeOf yX9_placeOf, Cond.code yX9_placeOf cX9_placeOf 3 (some .int), Cond.methodLink RX9 190 yX9_tellDay, Cond.instanceMethod yX9_tellDay, Cond.selects RX9 yX9_tellDay yX9_tellDay, Cond.code yX9_tellDay cX9_tellDay 3 (some .int), Cond.fieldLink RX9 138 "FontRunsModel" "clusters" "I", Cond.fieldLink RX9 141 "FontRunsModel" "boxes" "I", Cond.fieldLink RX9 158 "FontRunsModel" "advance" "I", Cond.methodLink RX9 167 yX9_findBest, Cond.instanceMethod yX9_findBest, Cond.selects RX9 yX9_findBest yX9_findBest, Cond.code yX9_findBest cX9_findBest 6 (some .int), Cond.fieldLink RX9 161 "FontRunsModel" "runs" "I", Cond.fieldLink RX9 55 "FontRunsModel" "chosen" "[I", Cond.methodLink RX9 155 yX9_findChanges, Cond.instanceMethod yX9_findChanges, Cond.selects RX9 yX9_findChanges yX9_findChanges, Cond.code yX9_findChanges cX9_findChanges 4 (some .int), Cond.fieldLink RX9 52 "FontRunsModel" "changes" "[I"]
def wsX9_day_r4 : List Cond := [Cond.methodLink RX9 147 yX9_findClusters, Cond.instanceMethod yX9_findClusters, Cond.selects RX9 yX9_findClusters yX9_findClusters, Cond.code yX9_findClusters cX9_findClusters 5 none, Cond.fieldLink RX9 46 "FontRunsModel" "start" "[I", Cond.fieldLink RX9 49 "FontRunsModel" "fits" "[I", Cond.fieldLink RX9 25 "FontRunsModel" "has" "[I", Cond.methodLink RX9 151 yX9_fewestBehind, Cond.instanceMethod yX9_fewestBehind, Cond.selects RX9 yX9_fewestBehind yX9_fewestBehind, Cond.code yX9_fewestBehind cX9_fewestBehind 7 (some .int), Cond.methodLink RX9 144 yX9_canSet, Cond.instanceMethod yX9_canSet, Cond.selects RX9 yX9_canSet yX9_canSet, Cond.code yX9_canSet cX9_canSet 4 (some .boolean), Cond.methodLink RX9 117 yX9_isOf, Cond.static yX9_isOf, Cond.code yX9_isOf cX9_isOf 2 (some .boolean), Cond.methodLink RX9 164 yX9_isBestFor, Cond.instanceMethod yX9_isBestFor, Cond.selects RX9 yX9_isBestFor yX9_isBestFor, Cond.code yX9_isBestFor cX9_isBestFor 5 (some .boolean), Cond.methodLink RX9 123 yX9_stepOf, Cond.instanceMethod yX9_stepOf]
def wsX9_day_r5 : List Cond := [Cond.selects RX9 yX9_stepOf yX9_stepOf, Cond.code yX9_stepOf cX9_stepOf 2 (some .int), Cond.fieldLink RX9 19 "FontRunsModel" "kind" "[I", Cond.fieldLink RX9 22 "FontRunsModel" "width" "[I", Cond.methodLink RX9 193 yX9_putBack, Cond.instanceMethod yX9_putBack, Cond.selects RX9 yX9_putBack yX9_putBack, Cond.code yX9_putBack cX9_putBack 2 none]
def wsX9_day : List Cond := .code yX9_day cX9_day 10 (some .int) :: ((wsX9_day_r1 ++ (wsX9_day_r2 ++ (wsX9_day_r3 ++ (wsX9_day_r4 ++ wsX9_day_r5)))) ++ wsX90)
def wsX9_best_r1 : List Cond := [Cond.fieldLink RX9 74 "FontRunsModel" "fonts" "I", Cond.fieldLink RX9 161 "FontRunsModel" "runs" "I", Cond.fieldLink RX9 141 "FontRunsModel" "boxes" "I", Cond.fieldLink RX9 158 "FontRunsModel" "advance" "I", Cond.methodLink RX9 70 yX9_within, Cond.static yX9_within, Cond.initialized RX9, Cond.code yX9_within cX9_within 3 (some .boolean), Cond.methodLink RX9 167 yX9_findBest, Cond.instanceMethod yX9_findBest, Cond.selects RX9 yX9_findBest yX9_findBest, Cond.code yX9_findBest cX9_findBest 6 (some .int), Cond.fieldLink RX9 138 "FontRunsModel" "clusters" "I", Cond.fieldLink RX9 28 "FontRunsModel" "preference" "[I", Cond.fieldLink RX9 55 "FontRunsModel" "chosen" "[I", Cond.methodLink RX9 155 yX9_findChanges, Cond.instanceMethod yX9_findChanges, Cond.selects RX9 yX9_findChanges yX9_findChanges, Cond.code yX9_findChanges cX9_findChanges 4 (some .int), Cond.fieldLink RX9 52 "FontRunsModel" "changes" "[I", Cond.methodLink RX9 147 yX9_findClusters, Cond.instanceMethod yX9_findClusters, Cond.selects RX9 yX9_findClusters yX9_findClusters, Cond.code yX9_findClusters cX9_findClusters 5 none]
def wsX9_best_r2 : List Cond := [Cond.fieldLink RX9 101 "FontRunsModel" "many" "I", Cond.fieldLink RX9 34 "FontRunsModel" "writing" "[I", Cond.fieldLink RX9 46 "FontRunsModel" "start" "[I", Cond.fieldLink RX9 49 "FontRunsModel" "fits" "[I", Cond.fieldLink RX9 25 "FontRunsModel" "has" "[I", Cond.methodLink RX9 151 yX9_fewestBehind, Cond.instanceMethod yX9_fewestBehind, Cond.selects RX9 yX9_fewestBehind yX9_fewestBehind, Cond.code yX9_fewestBehind cX9_fewestBehind 7 (some .int), Cond.methodLink RX9 144 yX9_canSet, Cond.instanceMethod yX9_canSet, Cond.selects RX9 yX9_canSet yX9_canSet, Cond.code yX9_canSet cX9_canSet 4 (some .boolean), Cond.methodLink RX9 117 yX9_isOf, Cond.static yX9_isOf, Cond.code yX9_isOf cX9_isOf 2 (some .boolean), Cond.methodLink RX9 164 yX9_isBestFor, Cond.instanceMethod yX9_isBestFor, Cond.selects RX9 yX9_isBestFor yX9_isBestFor, Cond.code yX9_isBestFor cX9_isBestFor 5 (some .boolean), Cond.methodLink RX9 123 yX9_stepOf, Cond.instanceMethod yX9_stepOf, Cond.selects RX9 yX9_stepOf yX9_stepOf, Cond.code yX9_stepOf cX9_stepOf 2 (some .int)]
def wsX9_best_r3 : List Cond := [Cond.fieldLink RX9 19 "FontRunsModel" "kind" "[I", Cond.fieldLink RX9 22 "FontRunsModel" "width" "[I"]
def wsX9_best : List Cond := .code yX9_best cX9_best 3 (some .int) :: ((wsX9_best_r1 ++ (wsX9_best_r2 ++ wsX9_best_r3)) ++ wsX90)
def wsX9_without_r1 : List Cond := [Cond.fieldLink RX9 74 "FontRunsModel" "fonts" "I", Cond.methodLink RX9 120 yX9_isFont, Cond.instanceMethod yX9_isFont, Cond.selects RX9 yX9_isFont yX9_isFont, Cond.initialized RX9, Cond.code yX9_isFont cX9_isFont 2 (some .boolean), Cond.methodLink RX9 155 yX9_findChanges, Cond.instanceMethod yX9_findChanges, Cond.selects RX9 yX9_findChanges yX9_findChanges, Cond.code yX9_findChanges cX9_findChanges 4 (some .int), Cond.fieldLink RX9 138 "FontRunsModel" "clusters" "I", Cond.fieldLink RX9 52 "FontRunsModel" "changes" "[I", Cond.methodLink RX9 147 yX9_findClusters, Cond.instanceMethod yX9_findClusters, Cond.selects RX9 yX9_findClusters yX9_findClusters, Cond.code yX9_findClusters cX9_findClusters 5 none, Cond.fieldLink RX9 141 "FontRunsModel" "boxes" "I", Cond.fieldLink RX9 101 "FontRunsModel" "many" "I", Cond.fieldLink RX9 34 "FontRunsModel" "writing" "[I", Cond.fieldLink RX9 46 "FontRunsModel" "start" "[I", Cond.fieldLink RX9 49 "FontRunsModel" "fits" "[I", Cond.fieldLink RX9 25 "FontRunsModel" "has" "[I", Cond.methodLink RX9 151 yX9_fewestBehind, Cond.instanceMethod yX9_fewestBehind]
def wsX9_without_r2 : List Cond := [Cond.selects RX9 yX9_fewestBehind yX9_fewestBehind, Cond.code yX9_fewestBehind cX9_fewestBehind 7 (some .int), Cond.methodLink RX9 144 yX9_canSet, Cond.instanceMethod yX9_canSet, Cond.selects RX9 yX9_canSet yX9_canSet, Cond.code yX9_canSet cX9_canSet 4 (some .boolean), Cond.methodLink RX9 117 yX9_isOf, Cond.static yX9_isOf, Cond.code yX9_isOf cX9_isOf 2 (some .boolean)]
def wsX9_without : List Cond := .code yX9_without cX9_without 2 (some .int) :: ((wsX9_without_r1 ++ wsX9_without_r2) ++ wsX90)
def wsX9_enough : List Cond := .code yX9_enough cX9_enough 6 (some .int) :: ([.fieldLink RX9 74 "FontRunsModel" "fonts" "I", .fieldLink RX9 138 "FontRunsModel" "clusters" "I", .fieldLink RX9 49 "FontRunsModel" "fits" "[I", .methodLink RX9 70 yX9_within, .static yX9_within, .initialized RX9, .code yX9_within cX9_within 3 (some .boolean), .methodLink RX9 147 yX9_findClusters, .instanceMethod yX9_findClusters, .selects RX9 yX9_findClusters yX9_findClusters, .code yX9_findClusters cX9_findClusters 5 none, .fieldLink RX9 141 "FontRunsModel" "boxes" "I", .fieldLink RX9 101 "FontRunsModel" "many" "I", .fieldLink RX9 34 "FontRunsModel" "writing" "[I", .fieldLink RX9 46 "FontRunsModel" "start" "[I", .fieldLink RX9 25 "FontRunsModel" "has" "[I", .methodLink RX9 114 yX9_size, .static yX9_size, .code yX9_size cX9_size 3 (some .int)] ++ wsX90)
def wsX9_reading : List Cond := .code yX9_reading cX9_reading 2 (some .int) :: ([.fieldLink RX9 74 "FontRunsModel" "fonts" "I", .fieldLink RX9 104 "FontRunsModel" "readings" "I", .fieldLink RX9 61 "FontRunsModel" "readFar" "[I", .methodLink RX9 70 yX9_within, .static yX9_within, .initialized RX9, .code yX9_within cX9_within 3 (some .boolean)] ++ wsX90)
def wsX9_back : List Cond := .code yX9_back cX9_back 2 (some .int) :: ([.fieldLink RX9 104 "FontRunsModel" "readings" "I", .methodLink RX9 70 yX9_within, .static yX9_within, .initialized RX9, .code yX9_within cX9_within 3 (some .boolean)] ++ wsX90)
def wsX9_areSo_r1 : List Cond := [Cond.fieldLink RX9 104 "FontRunsModel" "readings" "I", Cond.fieldLink RX9 61 "FontRunsModel" "readFar" "[I", Cond.fieldLink RX9 158 "FontRunsModel" "advance" "I", Cond.methodLink RX9 167 yX9_findBest, Cond.instanceMethod yX9_findBest, Cond.selects RX9 yX9_findBest yX9_findBest, Cond.initialized RX9, Cond.code yX9_findBest cX9_findBest 6 (some .int), Cond.fieldLink RX9 161 "FontRunsModel" "runs" "I", Cond.fieldLink RX9 138 "FontRunsModel" "clusters" "I", Cond.fieldLink RX9 28 "FontRunsModel" "preference" "[I", Cond.fieldLink RX9 55 "FontRunsModel" "chosen" "[I", Cond.methodLink RX9 155 yX9_findChanges, Cond.instanceMethod yX9_findChanges, Cond.selects RX9 yX9_findChanges yX9_findChanges, Cond.code yX9_findChanges cX9_findChanges 4 (some .int), Cond.fieldLink RX9 74 "FontRunsModel" "fonts" "I", Cond.fieldLink RX9 52 "FontRunsModel" "changes" "[I", Cond.methodLink RX9 147 yX9_findClusters, Cond.instanceMethod yX9_findClusters, Cond.selects RX9 yX9_findClusters yX9_findClusters, Cond.code yX9_findClusters cX9_findClusters 5 none, Cond.fieldLink RX9 141 "FontRunsModel" "boxes" "I", Cond.fieldLink RX9 101 "FontRunsModel" "many" "I"]
def wsX9_areSo_r2 : List Cond := [Cond.fieldLink RX9 34 "FontRunsModel" "writing" "[I", Cond.fieldLink RX9 46 "FontRunsModel" "start" "[I", Cond.fieldLink RX9 49 "FontRunsModel" "fits" "[I", Cond.fieldLink RX9 25 "FontRunsModel" "has" "[I", Cond.methodLink RX9 151 yX9_fewestBehind, Cond.instanceMethod yX9_fewestBehind, Cond.selects RX9 yX9_fewestBehind yX9_fewestBehind, Cond.code yX9_fewestBehind cX9_fewestBehind 7 (some .int), Cond.methodLink RX9 144 yX9_canSet, Cond.instanceMethod yX9_canSet, Cond.selects RX9 yX9_canSet yX9_canSet, Cond.code yX9_canSet cX9_canSet 4 (some .boolean), Cond.methodLink RX9 117 yX9_isOf, Cond.static yX9_isOf, Cond.code yX9_isOf cX9_isOf 2 (some .boolean), Cond.methodLink RX9 164 yX9_isBestFor, Cond.instanceMethod yX9_isBestFor, Cond.selects RX9 yX9_isBestFor yX9_isBestFor, Cond.code yX9_isBestFor cX9_isBestFor 5 (some .boolean), Cond.methodLink RX9 123 yX9_stepOf, Cond.instanceMethod yX9_stepOf, Cond.selects RX9 yX9_stepOf yX9_stepOf, Cond.code yX9_stepOf cX9_stepOf 2 (some .int), Cond.fieldLink RX9 19 "FontRunsModel" "kind" "[I"]
def wsX9_areSo_r3 : List Cond := [Cond.fieldLink RX9 22 "FontRunsModel" "width" "[I"]
def wsX9_areSo : List Cond := .code yX9_areSo cX9_areSo 3 (some .boolean) :: ((wsX9_areSo_r1 ++ (wsX9_areSo_r2 ++ wsX9_areSo_r3)) ++ wsX90)
def wsX9_kinds_r1 : List Cond := [Cond.fieldLink RX9 19 "FontRunsModel" "kind" "[I", Cond.methodLink RX9 120 yX9_isFont, Cond.instanceMethod yX9_isFont, Cond.selects RX9 yX9_isFont yX9_isFont, Cond.initialized RX9, Cond.code yX9_isFont cX9_isFont 2 (some .boolean), Cond.fieldLink RX9 74 "FontRunsModel" "fonts" "I", Cond.methodLink RX9 196 yX9_areSo, Cond.instanceMethod yX9_areSo, Cond.selects RX9 yX9_areSo yX9_areSo, Cond.code yX9_areSo cX9_areSo 3 (some .boolean), Cond.fieldLink RX9 104 "FontRunsModel" "readings" "I", Cond.fieldLink RX9 61 "FontRunsModel" "readFar" "[I", Cond.fieldLink RX9 158 "FontRunsModel" "advance" "I", Cond.methodLink RX9 167 yX9_findBest, Cond.instanceMethod yX9_findBest, Cond.selects RX9 yX9_findBest yX9_findBest, Cond.code yX9_findBest cX9_findBest 6 (some .int), Cond.fieldLink RX9 161 "FontRunsModel" "runs" "I", Cond.fieldLink RX9 138 "FontRunsModel" "clusters" "I", Cond.fieldLink RX9 28 "FontRunsModel" "preference" "[I", Cond.fieldLink RX9 55 "FontRunsModel" "chosen" "[I", Cond.methodLink RX9 155 yX9_findChanges, Cond.instanceMethod yX9_findChanges]
def wsX9_kinds_r2 : List Cond := [Cond.selects RX9 yX9_findChanges yX9_findChanges, Cond.code yX9_findChanges cX9_findChanges 4 (some .int), Cond.fieldLink RX9 52 "FontRunsModel" "changes" "[I", Cond.methodLink RX9 147 yX9_findClusters, Cond.instanceMethod yX9_findClusters, Cond.selects RX9 yX9_findClusters yX9_findClusters, Cond.code yX9_findClusters cX9_findClusters 5 none, Cond.fieldLink RX9 141 "FontRunsModel" "boxes" "I", Cond.fieldLink RX9 101 "FontRunsModel" "many" "I", Cond.fieldLink RX9 34 "FontRunsModel" "writing" "[I", Cond.fieldLink RX9 46 "FontRunsModel" "start" "[I", Cond.fieldLink RX9 49 "FontRunsModel" "fits" "[I", Cond.fieldLink RX9 25 "FontRunsModel" "has" "[I", Cond.methodLink RX9 151 yX9_fewestBehind, Cond.instanceMethod yX9_fewestBehind, Cond.selects RX9 yX9_fewestBehind yX9_fewestBehind, Cond.code yX9_fewestBehind cX9_fewestBehind 7 (some .int), Cond.methodLink RX9 144 yX9_canSet, Cond.instanceMethod yX9_canSet, Cond.selects RX9 yX9_canSet yX9_canSet, Cond.code yX9_canSet cX9_canSet 4 (some .boolean), Cond.methodLink RX9 117 yX9_isOf, Cond.static yX9_isOf, Cond.code yX9_isOf cX9_isOf 2 (some .boolean)]
def wsX9_kinds_r3 : List Cond := [Cond.methodLink RX9 164 yX9_isBestFor, Cond.instanceMethod yX9_isBestFor, Cond.selects RX9 yX9_isBestFor yX9_isBestFor, Cond.code yX9_isBestFor cX9_isBestFor 5 (some .boolean), Cond.methodLink RX9 123 yX9_stepOf, Cond.instanceMethod yX9_stepOf, Cond.selects RX9 yX9_stepOf yX9_stepOf, Cond.code yX9_stepOf cX9_stepOf 2 (some .int), Cond.fieldLink RX9 22 "FontRunsModel" "width" "[I"]
def wsX9_kinds : List Cond := .code yX9_kinds cX9_kinds 5 (some .int) :: ((wsX9_kinds_r1 ++ (wsX9_kinds_r2 ++ wsX9_kinds_r3)) ++ wsX90)
def wsX9_widths_r1 : List Cond := [Cond.fieldLink RX9 22 "FontRunsModel" "width" "[I", Cond.methodLink RX9 120 yX9_isFont, Cond.instanceMethod yX9_isFont, Cond.selects RX9 yX9_isFont yX9_isFont, Cond.initialized RX9, Cond.code yX9_isFont cX9_isFont 2 (some .boolean), Cond.fieldLink RX9 74 "FontRunsModel" "fonts" "I", Cond.methodLink RX9 196 yX9_areSo, Cond.instanceMethod yX9_areSo, Cond.selects RX9 yX9_areSo yX9_areSo, Cond.code yX9_areSo cX9_areSo 3 (some .boolean), Cond.fieldLink RX9 104 "FontRunsModel" "readings" "I", Cond.fieldLink RX9 61 "FontRunsModel" "readFar" "[I", Cond.fieldLink RX9 158 "FontRunsModel" "advance" "I", Cond.methodLink RX9 167 yX9_findBest, Cond.instanceMethod yX9_findBest, Cond.selects RX9 yX9_findBest yX9_findBest, Cond.code yX9_findBest cX9_findBest 6 (some .int), Cond.fieldLink RX9 161 "FontRunsModel" "runs" "I", Cond.fieldLink RX9 138 "FontRunsModel" "clusters" "I", Cond.fieldLink RX9 28 "FontRunsModel" "preference" "[I", Cond.fieldLink RX9 55 "FontRunsModel" "chosen" "[I", Cond.methodLink RX9 155 yX9_findChanges, Cond.instanceMethod yX9_findChanges]
def wsX9_widths_r2 : List Cond := [Cond.selects RX9 yX9_findChanges yX9_findChanges, Cond.code yX9_findChanges cX9_findChanges 4 (some .int), Cond.fieldLink RX9 52 "FontRunsModel" "changes" "[I", Cond.methodLink RX9 147 yX9_findClusters, Cond.instanceMethod yX9_findClusters, Cond.selects RX9 yX9_findClusters yX9_findClusters, Cond.code yX9_findClusters cX9_findClusters 5 none, Cond.fieldLink RX9 141 "FontRunsModel" "boxes" "I", Cond.fieldLink RX9 101 "FontRunsModel" "many" "I", Cond.fieldLink RX9 34 "FontRunsModel" "writing" "[I", Cond.fieldLink RX9 46 "FontRunsModel" "start" "[I", Cond.fieldLink RX9 49 "FontRunsModel" "fits" "[I", Cond.fieldLink RX9 25 "FontRunsModel" "has" "[I", Cond.methodLink RX9 151 yX9_fewestBehind, Cond.instanceMethod yX9_fewestBehind, Cond.selects RX9 yX9_fewestBehind yX9_fewestBehind, Cond.code yX9_fewestBehind cX9_fewestBehind 7 (some .int), Cond.methodLink RX9 144 yX9_canSet, Cond.instanceMethod yX9_canSet, Cond.selects RX9 yX9_canSet yX9_canSet, Cond.code yX9_canSet cX9_canSet 4 (some .boolean), Cond.methodLink RX9 117 yX9_isOf, Cond.static yX9_isOf, Cond.code yX9_isOf cX9_isOf 2 (some .boolean)]
def wsX9_widths_r3 : List Cond := [Cond.methodLink RX9 164 yX9_isBestFor, Cond.instanceMethod yX9_isBestFor, Cond.selects RX9 yX9_isBestFor yX9_isBestFor, Cond.code yX9_isBestFor cX9_isBestFor 5 (some .boolean), Cond.methodLink RX9 123 yX9_stepOf, Cond.instanceMethod yX9_stepOf, Cond.selects RX9 yX9_stepOf yX9_stepOf, Cond.code yX9_stepOf cX9_stepOf 2 (some .int), Cond.fieldLink RX9 19 "FontRunsModel" "kind" "[I"]
def wsX9_widths : List Cond := .code yX9_widths cX9_widths 5 (some .int) :: ((wsX9_widths_r1 ++ (wsX9_widths_r2 ++ wsX9_widths_r3)) ++ wsX90)
def wsX9_inLeastTerms : List Cond := .code yX9_inLeastTerms cX9_inLeastTerms 11 (some .long) :: ([])
def wsX9_odds_r1 : List Cond := [Cond.fieldLink RX9 74 "FontRunsModel" "fonts" "I", Cond.fieldLink RX9 101 "FontRunsModel" "many" "I", Cond.constantLong RX9 68 (-9223372036854775808), Cond.fieldLink RX9 34 "FontRunsModel" "writing" "[I", Cond.constantLong RX9 200 (16), Cond.methodLink RX9 70 yX9_within, Cond.static yX9_within, Cond.initialized RX9, Cond.code yX9_within cX9_within 3 (some .boolean), Cond.methodLink RX9 155 yX9_findChanges, Cond.instanceMethod yX9_findChanges, Cond.selects RX9 yX9_findChanges yX9_findChanges, Cond.code yX9_findChanges cX9_findChanges 4 (some .int), Cond.fieldLink RX9 138 "FontRunsModel" "clusters" "I", Cond.fieldLink RX9 52 "FontRunsModel" "changes" "[I", Cond.methodLink RX9 147 yX9_findClusters, Cond.instanceMethod yX9_findClusters, Cond.selects RX9 yX9_findClusters yX9_findClusters, Cond.code yX9_findClusters cX9_findClusters 5 none, Cond.fieldLink RX9 141 "FontRunsModel" "boxes" "I", Cond.fieldLink RX9 46 "FontRunsModel" "start" "[I", Cond.fieldLink RX9 49 "FontRunsModel" "fits" "[I", Cond.fieldLink RX9 25 "FontRunsModel" "has" "[I", Cond.methodLink RX9 151 yX9_fewestBehind]
def wsX9_odds_r2 : List Cond := [Cond.instanceMethod yX9_fewestBehind, Cond.selects RX9 yX9_fewestBehind yX9_fewestBehind, Cond.code yX9_fewestBehind cX9_fewestBehind 7 (some .int), Cond.methodLink RX9 144 yX9_canSet, Cond.instanceMethod yX9_canSet, Cond.selects RX9 yX9_canSet yX9_canSet, Cond.code yX9_canSet cX9_canSet 4 (some .boolean), Cond.methodLink RX9 117 yX9_isOf, Cond.static yX9_isOf, Cond.code yX9_isOf cX9_isOf 2 (some .boolean), Cond.methodLink RX9 202 yX9_inLeastTerms, Cond.static yX9_inLeastTerms, Cond.code yX9_inLeastTerms cX9_inLeastTerms 11 (some .long)]
def wsX9_odds : List Cond := .code yX9_odds cX9_odds 5 (some .long) :: ((wsX9_odds_r1 ++ wsX9_odds_r2) ++ wsX90)
def wsX9_sheet : List Cond := .code yX9_sheet cX9_sheet 5 (some .int) :: ([.fieldLink RX9 64 "FontRunsModel" "fault" "I", .fieldLink RX9 9 "FontRunsModel" "sorts" "[I", .fieldLink RX9 13 "FontRunsModel" "sheetLong" "[I", .fieldLink RX9 16 "FontRunsModel" "cells" "[I", .methodLink RX9 80 yX9_isSheet, .static yX9_isSheet, .initialized RX9, .code yX9_isSheet cX9_isSheet 1 (some .boolean), .methodLink RX9 70 yX9_within, .static yX9_within, .code yX9_within cX9_within 3 (some .boolean), .methodLink RX9 84 yX9_isSort, .static yX9_isSort, .code yX9_isSort cX9_isSort 1 (some .boolean), .methodLink RX9 91 yX9_fails, .instanceMethod yX9_fails, .selects RX9 yX9_fails yX9_fails, .code yX9_fails cX9_fails 2 (some .int)] ++ wsX90)
def wsX9_lose : List Cond := .code yX9_lose cX9_lose 3 (some .int) :: ([.fieldLink RX9 9 "FontRunsModel" "sorts" "[I", .methodLink RX9 80 yX9_isSheet, .static yX9_isSheet, .initialized RX9, .code yX9_isSheet cX9_isSheet 1 (some .boolean), .methodLink RX9 70 yX9_within, .static yX9_within, .code yX9_within cX9_within 3 (some .boolean)] ++ wsX90)
def wsX9_put : List Cond := .code yX9_put cX9_put 4 (some .int) :: ([.fieldLink RX9 64 "FontRunsModel" "fault" "I", .fieldLink RX9 9 "FontRunsModel" "sorts" "[I", .fieldLink RX9 13 "FontRunsModel" "sheetLong" "[I", .fieldLink RX9 16 "FontRunsModel" "cells" "[I", .methodLink RX9 80 yX9_isSheet, .static yX9_isSheet, .initialized RX9, .code yX9_isSheet cX9_isSheet 1 (some .boolean), .methodLink RX9 70 yX9_within, .static yX9_within, .code yX9_within cX9_within 3 (some .boolean), .methodLink RX9 91 yX9_fails, .instanceMethod yX9_fails, .selects RX9 yX9_fails yX9_fails, .code yX9_fails cX9_fails 2 (some .int)] ++ wsX90)
def wsX9_cell : List Cond := .code yX9_cell cX9_cell 4 (some .long) :: ([.fieldLink RX9 64 "FontRunsModel" "fault" "I", .constantLong RX9 68 (-9223372036854775808), .fieldLink RX9 9 "FontRunsModel" "sorts" "[I", .fieldLink RX9 13 "FontRunsModel" "sheetLong" "[I", .fieldLink RX9 16 "FontRunsModel" "cells" "[I", .methodLink RX9 80 yX9_isSheet, .static yX9_isSheet, .initialized RX9, .code yX9_isSheet cX9_isSheet 1 (some .boolean), .methodLink RX9 70 yX9_within, .static yX9_within, .code yX9_within cX9_within 3 (some .boolean), .methodLink RX9 84 yX9_isSort, .static yX9_isSort, .code yX9_isSort cX9_isSort 1 (some .boolean), .methodLink RX9 206 yX9_lost, .instanceMethod yX9_lost, .selects RX9 yX9_lost yX9_lost, .code yX9_lost cX9_lost 2 (some .long)] ++ wsX90)
def wsX9_copy : List Cond := .code yX9_copy cX9_copy 10 (some .int) :: ([.fieldLink RX9 64 "FontRunsModel" "fault" "I", .fieldLink RX9 9 "FontRunsModel" "sorts" "[I", .fieldLink RX9 13 "FontRunsModel" "sheetLong" "[I", .fieldLink RX9 16 "FontRunsModel" "cells" "[I", .methodLink RX9 80 yX9_isSheet, .static yX9_isSheet, .initialized RX9, .code yX9_isSheet cX9_isSheet 1 (some .boolean), .methodLink RX9 70 yX9_within, .static yX9_within, .code yX9_within cX9_within 3 (some .boolean), .methodLink RX9 91 yX9_fails, .instanceMethod yX9_fails, .selects RX9 yX9_fails yX9_fails, .code yX9_fails cX9_fails 2 (some .int)] ++ wsX90)
def wsX9_begins : List Cond := .code yX9_begins cX9_begins 2 none :: ([.fieldLink RX9 210 "FontRunsModel" "trace" "I"] ++ wsX90)
def wsX9_tell : List Cond := .code yX9_tell cX9_tell 3 (some .int) :: ([.fieldLink RX9 22 "FontRunsModel" "width" "[I", .fieldLink RX9 19 "FontRunsModel" "kind" "[I", .methodLink RX9 120 yX9_isFont, .instanceMethod yX9_isFont, .selects RX9 yX9_isFont yX9_isFont, .initialized RX9, .code yX9_isFont cX9_isFont 2 (some .boolean), .fieldLink RX9 74 "FontRunsModel" "fonts" "I", .methodLink RX9 213 yX9_begins, .instanceMethod yX9_begins, .selects RX9 yX9_begins yX9_begins, .code yX9_begins cX9_begins 2 none, .fieldLink RX9 210 "FontRunsModel" "trace" "I"] ++ wsX90)
def wsX9_sample : List Cond := .code yX9_sample cX9_sample 2 (some .int) :: ([.fieldLink RX9 19 "FontRunsModel" "kind" "[I", .fieldLink RX9 25 "FontRunsModel" "has" "[I", .methodLink RX9 120 yX9_isFont, .instanceMethod yX9_isFont, .selects RX9 yX9_isFont yX9_isFont, .initialized RX9, .code yX9_isFont cX9_isFont 2 (some .boolean), .fieldLink RX9 74 "FontRunsModel" "fonts" "I", .methodLink RX9 213 yX9_begins, .instanceMethod yX9_begins, .selects RX9 yX9_begins yX9_begins, .code yX9_begins cX9_begins 2 none, .fieldLink RX9 210 "FontRunsModel" "trace" "I", .methodLink RX9 114 yX9_size, .static yX9_size, .code yX9_size cX9_size 3 (some .int)] ++ wsX90)
def wsX9_as : List Cond := .code yX9_as cX9_as 3 (some .int) :: ([.fieldLink RX9 64 "FontRunsModel" "fault" "I", .fieldLink RX9 19 "FontRunsModel" "kind" "[I", .methodLink RX9 120 yX9_isFont, .instanceMethod yX9_isFont, .selects RX9 yX9_isFont yX9_isFont, .initialized RX9, .code yX9_isFont cX9_isFont 2 (some .boolean), .fieldLink RX9 74 "FontRunsModel" "fonts" "I", .methodLink RX9 70 yX9_within, .static yX9_within, .code yX9_within cX9_within 3 (some .boolean), .methodLink RX9 91 yX9_fails, .instanceMethod yX9_fails, .selects RX9 yX9_fails yX9_fails, .code yX9_fails cX9_fails 2 (some .int)] ++ wsX90)
def wsX9_trace : List Cond := .code yX9_trace cX9_trace 1 (some .int) :: ([.fieldLink RX9 210 "FontRunsModel" "trace" "I"] ++ wsX90)
def wsX9_fault : List Cond := .code yX9_fault cX9_fault 1 (some .int) :: ([.fieldLink RX9 64 "FontRunsModel" "fault" "I"] ++ wsX90)
def wsX9_many : List Cond := .code yX9_many cX9_many 2 (some .int) :: ([.fieldLink RX9 74 "FontRunsModel" "fonts" "I", .fieldLink RX9 101 "FontRunsModel" "many" "I", .fieldLink RX9 138 "FontRunsModel" "clusters" "I", .fieldLink RX9 104 "FontRunsModel" "readings" "I", .methodLink RX9 147 yX9_findClusters, .instanceMethod yX9_findClusters, .selects RX9 yX9_findClusters yX9_findClusters, .initialized RX9, .code yX9_findClusters cX9_findClusters 5 none, .fieldLink RX9 141 "FontRunsModel" "boxes" "I", .fieldLink RX9 34 "FontRunsModel" "writing" "[I", .fieldLink RX9 46 "FontRunsModel" "start" "[I", .fieldLink RX9 49 "FontRunsModel" "fits" "[I", .fieldLink RX9 25 "FontRunsModel" "has" "[I"] ++ wsX90)
def wsJ9_max_7cf53 : List Cond := .code yJ9_max_7cf53 cJ9_max_7cf53 2 (some .int) :: ([])
def wsJ9_min_7cf53 : List Cond := .code yJ9_min_7cf53 cJ9_min_7cf53 2 (some .int) :: ([])
def wsL_law_r1 : List Cond := [Cond.classLink RL 7 RX8, Cond.instantiable RX8 15, Cond.initialized RX8, Cond.classLink RL 10 RX9, Cond.instantiable RX9 31, Cond.initialized RX9, Cond.methodLink RL 9 yX8_init, Cond.instanceMethod yX8_init, Cond.code yX8_init cX8_init 2 none, Cond.methodLink RX8 3 objectInit, Cond.instanceMethod objectInit, Cond.code objectInit ⟨#[0xb1]⟩ 1 none, Cond.classLink RX8 11 RX5, Cond.fieldLink RX8 13 "FontRuns" "sheets" "[LFontRuns$Sheet;", Cond.instantiable RX5 4, Cond.initialized RX5, Cond.classLink RX8 18 RX6, Cond.instantiable RX6 2, Cond.initialized RX6, Cond.fieldLink RX8 21 "FontRuns" "reader" "LFontRuns$TextReader;", Cond.classLink RX8 25 RX0, Cond.instantiable RX0 4, Cond.initialized RX0, Cond.fieldLink RX8 28 "FontRuns" "fontRow" "LFontRuns$FontRow;"]
def wsL_law_r2 : List Cond := [Cond.classLink RX8 32 RX7, Cond.instantiable RX7 2, Cond.initialized RX7, Cond.fieldLink RX8 35 "FontRuns" "writing" "LFontRuns$Writing;", Cond.classLink RX8 39 RX1, Cond.instantiable RX1 2, Cond.initialized RX1, Cond.fieldLink RX8 42 "FontRuns" "preference" "LFontRuns$Preference;", Cond.classLink RX8 46 RX3, Cond.instantiable RX3 2, Cond.initialized RX3, Cond.fieldLink RX8 49 "FontRuns" "recent" "LFontRuns$Recent;", Cond.classLink RX8 53 RX4, Cond.instantiable RX4 10, Cond.initialized RX4, Cond.fieldLink RX8 56 "FontRuns" "setting" "LFontRuns$Setting;", Cond.classLink RX8 60 RX2, Cond.instantiable RX2 3, Cond.initialized RX2, Cond.fieldLink RX8 63 "FontRuns" "readings" "LFontRuns$Readings;", Cond.fieldLink RX8 67 "FontRuns" "supposedWriting" "LFontRuns$Writing;", Cond.fieldLink RX8 70 "FontRuns" "supposedPreference" "LFontRuns$Preference;", Cond.fieldLink RX8 73 "FontRuns" "supposedSetting" "LFontRuns$Setting;", Cond.instanceMethod yX5_init]
def wsL_law_r3 : List Cond := [Cond.code yX5_init cX5_init 1 none, Cond.methodLink RX5 3 objectInit, Cond.arrayClass .int, Cond.fieldLink RX5 9 "FontRuns$Sheet" "cells" "[I", Cond.instanceMethod yX6_init, Cond.code yX6_init cX6_init 1 none, Cond.methodLink RX6 3 objectInit, Cond.classLink RX6 9 RX0, Cond.fieldLink RX6 12 "FontRuns$TextReader" "told" "LFontRuns$FontRow;", Cond.instanceMethod yX0_init, Cond.code yX0_init cX0_init 1 none, Cond.methodLink RX0 3 objectInit, Cond.fieldLink RX0 9 "FontRuns$FontRow" "kind" "[I", Cond.fieldLink RX0 15 "FontRuns$FontRow" "breadth" "[I", Cond.fieldLink RX0 18 "FontRuns$FontRow" "has" "[I", Cond.instanceMethod yX7_init, Cond.code yX7_init cX7_init 1 none, Cond.methodLink RX7 3 objectInit, Cond.fieldLink RX7 9 "FontRuns$Writing" "row" "[I", Cond.instanceMethod yX1_init, Cond.code yX1_init cX1_init 1 none, Cond.methodLink RX1 3 objectInit, Cond.fieldLink RX1 9 "FontRuns$Preference" "row" "[I", Cond.instanceMethod yX3_init]
def wsL_law_r4 : List Cond := [Cond.code yX3_init cX3_init 1 none, Cond.methodLink RX3 3 objectInit, Cond.fieldLink RX3 9 "FontRuns$Recent" "row" "[I", Cond.instanceMethod yX4_init, Cond.code yX4_init cX4_init 1 none, Cond.methodLink RX4 3 objectInit, Cond.fieldLink RX4 9 "FontRuns$Setting" "first" "[I", Cond.fieldLink RX4 15 "FontRuns$Setting" "length" "[I", Cond.fieldLink RX4 18 "FontRuns$Setting" "fitting" "[I", Cond.fieldLink RX4 21 "FontRuns$Setting" "chosen" "[I", Cond.fieldLink RX4 24 "FontRuns$Setting" "runOf" "[I", Cond.fieldLink RX4 27 "FontRuns$Setting" "letters" "[I", Cond.classLink RX4 30 "[[I", Cond.fieldLink RX4 32 "FontRuns$Setting" "behind" "[[I", Cond.instanceMethod yX2_init, Cond.code yX2_init cX2_init 1 none, Cond.methodLink RX2 3 objectInit, Cond.fieldLink RX2 9 "FontRuns$Readings" "value" "[I", Cond.classLink RX2 15 "[[I", Cond.fieldLink RX2 17 "FontRuns$Readings" "clusters" "[[I", Cond.methodLink RL 12 yX9_init, Cond.instanceMethod yX9_init, Cond.code yX9_init cX9_init 1 none, Cond.methodLink RX9 1 objectInit]
def wsL_law_r5 : List Cond := [Cond.fieldLink RX9 9 "FontRunsModel" "sorts" "[I", Cond.fieldLink RX9 13 "FontRunsModel" "sheetLong" "[I", Cond.fieldLink RX9 16 "FontRunsModel" "cells" "[I", Cond.fieldLink RX9 19 "FontRunsModel" "kind" "[I", Cond.fieldLink RX9 22 "FontRunsModel" "width" "[I", Cond.fieldLink RX9 25 "FontRunsModel" "has" "[I", Cond.fieldLink RX9 28 "FontRunsModel" "preference" "[I", Cond.fieldLink RX9 31 "FontRunsModel" "latest" "[I", Cond.fieldLink RX9 34 "FontRunsModel" "writing" "[I", Cond.fieldLink RX9 37 "FontRunsModel" "readKind" "[I", Cond.fieldLink RX9 40 "FontRunsModel" "readWidth" "[I", Cond.fieldLink RX9 43 "FontRunsModel" "readHas" "[I", Cond.fieldLink RX9 46 "FontRunsModel" "start" "[I", Cond.fieldLink RX9 49 "FontRunsModel" "fits" "[I", Cond.fieldLink RX9 52 "FontRunsModel" "changes" "[I", Cond.fieldLink RX9 55 "FontRunsModel" "chosen" "[I", Cond.fieldLink RX9 58 "FontRunsModel" "kept" "[I", Cond.fieldLink RX9 61 "FontRunsModel" "readFar" "[I", Cond.methodLink RL 13 yX8_fonts, Cond.instanceMethod yX8_fonts, Cond.selects RX8 yX8_fonts yX8_fonts, Cond.code yX8_fonts cX8_fonts 8 (some .int), Cond.fieldLink RX8 76 "FontRuns" "latestFault" "I", Cond.fieldLink RX8 106 "FontRuns$FontRow" "count" "I"]
def wsL_law_r6 : List Cond := [Cond.methodLink RX8 80 yX8_isSheet, Cond.static yX8_isSheet, Cond.code yX8_isSheet cX8_isSheet 1 (some .boolean), Cond.methodLink RX8 128 yX8_isWithin, Cond.static yX8_isWithin, Cond.code yX8_isWithin cX8_isWithin 3 (some .boolean), Cond.methodLink RX8 84 yX8_isLane, Cond.static yX8_isLane, Cond.code yX8_isLane cX8_isLane 1 (some .boolean), Cond.methodLink RX8 87 yX8_faultOfLane, Cond.static yX8_faultOfLane, Cond.code yX8_faultOfLane cX8_faultOfLane 2 (some .int), Cond.fieldLink RX8 288 "FontRuns$Sheet" "isThere" "Z", Cond.fieldLink RX8 301 "FontRuns$Sheet" "lane" "I", Cond.methodLink RX8 91 yX5_hasCells, Cond.instanceMethod yX5_hasCells, Cond.selects RX5 yX5_hasCells yX5_hasCells, Cond.code yX5_hasCells cX5_hasCells 3 (some .boolean), Cond.fieldLink RX5 15 "FontRuns$Sheet" "isThere" "Z", Cond.fieldLink RX5 23 "FontRuns$Sheet" "size" "I", Cond.methodLink RX8 95 yX8_failWith, Cond.instanceMethod yX8_failWith, Cond.selects RX8 yX8_failWith yX8_failWith, Cond.code yX8_failWith cX8_failWith 2 (some .int)]
def wsL_law_r7 : List Cond := [Cond.methodLink RX8 99 yX6_firstFault, Cond.instanceMethod yX6_firstFault, Cond.selects RX6 yX6_firstFault yX6_firstFault, Cond.code yX6_firstFault cX6_firstFault 5 (some .int), Cond.fieldLink RX6 18 "FontRuns$FontRow" "count" "I", Cond.fieldLink RX6 22 "FontRuns$TextReader" "due" "I", Cond.methodLink RX6 25 yX5_at, Cond.instanceMethod yX5_at, Cond.selects RX5 yX5_at yX5_at, Cond.code yX5_at cX5_at 2 (some .int), Cond.methodLink RX5 30 yX5_hasCell, Cond.instanceMethod yX5_hasCell, Cond.selects RX5 yX5_hasCell yX5_hasCell, Cond.code yX5_hasCell cX5_hasCell 2 (some .boolean), Cond.methodLink RX6 31 yX6_goesOnWith, Cond.instanceMethod yX6_goesOnWith, Cond.selects RX6 yX6_goesOnWith yX6_goesOnWith, Cond.code yX6_goesOnWith cX6_goesOnWith 2 (some .boolean), Cond.methodLink RX6 35 yX6_takesHead, Cond.instanceMethod yX6_takesHead, Cond.selects RX6 yX6_takesHead yX6_takesHead, Cond.code yX6_takesHead cX6_takesHead 2 (some .boolean), Cond.methodLink RX6 38 yX6_takesSign, Cond.instanceMethod yX6_takesSign]
def wsL_law_r8 : List Cond := [Cond.selects RX6 yX6_takesSign yX6_takesSign, Cond.code yX6_takesSign cX6_takesSign 2 (some .boolean), Cond.fieldLink RX6 51 "FontRuns$FontRow" "has" "[I", Cond.methodLink RX6 41 yX6_takesKind, Cond.instanceMethod yX6_takesKind, Cond.selects RX6 yX6_takesKind yX6_takesKind, Cond.code yX6_takesKind cX6_takesKind 3 (some .boolean), Cond.fieldLink RX6 62 "FontRuns$FontRow" "kind" "[I", Cond.methodLink RX6 55 yX0_isFont, Cond.instanceMethod yX0_isFont, Cond.selects RX0 yX0_isFont yX0_isFont, Cond.code yX0_isFont cX0_isFont 2 (some .boolean), Cond.fieldLink RX0 21 "FontRuns$FontRow" "count" "I", Cond.methodLink RX6 45 yX6_takesBreadth, Cond.instanceMethod yX6_takesBreadth, Cond.selects RX6 yX6_takesBreadth yX6_takesBreadth, Cond.code yX6_takesBreadth cX6_takesBreadth 3 (some .boolean), Cond.fieldLink RX6 65 "FontRuns$FontRow" "breadth" "[I", Cond.methodLink RX6 48 yX6_takesLetter, Cond.instanceMethod yX6_takesLetter, Cond.selects RX6 yX6_takesLetter yX6_takesLetter, Cond.code yX6_takesLetter cX6_takesLetter 4 (some .boolean), Cond.methodLink RX6 68 yJ6_bitCount_0f7a4, Cond.static yJ6_bitCount_0f7a4]
def wsL_law_r9 : List Cond := [Cond.initialized RJ6, Cond.code yJ6_bitCount_0f7a4 cJ6_bitCount_0f7a4 1 (some .int), Cond.constant RJ6 265 (1431655765), Cond.constant RJ6 266 (858993459), Cond.constant RJ6 267 (252645135), Cond.methodLink RX8 103 yX8_beginWithFontsTold, Cond.instanceMethod yX8_beginWithFontsTold, Cond.selects RX8 yX8_beginWithFontsTold yX8_beginWithFontsTold, Cond.code yX8_beginWithFontsTold cX8_beginWithFontsTold 1 none, Cond.fieldLink RX8 132 "FontRuns$TextReader" "told" "LFontRuns$FontRow;", Cond.fieldLink RX8 139 "FontRuns$Writing" "count" "I", Cond.fieldLink RX8 144 "FontRuns$Recent" "count" "I", Cond.fieldLink RX8 145 "FontRuns$Readings" "count" "I", Cond.methodLink RX8 135 yX0_takeFrom, Cond.instanceMethod yX0_takeFrom, Cond.selects RX0 yX0_takeFrom yX0_takeFrom, Cond.code yX0_takeFrom cX0_takeFrom 3 none, Cond.methodLink RX8 140 yX1_begin, Cond.instanceMethod yX1_begin, Cond.selects RX1 yX1_begin yX1_begin, Cond.code yX1_begin cX1_begin 3 none, Cond.methodLink RX1 15 Lib.Math.min.name, Cond.static Lib.Math.min.name, Cond.initialized "java/lang/Math"]
def wsL_law_r10 : List Cond := [Cond.code Lib.Math.min.name Lib.Math.min.code 2 (some .int), Cond.fieldLink RX1 21 "FontRuns$Preference" "count" "I", Cond.methodLink RX8 146 yX8_settle, Cond.instanceMethod yX8_settle, Cond.selects RX8 yX8_settle yX8_settle, Cond.code yX8_settle cX8_settle 1 none, Cond.methodLink RX8 227 yX0_all, Cond.instanceMethod yX0_all, Cond.selects RX0 yX0_all yX0_all, Cond.code yX0_all cX0_all 1 (some .int), Cond.methodLink RX8 231 yX4_make, Cond.instanceMethod yX4_make, Cond.selects RX4 yX4_make yX4_make, Cond.code yX4_make cX4_make 5 none, Cond.methodLink RX4 35 yX4_cut, Cond.instanceMethod yX4_cut, Cond.selects RX4 yX4_cut yX4_cut, Cond.code yX4_cut cX4_cut 4 none, Cond.fieldLink RX4 51 "FontRuns$Setting" "count" "I", Cond.fieldLink RX4 74 "FontRuns$Writing" "count" "I", Cond.fieldLink RX4 77 "FontRuns$Writing" "row" "[I", Cond.methodLink RX4 39 yX4_findFitting, Cond.instanceMethod yX4_findFitting, Cond.selects RX4 yX4_findFitting yX4_findFitting]
def wsL_law_r11 : List Cond := [Cond.code yX4_findFitting cX4_findFitting 4 none, Cond.fieldLink RX4 80 "FontRuns$Setting" "boxes" "I", Cond.methodLink RX4 83 yX0_fitting, Cond.instanceMethod yX0_fitting, Cond.selects RX0 yX0_fitting yX0_fitting, Cond.code yX0_fitting cX0_fitting 4 (some .int), Cond.methodLink RX4 43 yX4_findBehind, Cond.instanceMethod yX4_findBehind, Cond.selects RX4 yX4_findBehind yX4_findBehind, Cond.code yX4_findBehind cX4_findBehind 8 none, Cond.methodLink RX4 85 Lib.Math.min.name, Cond.methodLink RX4 47 yX4_choose, Cond.instanceMethod yX4_choose, Cond.selects RX4 yX4_choose yX4_choose, Cond.code yX4_choose cX4_choose 4 none, Cond.fieldLink RX4 59 "FontRuns$Setting" "runs" "I", Cond.methodLink RX4 88 yX4_firstOfBest, Cond.instanceMethod yX4_firstOfBest, Cond.selects RX4 yX4_firstOfBest yX4_firstOfBest, Cond.code yX4_firstOfBest cX4_firstOfBest 9 (some .int), Cond.fieldLink RX4 92 "FontRuns$Preference" "count" "I", Cond.fieldLink RX4 95 "FontRuns$Preference" "row" "[I", Cond.methodLink RL 17 yX9_fonts, Cond.instanceMethod yX9_fonts]
def wsL_law_r12 : List Cond := [Cond.selects RX9 yX9_fonts yX9_fonts, Cond.code yX9_fonts cX9_fonts 8 (some .int), Cond.fieldLink RX9 64 "FontRunsModel" "fault" "I", Cond.fieldLink RX9 77 "FontRunsModel" "at" "I", Cond.fieldLink RX9 98 "FontRunsModel" "readFonts" "I", Cond.fieldLink RX9 74 "FontRunsModel" "fonts" "I", Cond.fieldLink RX9 101 "FontRunsModel" "many" "I", Cond.fieldLink RX9 104 "FontRunsModel" "readings" "I", Cond.methodLink RX9 80 yX9_isSheet, Cond.static yX9_isSheet, Cond.code yX9_isSheet cX9_isSheet 1 (some .boolean), Cond.methodLink RX9 70 yX9_within, Cond.static yX9_within, Cond.code yX9_within cX9_within 3 (some .boolean), Cond.methodLink RX9 84 yX9_isSort, Cond.static yX9_isSort, Cond.code yX9_isSort cX9_isSort 1 (some .boolean), Cond.methodLink RX9 87 yX9_against, Cond.instanceMethod yX9_against, Cond.selects RX9 yX9_against yX9_against, Cond.code yX9_against cX9_against 5 (some .int), Cond.methodLink RX9 91 yX9_fails, Cond.instanceMethod yX9_fails, Cond.selects RX9 yX9_fails yX9_fails]
def wsL_law_r13 : List Cond := [Cond.code yX9_fails cX9_fails 2 (some .int), Cond.methodLink RX9 95 yX9_readAll, Cond.instanceMethod yX9_readAll, Cond.selects RX9 yX9_readAll yX9_readAll, Cond.code yX9_readAll cX9_readAll 2 (some .boolean), Cond.methodLink RX9 107 yX9_isSign, Cond.instanceMethod yX9_isSign, Cond.selects RX9 yX9_isSign yX9_isSign, Cond.code yX9_isSign cX9_isSign 3 (some .boolean), Cond.methodLink RX9 111 yX9_readFont, Cond.instanceMethod yX9_readFont, Cond.selects RX9 yX9_readFont yX9_readFont, Cond.code yX9_readFont cX9_readFont 5 (some .boolean), Cond.methodLink RX9 114 yX9_size, Cond.static yX9_size, Cond.code yX9_size cX9_size 3 (some .int), Cond.methodLink RX9 117 yX9_isOf, Cond.static yX9_isOf, Cond.code yX9_isOf cX9_isOf 2 (some .boolean), Cond.methodLink RL 18 yX8_ofFont, Cond.instanceMethod yX8_ofFont, Cond.selects RX8 yX8_ofFont yX8_ofFont, Cond.code yX8_ofFont cX8_ofFont 3 (some .int), Cond.fieldLink RX8 112 "FontRuns$FontRow" "kind" "[I"]
def wsL_law_r14 : List Cond := [Cond.fieldLink RX8 116 "FontRuns$FontRow" "breadth" "[I", Cond.fieldLink RX8 122 "FontRuns$FontRow" "has" "[I", Cond.methodLink RX8 109 yX0_isFont, Cond.methodLink RX8 119 yX0_step, Cond.instanceMethod yX0_step, Cond.selects RX0 yX0_step yX0_step, Cond.code yX0_step cX0_step 2 (some .int), Cond.methodLink RX0 29 yX0_isFont, Cond.static yX8_stepOf, Cond.code yX8_stepOf cX8_stepOf 2 (some .int), Cond.methodLink RX8 125 yX1_placeOf, Cond.instanceMethod yX1_placeOf, Cond.selects RX1 yX1_placeOf yX1_placeOf, Cond.code yX1_placeOf cX1_placeOf 3 (some .int), Cond.methodLink RL 22 yX9_ofFont, Cond.instanceMethod yX9_ofFont, Cond.selects RX9 yX9_ofFont yX9_ofFont, Cond.code yX9_ofFont cX9_ofFont 3 (some .int), Cond.methodLink RX9 120 yX9_isFont, Cond.instanceMethod yX9_isFont, Cond.selects RX9 yX9_isFont yX9_isFont, Cond.code yX9_isFont cX9_isFont 2 (some .boolean), Cond.methodLink RX9 123 yX9_stepOf, Cond.instanceMethod yX9_stepOf]
def wsL_law_r15 : List Cond := [Cond.selects RX9 yX9_stepOf yX9_stepOf, Cond.code yX9_stepOf cX9_stepOf 2 (some .int), Cond.methodLink RX9 126 yX9_placeOf, Cond.instanceMethod yX9_placeOf, Cond.selects RX9 yX9_placeOf yX9_placeOf, Cond.code yX9_placeOf cX9_placeOf 3 (some .int), Cond.methodLink RL 23 yX8_width, Cond.instanceMethod yX8_width, Cond.selects RX8 yX8_width yX8_width, Cond.code yX8_width cX8_width 4 (some .int), Cond.methodLink RL 26 yX9_width, Cond.instanceMethod yX9_width, Cond.selects RX9 yX9_width yX9_width, Cond.code yX9_width cX9_width 4 (some .int), Cond.methodLink RL 27 yX8_write, Cond.instanceMethod yX8_write, Cond.selects RX8 yX8_write yX8_write, Cond.code yX8_write cX8_write 8 (some .int), Cond.methodLink RX8 149 yX8_faultOfCells, Cond.static yX8_faultOfCells, Cond.code yX8_faultOfCells cX8_faultOfCells 5 (some .int), Cond.methodLink RX8 153 yX8_areLetters, Cond.static yX8_areLetters, Cond.code yX8_areLetters cX8_areLetters 4 (some .boolean)]
def wsL_law_r16 : List Cond := [Cond.methodLink RX8 157 yX5_at, Cond.methodLink RX8 160 yX8_writeOne, Cond.instanceMethod yX8_writeOne, Cond.selects RX8 yX8_writeOne yX8_writeOne, Cond.code yX8_writeOne cX8_writeOne 2 none, Cond.fieldLink RX8 203 "FontRuns" "everWritten" "I", Cond.constantLong RX8 225 (31), Cond.fieldLink RX8 206 "FontRuns" "writtenCheck" "J", Cond.methodLink RX8 222 yX7_add, Cond.instanceMethod yX7_add, Cond.selects RX7 yX7_add yX7_add, Cond.code yX7_add cX7_add 2 (some .boolean), Cond.fieldLink RX7 15 "FontRuns$Writing" "count" "I", Cond.methodLink RL 30 yX9_write, Cond.instanceMethod yX9_write, Cond.selects RX9 yX9_write yX9_write, Cond.code yX9_write cX9_write 8 (some .int), Cond.fieldLink RX9 129 "FontRunsModel" "tally" "I", Cond.constantLong RX9 132 (31), Cond.fieldLink RX9 134 "FontRunsModel" "check" "J", Cond.methodLink RL 31 yX8_erase, Cond.instanceMethod yX8_erase, Cond.selects RX8 yX8_erase yX8_erase, Cond.code yX8_erase cX8_erase 2 (some .int)]
def wsL_law_r17 : List Cond := [Cond.methodLink RX8 163 yX7_drop, Cond.instanceMethod yX7_drop, Cond.selects RX7 yX7_drop yX7_drop, Cond.code yX7_drop cX7_drop 2 (some .boolean), Cond.methodLink RL 35 yX9_erase, Cond.instanceMethod yX9_erase, Cond.selects RX9 yX9_erase yX9_erase, Cond.code yX9_erase cX9_erase 2 (some .int), Cond.methodLink RL 36 yX8_letter, Cond.instanceMethod yX8_letter, Cond.selects RX8 yX8_letter yX8_letter, Cond.code yX8_letter cX8_letter 2 (some .int), Cond.fieldLink RX8 166 "FontRuns$Writing" "row" "[I", Cond.methodLink RL 39 yX9_letter, Cond.instanceMethod yX9_letter, Cond.selects RX9 yX9_letter yX9_letter, Cond.code yX9_letter cX9_letter 2 (some .int), Cond.methodLink RL 40 yX8_ofCluster, Cond.instanceMethod yX8_ofCluster, Cond.selects RX8 yX8_ofCluster yX8_ofCluster, Cond.code yX8_ofCluster cX8_ofCluster 3 (some .int), Cond.fieldLink RX8 172 "FontRuns$Setting" "first" "[I", Cond.fieldLink RX8 175 "FontRuns$Setting" "length" "[I", Cond.fieldLink RX8 178 "FontRuns$Setting" "fitting" "[I"]
def wsL_law_r18 : List Cond := [Cond.fieldLink RX8 181 "FontRuns$Setting" "chosen" "[I", Cond.fieldLink RX8 184 "FontRuns$Setting" "runOf" "[I", Cond.methodLink RX8 169 yX4_isCluster, Cond.instanceMethod yX4_isCluster, Cond.selects RX4 yX4_isCluster yX4_isCluster, Cond.code yX4_isCluster cX4_isCluster 2 (some .boolean), Cond.methodLink RL 43 yX9_ofCluster, Cond.instanceMethod yX9_ofCluster, Cond.selects RX9 yX9_ofCluster yX9_ofCluster, Cond.code yX9_ofCluster cX9_ofCluster 3 (some .int), Cond.fieldLink RX9 138 "FontRunsModel" "clusters" "I", Cond.methodLink RX9 167 yX9_findBest, Cond.instanceMethod yX9_findBest, Cond.selects RX9 yX9_findBest yX9_findBest, Cond.code yX9_findBest cX9_findBest 6 (some .int), Cond.fieldLink RX9 158 "FontRunsModel" "advance" "I", Cond.fieldLink RX9 161 "FontRunsModel" "runs" "I", Cond.methodLink RX9 155 yX9_findChanges, Cond.instanceMethod yX9_findChanges, Cond.selects RX9 yX9_findChanges yX9_findChanges, Cond.code yX9_findChanges cX9_findChanges 4 (some .int), Cond.methodLink RX9 147 yX9_findClusters, Cond.instanceMethod yX9_findClusters, Cond.selects RX9 yX9_findClusters yX9_findClusters]
def wsL_law_r19 : List Cond := [Cond.code yX9_findClusters cX9_findClusters 5 none, Cond.fieldLink RX9 141 "FontRunsModel" "boxes" "I", Cond.methodLink RX9 151 yX9_fewestBehind, Cond.instanceMethod yX9_fewestBehind, Cond.selects RX9 yX9_fewestBehind yX9_fewestBehind, Cond.code yX9_fewestBehind cX9_fewestBehind 7 (some .int), Cond.methodLink RX9 144 yX9_canSet, Cond.instanceMethod yX9_canSet, Cond.selects RX9 yX9_canSet yX9_canSet, Cond.code yX9_canSet cX9_canSet 4 (some .boolean), Cond.methodLink RX9 164 yX9_isBestFor, Cond.instanceMethod yX9_isBestFor, Cond.selects RX9 yX9_isBestFor yX9_isBestFor, Cond.code yX9_isBestFor cX9_isBestFor 5 (some .boolean), Cond.methodLink RX9 171 yX9_runOf, Cond.instanceMethod yX9_runOf, Cond.selects RX9 yX9_runOf yX9_runOf, Cond.code yX9_runOf cX9_runOf 4 (some .int), Cond.methodLink RL 44 yX8_ofRun, Cond.instanceMethod yX8_ofRun, Cond.selects RX8 yX8_ofRun yX8_ofRun, Cond.code yX8_ofRun cX8_ofRun 5 (some .int), Cond.fieldLink RX8 187 "FontRuns$Setting" "runs" "I", Cond.methodLink RX8 190 yX4_firstOfRun]
def wsL_law_r20 : List Cond := [Cond.instanceMethod yX4_firstOfRun, Cond.selects RX4 yX4_firstOfRun yX4_firstOfRun, Cond.code yX4_firstOfRun cX4_firstOfRun 3 (some .int), Cond.methodLink RX8 193 yX4_clustersOfRun, Cond.instanceMethod yX4_clustersOfRun, Cond.selects RX4 yX4_clustersOfRun yX4_clustersOfRun, Cond.code yX4_clustersOfRun cX4_clustersOfRun 4 (some .int), Cond.methodLink RL 47 yX9_ofRun, Cond.instanceMethod yX9_ofRun, Cond.selects RX9 yX9_ofRun yX9_ofRun, Cond.code yX9_ofRun cX9_ofRun 7 (some .int), Cond.methodLink RL 48 yX8_prefer, Cond.instanceMethod yX8_prefer, Cond.selects RX8 yX8_prefer yX8_prefer, Cond.code yX8_prefer cX8_prefer 3 (some .int), Cond.methodLink RX8 196 yX1_lead, Cond.instanceMethod yX1_lead, Cond.selects RX1 yX1_lead yX1_lead, Cond.code yX1_lead cX1_lead 4 (some .boolean), Cond.methodLink RX1 25 yX1_placeOf, Cond.methodLink RX8 199 yX3_keep, Cond.instanceMethod yX3_keep, Cond.selects RX3 yX3_keep yX3_keep, Cond.code yX3_keep cX3_keep 3 none]
def wsL_law_r21 : List Cond := [Cond.fieldLink RX3 15 "FontRuns$Recent" "count" "I", Cond.methodLink RX3 19 Lib.Math.min.name, Cond.methodLink RL 51 yX9_prefer, Cond.instanceMethod yX9_prefer, Cond.selects RX9 yX9_prefer yX9_prefer, Cond.code yX9_prefer cX9_prefer 3 (some .int), Cond.methodLink RX9 174 yX9_comesFirst, Cond.instanceMethod yX9_comesFirst, Cond.selects RX9 yX9_comesFirst yX9_comesFirst, Cond.code yX9_comesFirst cX9_comesFirst 4 (some .int), Cond.methodLink RL 52 yX8_latest, Cond.instanceMethod yX8_latest, Cond.selects RX8 yX8_latest yX8_latest, Cond.code yX8_latest cX8_latest 2 (some .int), Cond.fieldLink RX8 202 "FontRuns$Recent" "row" "[I", Cond.methodLink RL 55 yX9_latest, Cond.instanceMethod yX9_latest, Cond.selects RX9 yX9_latest yX9_latest, Cond.code yX9_latest cX9_latest 2 (some .int), Cond.methodLink RL 56 yX8_tally, Cond.instanceMethod yX8_tally, Cond.selects RX8 yX8_tally yX8_tally, Cond.code yX8_tally cX8_tally 1 (some .int), Cond.methodLink RL 60 yX9_tally]
def wsL_law_r22 : List Cond := [Cond.instanceMethod yX9_tally, Cond.selects RX9 yX9_tally yX9_tally, Cond.code yX9_tally cX9_tally 1 (some .int), Cond.methodLink RL 61 yX8_check, Cond.instanceMethod yX8_check, Cond.selects RX8 yX8_check yX8_check, Cond.code yX8_check cX8_check 1 (some .long), Cond.methodLink RL 65 yX9_check, Cond.instanceMethod yX9_check, Cond.selects RX9 yX9_check yX9_check, Cond.code yX9_check cX9_check 1 (some .long), Cond.methodLink RL 66 yX8_day, Cond.instanceMethod yX8_day, Cond.selects RX8 yX8_day yX8_day, Cond.code yX8_day cX8_day 9 (some .int), Cond.methodLink RX8 210 yX8_isOfDay, Cond.static yX8_isOfDay, Cond.code yX8_isOfDay cX8_isOfDay 1 (some .boolean), Cond.methodLink RX8 213 yX8_areActs, Cond.static yX8_areActs, Cond.code yX8_areActs cX8_areActs 4 (some .boolean), Cond.methodLink RX8 235 yX8_isAct, Cond.static yX8_isAct, Cond.code yX8_isAct cX8_isAct 2 (some .boolean)]
def wsL_law_r23 : List Cond := [Cond.methodLink RX8 216 yX8_supposeActs, Cond.instanceMethod yX8_supposeActs, Cond.selects RX8 yX8_supposeActs yX8_supposeActs, Cond.code yX8_supposeActs cX8_supposeActs 5 (some .int), Cond.methodLink RX8 238 yX7_takeFrom, Cond.instanceMethod yX7_takeFrom, Cond.selects RX7 yX7_takeFrom yX7_takeFrom, Cond.code yX7_takeFrom cX7_takeFrom 3 none, Cond.methodLink RX8 241 yX1_takeFrom, Cond.instanceMethod yX1_takeFrom, Cond.selects RX1 yX1_takeFrom yX1_takeFrom, Cond.code yX1_takeFrom cX1_takeFrom 3 none, Cond.methodLink RX8 244 yX8_supposeAct, Cond.instanceMethod yX8_supposeAct, Cond.selects RX8 yX8_supposeAct yX8_supposeAct, Cond.code yX8_supposeAct cX8_supposeAct 3 (some .boolean), Cond.methodLink RX8 219 yX8_ofSupposedDay, Cond.instanceMethod yX8_ofSupposedDay, Cond.selects RX8 yX8_ofSupposedDay yX8_ofSupposedDay, Cond.code yX8_ofSupposedDay cX8_ofSupposedDay 2 (some .int), Cond.fieldLink RX8 250 "FontRuns$Setting" "count" "I", Cond.fieldLink RX8 251 "FontRuns$Setting" "boxes" "I", Cond.methodLink RX8 247 yX4_changes, Cond.instanceMethod yX4_changes]
def wsL_law_r24 : List Cond := [Cond.selects RX4 yX4_changes yX4_changes, Cond.code yX4_changes cX4_changes 1 (some .int), Cond.methodLink RX4 62 Lib.Math.max.name, Cond.static Lib.Math.max.name, Cond.code Lib.Math.max.name Lib.Math.max.code 2 (some .int), Cond.methodLink RX8 254 yX4_advance, Cond.instanceMethod yX4_advance, Cond.selects RX4 yX4_advance yX4_advance, Cond.code yX4_advance cX4_advance 4 (some .int), Cond.methodLink RX4 68 yX0_step, Cond.methodLink RL 70 yX9_day, Cond.instanceMethod yX9_day, Cond.selects RX9 yX9_day yX9_day, Cond.code yX9_day cX9_day 10 (some .int), Cond.methodLink RX9 180 yX9_isPair, Cond.static yX9_isPair, Cond.code yX9_isPair cX9_isPair 2 (some .boolean), Cond.methodLink RX9 183 yX9_keep, Cond.instanceMethod yX9_keep, Cond.selects RX9 yX9_keep yX9_keep, Cond.code yX9_keep cX9_keep 2 none, Cond.methodLink RX9 186 yX9_goDay, Cond.instanceMethod yX9_goDay, Cond.selects RX9 yX9_goDay yX9_goDay]
def wsL_law_r25 : List Cond := [Cond.code yX9_goDay cX9_goDay 4 (some .int), Cond.methodLink RX9 177 yX9_does, Cond.instanceMethod yX9_does, Cond.selects RX9 yX9_does yX9_does, Cond.code yX9_does cX9_does 3 (some .boolean), Cond.methodLink RX9 190 yX9_tellDay, Cond.instanceMethod yX9_tellDay, Cond.selects RX9 yX9_tellDay yX9_tellDay, Cond.code yX9_tellDay cX9_tellDay 3 (some .int), Cond.methodLink RX9 193 yX9_putBack, Cond.instanceMethod yX9_putBack, Cond.selects RX9 yX9_putBack yX9_putBack, Cond.code yX9_putBack cX9_putBack 2 none, Cond.methodLink RL 71 yX8_best, Cond.instanceMethod yX8_best, Cond.selects RX8 yX8_best yX8_best, Cond.code yX8_best cX8_best 2 (some .int), Cond.methodLink RL 74 yX9_best, Cond.instanceMethod yX9_best, Cond.selects RX9 yX9_best yX9_best, Cond.code yX9_best cX9_best 3 (some .int), Cond.methodLink RL 75 yX8_without, Cond.instanceMethod yX8_without, Cond.selects RX8 yX8_without yX8_without]
def wsL_law_r26 : List Cond := [Cond.code yX8_without cX8_without 2 (some .int), Cond.methodLink RL 78 yX9_without, Cond.instanceMethod yX9_without, Cond.selects RX9 yX9_without yX9_without, Cond.code yX9_without cX9_without 2 (some .int), Cond.methodLink RL 79 yX8_enough, Cond.instanceMethod yX8_enough, Cond.selects RX8 yX8_enough yX8_enough, Cond.code yX8_enough cX8_enough 3 (some .int), Cond.methodLink RX8 258 yX8_leastEnough, Cond.instanceMethod yX8_leastEnough, Cond.selects RX8 yX8_leastEnough yX8_leastEnough, Cond.code yX8_leastEnough cX8_leastEnough 3 (some .int), Cond.methodLink RX8 266 yX4_isServedBy, Cond.instanceMethod yX4_isServedBy, Cond.selects RX4 yX4_isServedBy yX4_isServedBy, Cond.code yX4_isServedBy cX4_isServedBy 3 (some .boolean), Cond.methodLink RX8 261 yJ6_bitCount_0f7a4, Cond.methodLink RL 82 yX9_enough, Cond.instanceMethod yX9_enough, Cond.selects RX9 yX9_enough yX9_enough, Cond.code yX9_enough cX9_enough 6 (some .int), Cond.methodLink RL 83 yX8_reading, Cond.instanceMethod yX8_reading]
def wsL_law_r27 : List Cond := [Cond.selects RX8 yX8_reading yX8_reading, Cond.code yX8_reading cX8_reading 3 (some .int), Cond.methodLink RX8 269 yX2_add, Cond.instanceMethod yX2_add, Cond.selects RX2 yX2_add yX2_add, Cond.code yX2_add cX2_add 4 (some .boolean), Cond.fieldLink RX2 20 "FontRuns$Readings" "count" "I", Cond.methodLink RX2 28 yX4_clustersIn, Cond.instanceMethod yX4_clustersIn, Cond.selects RX4 yX4_clustersIn yX4_clustersIn, Cond.code yX4_clustersIn cX4_clustersIn 4 (some .int), Cond.methodLink RL 86 yX9_reading, Cond.instanceMethod yX9_reading, Cond.selects RX9 yX9_reading yX9_reading, Cond.code yX9_reading cX9_reading 2 (some .int), Cond.methodLink RL 87 yX8_back, Cond.instanceMethod yX8_back, Cond.selects RX8 yX8_back yX8_back, Cond.code yX8_back cX8_back 2 (some .int), Cond.methodLink RL 90 yX9_back, Cond.instanceMethod yX9_back, Cond.selects RX9 yX9_back yX9_back, Cond.code yX9_back cX9_back 2 (some .int), Cond.methodLink RL 91 yX8_kinds]
def wsL_law_r28 : List Cond := [Cond.instanceMethod yX8_kinds, Cond.selects RX8 yX8_kinds yX8_kinds, Cond.code yX8_kinds cX8_kinds 4 (some .int), Cond.methodLink RX8 272 yX8_stepOf, Cond.methodLink RX8 276 yX2_areSo, Cond.instanceMethod yX2_areSo, Cond.selects RX2 yX2_areSo yX2_areSo, Cond.code yX2_areSo cX2_areSo 7 (some .boolean), Cond.fieldLink RX2 34 "FontRuns$FontRow" "count" "I", Cond.methodLink RX2 37 yX0_step, Cond.methodLink RL 94 yX9_kinds, Cond.instanceMethod yX9_kinds, Cond.selects RX9 yX9_kinds yX9_kinds, Cond.code yX9_kinds cX9_kinds 5 (some .int), Cond.methodLink RX9 196 yX9_areSo, Cond.instanceMethod yX9_areSo, Cond.selects RX9 yX9_areSo yX9_areSo, Cond.code yX9_areSo cX9_areSo 3 (some .boolean), Cond.methodLink RL 95 yX8_widths, Cond.instanceMethod yX8_widths, Cond.selects RX8 yX8_widths yX8_widths, Cond.code yX8_widths cX8_widths 4 (some .int), Cond.methodLink RL 98 yX9_widths, Cond.instanceMethod yX9_widths]
def wsL_law_r29 : List Cond := [Cond.selects RX9 yX9_widths yX9_widths, Cond.code yX9_widths cX9_widths 5 (some .int), Cond.methodLink RL 99 yX8_odds, Cond.instanceMethod yX8_odds, Cond.selects RX8 yX8_odds yX8_odds, Cond.code yX8_odds cX8_odds 5 (some .long), Cond.constantLong RX8 280 (-9223372036854775808), Cond.methodLink RX8 282 yX8_lettersWithChanges, Cond.instanceMethod yX8_lettersWithChanges, Cond.selects RX8 yX8_lettersWithChanges yX8_lettersWithChanges, Cond.code yX8_lettersWithChanges cX8_lettersWithChanges 4 (some .int), Cond.methodLink RL 103 yX9_odds, Cond.instanceMethod yX9_odds, Cond.selects RX9 yX9_odds yX9_odds, Cond.code yX9_odds cX9_odds 5 (some .long), Cond.constantLong RX9 68 (-9223372036854775808), Cond.constantLong RX9 200 (16), Cond.methodLink RX9 202 yX9_inLeastTerms, Cond.static yX9_inLeastTerms, Cond.code yX9_inLeastTerms cX9_inLeastTerms 11 (some .long), Cond.methodLink RL 104 yX8_sheet, Cond.instanceMethod yX8_sheet, Cond.selects RX8 yX8_sheet yX8_sheet, Cond.code yX8_sheet cX8_sheet 4 (some .int)]
def wsL_law_r30 : List Cond := [Cond.methodLink RX8 285 yX5_begin, Cond.instanceMethod yX5_begin, Cond.selects RX5 yX5_begin yX5_begin, Cond.code yX5_begin cX5_begin 4 none, Cond.fieldLink RX5 19 "FontRuns$Sheet" "lane" "I", Cond.methodLink RL 108 yX9_sheet, Cond.instanceMethod yX9_sheet, Cond.selects RX9 yX9_sheet yX9_sheet, Cond.code yX9_sheet cX9_sheet 5 (some .int), Cond.methodLink RL 109 yX8_lose, Cond.instanceMethod yX8_lose, Cond.selects RX8 yX8_lose yX8_lose, Cond.code yX8_lose cX8_lose 3 (some .int), Cond.methodLink RL 112 yX9_lose, Cond.instanceMethod yX9_lose, Cond.selects RX9 yX9_lose yX9_lose, Cond.code yX9_lose cX9_lose 3 (some .int), Cond.methodLink RL 113 yX8_put, Cond.instanceMethod yX8_put, Cond.selects RX8 yX8_put yX8_put, Cond.code yX8_put cX8_put 5 (some .int), Cond.fieldLink RX8 295 "FontRuns$Sheet" "cells" "[I", Cond.methodLink RX8 292 yX5_hasCell, Cond.methodLink RX8 298 yX5_cut]
def wsL_law_r31 : List Cond := [Cond.instanceMethod yX5_cut, Cond.selects RX5 yX5_cut yX5_cut, Cond.code yX5_cut cX5_cut 2 (some .int), Cond.methodLink RL 116 yX9_put, Cond.instanceMethod yX9_put, Cond.selects RX9 yX9_put yX9_put, Cond.code yX9_put cX9_put 4 (some .int), Cond.methodLink RL 117 yX8_cell, Cond.instanceMethod yX8_cell, Cond.selects RX8 yX8_cell yX8_cell, Cond.code yX8_cell cX8_cell 6 (some .long), Cond.methodLink RL 121 yX9_cell, Cond.instanceMethod yX9_cell, Cond.selects RX9 yX9_cell yX9_cell, Cond.code yX9_cell cX9_cell 4 (some .long), Cond.methodLink RX9 206 yX9_lost, Cond.instanceMethod yX9_lost, Cond.selects RX9 yX9_lost yX9_lost, Cond.code yX9_lost cX9_lost 2 (some .long), Cond.methodLink RL 122 yX8_copy, Cond.instanceMethod yX8_copy, Cond.selects RX8 yX8_copy yX8_copy, Cond.code yX8_copy cX8_copy 8 (some .int), Cond.methodLink RX8 304 arraycopyName]
def wsL_law_r32 : List Cond := [Cond.native arraycopyName, Cond.static arraycopyName, Cond.initialized "java/lang/System", Cond.methodLink RL 125 yX9_copy, Cond.instanceMethod yX9_copy, Cond.selects RX9 yX9_copy yX9_copy, Cond.code yX9_copy cX9_copy 10 (some .int), Cond.methodLink RL 126 yX8_tell, Cond.instanceMethod yX8_tell, Cond.selects RX8 yX8_tell yX8_tell, Cond.code yX8_tell cX8_tell 3 (some .int), Cond.methodLink RX8 310 yX8_doubleTold, Cond.instanceMethod yX8_doubleTold, Cond.selects RX8 yX8_doubleTold yX8_doubleTold, Cond.code yX8_doubleTold cX8_doubleTold 3 (some .int), Cond.methodLink RX8 319 yX8_leave, Cond.instanceMethod yX8_leave, Cond.selects RX8 yX8_leave yX8_leave, Cond.code yX8_leave cX8_leave 2 none, Cond.fieldLink RX8 322 "FontRuns" "trail" "I", Cond.methodLink RX8 313 yX8_broadTold, Cond.instanceMethod yX8_broadTold, Cond.selects RX8 yX8_broadTold yX8_broadTold, Cond.code yX8_broadTold cX8_broadTold 2 (some .int)]
def wsL_law_r33 : List Cond := [Cond.methodLink RX8 316 yX8_plainTold, Cond.instanceMethod yX8_plainTold, Cond.selects RX8 yX8_plainTold yX8_plainTold, Cond.code yX8_plainTold cX8_plainTold 2 (some .int), Cond.methodLink RL 129 yX9_tell, Cond.instanceMethod yX9_tell, Cond.selects RX9 yX9_tell yX9_tell, Cond.code yX9_tell cX9_tell 3 (some .int), Cond.methodLink RX9 213 yX9_begins, Cond.instanceMethod yX9_begins, Cond.selects RX9 yX9_begins yX9_begins, Cond.code yX9_begins cX9_begins 2 none, Cond.fieldLink RX9 210 "FontRunsModel" "trace" "I", Cond.methodLink RL 130 yX8_sample, Cond.instanceMethod yX8_sample, Cond.selects RX8 yX8_sample yX8_sample, Cond.code yX8_sample cX8_sample 2 (some .int), Cond.methodLink RL 133 yX9_sample, Cond.instanceMethod yX9_sample, Cond.selects RX9 yX9_sample yX9_sample, Cond.code yX9_sample cX9_sample 2 (some .int), Cond.methodLink RL 134 yX8_as, Cond.instanceMethod yX8_as, Cond.selects RX8 yX8_as yX8_as]
def wsL_law_r34 : List Cond := [Cond.code yX8_as cX8_as 3 (some .int), Cond.methodLink RL 137 yX9_as, Cond.instanceMethod yX9_as, Cond.selects RX9 yX9_as yX9_as, Cond.code yX9_as cX9_as 3 (some .int), Cond.methodLink RL 138 yX8_trace, Cond.instanceMethod yX8_trace, Cond.selects RX8 yX8_trace yX8_trace, Cond.code yX8_trace cX8_trace 1 (some .int), Cond.methodLink RL 141 yX9_trace, Cond.instanceMethod yX9_trace, Cond.selects RX9 yX9_trace yX9_trace, Cond.code yX9_trace cX9_trace 1 (some .int), Cond.methodLink RL 142 yX8_fault, Cond.instanceMethod yX8_fault, Cond.selects RX8 yX8_fault yX8_fault, Cond.code yX8_fault cX8_fault 1 (some .int), Cond.methodLink RL 145 yX9_fault, Cond.instanceMethod yX9_fault, Cond.selects RX9 yX9_fault yX9_fault, Cond.code yX9_fault cX9_fault 1 (some .int), Cond.methodLink RL 146 yX8_many, Cond.instanceMethod yX8_many, Cond.selects RX8 yX8_many yX8_many]
def wsL_law_r35 : List Cond := [Cond.code yX8_many cX8_many 2 (some .int), Cond.methodLink RL 149 yX9_many, Cond.instanceMethod yX9_many, Cond.selects RX9 yX9_many yX9_many, Cond.code yX9_many cX9_many 2 (some .int)]
def wsL_law : List Cond := (wsL_law_r1 ++ (wsL_law_r2 ++ (wsL_law_r3 ++ (wsL_law_r4 ++ (wsL_law_r5 ++ (wsL_law_r6 ++ (wsL_law_r7 ++ (wsL_law_r8 ++ (wsL_law_r9 ++ (wsL_law_r10 ++ (wsL_law_r11 ++ (wsL_law_r12 ++ (wsL_law_r13 ++ (wsL_law_r14 ++ (wsL_law_r15 ++ (wsL_law_r16 ++ (wsL_law_r17 ++ (wsL_law_r18 ++ (wsL_law_r19 ++ (wsL_law_r20 ++ (wsL_law_r21 ++ (wsL_law_r22 ++ (wsL_law_r23 ++ (wsL_law_r24 ++ (wsL_law_r25 ++ (wsL_law_r26 ++ (wsL_law_r27 ++ (wsL_law_r28 ++ (wsL_law_r29 ++ (wsL_law_r30 ++ (wsL_law_r31 ++ (wsL_law_r32 ++ (wsL_law_r33 ++ (wsL_law_r34 ++ wsL_law_r35)))))))))))))))))))))))))))))))))) ++ wsX80 ++ wsX90 ++ wsX50 ++ wsX60 ++ wsX00 ++ wsX70 ++ wsX10 ++ wsX30 ++ wsX40 ++ wsX20 ++ ([] : List Cond)
end
section
/-! the words of the nest and of arrays over rows: carried by every contract -/
def kNt : List (String × Nat × MethodName) := [(RX8, 17, yX5_init), (RX8, 20, yX6_init), (RX8, 27, yX0_init), (RX8, 34, yX7_init), (RX8, 41, yX1_init), (RX8, 48, yX3_init), (RX8, 55, yX4_init), (RX8, 62, yX2_init), (RX0, 25, yX8_isWithin), (RX0, 33, yX8_stepOf), (RX2, 24, yX8_isWithin), (RX4, 55, yX8_isWithin), (RX5, 26, yX8_isWithin), (RX6, 11, yX0_init), (RX6, 58, yX8_isWithin), (RX7, 19, yX8_isWithin)]
abbrev vwCl : List vw_C := [(RX0, TX0, 4), (RX1, TX1, 2), (RX2, TX2, 3), (RX3, TX3, 2), (RX4, TX4, 10), (RX5, TX5, 4), (RX6, TX6, 2), (RX7, TX7, 2), (RX8, TX8, 15), (RX9, TX9, 31)]
theorem va_AOA.moved {ty : FieldType} {u U : State} (hvm : u.vm.Alike U.vm) (h : va_AOA ty u) : va_AOA ty U := by
  have h2 : (Cond.arrayOver (.array ty)).before #[] (u.setVm U.vm) = true := by rw [Cond.arrayOver_setVmC hvm]; exact h
  unfold va_AOA
  simp only [Cond.before, Cond.holds, Cond.value] at h2 ⊢
  exact h2
def kN (U : State) : Prop := (∀ q ∈ kNt, va_Nw (.methodLinkNest q.1 q.2.1 q.2.2 "FontRuns") U) ∧ va_AO RX5 U ∧ va_AOA .int U ∧ ∃ cy, U.vm.findClass (FieldType.array .int).toString = some cy
theorem kN_warm {s U : State} (hW : s.WarmedH U.vm) (h : kN s) : kN U := ⟨fun q hq => va_Nw.warmM hW (h.1 q hq), va_AO.moved hW.alike h.2.1, va_AOA.moved hW.alike h.2.2.1, by obtain ⟨cy, e⟩ := h.2.2.2; exact ⟨cy, by rw [hW.alike.findClass]; exact e⟩⟩
theorem kN_same {s U : State} (e : s.vm = U.vm) (h : kN s) : kN U := ⟨fun q hq => va_Nw.same rfl e (h.1 q hq), va_AO.moved (e ▸ Vm.Alike.refl s.vm) h.2.1, va_AOA.moved (e ▸ Vm.Alike.refl s.vm) h.2.2.1, by rw [← e]; exact h.2.2.2⟩
/-! a contract's start -/
def kPre (av : List Value) (D : va_G) (w0 : va_W) (tys : List (ClassId × FieldType)) (sz : Nat) : Array Value → State → Prop := fun v U => v = av.toArray ∧ U.heap.size = sz ∧ va_P D vwCl w0 U.heap ∧ va_K D vwCl tys U ∧ va_D (fun _ => True) w0 ∧ kN U
theorem kPre_blind {av : List Value} {D : va_G} {w0 : va_W} {tys : List (ClassId × FieldType)} {sz : Nat} : FrameBlind (kPre av D w0 tys sz) := fun a U g mk q => by
  obtain ⟨q0, q1, qP, qK, qD, qN⟩ := q
  exact ⟨q0, q1, qP, va_K.moved (u := U) (U := U.calling g mk a) (Vm.Alike.refl U.vm) qK, qD, kN_same (s := U) (U := U.calling g mk a) rfl qN⟩
theorem kfm {α β : Type} {f : α → Option β} : ∀ {l : List α} {r : List β}, l.map f = r.map some → l.filterMap f = r
  | [], r, h => by cases r with | nil => rfl | cons a b => cases h
  | x :: l, r, h => by
    cases r with
    | nil => cases h
    | cons a b =>
      rw [List.map_cons, List.map_cons] at h
      obtain ⟨h1, h2⟩ := List.cons.inj h
      rw [List.filterMap_cons, h1, kfm h2]
theorem kD0 {A : Nat → Prop} {ws : va_W} (h : va_D A ws) : va_D (fun _ => True) ws := h.weaken (fun _ _ _ _ => trivial)
theorem kPre_at {s : State} {H : Heap} {D : va_G} {ws w0 : va_W} {tys t0 : List (ClassId × FieldType)} {av : List Value} (hP : va_P D vwCl ws H) (hD : va_D (fun _ => True) ws) (hK : va_K D vwCl tys s) (hN : kN s) (is ts : List Nat) (hs : is.map (fun i => ws[i]?) = w0.map some) (ht : ts.filterMap (fun i => tys[i]?) = t0) (hn : va_nd is = true) (U : State) (hU : U.heap = H) (hW : s.WarmedH U.vm) : kPre av D w0 t0 H.size av.toArray U :=
  ⟨rfl, by rw [hU], by rw [hU]; exact hP.sub is (kfm hs), va_K.moved hW.alike (hK.sub ts ht), hD.sub is hn hs, kN_warm hW hN⟩
theorem kPreS {s : State} {H : Heap} {D : va_G} {ws w0 : va_W} {tys t0 : List (ClassId × FieldType)} {As : List Value} (hP : va_P D vwCl ws H) (hD : va_D (fun _ => True) ws) (hK : va_K D vwCl tys s) (hN : kN s) (is ts : List Nat) (hs : is.map (fun i => ws[i]?) = w0.map some) (ht : ts.filterMap (fun i => tys[i]?) = t0) (hn : va_nd is = true) : PreS s H (kPre As D w0 t0 H.size) As :=
  ⟨kPre_blind, fun U hU hW => kPre_at hP hD hK hN is ts hs ht hn U hU hW⟩
theorem kPreV {s : State} {H : Heap} {D : va_G} {ws w0 : va_W} {tys t0 : List (ClassId × FieldType)} {As : List Value} {b : Nat} {C : String} {T : u_T} {N : Nat} {fs : List Value} (hP : va_P D vwCl ws H) (hD : va_D (fun _ => True) ws) (hK : va_K D vwCl tys s) (hN : kN s) (is ts : List Nat) (hs : is.map (fun i => ws[i]?) = w0.map some) (ht : ts.filterMap (fun i => tys[i]?) = t0) (hn : va_nd is = true) (q0 ci : Nat) (he : ws[q0]? = some (b, .inr (ci, fs))) (hc : vwCl[ci]? = some (C, T, N)) : PreV s H C b (kPre (.ref b :: As) D w0 t0 H.size) As :=
  ⟨kPre_blind, va_recv hK hP hc he, fun U hU hW => kPre_at hP hD hK hN is ts hs ht hn U hU hW⟩
/-! ends -/
def QcReadL (r : Int64) : Array Value → State → Outcome → State → Prop := fun _ st o t => o = .returned (some (.long r)) ∧ t.heap = st.heap
def kQi (r : Int32) (A : Nat → Prop) : Array Value → State → Outcome → State → Prop := va_Qi (fun r' (_ : Unit) => r' = r) (fun _ _ => True) A
def kQl (r : Int64) (A : Nat → Prop) : Array Value → State → Outcome → State → Prop := va_Ql (fun r' (_ : Unit) => r' = r) (fun _ _ => True) A
def kQiW (r : Int32) (D : va_G) (w1 : va_W) (A : Nat → Prop) : Array Value → State → Outcome → State → Prop := va_Qi (fun r' (_ : Unit) => r' = r) (fun _ t => va_P D vwCl w1 t.heap ∧ va_D A w1) A
def kQvW (D : va_G) (w1 : va_W) (A : Nat → Prop) : Array Value → State → Outcome → State → Prop := va_Qv (fun (_ : Unit) => True) (fun _ t => va_P D vwCl w1 t.heap ∧ va_D A w1) A
theorem kRd {a : Array Value} {st t : State} {v r : Int32} (h : v = r) (ht : t.heap = st.heap) : QcRead r a st (.returned (some (.int v))) t := ⟨by rw [h], ht⟩
theorem kRdL {a : Array Value} {st t : State} {v r : Int64} (h : v = r) (ht : t.heap = st.heap) : QcReadL r a st (.returned (some (.long v))) t := ⟨by rw [h], ht⟩
theorem kQi_of {a : Array Value} {A : Nat → Prop} {st t : State} {v r : Int32} (h : v = r) (hF : va_F A st t) : kQi r A a st (.returned (some (.int v))) t := ⟨⟨v, (), rfl, h, trivial⟩, hF⟩
theorem kQl_of {a : Array Value} {A : Nat → Prop} {st t : State} {v r : Int64} (h : v = r) (hF : va_F A st t) : kQl r A a st (.returned (some (.long v))) t := ⟨⟨v, (), rfl, h, trivial⟩, hF⟩
theorem kQiW_of {a : Array Value} {A : Nat → Prop} {D : va_G} {w1 : va_W} {st t : State} {v r : Int32} (h : v = r) (hP : va_P D vwCl w1 t.heap) (hD : va_D A w1) (hF : va_F A st t) : kQiW r D w1 A a st (.returned (some (.int v))) t := ⟨⟨v, (), rfl, h, hP, hD⟩, hF⟩
theorem kQvW_of {a : Array Value} {A : Nat → Prop} {D : va_G} {w1 : va_W} {st t : State} (hP : va_P D vwCl w1 t.heap) (hD : va_D A w1) (hF : va_F A st t) : kQvW D w1 A a st (.returned none) t := ⟨⟨(), rfl, trivial, hP, hD⟩, hF⟩
section
variable {p : Program} {l : Launch} {e : Env} {R : Room} {s : State} {m : MethodId} {args : Array Value} {below : List Frame} {meth : Method} {c : Code} {H : Heap} {locs : List Loc} {cells slots : Nat} {Q : State → Prop} {pc : Nat} {ls : Array Slot} {rest st0 : List Value} {a : Array Value}
theorem kn_i {x : Int32} (y : Int32) (h : x = y) (k : W p l e R s m args below meth c H locs cells slots Q (F0 m pc ls (.int y :: rest))) : W p l e R s m args below meth c H locs cells slots Q (F0 m pc ls (.int x :: rest)) := h ▸ k
theorem kn_l {x : Int64} (y : Int64) (h : x = y) (k : W p l e R s m args below meth c H locs cells slots Q (F0 m pc ls (.long y :: rest))) : W p l e R s m args below meth c H locs cells slots Q (F0 m pc ls (.long x :: rest)) := h ▸ k
theorem kn_v {x : Value} (y : Value) (h : x = y) (k : W p l e R s m args below meth c H locs cells slots Q (F0 m pc ls (y :: rest))) : W p l e R s m args below meth c H locs cells slots Q (F0 m pc ls (x :: rest)) := h ▸ k
theorem k_callR {r : Int32} (hr : va_Run p l e R s m args below meth c H locs cells slots 0 0 (F0 m pc ls st0) rest (QcRead r a) (fun _ => False)) (kk : W p l e R s m args below meth c H locs cells slots Q (F0 m (pc + 3) ls (.int r :: rest))) : W p l e R s m args below meth c H locs cells slots Q (F0 m pc ls st0) := by
  intro T hT X
  obtain ⟨v, st₀, t, T', L, h0, X', hL, e1, e2, ⟨hv, hh⟩, st⟩ := hr T hT X
  cases hv
  obtain ⟨t2, a1, b1⟩ := kk T' (by rw [e1, hh, h0]) (Stand.forget X' (fun q h => (hL q h).elim))
  exact ⟨t2, st t2 a1, b1⟩
theorem k_callRL {r : Int64} (hr : va_Run p l e R s m args below meth c H locs cells slots 0 0 (F0 m pc ls st0) rest (QcReadL r a) (fun _ => False)) (kk : W p l e R s m args below meth c H locs cells slots Q (F0 m (pc + 3) ls (.long r :: rest))) : W p l e R s m args below meth c H locs cells slots Q (F0 m pc ls st0) := by
  intro T hT X
  obtain ⟨v, st₀, t, T', L, h0, X', hL, e1, e2, ⟨hv, hh⟩, st⟩ := hr T hT X
  cases hv
  obtain ⟨t2, a1, b1⟩ := kk T' (by rw [e1, hh, h0]) (Stand.forget X' (fun q h => (hL q h).elim))
  exact ⟨t2, st t2 a1, b1⟩
theorem k_loop {I : Nat → Heap → List Loc → Array Slot → Prop} (N : Nat) (step : ∀ j, j ≤ N → (∀ H locs ls, j < N → I (j + 1) H locs ls → W p l e R s m args below meth c H locs cells slots Q (F0 m pc ls rest)) → ∀ H locs ls, I j H locs ls → W p l e R s m args below meth c H locs cells slots Q (F0 m pc ls rest)) (j0 : Nat) (hj : j0 ≤ N) (h0 : I j0 H locs ls) : W p l e R s m args below meth c H locs cells slots Q (F0 m pc ls rest) := by
  have all : ∀ n j, N - j < n → j ≤ N → ∀ H locs ls, I j H locs ls → W p l e R s m args below meth c H locs cells slots Q (F0 m pc ls rest) := by
    intro n
    induction n with
    | zero => intro j h; omega
    | succ n ih => intro j h hj; exact step j hj (fun H locs ls hlt hI => ih (j + 1) (by omega) (by omega) H locs ls hI)
  exact all (N - j0 + 1) j0 (by omega) hj H locs ls h0
end
/-! conditions -/
theorem b01t {P : Prop} [Decidable P] (h : ¬ (if P then (1 : Int32) else 0) = 0) : P := by
  by_cases c : P
  · exact c
  · exact absurd (if_neg c) h
theorem b01f {P : Prop} [Decidable P] (h : (if P then (1 : Int32) else 0) = 0) : ¬ P := fun c => by rw [if_pos c] at h; exact absurd h (by decide)
theorem kle {x y : Int32} : x ≤ y ↔ x.toInt ≤ y.toInt := Int32.le_iff_toInt_le
theorem klt {x y : Int32} : x < y ↔ x.toInt < y.toInt := Int32.lt_iff_toInt_lt
theorem kwi {v a b : Int32} (h1 : ¬ v < a) (h2 : ¬ b < v) : a ≤ v ∧ v ≤ b := by rw [klt] at h1 h2; rw [kle, kle]; omega
theorem kwi1 {v a b : Int32} (h : v < a) : ¬ (a ≤ v ∧ v ≤ b) := by rw [klt] at h; rw [kle, kle]; omega
theorem kwi2 {v a b : Int32} (h : b < v) : ¬ (a ≤ v ∧ v ≤ b) := by rw [klt] at h; rw [kle, kle]; omega
theorem kno {v : Int32} : ¬ (0 ≤ v ∧ v ≤ (-1 : Int32)) := by rw [kle, kle, show (0 : Int32).toInt = 0 from rfl, show (-1 : Int32).toInt = -1 from rfl]; omega
theorem k4 {x : Int32} (h : 0 ≤ x ∧ x ≤ 3) : x = 0 ∨ x = 1 ∨ x = 2 ∨ x = 3 := by
  rw [kle, kle, show (0 : Int32).toInt = 0 from rfl, show (3 : Int32).toInt = 3 from rfl] at h
  have e : x.toInt = 0 ∨ x.toInt = 1 ∨ x.toInt = 2 ∨ x.toInt = 3 := by omega
  rcases e with e | e | e | e
  · exact Or.inl (Int32.toInt_inj.mp e)
  · exact Or.inr (Or.inl (Int32.toInt_inj.mp e))
  · exact Or.inr (Or.inr (Or.inl (Int32.toInt_inj.mp e)))
  · exact Or.inr (Or.inr (Or.inr (Int32.toInt_inj.mp e)))
theorem k4in {x : Int32} (h : 0 ≤ x ∧ x ≤ 3) : vp_in x 4 := by rcases k4 h with e | e | e | e <;> (subst e; unfold vp_in; decide)
theorem kz1 {x : Int32} (h : 0 ≤ x ∧ x ≤ 0) : x = 0 := by
  rw [kle, kle, show (0 : Int32).toInt = 0 from rfl] at h
  exact Int32.toInt_inj.mp (by rw [show (0 : Int32).toInt = 0 from rfl]; omega)
theorem kzb {P : Prop} [Decidable P] : narrow .boolean (.int (if P then 1 else 0)) = .int (if P then 1 else 0) := by
  by_cases c : P
  · rw [if_pos c]; rfl
  · rw [if_neg c]; rfl
theorem kno' {v : Int32} : ¬ (0 ≤ v ∧ v ≤ (0 : Int32) - 1) := kno
theorem kT4 (x : Int32) : x = 0 ∨ x = 1 ∨ x = 2 ∨ x = 3 ∨ (x.toInt < 0 ∨ 3 < x.toInt) := by
  by_cases h : 0 ≤ x ∧ x ≤ 3
  · rcases k4 h with e | e | e | e
    · exact Or.inl e
    · exact Or.inr (Or.inl e)
    · exact Or.inr (Or.inr (Or.inl e))
    · exact Or.inr (Or.inr (Or.inr (Or.inl e)))
  · rw [kle, kle, show (0 : Int32).toInt = 0 from rfl, show (3 : Int32).toInt = 3 from rfl] at h
    exact Or.inr (Or.inr (Or.inr (Or.inr (by omega))))
theorem klt60 {j : Nat} (h : ¬ (60 : Int32) ≤ nI j) (hj : j ≤ 60) : j < 60 := by
  rcases Nat.lt_or_ge j 60 with h1 | h1
  · exact h1
  · have e : j = 60 := by omega
    subst e
    exact absurd (by decide) h
theorem k60in {j : Nat} (h : ¬ (60 : Int32) ≤ nI j) (hj : j ≤ 60) : vp_in (nI j) 60 := vp_in_nI (klt60 h hj) (by decide)
theorem k240 {k : Int32} {j : Nat} (h : 0 ≤ k ∧ k ≤ 3) (h2 : ¬ (60 : Int32) ≤ nI j) (hj : j ≤ 60) : vp_in (60 * k + nI j) 240 := by
  have hlt := klt60 h2 hj
  rcases k4 h with e | e | e | e <;> subst e
  · rw [show (60 * 0 : Int32) = nI 0 from by decide, nI_add]; exact vp_in_nI (by omega) (by decide)
  · rw [show (60 * 1 : Int32) = nI 60 from by decide, nI_add]; exact vp_in_nI (by omega) (by decide)
  · rw [show (60 * 2 : Int32) = nI 120 from by decide, nI_add]; exact vp_in_nI (by omega) (by decide)
  · rw [show (60 * 3 : Int32) = nI 180 from by decide, nI_add]; exact vp_in_nI (by omega) (by decide)
def kSO : Nat → Int32 := upd (upd (upd (upd (fun _ => 0) 0 (-9)) 1 (-9)) 2 (-9)) 3 (-9)
theorem kso {x : Int32} (h : 0 ≤ x ∧ x ≤ 3) : kSO x.toNatClampNeg = -9 := by rcases k4 h with e | e | e | e <;> (subst e; decide)
theorem kP0 {D : va_G} {cl : List vw_C} {H : Heap} : va_P D cl [] H := fun k q h => by simp at h
theorem kDn {A : Nat → Prop} : va_D A [] := ⟨fun i j p q h => by simp at h, fun k q h => by simp at h⟩
end
section
theorem dX8_isWithin_0 : decode cX8_isWithin 0 = .ok (.iload_n 0, 1) := by decide +kernel
theorem dX8_isWithin_1 : decode cX8_isWithin 1 = .ok (.iload_n 1, 1) := by decide +kernel
theorem dX8_isWithin_2 : decode cX8_isWithin 2 = .ok (.if_icmp .lt 12, 3) := by decide +kernel
theorem dX8_isWithin_5 : decode cX8_isWithin 5 = .ok (.iload_n 0, 1) := by decide +kernel
theorem dX8_isWithin_6 : decode cX8_isWithin 6 = .ok (.iload_n 2, 1) := by decide +kernel
theorem dX8_isWithin_7 : decode cX8_isWithin 7 = .ok (.if_icmp .gt 7, 3) := by decide +kernel
theorem dX8_isWithin_10 : decode cX8_isWithin 10 = .ok (.iconst 1, 1) := by decide +kernel
theorem dX8_isWithin_11 : decode cX8_isWithin 11 = .ok (.goto 4, 3) := by decide +kernel
theorem dX8_isWithin_14 : decode cX8_isWithin 14 = .ok (.iconst 0, 1) := by decide +kernel
theorem dX8_isWithin_15 : decode cX8_isWithin 15 = .ok (.ireturn, 1) := by decide +kernel
set_option maxHeartbeats 4000000 in
set_option maxRecDepth 100000 in
theorem c_X8_isWithin (l : Launch) (D : va_G) (sz : Nat) (v : Int32) (a : Int32) (b : Int32) : Met l yX8_isWithin wsX8_isWithin ({ frames := 0, cells := 0, slots := 0, locals := 0 }) (kPre [.int v, .int a, .int b] D [] [] sz) (QcRead (if (a ≤ v ∧ v ≤ b) then 1 else 0)) 0 0 (fun _ => False) := by
  refine Met.ofW (cc := cX8_isWithin) (maxL := 3) (ret := (some .boolean)) (by decide) rfl ?_
  intro p e s m args below meth c s₁ B hml hv
  obtain ⟨rfl, hsz, hP, hK, hD0, hN⟩ := hv
  have hx := B.exec
  have hb := B.bytes
  have hr := B.returns
  have hts := atoms_spec (ws := wsX8_isWithin) B.pre
  have hown : s.vm.findClass RX8 = some m.cls := findClass_of_methodNamed B.named
  have hlocks := B.notSynchronized
  subst hsz
  have hD := hD0
  have hP : va_P D vwCl [] s.heap := hP
  have hl := lv_entry ([.int v, .int a, .int b]) (n := 3) (Nat.le_of_ble_eq_true rfl)
  rw [lg_entry_eq]
  generalize (lg_sl ([.int v, .int a, .int b]) ++ List.replicate (3 - (lg_sl ([.int v, .int a, .int b])).length) Slot.unset).toArray = ls at hl ⊢
  have hl : lv_has ls 3 [(0, .int v), (1, .int a), (2, .int b)] := hl
  refine lv_iload_n hx hb dX8_isWithin_0 rfl (lv_at hl 0 rfl) ?_
  refine lv_iload_n hx hb dX8_isWithin_1 rfl (lv_at hl 1 rfl) ?_
  refine lv_icmp_lt (tgt := 14) hx hb dX8_isWithin_2 (by decide) (fun c_1 => ?_) (fun c_1 => ?_)
  · refine lv_iconst (v := 0) hx hb dX8_isWithin_14 (by decide) ?_
    exact W.zret (v := 0) hx hb hr rfl (fun t ht hW => kRd (by first | exact (if_pos (kwi c_1 c_2)).symm | exact (if_neg (kwi1 c_1)).symm | exact (if_neg (kwi2 c_2)).symm) ht) (fun _ h9 => by cases h9) dX8_isWithin_15
  · refine lv_iload_n hx hb dX8_isWithin_5 rfl (lv_at hl 0 rfl) ?_
    refine lv_iload_n hx hb dX8_isWithin_6 rfl (lv_at hl 2 rfl) ?_
    refine lv_icmp_gt (tgt := 14) hx hb dX8_isWithin_7 (by decide) (fun c_2 => ?_) (fun c_2 => ?_)
    · refine lv_iconst (v := 0) hx hb dX8_isWithin_14 (by decide) ?_
      exact W.zret (v := 0) hx hb hr rfl (fun t ht hW => kRd (by first | exact (if_pos (kwi c_1 c_2)).symm | exact (if_neg (kwi1 c_1)).symm | exact (if_neg (kwi2 c_2)).symm) ht) (fun _ h9 => by cases h9) dX8_isWithin_15
    · refine lv_iconst (v := 1) hx hb dX8_isWithin_10 (by decide) ?_
      refine lv_goto (tgt := 15) hx hb dX8_isWithin_11 (by decide) ?_
      exact W.zret (v := 1) hx hb hr rfl (fun t ht hW => kRd (by first | exact (if_pos (kwi c_1 c_2)).symm | exact (if_neg (kwi1 c_1)).symm | exact (if_neg (kwi2 c_2)).symm) ht) (fun _ h9 => by cases h9) dX8_isWithin_15
theorem dX9_within_0 : decode cX9_within 0 = .ok (.iload_n 0, 1) := by decide +kernel
theorem dX9_within_1 : decode cX9_within 1 = .ok (.iload_n 1, 1) := by decide +kernel
theorem dX9_within_2 : decode cX9_within 2 = .ok (.if_icmp .lt 12, 3) := by decide +kernel
theorem dX9_within_5 : decode cX9_within 5 = .ok (.iload_n 0, 1) := by decide +kernel
theorem dX9_within_6 : decode cX9_within 6 = .ok (.iload_n 2, 1) := by decide +kernel
theorem dX9_within_7 : decode cX9_within 7 = .ok (.if_icmp .gt 7, 3) := by decide +kernel
theorem dX9_within_10 : decode cX9_within 10 = .ok (.iconst 1, 1) := by decide +kernel
theorem dX9_within_11 : decode cX9_within 11 = .ok (.goto 4, 3) := by decide +kernel
theorem dX9_within_14 : decode cX9_within 14 = .ok (.iconst 0, 1) := by decide +kernel
theorem dX9_within_15 : decode cX9_within 15 = .ok (.ireturn, 1) := by decide +kernel
set_option maxHeartbeats 4000000 in
set_option maxRecDepth 100000 in
theorem c_X9_within (l : Launch) (D : va_G) (sz : Nat) (v : Int32) (a : Int32) (b : Int32) : Met l yX9_within wsX9_within ({ frames := 0, cells := 0, slots := 0, locals := 0 }) (kPre [.int v, .int a, .int b] D [] [] sz) (QcRead (if (a ≤ v ∧ v ≤ b) then 1 else 0)) 0 0 (fun _ => False) := by
  refine Met.ofW (cc := cX9_within) (maxL := 3) (ret := (some .boolean)) (by decide) rfl ?_
  intro p e s m args below meth c s₁ B hml hv
  obtain ⟨rfl, hsz, hP, hK, hD0, hN⟩ := hv
  have hx := B.exec
  have hb := B.bytes
  have hr := B.returns
  have hts := atoms_spec (ws := wsX9_within) B.pre
  have hown : s.vm.findClass RX9 = some m.cls := findClass_of_methodNamed B.named
  have hlocks := B.notSynchronized
  subst hsz
  have hD := hD0
  have hP : va_P D vwCl [] s.heap := hP
  have hl := lv_entry ([.int v, .int a, .int b]) (n := 3) (Nat.le_of_ble_eq_true rfl)
  rw [lg_entry_eq]
  generalize (lg_sl ([.int v, .int a, .int b]) ++ List.replicate (3 - (lg_sl ([.int v, .int a, .int b])).length) Slot.unset).toArray = ls at hl ⊢
  have hl : lv_has ls 3 [(0, .int v), (1, .int a), (2, .int b)] := hl
  refine lv_iload_n hx hb dX9_within_0 rfl (lv_at hl 0 rfl) ?_
  refine lv_iload_n hx hb dX9_within_1 rfl (lv_at hl 1 rfl) ?_
  refine lv_icmp_lt (tgt := 14) hx hb dX9_within_2 (by decide) (fun c_1 => ?_) (fun c_1 => ?_)
  · refine lv_iconst (v := 0) hx hb dX9_within_14 (by decide) ?_
    exact W.zret (v := 0) hx hb hr rfl (fun t ht hW => kRd (by first | exact (if_pos (kwi c_1 c_2)).symm | exact (if_neg (kwi1 c_1)).symm | exact (if_neg (kwi2 c_2)).symm) ht) (fun _ h9 => by cases h9) dX9_within_15
  · refine lv_iload_n hx hb dX9_within_5 rfl (lv_at hl 0 rfl) ?_
    refine lv_iload_n hx hb dX9_within_6 rfl (lv_at hl 2 rfl) ?_
    refine lv_icmp_gt (tgt := 14) hx hb dX9_within_7 (by decide) (fun c_2 => ?_) (fun c_2 => ?_)
    · refine lv_iconst (v := 0) hx hb dX9_within_14 (by decide) ?_
      exact W.zret (v := 0) hx hb hr rfl (fun t ht hW => kRd (by first | exact (if_pos (kwi c_1 c_2)).symm | exact (if_neg (kwi1 c_1)).symm | exact (if_neg (kwi2 c_2)).symm) ht) (fun _ h9 => by cases h9) dX9_within_15
    · refine lv_iconst (v := 1) hx hb dX9_within_10 (by decide) ?_
      refine lv_goto (tgt := 15) hx hb dX9_within_11 (by decide) ?_
      exact W.zret (v := 1) hx hb hr rfl (fun t ht hW => kRd (by first | exact (if_pos (kwi c_1 c_2)).symm | exact (if_neg (kwi1 c_1)).symm | exact (if_neg (kwi2 c_2)).symm) ht) (fun _ h9 => by cases h9) dX9_within_15
theorem dX8_isSheet_0 : decode cX8_isSheet 0 = .ok (.iload_n 0, 1) := by decide +kernel
theorem dX8_isSheet_1 : decode cX8_isSheet 1 = .ok (.iconst 0, 1) := by decide +kernel
theorem dX8_isSheet_2 : decode cX8_isSheet 2 = .ok (.iconst 3, 1) := by decide +kernel
theorem dX8_isSheet_3 : decode cX8_isSheet 3 = .ok (.invokestatic 128, 3) := by decide +kernel
theorem dX8_isSheet_6 : decode cX8_isSheet 6 = .ok (.ireturn, 1) := by decide +kernel
set_option maxRecDepth 20000 in
theorem ggX8_isSheet_X8_isWithin : GoodIn wsX8_isSheet wsX8_isWithin := goodIn_r _ [4] (by decide +kernel) (by decide +kernel)
set_option maxRecDepth 20000 in
theorem gX8_isSheet_X8_isWithin : GoodIn wsX8_isSheet (va_wsS RX8 128 yX8_isWithin wsX8_isWithin) := goodIn_app (goodIn_of _ (by decide +kernel)) ggX8_isSheet_X8_isWithin
set_option maxHeartbeats 4000000 in
set_option maxRecDepth 100000 in
theorem c_X8_isSheet (l : Launch) (D : va_G) (sz : Nat) (k : Int32) : Met l yX8_isSheet wsX8_isSheet ({ frames := 1, cells := 0, slots := 0, locals := 22 }) (kPre [.int k] D [] [] sz) (QcRead (if (0 ≤ k ∧ k ≤ 3) then 1 else 0)) 0 0 (fun _ => False) := by
  refine Met.ofW (cc := cX8_isSheet) (maxL := 1) (ret := (some .boolean)) (by decide) rfl ?_
  intro p e s m args below meth c s₁ B hml hv
  obtain ⟨rfl, hsz, hP, hK, hD0, hN⟩ := hv
  have hx := B.exec
  have hb := B.bytes
  have hr := B.returns
  have hts := atoms_spec (ws := wsX8_isSheet) B.pre
  have hown : s.vm.findClass RX8 = some m.cls := findClass_of_methodNamed B.named
  have hlocks := B.notSynchronized
  subst hsz
  have hD := hD0
  have hP : va_P D vwCl [] s.heap := hP
  have hl := lv_entry ([.int k]) (n := 1) (Nat.le_of_ble_eq_true rfl)
  rw [lg_entry_eq]
  generalize (lg_sl ([.int k]) ++ List.replicate (1 - (lg_sl ([.int k])).length) Slot.unset).toArray = ls at hl ⊢
  have hl : lv_has ls 1 [(0, .int k)] := hl
  refine lv_iload_n hx hb dX8_isSheet_0 rfl (lv_at hl 0 rfl) ?_
  refine lv_iconst (v := 0) hx hb dX8_isSheet_1 (by decide) ?_
  refine lv_iconst (v := 3) hx hb dX8_isSheet_2 (by decide) ?_
  refine k_callR (va_runS (As := [.int k, .int 0, .int 3]) (rest := []) ⟨hx, hb, hml, hown, hts⟩ (c_X8_isWithin l D s.heap.size (v := k) (a := 0) (b := 3)) (va_cwS 3 hts gX8_isSheet_X8_isWithin rfl rfl rfl (by decide +kernel) ⟨Nat.le_of_ble_eq_true rfl, Nat.le_of_ble_eq_true rfl⟩) (kPreS hP (kD0 hD) hK hN [] [] rfl rfl (by decide)) rfl rfl hl.1 rfl (lv_room (Nat.le_of_ble_eq_true rfl)) dX8_isSheet_3 ⟨Nat.le_of_ble_eq_true rfl, Nat.le_of_ble_eq_true rfl⟩) ?_
  exact W.zret (v := (if (0 ≤ k ∧ k ≤ 3) then 1 else 0)) hx hb hr kzb (fun t ht hW => kRd rfl ht) (fun _ h9 => by cases h9) dX8_isSheet_6
theorem dX9_isSheet_0 : decode cX9_isSheet 0 = .ok (.iload_n 0, 1) := by decide +kernel
theorem dX9_isSheet_1 : decode cX9_isSheet 1 = .ok (.iconst 0, 1) := by decide +kernel
theorem dX9_isSheet_2 : decode cX9_isSheet 2 = .ok (.iconst 3, 1) := by decide +kernel
theorem dX9_isSheet_3 : decode cX9_isSheet 3 = .ok (.invokestatic 70, 3) := by decide +kernel
theorem dX9_isSheet_6 : decode cX9_isSheet 6 = .ok (.ireturn, 1) := by decide +kernel
set_option maxRecDepth 20000 in
theorem ggX9_isSheet_X9_within : GoodIn wsX9_isSheet wsX9_within := goodIn_r _ [4] (by decide +kernel) (by decide +kernel)
set_option maxRecDepth 20000 in
theorem gX9_isSheet_X9_within : GoodIn wsX9_isSheet (va_wsS RX9 70 yX9_within wsX9_within) := goodIn_app (goodIn_of _ (by decide +kernel)) ggX9_isSheet_X9_within
set_option maxHeartbeats 4000000 in
set_option maxRecDepth 100000 in
theorem c_X9_isSheet (l : Launch) (D : va_G) (sz : Nat) (k : Int32) : Met l yX9_isSheet wsX9_isSheet ({ frames := 1, cells := 0, slots := 0, locals := 22 }) (kPre [.int k] D [] [] sz) (QcRead (if (0 ≤ k ∧ k ≤ 3) then 1 else 0)) 0 0 (fun _ => False) := by
  refine Met.ofW (cc := cX9_isSheet) (maxL := 1) (ret := (some .boolean)) (by decide) rfl ?_
  intro p e s m args below meth c s₁ B hml hv
  obtain ⟨rfl, hsz, hP, hK, hD0, hN⟩ := hv
  have hx := B.exec
  have hb := B.bytes
  have hr := B.returns
  have hts := atoms_spec (ws := wsX9_isSheet) B.pre
  have hown : s.vm.findClass RX9 = some m.cls := findClass_of_methodNamed B.named
  have hlocks := B.notSynchronized
  subst hsz
  have hD := hD0
  have hP : va_P D vwCl [] s.heap := hP
  have hl := lv_entry ([.int k]) (n := 1) (Nat.le_of_ble_eq_true rfl)
  rw [lg_entry_eq]
  generalize (lg_sl ([.int k]) ++ List.replicate (1 - (lg_sl ([.int k])).length) Slot.unset).toArray = ls at hl ⊢
  have hl : lv_has ls 1 [(0, .int k)] := hl
  refine lv_iload_n hx hb dX9_isSheet_0 rfl (lv_at hl 0 rfl) ?_
  refine lv_iconst (v := 0) hx hb dX9_isSheet_1 (by decide) ?_
  refine lv_iconst (v := 3) hx hb dX9_isSheet_2 (by decide) ?_
  refine k_callR (va_runS (As := [.int k, .int 0, .int 3]) (rest := []) ⟨hx, hb, hml, hown, hts⟩ (c_X9_within l D s.heap.size (v := k) (a := 0) (b := 3)) (va_cwS 3 hts gX9_isSheet_X9_within rfl rfl rfl (by decide +kernel) ⟨Nat.le_of_ble_eq_true rfl, Nat.le_of_ble_eq_true rfl⟩) (kPreS hP (kD0 hD) hK hN [] [] rfl rfl (by decide)) rfl rfl hl.1 rfl (lv_room (Nat.le_of_ble_eq_true rfl)) dX9_isSheet_3 ⟨Nat.le_of_ble_eq_true rfl, Nat.le_of_ble_eq_true rfl⟩) ?_
  exact W.zret (v := (if (0 ≤ k ∧ k ≤ 3) then 1 else 0)) hx hb hr kzb (fun t ht hW => kRd rfl ht) (fun _ h9 => by cases h9) dX9_isSheet_6
theorem dX8_isLane_0 : decode cX8_isLane 0 = .ok (.iload_n 0, 1) := by decide +kernel
theorem dX8_isLane_1 : decode cX8_isLane 1 = .ok (.iconst 0, 1) := by decide +kernel
theorem dX8_isLane_2 : decode cX8_isLane 2 = .ok (.iconst 2, 1) := by decide +kernel
theorem dX8_isLane_3 : decode cX8_isLane 3 = .ok (.invokestatic 128, 3) := by decide +kernel
theorem dX8_isLane_6 : decode cX8_isLane 6 = .ok (.ireturn, 1) := by decide +kernel
set_option maxRecDepth 20000 in
theorem ggX8_isLane_X8_isWithin : GoodIn wsX8_isLane wsX8_isWithin := goodIn_r _ [4] (by decide +kernel) (by decide +kernel)
set_option maxRecDepth 20000 in
theorem gX8_isLane_X8_isWithin : GoodIn wsX8_isLane (va_wsS RX8 128 yX8_isWithin wsX8_isWithin) := goodIn_app (goodIn_of _ (by decide +kernel)) ggX8_isLane_X8_isWithin
set_option maxHeartbeats 4000000 in
set_option maxRecDepth 100000 in
theorem c_X8_isLane (l : Launch) (D : va_G) (sz : Nat) (k : Int32) : Met l yX8_isLane wsX8_isLane ({ frames := 1, cells := 0, slots := 0, locals := 22 }) (kPre [.int k] D [] [] sz) (QcRead (if (0 ≤ k ∧ k ≤ 2) then 1 else 0)) 0 0 (fun _ => False) := by
  refine Met.ofW (cc := cX8_isLane) (maxL := 1) (ret := (some .boolean)) (by decide) rfl ?_
  intro p e s m args below meth c s₁ B hml hv
  obtain ⟨rfl, hsz, hP, hK, hD0, hN⟩ := hv
  have hx := B.exec
  have hb := B.bytes
  have hr := B.returns
  have hts := atoms_spec (ws := wsX8_isLane) B.pre
  have hown : s.vm.findClass RX8 = some m.cls := findClass_of_methodNamed B.named
  have hlocks := B.notSynchronized
  subst hsz
  have hD := hD0
  have hP : va_P D vwCl [] s.heap := hP
  have hl := lv_entry ([.int k]) (n := 1) (Nat.le_of_ble_eq_true rfl)
  rw [lg_entry_eq]
  generalize (lg_sl ([.int k]) ++ List.replicate (1 - (lg_sl ([.int k])).length) Slot.unset).toArray = ls at hl ⊢
  have hl : lv_has ls 1 [(0, .int k)] := hl
  refine lv_iload_n hx hb dX8_isLane_0 rfl (lv_at hl 0 rfl) ?_
  refine lv_iconst (v := 0) hx hb dX8_isLane_1 (by decide) ?_
  refine lv_iconst (v := 2) hx hb dX8_isLane_2 (by decide) ?_
  refine k_callR (va_runS (As := [.int k, .int 0, .int 2]) (rest := []) ⟨hx, hb, hml, hown, hts⟩ (c_X8_isWithin l D s.heap.size (v := k) (a := 0) (b := 2)) (va_cwS 3 hts gX8_isLane_X8_isWithin rfl rfl rfl (by decide +kernel) ⟨Nat.le_of_ble_eq_true rfl, Nat.le_of_ble_eq_true rfl⟩) (kPreS hP (kD0 hD) hK hN [] [] rfl rfl (by decide)) rfl rfl hl.1 rfl (lv_room (Nat.le_of_ble_eq_true rfl)) dX8_isLane_3 ⟨Nat.le_of_ble_eq_true rfl, Nat.le_of_ble_eq_true rfl⟩) ?_
  exact W.zret (v := (if (0 ≤ k ∧ k ≤ 2) then 1 else 0)) hx hb hr kzb (fun t ht hW => kRd rfl ht) (fun _ h9 => by cases h9) dX8_isLane_6
theorem dX9_isSort_0 : decode cX9_isSort 0 = .ok (.iload_n 0, 1) := by decide +kernel
theorem dX9_isSort_1 : decode cX9_isSort 1 = .ok (.iconst 0, 1) := by decide +kernel
theorem dX9_isSort_2 : decode cX9_isSort 2 = .ok (.iconst 2, 1) := by decide +kernel
theorem dX9_isSort_3 : decode cX9_isSort 3 = .ok (.invokestatic 70, 3) := by decide +kernel
theorem dX9_isSort_6 : decode cX9_isSort 6 = .ok (.ireturn, 1) := by decide +kernel
set_option maxRecDepth 20000 in
theorem ggX9_isSort_X9_within : GoodIn wsX9_isSort wsX9_within := goodIn_r _ [4] (by decide +kernel) (by decide +kernel)
set_option maxRecDepth 20000 in
theorem gX9_isSort_X9_within : GoodIn wsX9_isSort (va_wsS RX9 70 yX9_within wsX9_within) := goodIn_app (goodIn_of _ (by decide +kernel)) ggX9_isSort_X9_within
set_option maxHeartbeats 4000000 in
set_option maxRecDepth 100000 in
theorem c_X9_isSort (l : Launch) (D : va_G) (sz : Nat) (k : Int32) : Met l yX9_isSort wsX9_isSort ({ frames := 1, cells := 0, slots := 0, locals := 22 }) (kPre [.int k] D [] [] sz) (QcRead (if (0 ≤ k ∧ k ≤ 2) then 1 else 0)) 0 0 (fun _ => False) := by
  refine Met.ofW (cc := cX9_isSort) (maxL := 1) (ret := (some .boolean)) (by decide) rfl ?_
  intro p e s m args below meth c s₁ B hml hv
  obtain ⟨rfl, hsz, hP, hK, hD0, hN⟩ := hv
  have hx := B.exec
  have hb := B.bytes
  have hr := B.returns
  have hts := atoms_spec (ws := wsX9_isSort) B.pre
  have hown : s.vm.findClass RX9 = some m.cls := findClass_of_methodNamed B.named
  have hlocks := B.notSynchronized
  subst hsz
  have hD := hD0
  have hP : va_P D vwCl [] s.heap := hP
  have hl := lv_entry ([.int k]) (n := 1) (Nat.le_of_ble_eq_true rfl)
  rw [lg_entry_eq]
  generalize (lg_sl ([.int k]) ++ List.replicate (1 - (lg_sl ([.int k])).length) Slot.unset).toArray = ls at hl ⊢
  have hl : lv_has ls 1 [(0, .int k)] := hl
  refine lv_iload_n hx hb dX9_isSort_0 rfl (lv_at hl 0 rfl) ?_
  refine lv_iconst (v := 0) hx hb dX9_isSort_1 (by decide) ?_
  refine lv_iconst (v := 2) hx hb dX9_isSort_2 (by decide) ?_
  refine k_callR (va_runS (As := [.int k, .int 0, .int 2]) (rest := []) ⟨hx, hb, hml, hown, hts⟩ (c_X9_within l D s.heap.size (v := k) (a := 0) (b := 2)) (va_cwS 3 hts gX9_isSort_X9_within rfl rfl rfl (by decide +kernel) ⟨Nat.le_of_ble_eq_true rfl, Nat.le_of_ble_eq_true rfl⟩) (kPreS hP (kD0 hD) hK hN [] [] rfl rfl (by decide)) rfl rfl hl.1 rfl (lv_room (Nat.le_of_ble_eq_true rfl)) dX9_isSort_3 ⟨Nat.le_of_ble_eq_true rfl, Nat.le_of_ble_eq_true rfl⟩) ?_
  exact W.zret (v := (if (0 ≤ k ∧ k ≤ 2) then 1 else 0)) hx hb hr kzb (fun t ht hW => kRd rfl ht) (fun _ h9 => by cases h9) dX9_isSort_6
theorem dX8_isOfDay_0 : decode cX8_isOfDay 0 = .ok (.iload_n 0, 1) := by decide +kernel
theorem dX8_isOfDay_1 : decode cX8_isOfDay 1 = .ok (.iconst 0, 1) := by decide +kernel
theorem dX8_isOfDay_2 : decode cX8_isOfDay 2 = .ok (.iconst 4, 1) := by decide +kernel
theorem dX8_isOfDay_3 : decode cX8_isOfDay 3 = .ok (.invokestatic 128, 3) := by decide +kernel
theorem dX8_isOfDay_6 : decode cX8_isOfDay 6 = .ok (.ifCond .ne 14, 3) := by decide +kernel
theorem dX8_isOfDay_9 : decode cX8_isOfDay 9 = .ok (.iload_n 0, 1) := by decide +kernel
theorem dX8_isOfDay_10 : decode cX8_isOfDay 10 = .ok (.bipush 10, 2) := by decide +kernel
theorem dX8_isOfDay_12 : decode cX8_isOfDay 12 = .ok (.bipush 13, 2) := by decide +kernel
theorem dX8_isOfDay_14 : decode cX8_isOfDay 14 = .ok (.invokestatic 128, 3) := by decide +kernel
theorem dX8_isOfDay_17 : decode cX8_isOfDay 17 = .ok (.ifCond .eq 7, 3) := by decide +kernel
theorem dX8_isOfDay_20 : decode cX8_isOfDay 20 = .ok (.iconst 1, 1) := by decide +kernel
theorem dX8_isOfDay_21 : decode cX8_isOfDay 21 = .ok (.goto 4, 3) := by decide +kernel
theorem dX8_isOfDay_24 : decode cX8_isOfDay 24 = .ok (.iconst 0, 1) := by decide +kernel
theorem dX8_isOfDay_25 : decode cX8_isOfDay 25 = .ok (.ireturn, 1) := by decide +kernel
set_option maxRecDepth 20000 in
theorem ggX8_isOfDay_X8_isWithin : GoodIn wsX8_isOfDay wsX8_isWithin := goodIn_r _ [4] (by decide +kernel) (by decide +kernel)
set_option maxRecDepth 20000 in
theorem gX8_isOfDay_X8_isWithin : GoodIn wsX8_isOfDay (va_wsS RX8 128 yX8_isWithin wsX8_isWithin) := goodIn_app (goodIn_of _ (by decide +kernel)) ggX8_isOfDay_X8_isWithin
set_option maxHeartbeats 4000000 in
set_option maxRecDepth 100000 in
theorem c_X8_isOfDay (l : Launch) (D : va_G) (sz : Nat) (k : Int32) : Met l yX8_isOfDay wsX8_isOfDay ({ frames := 1, cells := 0, slots := 0, locals := 22 }) (kPre [.int k] D [] [] sz) (QcRead (if (0 ≤ k ∧ k ≤ 4) ∨ (10 ≤ k ∧ k ≤ 13) then 1 else 0)) 0 0 (fun _ => False) := by
  refine Met.ofW (cc := cX8_isOfDay) (maxL := 1) (ret := (some .boolean)) (by decide) rfl ?_
  intro p e s m args below meth c s₁ B hml hv
  obtain ⟨rfl, hsz, hP, hK, hD0, hN⟩ := hv
  have hx := B.exec
  have hb := B.bytes
  have hr := B.returns
  have hts := atoms_spec (ws := wsX8_isOfDay) B.pre
  have hown : s.vm.findClass RX8 = some m.cls := findClass_of_methodNamed B.named
  have hlocks := B.notSynchronized
  subst hsz
  have hD := hD0
  have hP : va_P D vwCl [] s.heap := hP
  have hl := lv_entry ([.int k]) (n := 1) (Nat.le_of_ble_eq_true rfl)
  rw [lg_entry_eq]
  generalize (lg_sl ([.int k]) ++ List.replicate (1 - (lg_sl ([.int k])).length) Slot.unset).toArray = ls at hl ⊢
  have hl : lv_has ls 1 [(0, .int k)] := hl
  refine lv_iload_n hx hb dX8_isOfDay_0 rfl (lv_at hl 0 rfl) ?_
  refine lv_iconst (v := 0) hx hb dX8_isOfDay_1 (by decide) ?_
  refine lv_iconst (v := 4) hx hb dX8_isOfDay_2 (by decide) ?_
  refine k_callR (va_runS (As := [.int k, .int 0, .int 4]) (rest := []) ⟨hx, hb, hml, hown, hts⟩ (c_X8_isWithin l D s.heap.size (v := k) (a := 0) (b := 4)) (va_cwS 3 hts gX8_isOfDay_X8_isWithin rfl rfl rfl (by decide +kernel) ⟨Nat.le_of_ble_eq_true rfl, Nat.le_of_ble_eq_true rfl⟩) (kPreS hP (kD0 hD) hK hN [] [] rfl rfl (by decide)) rfl rfl hl.1 rfl (lv_room (Nat.le_of_ble_eq_true rfl)) dX8_isOfDay_3 ⟨Nat.le_of_ble_eq_true rfl, Nat.le_of_ble_eq_true rfl⟩) ?_
  refine lv_if_ne (tgt := 20) hx hb dX8_isOfDay_6 (by decide) (fun c_1 => ?_) (fun c_1 => ?_)
  · have k_2 : (0 ≤ k ∧ k ≤ 4) := b01t c_1
    refine lv_iconst (v := 1) hx hb dX8_isOfDay_20 (by decide) ?_
    refine lv_goto (tgt := 25) hx hb dX8_isOfDay_21 (by decide) ?_
    exact W.zret (v := 1) hx hb hr rfl (fun t ht hW => kRd (by simp [k_2]) ht) (fun _ h9 => by cases h9) dX8_isOfDay_25
  · have k_3 : ¬ ((0 ≤ k ∧ k ≤ 4)) := b01f c_1
    refine lv_iload_n hx hb dX8_isOfDay_9 rfl (lv_at hl 0 rfl) ?_
    refine lv_bipush (v := 10) hx hb dX8_isOfDay_10 (by decide) ?_
    refine lv_bipush (v := 13) hx hb dX8_isOfDay_12 (by decide) ?_
    refine k_callR (va_runS (As := [.int k, .int 10, .int 13]) (rest := []) ⟨hx, hb, hml, hown, hts⟩ (c_X8_isWithin l D s.heap.size (v := k) (a := 10) (b := 13)) (va_cwS 3 hts gX8_isOfDay_X8_isWithin rfl rfl rfl (by decide +kernel) ⟨Nat.le_of_ble_eq_true rfl, Nat.le_of_ble_eq_true rfl⟩) (kPreS hP (kD0 hD) hK hN [] [] rfl rfl (by decide)) rfl rfl hl.1 rfl (lv_room (Nat.le_of_ble_eq_true rfl)) dX8_isOfDay_14 ⟨Nat.le_of_ble_eq_true rfl, Nat.le_of_ble_eq_true rfl⟩) ?_
    refine lv_if_eq (tgt := 24) hx hb dX8_isOfDay_17 (by decide) (fun c_4 => ?_) (fun c_4 => ?_)
    · have k_5 : ¬ ((10 ≤ k ∧ k ≤ 13)) := b01f c_4
      refine lv_iconst (v := 0) hx hb dX8_isOfDay_24 (by decide) ?_
      exact W.zret (v := 0) hx hb hr rfl (fun t ht hW => kRd (by simp [k_3, k_5]) ht) (fun _ h9 => by cases h9) dX8_isOfDay_25
    · have k_6 : (10 ≤ k ∧ k ≤ 13) := b01t c_4
      refine lv_iconst (v := 1) hx hb dX8_isOfDay_20 (by decide) ?_
      refine lv_goto (tgt := 25) hx hb dX8_isOfDay_21 (by decide) ?_
      exact W.zret (v := 1) hx hb hr rfl (fun t ht hW => kRd (by simp [k_3, k_6]) ht) (fun _ h9 => by cases h9) dX8_isOfDay_25
theorem dX0_isFont_0 : decode cX0_isFont 0 = .ok (.iload_n 1, 1) := by decide +kernel
theorem dX0_isFont_1 : decode cX0_isFont 1 = .ok (.iconst 0, 1) := by decide +kernel
theorem dX0_isFont_2 : decode cX0_isFont 2 = .ok (.aload_n 0, 1) := by decide +kernel
theorem dX0_isFont_3 : decode cX0_isFont 3 = .ok (.getfield 21, 3) := by decide +kernel
theorem dX0_isFont_6 : decode cX0_isFont 6 = .ok (.iconst 1, 1) := by decide +kernel
theorem dX0_isFont_7 : decode cX0_isFont 7 = .ok (.isub, 1) := by decide +kernel
theorem dX0_isFont_8 : decode cX0_isFont 8 = .ok (.invokestatic 25, 3) := by decide +kernel
theorem dX0_isFont_11 : decode cX0_isFont 11 = .ok (.ireturn, 1) := by decide +kernel
set_option maxRecDepth 20000 in
theorem ggX0_isFont_X8_isWithin : GoodIn wsX0_isFont wsX8_isWithin := goodIn_r _ [4] (by decide +kernel) (by decide +kernel)
set_option maxRecDepth 20000 in
theorem gX0_isFont_X8_isWithin_n25 : GoodIn wsX0_isFont (wsX8_isWithin) := ggX0_isFont_X8_isWithin
set_option maxHeartbeats 4000000 in
set_option maxRecDepth 100000 in
theorem c_X0_isFont (l : Launch) (D : va_G) (sz : Nat) (f : Int32) (h0 : Nat) (k1 : Nat) (k2 : Nat) (k3 : Nat) (n : Int32) : Met l yX0_isFont wsX0_isFont ({ frames := 1, cells := 0, slots := 0, locals := 22 }) (kPre [.ref h0, .int f] D [(h0, .inr (0, [.ref k1, .ref k2, .ref k3, .int n]))] [] sz) (QcRead (if (0 ≤ f ∧ f ≤ n - 1) then 1 else 0)) 0 0 (fun _ => False) := by
  refine Met.ofW (cc := cX0_isFont) (maxL := 2) (ret := (some .boolean)) (by decide) rfl ?_
  intro p e s m args below meth c s₁ B hml hv
  obtain ⟨rfl, hsz, hP, hK, hD0, hN⟩ := hv
  have hx := B.exec
  have hb := B.bytes
  have hr := B.returns
  have hts := atoms_spec (ws := wsX0_isFont) B.pre
  have hown : s.vm.findClass RX0 = some m.cls := findClass_of_methodNamed B.named
  have hlocks := B.notSynchronized
  subst hsz
  have hD := hD0
  have hP : va_P D vwCl [(h0, .inr (0, [.ref k1, .ref k2, .ref k3, .int n]))] s.heap := hP
  have hl := lv_entry ([.ref h0, .int f]) (n := 2) (Nat.le_of_ble_eq_true rfl)
  rw [lg_entry_eq]
  generalize (lg_sl ([.ref h0, .int f]) ++ List.replicate (2 - (lg_sl ([.ref h0, .int f])).length) Slot.unset).toArray = ls at hl ⊢
  have hl : lv_has ls 2 [(0, .ref h0), (1, .int f)] := hl
  refine lv_iload_n hx hb dX0_isFont_0 rfl (lv_at hl 1 rfl) ?_
  refine lv_iconst (v := 0) hx hb dX0_isFont_1 (by decide) ?_
  refine lv_aload_n hx hb dX0_isFont_2 rfl (lv_at hl 0 rfl) ?_
  refine va_get (D := D) (ci := 0) (v := .int n) (C := RX0) (T := TX0) (N := 4) hx hb hts (fun _ h9 => List.mem_cons_of_mem _ (List.mem_append_right _ h9)) hown hK hP 0 rfl rfl 3 (by decide) (hts (.fieldLink RX0 21 "FontRuns$FontRow" "count" "I") (by decide +kernel)) (fun _ h9 => h9) rfl dX0_isFont_3 ?_
  refine lv_iconst (v := 1) hx hb dX0_isFont_6 (by decide) ?_
  refine lv_isub hx hb dX0_isFont_7 ?_
  refine k_callR (va_runSN (As := [.int f, .int 0, .int (n - 1)]) (rest := []) ⟨hx, hb, hml, hown, hts⟩ (c_X8_isWithin l D s.heap.size (v := f) (a := 0) (b := (n - 1))) (⟨va_cnB 3 hts gX0_isFont_X8_isWithin_n25 rfl rfl rfl (hN.1 (RX0, 25, yX8_isWithin) (by decide +kernel)) (hts (.initialized RX8) (by decide +kernel)) (by decide +kernel) ⟨Nat.le_of_ble_eq_true rfl, Nat.le_of_ble_eq_true rfl⟩, (hts (.static yX8_isWithin) (by decide +kernel)), trivial⟩) (kPreS hP (kD0 hD) hK hN [] [] rfl rfl (by decide)) rfl rfl hl.1 rfl (lv_room (Nat.le_of_ble_eq_true rfl)) dX0_isFont_8 ⟨Nat.le_of_ble_eq_true rfl, Nat.le_of_ble_eq_true rfl⟩) ?_
  exact W.zret (v := (if (0 ≤ f ∧ f ≤ (n - 1)) then 1 else 0)) hx hb hr kzb (fun t ht hW => kRd (by first | rfl | (simp only []; done) | (simp []; done)) ht) (fun _ h9 => by cases h9) dX0_isFont_11
end
section
def sp_fonts (k n : Int32) : Int32 := if (0 ≤ k ∧ k ≤ 3) then (if (0 ≤ n ∧ n ≤ 2) then (-11) else (-2)) else (-1)
def sp_write (k n z : Int32) : Int32 := if (0 ≤ k ∧ k ≤ 3) then (if (0 ≤ n ∧ n ≤ 2) then (if (0 ≤ z ∧ z ≤ 24) then (-11) else (-2)) else (-2)) else (-1)
def sp_day (k n z w : Int32) : Int32 := if (0 ≤ k ∧ k ≤ 3) then (if (0 ≤ n ∧ n ≤ 2) then (if (0 ≤ z ∧ z ≤ 20) then (if (0 ≤ w ∧ w ≤ 4) ∨ (10 ≤ w ∧ w ≤ 13) then (-11) else (-2)) else (-2)) else (-2)) else (-1)
def sp_zero (n : Int32) : Int32 := if (0 ≤ n ∧ n ≤ 0) then 0 else (-2)
def sp_latest (k : Int32) : Int32 := if (0 ≤ k ∧ k ≤ 4) then (-9) else (-2)
def sp_best (k : Int32) : Int32 := if (0 ≤ k ∧ k ≤ 3) then (-3) else (-2)
def sp_enough (k : Int32) : Int32 := if (0 ≤ k ∧ k ≤ 1) then (-3) else (-2)
def sp_sheet (k n z : Int32) : Int32 := if (0 ≤ k ∧ k ≤ 3) then (if (0 ≤ n ∧ n ≤ 2) then (if z ≤ 60 then (if 0 ≤ z then 1 else (-14)) else (-2)) else (-2)) else (-1)
def sp_lose (k : Int32) : Int32 := if (0 ≤ k ∧ k ≤ 3) then 0 else (-1)
def sp_put (k : Int32) : Int32 := if (0 ≤ k ∧ k ≤ 3) then (-11) else (-1)
def sp_copy (k o : Int32) : Int32 := if (0 ≤ k ∧ k ≤ 3) then (if (0 ≤ o ∧ o ≤ 3) then (-11) else (-1)) else (-1)
def sp_many (k : Int32) : Int32 := if (k = 0 ∨ k = 1 ∨ k = 2 ∨ k = 3) then 0 else (-2)
theorem dX8_faultOfLane_0 : decode cX8_faultOfLane 0 = .ok (.aload_n 0, 1) := by decide +kernel
theorem dX8_faultOfLane_1 : decode cX8_faultOfLane 1 = .ok (.getfield 288, 3) := by decide +kernel
theorem dX8_faultOfLane_4 : decode cX8_faultOfLane 4 = .ok (.ifCond .ne 5, 3) := by decide +kernel
theorem dX8_faultOfLane_7 : decode cX8_faultOfLane 7 = .ok (.iconst 1, 1) := by decide +kernel
theorem dX8_faultOfLane_8 : decode cX8_faultOfLane 8 = .ok (.ireturn, 1) := by decide +kernel
set_option maxHeartbeats 4000000 in
set_option maxRecDepth 100000 in
theorem c_X8_faultOfLane (l : Launch) (D : va_G) (sz : Nat) (ro : Nat) (la : Int32) (e0 : Nat) (ln : Int32) (sz0 : Int32) : Met l yX8_faultOfLane wsX8_faultOfLane ({ frames := 0, cells := 0, slots := 0, locals := 0 }) (kPre [.ref ro, .int la] D [(ro, .inr (5, [.ref e0, .int 0, .int ln, .int sz0]))] [] sz) (QcRead 1) 0 0 (fun _ => False) := by
  refine Met.ofW (cc := cX8_faultOfLane) (maxL := 2) (ret := (some .int)) (by decide) rfl ?_
  intro p e s m args below meth c s₁ B hml hv
  obtain ⟨rfl, hsz, hP, hK, hD0, hN⟩ := hv
  have hx := B.exec
  have hb := B.bytes
  have hr := B.returns
  have hts := atoms_spec (ws := wsX8_faultOfLane) B.pre
  have hown : s.vm.findClass RX8 = some m.cls := findClass_of_methodNamed B.named
  have hlocks := B.notSynchronized
  subst hsz
  have hD := hD0
  have hP : va_P D vwCl [(ro, .inr (5, [.ref e0, .int 0, .int ln, .int sz0]))] s.heap := hP
  have hl := lv_entry ([.ref ro, .int la]) (n := 2) (Nat.le_of_ble_eq_true rfl)
  rw [lg_entry_eq]
  generalize (lg_sl ([.ref ro, .int la]) ++ List.replicate (2 - (lg_sl ([.ref ro, .int la])).length) Slot.unset).toArray = ls at hl ⊢
  have hl : lv_has ls 2 [(0, .ref ro), (1, .int la)] := hl
  refine lv_aload_n hx hb dX8_faultOfLane_0 rfl (lv_at hl 0 rfl) ?_
  refine va_get (D := D) (ci := 5) (v := .int 0) (C := RX5) (T := TX5) (N := 4) hx hb hts (fun _ h9 => List.mem_cons_of_mem _ (List.mem_append_right _ h9)) hown hK hP 0 rfl rfl 1 (by decide) (hts (.fieldLink RX8 288 "FontRuns$Sheet" "isThere" "Z") (by decide +kernel)) (fun _ h9 => h9) rfl dX8_faultOfLane_1 ?_
  refine lv_if_ne (tgt := 9) hx hb dX8_faultOfLane_4 (by decide) (fun c9 => absurd (by decide) c9) (fun _ => ?_)
  refine lv_iconst (v := 1) hx hb dX8_faultOfLane_7 (by decide) ?_
  exact W.iret (v := 1) hx hb hr (fun t ht hW => kRd rfl ht) (fun _ h9 => by cases h9) dX8_faultOfLane_8
theorem dX8_faultOfCells_0 : decode cX8_faultOfCells 0 = .ok (.aload_n 0, 1) := by decide +kernel
theorem dX8_faultOfCells_1 : decode cX8_faultOfCells 1 = .ok (.iload_n 1, 1) := by decide +kernel
theorem dX8_faultOfCells_2 : decode cX8_faultOfCells 2 = .ok (.invokestatic 87, 3) := by decide +kernel
theorem dX8_faultOfCells_5 : decode cX8_faultOfCells 5 = .ok (.istore 4, 2) := by decide +kernel
theorem dX8_faultOfCells_7 : decode cX8_faultOfCells 7 = .ok (.iload 4, 2) := by decide +kernel
theorem dX8_faultOfCells_9 : decode cX8_faultOfCells 9 = .ok (.ifCond .eq 6, 3) := by decide +kernel
theorem dX8_faultOfCells_12 : decode cX8_faultOfCells 12 = .ok (.iload 4, 2) := by decide +kernel
theorem dX8_faultOfCells_14 : decode cX8_faultOfCells 14 = .ok (.ireturn, 1) := by decide +kernel
set_option maxRecDepth 20000 in
theorem ggX8_faultOfCells_X8_faultOfLane : GoodIn wsX8_faultOfCells wsX8_faultOfLane := goodIn_r _ [4, 5, 6, 16, 17, 18, 19] (by decide +kernel) (by decide +kernel)
set_option maxRecDepth 20000 in
theorem gX8_faultOfCells_X8_faultOfLane : GoodIn wsX8_faultOfCells (va_wsS RX8 87 yX8_faultOfLane wsX8_faultOfLane) := goodIn_app (goodIn_of _ (by decide +kernel)) ggX8_faultOfCells_X8_faultOfLane
set_option maxHeartbeats 4000000 in
set_option maxRecDepth 100000 in
theorem c_X8_faultOfCells (l : Launch) (D : va_G) (sz : Nat) (ro : Nat) (la : Int32) (i : Int32) (n : Int32) (e0 : Nat) (ln : Int32) (sz0 : Int32) : Met l yX8_faultOfCells wsX8_faultOfCells ({ frames := 1, cells := 0, slots := 0, locals := 21 }) (kPre [.ref ro, .int la, .int i, .int n] D [(ro, .inr (5, [.ref e0, .int 0, .int ln, .int sz0]))] [] sz) (QcRead 1) 0 0 (fun _ => False) := by
  refine Met.ofW (cc := cX8_faultOfCells) (maxL := 5) (ret := (some .int)) (by decide) rfl ?_
  intro p e s m args below meth c s₁ B hml hv
  obtain ⟨rfl, hsz, hP, hK, hD0, hN⟩ := hv
  have hx := B.exec
  have hb := B.bytes
  have hr := B.returns
  have hts := atoms_spec (ws := wsX8_faultOfCells) B.pre
  have hown : s.vm.findClass RX8 = some m.cls := findClass_of_methodNamed B.named
  have hlocks := B.notSynchronized
  subst hsz
  have hD := hD0
  have hP : va_P D vwCl [(ro, .inr (5, [.ref e0, .int 0, .int ln, .int sz0]))] s.heap := hP
  have hl := lv_entry ([.ref ro, .int la, .int i, .int n]) (n := 5) (Nat.le_of_ble_eq_true rfl)
  rw [lg_entry_eq]
  generalize (lg_sl ([.ref ro, .int la, .int i, .int n]) ++ List.replicate (5 - (lg_sl ([.ref ro, .int la, .int i, .int n])).length) Slot.unset).toArray = ls at hl ⊢
  have hl : lv_has ls 5 [(0, .ref ro), (1, .int la), (2, .int i), (3, .int n)] := hl
  refine lv_aload_n hx hb dX8_faultOfCells_0 rfl (lv_at hl 0 rfl) ?_
  refine lv_iload_n hx hb dX8_faultOfCells_1 rfl (lv_at hl 1 rfl) ?_
  refine k_callR (va_runS (As := [.ref ro, .int la]) (rest := []) ⟨hx, hb, hml, hown, hts⟩ (c_X8_faultOfLane l D s.heap.size (ro := ro) (la := la) (e0 := e0) (ln := ln) (sz0 := sz0)) (va_cwS 2 hts gX8_faultOfCells_X8_faultOfLane rfl rfl rfl (by decide +kernel) ⟨Nat.le_of_ble_eq_true rfl, Nat.le_of_ble_eq_true rfl⟩) (kPreS hP (kD0 hD) hK hN [0] [] rfl rfl (by decide)) rfl rfl hl.1 rfl (lv_room (Nat.le_of_ble_eq_true rfl)) dX8_faultOfCells_2 ⟨Nat.le_of_ble_eq_true rfl, Nat.le_of_ble_eq_true rfl⟩) ?_
  refine lv_istore (lv' := [(4, .int 1), (0, .ref ro), (1, .int la), (2, .int i), (3, .int n)]) hx hb dX8_faultOfCells_5 hl (by decide) rfl (fun ls hl => ?_)
  refine lv_iload hx hb dX8_faultOfCells_7 (lv_at hl 0 rfl) ?_
  refine lv_if_eq (tgt := 15) hx hb dX8_faultOfCells_9 (by decide) (fun c9 => absurd c9 (by decide)) (fun _ => ?_)
  refine lv_iload hx hb dX8_faultOfCells_12 (lv_at hl 0 rfl) ?_
  exact W.iret (v := 1) hx hb hr (fun t ht hW => kRd rfl ht) (fun _ h9 => by cases h9) dX8_faultOfCells_14
theorem dX8_failWith_0 : decode cX8_failWith 0 = .ok (.aload_n 0, 1) := by decide +kernel
theorem dX8_failWith_1 : decode cX8_failWith 1 = .ok (.iload_n 1, 1) := by decide +kernel
theorem dX8_failWith_2 : decode cX8_failWith 2 = .ok (.putfield 76, 3) := by decide +kernel
theorem dX8_failWith_5 : decode cX8_failWith 5 = .ok (.bipush (-10), 2) := by decide +kernel
theorem dX8_failWith_7 : decode cX8_failWith 7 = .ok (.iload_n 1, 1) := by decide +kernel
theorem dX8_failWith_8 : decode cX8_failWith 8 = .ok (.isub, 1) := by decide +kernel
theorem dX8_failWith_9 : decode cX8_failWith 9 = .ok (.ireturn, 1) := by decide +kernel
set_option maxHeartbeats 4000000 in
set_option maxRecDepth 100000 in
theorem c_X8_failWith (l : Launch) (D : va_G) (sz : Nat) (f : Int32) (h0 : Nat) (sh : Nat) (rd : Nat) (fr : Nat) (wr : Nat) (pf : Nat) (rc : Nat) (se : Nat) (rs : Nat) (sw : Nat) (sp : Nat) (ss : Nat) (ew : Int32) (wc : Int64) (tr : Int32) (lf : Int32) : Met l yX8_failWith wsX8_failWith ({ frames := 0, cells := 0, slots := 0, locals := 0 }) (kPre [.ref h0, .int f] D [(h0, .inr (8, [.ref sh, .ref rd, .ref fr, .ref wr, .ref pf, .ref rc, .ref se, .ref rs, .ref sw, .ref sp, .ref ss, .int ew, .long wc, .int tr, .int lf]))] [] sz) (kQi ((-10) - f) (va_A [(h0, .inr (8, [.ref sh, .ref rd, .ref fr, .ref wr, .ref pf, .ref rc, .ref se, .ref rs, .ref sw, .ref sp, .ref ss, .int ew, .long wc, .int tr, .int lf]))] sz)) 0 0 (va_A [(h0, .inr (8, [.ref sh, .ref rd, .ref fr, .ref wr, .ref pf, .ref rc, .ref se, .ref rs, .ref sw, .ref sp, .ref ss, .int ew, .long wc, .int tr, .int lf]))] sz) := by
  refine Met.ofW (cc := cX8_failWith) (maxL := 2) (ret := (some .int)) (by decide) rfl ?_
  intro p e s m args below meth c s₁ B hml hv
  obtain ⟨rfl, hsz, hP, hK, hD0, hN⟩ := hv
  have hx := B.exec
  have hb := B.bytes
  have hr := B.returns
  have hts := atoms_spec (ws := wsX8_failWith) B.pre
  have hown : s.vm.findClass RX8 = some m.cls := findClass_of_methodNamed B.named
  have hlocks := B.notSynchronized
  subst hsz
  have hD := hD0.self (sz := s.heap.size)
  generalize hAe : va_A [(h0, .inr (8, [.ref sh, .ref rd, .ref fr, .ref wr, .ref pf, .ref rc, .ref se, .ref rs, .ref sw, .ref sp, .ref ss, .int ew, .long wc, .int tr, .int lf]))] s.heap.size = A at hD ⊢
  have hA : ∀ q : Nat, s.heap.size ≤ q → A q := fun q h => by rw [← hAe]; exact Or.inr h
  have hS : va_S A s.heap s.heap [] := va_S.rf
  have hP : va_P D vwCl [(h0, .inr (8, [.ref sh, .ref rd, .ref fr, .ref wr, .ref pf, .ref rc, .ref se, .ref rs, .ref sw, .ref sp, .ref ss, .int ew, .long wc, .int tr, .int lf]))] s.heap := hP
  have hl := lv_entry ([.ref h0, .int f]) (n := 2) (Nat.le_of_ble_eq_true rfl)
  rw [lg_entry_eq]
  generalize (lg_sl ([.ref h0, .int f]) ++ List.replicate (2 - (lg_sl ([.ref h0, .int f])).length) Slot.unset).toArray = ls at hl ⊢
  have hl : lv_has ls 2 [(0, .ref h0), (1, .int f)] := hl
  refine lv_aload_n hx hb dX8_failWith_0 rfl (lv_at hl 0 rfl) ?_
  refine lv_iload_n hx hb dX8_failWith_1 rfl (lv_at hl 1 rfl) ?_
  refine va_put (D := D) (ci := 8) (v := .int f) (ty := .int) (C := RX8) (T := TX8) (N := 15) hx hb hts (fun _ h9 => List.mem_cons_of_mem _ (List.mem_append_right _ h9)) tyX8 tyX8_ok nmX8 hown hK hP hD hS 0 rfl rfl 14 (by decide) (hts (.fieldLink RX8 76 "FontRuns" "latestFault" "I") (by decide +kernel)) (fun _ h9 => h9) rfl (by decide +kernel) rfl rfl (Nat.le_of_ble_eq_true rfl) dX8_failWith_2 (fun H locs hP hD hS => ?_)
  have hP : va_P D vwCl [(h0, .inr (8, [.ref sh, .ref rd, .ref fr, .ref wr, .ref pf, .ref rc, .ref se, .ref rs, .ref sw, .ref sp, .ref ss, .int ew, .long wc, .int tr, .int f]))] H := hP
  have hD : va_D A [(h0, .inr (8, [.ref sh, .ref rd, .ref fr, .ref wr, .ref pf, .ref rc, .ref se, .ref rs, .ref sw, .ref sp, .ref ss, .int ew, .long wc, .int tr, .int f]))] := hD
  refine lv_bipush (v := (-10)) hx hb dX8_failWith_5 (by decide) ?_
  refine lv_iload_n hx hb dX8_failWith_7 rfl (lv_at hl 1 rfl) ?_
  refine lv_isub hx hb dX8_failWith_8 ?_
  exact W.iret (v := ((-10) - f)) hx hb hr (fun t ht hW => kQi_of rfl (hS.F ht)) hS.2.2 dX8_failWith_9
theorem kmany {k : Int32} (h : k.toInt < 0 ∨ 3 < k.toInt) : (-2 : Int32) = sp_many k := by
  have h0 : ¬ (k = 0 ∨ k = 1 ∨ k = 2 ∨ k = 3) := by
    rintro (rfl | rfl | rfl | rfl) <;> revert h <;> decide
  exact (if_neg h0).symm
end
section
theorem dX4_isCluster_0 : decode cX4_isCluster 0 = .ok (.iload_n 1, 1) := by decide +kernel
theorem dX4_isCluster_1 : decode cX4_isCluster 1 = .ok (.iconst 0, 1) := by decide +kernel
theorem dX4_isCluster_2 : decode cX4_isCluster 2 = .ok (.aload_n 0, 1) := by decide +kernel
theorem dX4_isCluster_3 : decode cX4_isCluster 3 = .ok (.getfield 51, 3) := by decide +kernel
theorem dX4_isCluster_6 : decode cX4_isCluster 6 = .ok (.iconst 1, 1) := by decide +kernel
theorem dX4_isCluster_7 : decode cX4_isCluster 7 = .ok (.isub, 1) := by decide +kernel
theorem dX4_isCluster_8 : decode cX4_isCluster 8 = .ok (.invokestatic 55, 3) := by decide +kernel
theorem dX4_isCluster_11 : decode cX4_isCluster 11 = .ok (.ireturn, 1) := by decide +kernel
set_option maxRecDepth 20000 in
theorem ggX4_isCluster_X8_isWithin : GoodIn wsX4_isCluster wsX8_isWithin := goodIn_r _ [4] (by decide +kernel) (by decide +kernel)
set_option maxRecDepth 20000 in
theorem gX4_isCluster_X8_isWithin_n55 : GoodIn wsX4_isCluster (wsX8_isWithin) := ggX4_isCluster_X8_isWithin
set_option maxHeartbeats 4000000 in
set_option maxRecDepth 100000 in
theorem c_X4_isCluster (l : Launch) (D : va_G) (sz : Nat) (k : Int32) (h0 : Nat) (g1 : Nat) (g2 : Nat) (g3 : Nat) (g4 : Nat) (g5 : Nat) (n : Int32) (bo : Int32) (ru : Int32) (g6 : Nat) (g7 : Nat) : Met l yX4_isCluster wsX4_isCluster ({ frames := 1, cells := 0, slots := 0, locals := 22 }) (kPre [.ref h0, .int k] D [(h0, .inr (4, [.ref g1, .ref g2, .ref g3, .ref g4, .ref g5, .int n, .int bo, .int ru, .ref g6, .ref g7]))] [] sz) (QcRead (if (0 ≤ k ∧ k ≤ n - 1) then 1 else 0)) 0 0 (fun _ => False) := by
  refine Met.ofW (cc := cX4_isCluster) (maxL := 2) (ret := (some .boolean)) (by decide) rfl ?_
  intro p e s m args below meth c s₁ B hml hv
  obtain ⟨rfl, hsz, hP, hK, hD0, hN⟩ := hv
  have hx := B.exec
  have hb := B.bytes
  have hr := B.returns
  have hts := atoms_spec (ws := wsX4_isCluster) B.pre
  have hown : s.vm.findClass RX4 = some m.cls := findClass_of_methodNamed B.named
  have hlocks := B.notSynchronized
  subst hsz
  have hD := hD0
  have hP : va_P D vwCl [(h0, .inr (4, [.ref g1, .ref g2, .ref g3, .ref g4, .ref g5, .int n, .int bo, .int ru, .ref g6, .ref g7]))] s.heap := hP
  have hl := lv_entry ([.ref h0, .int k]) (n := 2) (Nat.le_of_ble_eq_true rfl)
  rw [lg_entry_eq]
  generalize (lg_sl ([.ref h0, .int k]) ++ List.replicate (2 - (lg_sl ([.ref h0, .int k])).length) Slot.unset).toArray = ls at hl ⊢
  have hl : lv_has ls 2 [(0, .ref h0), (1, .int k)] := hl
  refine lv_iload_n hx hb dX4_isCluster_0 rfl (lv_at hl 1 rfl) ?_
  refine lv_iconst (v := 0) hx hb dX4_isCluster_1 (by decide) ?_
  refine lv_aload_n hx hb dX4_isCluster_2 rfl (lv_at hl 0 rfl) ?_
  refine va_get (D := D) (ci := 4) (v := .int n) (C := RX4) (T := TX4) (N := 10) hx hb hts (fun _ h9 => List.mem_cons_of_mem _ (List.mem_append_right _ h9)) hown hK hP 0 rfl rfl 5 (by decide) (hts (.fieldLink RX4 51 "FontRuns$Setting" "count" "I") (by decide +kernel)) (fun _ h9 => h9) rfl dX4_isCluster_3 ?_
  refine lv_iconst (v := 1) hx hb dX4_isCluster_6 (by decide) ?_
  refine lv_isub hx hb dX4_isCluster_7 ?_
  refine k_callR (va_runSN (As := [.int k, .int 0, .int (n - 1)]) (rest := []) ⟨hx, hb, hml, hown, hts⟩ (c_X8_isWithin l D s.heap.size (v := k) (a := 0) (b := (n - 1))) (⟨va_cnB 3 hts gX4_isCluster_X8_isWithin_n55 rfl rfl rfl (hN.1 (RX4, 55, yX8_isWithin) (by decide +kernel)) (hts (.initialized RX8) (by decide +kernel)) (by decide +kernel) ⟨Nat.le_of_ble_eq_true rfl, Nat.le_of_ble_eq_true rfl⟩, (hts (.static yX8_isWithin) (by decide +kernel)), trivial⟩) (kPreS hP (kD0 hD) hK hN [] [] rfl rfl (by decide)) rfl rfl hl.1 rfl (lv_room (Nat.le_of_ble_eq_true rfl)) dX4_isCluster_8 ⟨Nat.le_of_ble_eq_true rfl, Nat.le_of_ble_eq_true rfl⟩) ?_
  exact W.zret (v := (if (0 ≤ k ∧ k ≤ (n - 1)) then 1 else 0)) hx hb hr kzb (fun t ht hW => kRd (by first | rfl | (simp only []; done) | (simp []; done)) ht) (fun _ h9 => by cases h9) dX4_isCluster_11
end
section
theorem dX8_fonts_0 : decode cX8_fonts 0 = .ok (.aload_n 0, 1) := by decide +kernel
theorem dX8_fonts_1 : decode cX8_fonts 1 = .ok (.iconst 0, 1) := by decide +kernel
theorem dX8_fonts_2 : decode cX8_fonts 2 = .ok (.putfield 76, 3) := by decide +kernel
theorem dX8_fonts_5 : decode cX8_fonts 5 = .ok (.iload_n 1, 1) := by decide +kernel
theorem dX8_fonts_6 : decode cX8_fonts 6 = .ok (.invokestatic 80, 3) := by decide +kernel
theorem dX8_fonts_9 : decode cX8_fonts 9 = .ok (.ifCond .ne 5, 3) := by decide +kernel
theorem dX8_fonts_12 : decode cX8_fonts 12 = .ok (.iconst (-1), 1) := by decide +kernel
theorem dX8_fonts_13 : decode cX8_fonts 13 = .ok (.ireturn, 1) := by decide +kernel
theorem dX8_fonts_14 : decode cX8_fonts 14 = .ok (.iload_n 2, 1) := by decide +kernel
theorem dX8_fonts_15 : decode cX8_fonts 15 = .ok (.invokestatic 84, 3) := by decide +kernel
theorem dX8_fonts_18 : decode cX8_fonts 18 = .ok (.ifCond .ne 6, 3) := by decide +kernel
theorem dX8_fonts_21 : decode cX8_fonts 21 = .ok (.bipush (-2), 2) := by decide +kernel
theorem dX8_fonts_23 : decode cX8_fonts 23 = .ok (.ireturn, 1) := by decide +kernel
theorem dX8_fonts_24 : decode cX8_fonts 24 = .ok (.aload_n 0, 1) := by decide +kernel
theorem dX8_fonts_25 : decode cX8_fonts 25 = .ok (.getfield 13, 3) := by decide +kernel
theorem dX8_fonts_28 : decode cX8_fonts 28 = .ok (.iload_n 1, 1) := by decide +kernel
theorem dX8_fonts_29 : decode cX8_fonts 29 = .ok (.aaload, 1) := by decide +kernel
theorem dX8_fonts_30 : decode cX8_fonts 30 = .ok (.astore 5, 2) := by decide +kernel
theorem dX8_fonts_32 : decode cX8_fonts 32 = .ok (.aload 5, 2) := by decide +kernel
theorem dX8_fonts_34 : decode cX8_fonts 34 = .ok (.iload_n 2, 1) := by decide +kernel
theorem dX8_fonts_35 : decode cX8_fonts 35 = .ok (.invokestatic 87, 3) := by decide +kernel
theorem dX8_fonts_38 : decode cX8_fonts 38 = .ok (.istore 6, 2) := by decide +kernel
theorem dX8_fonts_40 : decode cX8_fonts 40 = .ok (.iload 6, 2) := by decide +kernel
theorem dX8_fonts_42 : decode cX8_fonts 42 = .ok (.ifCond .ne 11, 3) := by decide +kernel
theorem dX8_fonts_53 : decode cX8_fonts 53 = .ok (.iload 6, 2) := by decide +kernel
theorem dX8_fonts_55 : decode cX8_fonts 55 = .ok (.ifCond .ne 17, 3) := by decide +kernel
theorem dX8_fonts_72 : decode cX8_fonts 72 = .ok (.iload 6, 2) := by decide +kernel
theorem dX8_fonts_74 : decode cX8_fonts 74 = .ok (.ifCond .eq 10, 3) := by decide +kernel
theorem dX8_fonts_77 : decode cX8_fonts 77 = .ok (.aload_n 0, 1) := by decide +kernel
theorem dX8_fonts_78 : decode cX8_fonts 78 = .ok (.iload 6, 2) := by decide +kernel
theorem dX8_fonts_80 : decode cX8_fonts 80 = .ok (.invokevirtual 95, 3) := by decide +kernel
theorem dX8_fonts_83 : decode cX8_fonts 83 = .ok (.ireturn, 1) := by decide +kernel
set_option maxRecDepth 20000 in
theorem ggX8_fonts_X8_failWith : GoodIn wsX8_fonts wsX8_failWith := goodIn_r _ [31, 1, 172, 173, 174, 175, 176, 177, 178, 179, 180, 181, 182, 183, 184, 185, 186] (by decide +kernel) (by decide +kernel)
set_option maxRecDepth 20000 in
theorem gX8_fonts_X8_failWith : GoodIn wsX8_fonts (wsV RX8 95 RX8 yX8_failWith wsX8_failWith) := goodIn_app (goodIn_of _ (by decide +kernel)) ggX8_fonts_X8_failWith
set_option maxRecDepth 20000 in
theorem ggX8_fonts_X8_faultOfLane : GoodIn wsX8_fonts wsX8_faultOfLane := goodIn_r _ [18, 19, 20, 191, 192, 193, 194] (by decide +kernel) (by decide +kernel)
set_option maxRecDepth 20000 in
theorem gX8_fonts_X8_faultOfLane : GoodIn wsX8_fonts (va_wsS RX8 87 yX8_faultOfLane wsX8_faultOfLane) := goodIn_app (goodIn_of _ (by decide +kernel)) ggX8_fonts_X8_faultOfLane
set_option maxRecDepth 20000 in
theorem ggX8_fonts_X8_isLane : GoodIn wsX8_fonts wsX8_isLane := goodIn_r _ [15, 10, 11, 8, 12] (by decide +kernel) (by decide +kernel)
set_option maxRecDepth 20000 in
theorem gX8_fonts_X8_isLane : GoodIn wsX8_fonts (va_wsS RX8 84 yX8_isLane wsX8_isLane) := goodIn_app (goodIn_of _ (by decide +kernel)) ggX8_fonts_X8_isLane
set_option maxRecDepth 20000 in
theorem ggX8_fonts_X8_isSheet : GoodIn wsX8_fonts wsX8_isSheet := goodIn_r _ [9, 10, 11, 8, 12] (by decide +kernel) (by decide +kernel)
set_option maxRecDepth 20000 in
theorem gX8_fonts_X8_isSheet : GoodIn wsX8_fonts (va_wsS RX8 80 yX8_isSheet wsX8_isSheet) := goodIn_app (goodIn_of _ (by decide +kernel)) ggX8_fonts_X8_isSheet
set_option maxHeartbeats 4000000 in
set_option maxRecDepth 100000 in
theorem c_X8_fonts (l : Launch) (D : va_G) (sz : Nat) (k : Int32) (n : Int32) (i : Int32) (z : Int32) (h0 : Nat) (sh : Nat) (rd : Nat) (fr : Nat) (wr : Nat) (pf : Nat) (rc : Nat) (se : Nat) (rs : Nat) (sw : Nat) (sp : Nat) (ss : Nat) (ew : Int32) (wc : Int64) (tr : Int32) (lf : Int32) (cS : ClassId) (s0 : Nat) (s1 : Nat) (s2 : Nat) (s3 : Nat) (e0 : Nat) (e1 : Nat) (e2 : Nat) (e3 : Nat) : Met l yX8_fonts wsX8_fonts ({ frames := 2, cells := 0, slots := 0, locals := 42 }) (kPre [.ref h0, .int k, .int n, .int i, .int z] D [(h0, .inr (8, [.ref sh, .ref rd, .ref fr, .ref wr, .ref pf, .ref rc, .ref se, .ref rs, .ref sw, .ref sp, .ref ss, .int ew, .long wc, .int tr, .int lf])), (sh, .inl (cS, 4, .inr (.inr (.inr (.inr (va_up (va_up (va_up (va_up (fun _ => none) 0 (some s0)) 1 (some s1)) 2 (some s2)) 3 (some s3))))))), (s0, .inr (5, [.ref e0, .int 0, .int 0, .int 0])), (s1, .inr (5, [.ref e1, .int 0, .int 0, .int 0])), (s2, .inr (5, [.ref e2, .int 0, .int 0, .int 0])), (s3, .inr (5, [.ref e3, .int 0, .int 0, .int 0]))] [(cS, .object RX5)] sz) (kQi (sp_fonts k n) (va_A [(h0, .inr (8, [.ref sh, .ref rd, .ref fr, .ref wr, .ref pf, .ref rc, .ref se, .ref rs, .ref sw, .ref sp, .ref ss, .int ew, .long wc, .int tr, .int lf])), (sh, .inl (cS, 4, .inr (.inr (.inr (.inr (va_up (va_up (va_up (va_up (fun _ => none) 0 (some s0)) 1 (some s1)) 2 (some s2)) 3 (some s3))))))), (s0, .inr (5, [.ref e0, .int 0, .int 0, .int 0])), (s1, .inr (5, [.ref e1, .int 0, .int 0, .int 0])), (s2, .inr (5, [.ref e2, .int 0, .int 0, .int 0])), (s3, .inr (5, [.ref e3, .int 0, .int 0, .int 0]))] sz)) 0 0 (va_A [(h0, .inr (8, [.ref sh, .ref rd, .ref fr, .ref wr, .ref pf, .ref rc, .ref se, .ref rs, .ref sw, .ref sp, .ref ss, .int ew, .long wc, .int tr, .int lf])), (sh, .inl (cS, 4, .inr (.inr (.inr (.inr (va_up (va_up (va_up (va_up (fun _ => none) 0 (some s0)) 1 (some s1)) 2 (some s2)) 3 (some s3))))))), (s0, .inr (5, [.ref e0, .int 0, .int 0, .int 0])), (s1, .inr (5, [.ref e1, .int 0, .int 0, .int 0])), (s2, .inr (5, [.ref e2, .int 0, .int 0, .int 0])), (s3, .inr (5, [.ref e3, .int 0, .int 0, .int 0]))] sz) := by
  refine Met.ofW (cc := cX8_fonts) (maxL := 8) (ret := (some .int)) (by decide) rfl ?_
  intro p e s m args below meth c s₁ B hml hv
  obtain ⟨rfl, hsz, hP, hK, hD0, hN⟩ := hv
  have hx := B.exec
  have hb := B.bytes
  have hr := B.returns
  have hts := atoms_spec (ws := wsX8_fonts) B.pre
  have hown : s.vm.findClass RX8 = some m.cls := findClass_of_methodNamed B.named
  have hlocks := B.notSynchronized
  subst hsz
  have hD := hD0.self (sz := s.heap.size)
  generalize hAe : va_A [(h0, .inr (8, [.ref sh, .ref rd, .ref fr, .ref wr, .ref pf, .ref rc, .ref se, .ref rs, .ref sw, .ref sp, .ref ss, .int ew, .long wc, .int tr, .int lf])), (sh, .inl (cS, 4, .inr (.inr (.inr (.inr (va_up (va_up (va_up (va_up (fun _ => none) 0 (some s0)) 1 (some s1)) 2 (some s2)) 3 (some s3))))))), (s0, .inr (5, [.ref e0, .int 0, .int 0, .int 0])), (s1, .inr (5, [.ref e1, .int 0, .int 0, .int 0])), (s2, .inr (5, [.ref e2, .int 0, .int 0, .int 0])), (s3, .inr (5, [.ref e3, .int 0, .int 0, .int 0]))] s.heap.size = A at hD ⊢
  have hA : ∀ q : Nat, s.heap.size ≤ q → A q := fun q h => by rw [← hAe]; exact Or.inr h
  have hS : va_S A s.heap s.heap [] := va_S.rf
  have hP : va_P D vwCl [(h0, .inr (8, [.ref sh, .ref rd, .ref fr, .ref wr, .ref pf, .ref rc, .ref se, .ref rs, .ref sw, .ref sp, .ref ss, .int ew, .long wc, .int tr, .int lf])), (sh, .inl (cS, 4, .inr (.inr (.inr (.inr (va_up (va_up (va_up (va_up (fun _ => none) 0 (some s0)) 1 (some s1)) 2 (some s2)) 3 (some s3))))))), (s0, .inr (5, [.ref e0, .int 0, .int 0, .int 0])), (s1, .inr (5, [.ref e1, .int 0, .int 0, .int 0])), (s2, .inr (5, [.ref e2, .int 0, .int 0, .int 0])), (s3, .inr (5, [.ref e3, .int 0, .int 0, .int 0]))] s.heap := hP
  have hl := lv_entry ([.ref h0, .int k, .int n, .int i, .int z]) (n := 8) (Nat.le_of_ble_eq_true rfl)
  rw [lg_entry_eq]
  generalize (lg_sl ([.ref h0, .int k, .int n, .int i, .int z]) ++ List.replicate (8 - (lg_sl ([.ref h0, .int k, .int n, .int i, .int z])).length) Slot.unset).toArray = ls at hl ⊢
  have hl : lv_has ls 8 [(0, .ref h0), (1, .int k), (2, .int n), (3, .int i), (4, .int z)] := hl
  refine lv_aload_n hx hb dX8_fonts_0 rfl (lv_at hl 0 rfl) ?_
  refine lv_iconst (v := 0) hx hb dX8_fonts_1 (by decide) ?_
  refine va_put (D := D) (ci := 8) (v := .int 0) (ty := .int) (C := RX8) (T := TX8) (N := 15) hx hb hts (fun _ h9 => List.mem_cons_of_mem _ (List.mem_append_left _ (List.mem_append_left _ (List.mem_append_left _ (List.mem_append_left _ (List.mem_append_left _ (List.mem_append_left _ (List.mem_append_left _ (List.mem_append_left _ (List.mem_append_right _ h9)))))))))) tyX8 tyX8_ok nmX8 hown hK hP hD hS 0 rfl rfl 14 (by decide) (hts (.fieldLink RX8 76 "FontRuns" "latestFault" "I") (by decide +kernel)) (fun _ h9 => h9) rfl (by decide +kernel) rfl rfl (Nat.le_of_ble_eq_true rfl) dX8_fonts_2 (fun H locs hP hD hS => ?_)
  have hP : va_P D vwCl [(h0, .inr (8, [.ref sh, .ref rd, .ref fr, .ref wr, .ref pf, .ref rc, .ref se, .ref rs, .ref sw, .ref sp, .ref ss, .int ew, .long wc, .int tr, .int 0])), (sh, .inl (cS, 4, .inr (.inr (.inr (.inr (va_up (va_up (va_up (va_up (fun _ => none) 0 (some s0)) 1 (some s1)) 2 (some s2)) 3 (some s3))))))), (s0, .inr (5, [.ref e0, .int 0, .int 0, .int 0])), (s1, .inr (5, [.ref e1, .int 0, .int 0, .int 0])), (s2, .inr (5, [.ref e2, .int 0, .int 0, .int 0])), (s3, .inr (5, [.ref e3, .int 0, .int 0, .int 0]))] H := hP
  have hD : va_D A [(h0, .inr (8, [.ref sh, .ref rd, .ref fr, .ref wr, .ref pf, .ref rc, .ref se, .ref rs, .ref sw, .ref sp, .ref ss, .int ew, .long wc, .int tr, .int 0])), (sh, .inl (cS, 4, .inr (.inr (.inr (.inr (va_up (va_up (va_up (va_up (fun _ => none) 0 (some s0)) 1 (some s1)) 2 (some s2)) 3 (some s3))))))), (s0, .inr (5, [.ref e0, .int 0, .int 0, .int 0])), (s1, .inr (5, [.ref e1, .int 0, .int 0, .int 0])), (s2, .inr (5, [.ref e2, .int 0, .int 0, .int 0])), (s3, .inr (5, [.ref e3, .int 0, .int 0, .int 0]))] := hD
  refine lv_iload_n hx hb dX8_fonts_5 rfl (lv_at hl 1 rfl) ?_
  refine k_callR (va_runS (As := [.int k]) (rest := []) ⟨hx, hb, hml, hown, hts⟩ (c_X8_isSheet l D H.size (k := k)) (va_cwS 1 hts gX8_fonts_X8_isSheet rfl rfl rfl (by decide +kernel) ⟨Nat.le_of_ble_eq_true rfl, Nat.le_of_ble_eq_true rfl⟩) (kPreS hP (kD0 hD) hK hN [] [] rfl rfl (by decide)) rfl rfl hl.1 rfl (lv_room (Nat.le_of_ble_eq_true rfl)) dX8_fonts_6 ⟨Nat.le_of_ble_eq_true rfl, Nat.le_of_ble_eq_true rfl⟩) ?_
  refine lv_if_ne (tgt := 14) hx hb dX8_fonts_9 (by decide) (fun c_1 => ?_) (fun c_1 => ?_)
  · have k_2 : (0 ≤ k ∧ k ≤ 3) := b01t c_1
    refine lv_iload_n hx hb dX8_fonts_14 rfl (lv_at hl 2 rfl) ?_
    refine k_callR (va_runS (As := [.int n]) (rest := []) ⟨hx, hb, hml, hown, hts⟩ (c_X8_isLane l D H.size (k := n)) (va_cwS 1 hts gX8_fonts_X8_isLane rfl rfl rfl (by decide +kernel) ⟨Nat.le_of_ble_eq_true rfl, Nat.le_of_ble_eq_true rfl⟩) (kPreS hP (kD0 hD) hK hN [] [] rfl rfl (by decide)) rfl rfl hl.1 rfl (lv_room (Nat.le_of_ble_eq_true rfl)) dX8_fonts_15 ⟨Nat.le_of_ble_eq_true rfl, Nat.le_of_ble_eq_true rfl⟩) ?_
    refine lv_if_ne (tgt := 24) hx hb dX8_fonts_18 (by decide) (fun c_3 => ?_) (fun c_3 => ?_)
    · have k_4 : (0 ≤ n ∧ n ≤ 2) := b01t c_3
      refine lv_aload_n hx hb dX8_fonts_24 rfl (lv_at hl 0 rfl) ?_
      refine va_get (D := D) (ci := 8) (v := .ref sh) (C := RX8) (T := TX8) (N := 15) hx hb hts (fun _ h9 => List.mem_cons_of_mem _ (List.mem_append_left _ (List.mem_append_left _ (List.mem_append_left _ (List.mem_append_left _ (List.mem_append_left _ (List.mem_append_left _ (List.mem_append_left _ (List.mem_append_left _ (List.mem_append_right _ h9)))))))))) hown hK hP 0 rfl rfl 0 (by decide) (hts (.fieldLink RX8 13 "FontRuns" "sheets" "[LFontRuns$Sheet;") (by decide +kernel)) (fun _ h9 => h9) rfl dX8_fonts_25 ?_
      refine lv_iload_n hx hb dX8_fonts_28 rfl (lv_at hl 1 rfl) ?_
      refine va_aldq hx hb hK hP 1 0 rfl rfl (k4in k_2) dX8_fonts_29 ?_
      rcases (k4 k_2) with e9 | e9 | e9 | e9
      · subst e9
        refine kn_v (.ref s0) rfl ?_
        refine lv_astore (lv' := [(5, .ref s0), (0, .ref h0), (1, .int 0), (2, .int n), (3, .int i), (4, .int z)]) hx hb dX8_fonts_30 hl (by decide) rfl (fun ls hl => ?_)
        refine lv_aload hx hb dX8_fonts_32 (lv_at hl 0 rfl) ?_
        refine lv_iload_n hx hb dX8_fonts_34 rfl (lv_at hl 3 rfl) ?_
        refine k_callR (va_runS (As := [.ref s0, .int n]) (rest := []) ⟨hx, hb, hml, hown, hts⟩ (c_X8_faultOfLane l D H.size (ro := s0) (la := n) (e0 := e0) (ln := 0) (sz0 := 0)) (va_cwS 2 hts gX8_fonts_X8_faultOfLane rfl rfl rfl (by decide +kernel) ⟨Nat.le_of_ble_eq_true rfl, Nat.le_of_ble_eq_true rfl⟩) (kPreS hP (kD0 hD) hK hN [2] [] rfl rfl (by decide)) rfl rfl hl.1 rfl (lv_room (Nat.le_of_ble_eq_true rfl)) dX8_fonts_35 ⟨Nat.le_of_ble_eq_true rfl, Nat.le_of_ble_eq_true rfl⟩) ?_
        refine lv_istore (lv' := [(6, .int 1), (5, .ref s0), (0, .ref h0), (1, .int 0), (2, .int n), (3, .int i), (4, .int z)]) hx hb dX8_fonts_38 hl (by decide) rfl (fun ls hl => ?_)
        refine lv_iload hx hb dX8_fonts_40 (lv_at hl 0 rfl) ?_
        refine lv_if_ne (tgt := 53) hx hb dX8_fonts_42 (by decide) (fun _ => ?_) (fun c9 => absurd c9 (by decide))
        refine lv_iload hx hb dX8_fonts_53 (lv_at hl 0 rfl) ?_
        refine lv_if_ne (tgt := 72) hx hb dX8_fonts_55 (by decide) (fun _ => ?_) (fun c9 => absurd c9 (by decide))
        refine lv_iload hx hb dX8_fonts_72 (lv_at hl 0 rfl) ?_
        refine lv_if_eq (tgt := 84) hx hb dX8_fonts_74 (by decide) (fun c9 => absurd c9 (by decide)) (fun _ => ?_)
        refine lv_aload_n hx hb dX8_fonts_77 rfl (lv_at hl 2 rfl) ?_
        refine lv_iload hx hb dX8_fonts_78 (lv_at hl 0 rfl) ?_
        have hFc := va_free (wc := [(h0, .inr (8, [.ref sh, .ref rd, .ref fr, .ref wr, .ref pf, .ref rc, .ref se, .ref rs, .ref sw, .ref sp, .ref ss, .int ew, .long wc, .int tr, .int 0]))]) hD hS hA [0] rfl
        refine va_calli (va_runV (As := [.int 1]) (rest := []) ⟨hx, hb, hml, hown, hts⟩ (c_X8_failWith l D H.size (f := 1) (h0 := h0) (sh := sh) (rd := rd) (fr := fr) (wr := wr) (pf := pf) (rc := rc) (se := se) (rs := rs) (sw := sw) (sp := sp) (ss := ss) (ew := ew) (wc := wc) (tr := tr) (lf := 0)) (cwV 1 hts gX8_fonts_X8_failWith rfl rfl rfl (by decide +kernel) ⟨Nat.le_of_ble_eq_true rfl, Nat.le_of_ble_eq_true rfl⟩) (kPreV hP (kD0 hD) hK hN [0] [] rfl rfl (by decide) 0 8 rfl rfl) rfl rfl hl.1 rfl (lv_room (Nat.le_of_ble_eq_true rfl)) dX8_fonts_80 ⟨Nat.le_of_ble_eq_true rfl, Nat.le_of_ble_eq_true rfl⟩) hS (fun q _ h => hFc q h) hFc (fun r_5 u t H1 locs ht hvm hw hB hz1 hk1 hS => ?_)
        obtain ⟨hP, hD⟩ := va_join (wr := [(sh, .inl (cS, 4, .inr (.inr (.inr (.inr (va_up (va_up (va_up (va_up (fun _ => none) 0 (some s0)) 1 (some s1)) 2 (some s2)) 3 (some s3))))))), (s0, .inr (5, [.ref e0, .int 0, .int 0, .int 0])), (s1, .inr (5, [.ref e1, .int 0, .int 0, .int 0])), (s2, .inr (5, [.ref e2, .int 0, .int 0, .int 0])), (s3, .inr (5, [.ref e3, .int 0, .int 0, .int 0]))]) (w1 := []) hP hD [0] [1, 2, 3, 4, 5] rfl rfl (by decide) (by decide) hk1 hFc kP0 kDn
        generalize H1 = H at hP hS ⊢
        have hP : va_P D vwCl [(sh, .inl (cS, 4, .inr (.inr (.inr (.inr (va_up (va_up (va_up (va_up (fun _ => none) 0 (some s0)) 1 (some s1)) 2 (some s2)) 3 (some s3))))))), (s0, .inr (5, [.ref e0, .int 0, .int 0, .int 0])), (s1, .inr (5, [.ref e1, .int 0, .int 0, .int 0])), (s2, .inr (5, [.ref e2, .int 0, .int 0, .int 0])), (s3, .inr (5, [.ref e3, .int 0, .int 0, .int 0]))] H := hP
        have hD : va_D A [(sh, .inl (cS, 4, .inr (.inr (.inr (.inr (va_up (va_up (va_up (va_up (fun _ => none) 0 (some s0)) 1 (some s1)) 2 (some s2)) 3 (some s3))))))), (s0, .inr (5, [.ref e0, .int 0, .int 0, .int 0])), (s1, .inr (5, [.ref e1, .int 0, .int 0, .int 0])), (s2, .inr (5, [.ref e2, .int 0, .int 0, .int 0])), (s3, .inr (5, [.ref e3, .int 0, .int 0, .int 0]))] := hD
        refine kn_i ((-10) - 1) hw ?_
        refine kn_i (-11) (by decide) ?_
        exact W.iret (v := (-11)) hx hb hr (fun t ht hW => kQi_of (by first | rfl | (simp only [sp_fonts, if_pos k_2, if_pos k_4]; done) | (simp [sp_fonts, k_2, k_4]; done)) (hS.F ht)) hS.2.2 dX8_fonts_83
      · subst e9
        refine kn_v (.ref s1) rfl ?_
        refine lv_astore (lv' := [(5, .ref s1), (0, .ref h0), (1, .int 1), (2, .int n), (3, .int i), (4, .int z)]) hx hb dX8_fonts_30 hl (by decide) rfl (fun ls hl => ?_)
        refine lv_aload hx hb dX8_fonts_32 (lv_at hl 0 rfl) ?_
        refine lv_iload_n hx hb dX8_fonts_34 rfl (lv_at hl 3 rfl) ?_
        refine k_callR (va_runS (As := [.ref s1, .int n]) (rest := []) ⟨hx, hb, hml, hown, hts⟩ (c_X8_faultOfLane l D H.size (ro := s1) (la := n) (e0 := e1) (ln := 0) (sz0 := 0)) (va_cwS 2 hts gX8_fonts_X8_faultOfLane rfl rfl rfl (by decide +kernel) ⟨Nat.le_of_ble_eq_true rfl, Nat.le_of_ble_eq_true rfl⟩) (kPreS hP (kD0 hD) hK hN [3] [] rfl rfl (by decide)) rfl rfl hl.1 rfl (lv_room (Nat.le_of_ble_eq_true rfl)) dX8_fonts_35 ⟨Nat.le_of_ble_eq_true rfl, Nat.le_of_ble_eq_true rfl⟩) ?_
        refine lv_istore (lv' := [(6, .int 1), (5, .ref s1), (0, .ref h0), (1, .int 1), (2, .int n), (3, .int i), (4, .int z)]) hx hb dX8_fonts_38 hl (by decide) rfl (fun ls hl => ?_)
        refine lv_iload hx hb dX8_fonts_40 (lv_at hl 0 rfl) ?_
        refine lv_if_ne (tgt := 53) hx hb dX8_fonts_42 (by decide) (fun _ => ?_) (fun c9 => absurd c9 (by decide))
        refine lv_iload hx hb dX8_fonts_53 (lv_at hl 0 rfl) ?_
        refine lv_if_ne (tgt := 72) hx hb dX8_fonts_55 (by decide) (fun _ => ?_) (fun c9 => absurd c9 (by decide))
        refine lv_iload hx hb dX8_fonts_72 (lv_at hl 0 rfl) ?_
        refine lv_if_eq (tgt := 84) hx hb dX8_fonts_74 (by decide) (fun c9 => absurd c9 (by decide)) (fun _ => ?_)
        refine lv_aload_n hx hb dX8_fonts_77 rfl (lv_at hl 2 rfl) ?_
        refine lv_iload hx hb dX8_fonts_78 (lv_at hl 0 rfl) ?_
        have hFc := va_free (wc := [(h0, .inr (8, [.ref sh, .ref rd, .ref fr, .ref wr, .ref pf, .ref rc, .ref se, .ref rs, .ref sw, .ref sp, .ref ss, .int ew, .long wc, .int tr, .int 0]))]) hD hS hA [0] rfl
        refine va_calli (va_runV (As := [.int 1]) (rest := []) ⟨hx, hb, hml, hown, hts⟩ (c_X8_failWith l D H.size (f := 1) (h0 := h0) (sh := sh) (rd := rd) (fr := fr) (wr := wr) (pf := pf) (rc := rc) (se := se) (rs := rs) (sw := sw) (sp := sp) (ss := ss) (ew := ew) (wc := wc) (tr := tr) (lf := 0)) (cwV 1 hts gX8_fonts_X8_failWith rfl rfl rfl (by decide +kernel) ⟨Nat.le_of_ble_eq_true rfl, Nat.le_of_ble_eq_true rfl⟩) (kPreV hP (kD0 hD) hK hN [0] [] rfl rfl (by decide) 0 8 rfl rfl) rfl rfl hl.1 rfl (lv_room (Nat.le_of_ble_eq_true rfl)) dX8_fonts_80 ⟨Nat.le_of_ble_eq_true rfl, Nat.le_of_ble_eq_true rfl⟩) hS (fun q _ h => hFc q h) hFc (fun r_6 u t H1 locs ht hvm hw hB hz1 hk1 hS => ?_)
        obtain ⟨hP, hD⟩ := va_join (wr := [(sh, .inl (cS, 4, .inr (.inr (.inr (.inr (va_up (va_up (va_up (va_up (fun _ => none) 0 (some s0)) 1 (some s1)) 2 (some s2)) 3 (some s3))))))), (s0, .inr (5, [.ref e0, .int 0, .int 0, .int 0])), (s1, .inr (5, [.ref e1, .int 0, .int 0, .int 0])), (s2, .inr (5, [.ref e2, .int 0, .int 0, .int 0])), (s3, .inr (5, [.ref e3, .int 0, .int 0, .int 0]))]) (w1 := []) hP hD [0] [1, 2, 3, 4, 5] rfl rfl (by decide) (by decide) hk1 hFc kP0 kDn
        generalize H1 = H at hP hS ⊢
        have hP : va_P D vwCl [(sh, .inl (cS, 4, .inr (.inr (.inr (.inr (va_up (va_up (va_up (va_up (fun _ => none) 0 (some s0)) 1 (some s1)) 2 (some s2)) 3 (some s3))))))), (s0, .inr (5, [.ref e0, .int 0, .int 0, .int 0])), (s1, .inr (5, [.ref e1, .int 0, .int 0, .int 0])), (s2, .inr (5, [.ref e2, .int 0, .int 0, .int 0])), (s3, .inr (5, [.ref e3, .int 0, .int 0, .int 0]))] H := hP
        have hD : va_D A [(sh, .inl (cS, 4, .inr (.inr (.inr (.inr (va_up (va_up (va_up (va_up (fun _ => none) 0 (some s0)) 1 (some s1)) 2 (some s2)) 3 (some s3))))))), (s0, .inr (5, [.ref e0, .int 0, .int 0, .int 0])), (s1, .inr (5, [.ref e1, .int 0, .int 0, .int 0])), (s2, .inr (5, [.ref e2, .int 0, .int 0, .int 0])), (s3, .inr (5, [.ref e3, .int 0, .int 0, .int 0]))] := hD
        refine kn_i ((-10) - 1) hw ?_
        refine kn_i (-11) (by decide) ?_
        exact W.iret (v := (-11)) hx hb hr (fun t ht hW => kQi_of (by first | rfl | (simp only [sp_fonts, if_pos k_2, if_pos k_4]; done) | (simp [sp_fonts, k_2, k_4]; done)) (hS.F ht)) hS.2.2 dX8_fonts_83
      · subst e9
        refine kn_v (.ref s2) rfl ?_
        refine lv_astore (lv' := [(5, .ref s2), (0, .ref h0), (1, .int 2), (2, .int n), (3, .int i), (4, .int z)]) hx hb dX8_fonts_30 hl (by decide) rfl (fun ls hl => ?_)
        refine lv_aload hx hb dX8_fonts_32 (lv_at hl 0 rfl) ?_
        refine lv_iload_n hx hb dX8_fonts_34 rfl (lv_at hl 3 rfl) ?_
        refine k_callR (va_runS (As := [.ref s2, .int n]) (rest := []) ⟨hx, hb, hml, hown, hts⟩ (c_X8_faultOfLane l D H.size (ro := s2) (la := n) (e0 := e2) (ln := 0) (sz0 := 0)) (va_cwS 2 hts gX8_fonts_X8_faultOfLane rfl rfl rfl (by decide +kernel) ⟨Nat.le_of_ble_eq_true rfl, Nat.le_of_ble_eq_true rfl⟩) (kPreS hP (kD0 hD) hK hN [4] [] rfl rfl (by decide)) rfl rfl hl.1 rfl (lv_room (Nat.le_of_ble_eq_true rfl)) dX8_fonts_35 ⟨Nat.le_of_ble_eq_true rfl, Nat.le_of_ble_eq_true rfl⟩) ?_
        refine lv_istore (lv' := [(6, .int 1), (5, .ref s2), (0, .ref h0), (1, .int 2), (2, .int n), (3, .int i), (4, .int z)]) hx hb dX8_fonts_38 hl (by decide) rfl (fun ls hl => ?_)
        refine lv_iload hx hb dX8_fonts_40 (lv_at hl 0 rfl) ?_
        refine lv_if_ne (tgt := 53) hx hb dX8_fonts_42 (by decide) (fun _ => ?_) (fun c9 => absurd c9 (by decide))
        refine lv_iload hx hb dX8_fonts_53 (lv_at hl 0 rfl) ?_
        refine lv_if_ne (tgt := 72) hx hb dX8_fonts_55 (by decide) (fun _ => ?_) (fun c9 => absurd c9 (by decide))
        refine lv_iload hx hb dX8_fonts_72 (lv_at hl 0 rfl) ?_
        refine lv_if_eq (tgt := 84) hx hb dX8_fonts_74 (by decide) (fun c9 => absurd c9 (by decide)) (fun _ => ?_)
        refine lv_aload_n hx hb dX8_fonts_77 rfl (lv_at hl 2 rfl) ?_
        refine lv_iload hx hb dX8_fonts_78 (lv_at hl 0 rfl) ?_
        have hFc := va_free (wc := [(h0, .inr (8, [.ref sh, .ref rd, .ref fr, .ref wr, .ref pf, .ref rc, .ref se, .ref rs, .ref sw, .ref sp, .ref ss, .int ew, .long wc, .int tr, .int 0]))]) hD hS hA [0] rfl
        refine va_calli (va_runV (As := [.int 1]) (rest := []) ⟨hx, hb, hml, hown, hts⟩ (c_X8_failWith l D H.size (f := 1) (h0 := h0) (sh := sh) (rd := rd) (fr := fr) (wr := wr) (pf := pf) (rc := rc) (se := se) (rs := rs) (sw := sw) (sp := sp) (ss := ss) (ew := ew) (wc := wc) (tr := tr) (lf := 0)) (cwV 1 hts gX8_fonts_X8_failWith rfl rfl rfl (by decide +kernel) ⟨Nat.le_of_ble_eq_true rfl, Nat.le_of_ble_eq_true rfl⟩) (kPreV hP (kD0 hD) hK hN [0] [] rfl rfl (by decide) 0 8 rfl rfl) rfl rfl hl.1 rfl (lv_room (Nat.le_of_ble_eq_true rfl)) dX8_fonts_80 ⟨Nat.le_of_ble_eq_true rfl, Nat.le_of_ble_eq_true rfl⟩) hS (fun q _ h => hFc q h) hFc (fun r_7 u t H1 locs ht hvm hw hB hz1 hk1 hS => ?_)
        obtain ⟨hP, hD⟩ := va_join (wr := [(sh, .inl (cS, 4, .inr (.inr (.inr (.inr (va_up (va_up (va_up (va_up (fun _ => none) 0 (some s0)) 1 (some s1)) 2 (some s2)) 3 (some s3))))))), (s0, .inr (5, [.ref e0, .int 0, .int 0, .int 0])), (s1, .inr (5, [.ref e1, .int 0, .int 0, .int 0])), (s2, .inr (5, [.ref e2, .int 0, .int 0, .int 0])), (s3, .inr (5, [.ref e3, .int 0, .int 0, .int 0]))]) (w1 := []) hP hD [0] [1, 2, 3, 4, 5] rfl rfl (by decide) (by decide) hk1 hFc kP0 kDn
        generalize H1 = H at hP hS ⊢
        have hP : va_P D vwCl [(sh, .inl (cS, 4, .inr (.inr (.inr (.inr (va_up (va_up (va_up (va_up (fun _ => none) 0 (some s0)) 1 (some s1)) 2 (some s2)) 3 (some s3))))))), (s0, .inr (5, [.ref e0, .int 0, .int 0, .int 0])), (s1, .inr (5, [.ref e1, .int 0, .int 0, .int 0])), (s2, .inr (5, [.ref e2, .int 0, .int 0, .int 0])), (s3, .inr (5, [.ref e3, .int 0, .int 0, .int 0]))] H := hP
        have hD : va_D A [(sh, .inl (cS, 4, .inr (.inr (.inr (.inr (va_up (va_up (va_up (va_up (fun _ => none) 0 (some s0)) 1 (some s1)) 2 (some s2)) 3 (some s3))))))), (s0, .inr (5, [.ref e0, .int 0, .int 0, .int 0])), (s1, .inr (5, [.ref e1, .int 0, .int 0, .int 0])), (s2, .inr (5, [.ref e2, .int 0, .int 0, .int 0])), (s3, .inr (5, [.ref e3, .int 0, .int 0, .int 0]))] := hD
        refine kn_i ((-10) - 1) hw ?_
        refine kn_i (-11) (by decide) ?_
        exact W.iret (v := (-11)) hx hb hr (fun t ht hW => kQi_of (by first | rfl | (simp only [sp_fonts, if_pos k_2, if_pos k_4]; done) | (simp [sp_fonts, k_2, k_4]; done)) (hS.F ht)) hS.2.2 dX8_fonts_83
      · subst e9
        refine kn_v (.ref s3) rfl ?_
        refine lv_astore (lv' := [(5, .ref s3), (0, .ref h0), (1, .int 3), (2, .int n), (3, .int i), (4, .int z)]) hx hb dX8_fonts_30 hl (by decide) rfl (fun ls hl => ?_)
        refine lv_aload hx hb dX8_fonts_32 (lv_at hl 0 rfl) ?_
        refine lv_iload_n hx hb dX8_fonts_34 rfl (lv_at hl 3 rfl) ?_
        refine k_callR (va_runS (As := [.ref s3, .int n]) (rest := []) ⟨hx, hb, hml, hown, hts⟩ (c_X8_faultOfLane l D H.size (ro := s3) (la := n) (e0 := e3) (ln := 0) (sz0 := 0)) (va_cwS 2 hts gX8_fonts_X8_faultOfLane rfl rfl rfl (by decide +kernel) ⟨Nat.le_of_ble_eq_true rfl, Nat.le_of_ble_eq_true rfl⟩) (kPreS hP (kD0 hD) hK hN [5] [] rfl rfl (by decide)) rfl rfl hl.1 rfl (lv_room (Nat.le_of_ble_eq_true rfl)) dX8_fonts_35 ⟨Nat.le_of_ble_eq_true rfl, Nat.le_of_ble_eq_true rfl⟩) ?_
        refine lv_istore (lv' := [(6, .int 1), (5, .ref s3), (0, .ref h0), (1, .int 3), (2, .int n), (3, .int i), (4, .int z)]) hx hb dX8_fonts_38 hl (by decide) rfl (fun ls hl => ?_)
        refine lv_iload hx hb dX8_fonts_40 (lv_at hl 0 rfl) ?_
        refine lv_if_ne (tgt := 53) hx hb dX8_fonts_42 (by decide) (fun _ => ?_) (fun c9 => absurd c9 (by decide))
        refine lv_iload hx hb dX8_fonts_53 (lv_at hl 0 rfl) ?_
        refine lv_if_ne (tgt := 72) hx hb dX8_fonts_55 (by decide) (fun _ => ?_) (fun c9 => absurd c9 (by decide))
        refine lv_iload hx hb dX8_fonts_72 (lv_at hl 0 rfl) ?_
        refine lv_if_eq (tgt := 84) hx hb dX8_fonts_74 (by decide) (fun c9 => absurd c9 (by decide)) (fun _ => ?_)
        refine lv_aload_n hx hb dX8_fonts_77 rfl (lv_at hl 2 rfl) ?_
        refine lv_iload hx hb dX8_fonts_78 (lv_at hl 0 rfl) ?_
        have hFc := va_free (wc := [(h0, .inr (8, [.ref sh, .ref rd, .ref fr, .ref wr, .ref pf, .ref rc, .ref se, .ref rs, .ref sw, .ref sp, .ref ss, .int ew, .long wc, .int tr, .int 0]))]) hD hS hA [0] rfl
        refine va_calli (va_runV (As := [.int 1]) (rest := []) ⟨hx, hb, hml, hown, hts⟩ (c_X8_failWith l D H.size (f := 1) (h0 := h0) (sh := sh) (rd := rd) (fr := fr) (wr := wr) (pf := pf) (rc := rc) (se := se) (rs := rs) (sw := sw) (sp := sp) (ss := ss) (ew := ew) (wc := wc) (tr := tr) (lf := 0)) (cwV 1 hts gX8_fonts_X8_failWith rfl rfl rfl (by decide +kernel) ⟨Nat.le_of_ble_eq_true rfl, Nat.le_of_ble_eq_true rfl⟩) (kPreV hP (kD0 hD) hK hN [0] [] rfl rfl (by decide) 0 8 rfl rfl) rfl rfl hl.1 rfl (lv_room (Nat.le_of_ble_eq_true rfl)) dX8_fonts_80 ⟨Nat.le_of_ble_eq_true rfl, Nat.le_of_ble_eq_true rfl⟩) hS (fun q _ h => hFc q h) hFc (fun r_8 u t H1 locs ht hvm hw hB hz1 hk1 hS => ?_)
        obtain ⟨hP, hD⟩ := va_join (wr := [(sh, .inl (cS, 4, .inr (.inr (.inr (.inr (va_up (va_up (va_up (va_up (fun _ => none) 0 (some s0)) 1 (some s1)) 2 (some s2)) 3 (some s3))))))), (s0, .inr (5, [.ref e0, .int 0, .int 0, .int 0])), (s1, .inr (5, [.ref e1, .int 0, .int 0, .int 0])), (s2, .inr (5, [.ref e2, .int 0, .int 0, .int 0])), (s3, .inr (5, [.ref e3, .int 0, .int 0, .int 0]))]) (w1 := []) hP hD [0] [1, 2, 3, 4, 5] rfl rfl (by decide) (by decide) hk1 hFc kP0 kDn
        generalize H1 = H at hP hS ⊢
        have hP : va_P D vwCl [(sh, .inl (cS, 4, .inr (.inr (.inr (.inr (va_up (va_up (va_up (va_up (fun _ => none) 0 (some s0)) 1 (some s1)) 2 (some s2)) 3 (some s3))))))), (s0, .inr (5, [.ref e0, .int 0, .int 0, .int 0])), (s1, .inr (5, [.ref e1, .int 0, .int 0, .int 0])), (s2, .inr (5, [.ref e2, .int 0, .int 0, .int 0])), (s3, .inr (5, [.ref e3, .int 0, .int 0, .int 0]))] H := hP
        have hD : va_D A [(sh, .inl (cS, 4, .inr (.inr (.inr (.inr (va_up (va_up (va_up (va_up (fun _ => none) 0 (some s0)) 1 (some s1)) 2 (some s2)) 3 (some s3))))))), (s0, .inr (5, [.ref e0, .int 0, .int 0, .int 0])), (s1, .inr (5, [.ref e1, .int 0, .int 0, .int 0])), (s2, .inr (5, [.ref e2, .int 0, .int 0, .int 0])), (s3, .inr (5, [.ref e3, .int 0, .int 0, .int 0]))] := hD
        refine kn_i ((-10) - 1) hw ?_
        refine kn_i (-11) (by decide) ?_
        exact W.iret (v := (-11)) hx hb hr (fun t ht hW => kQi_of (by first | rfl | (simp only [sp_fonts, if_pos k_2, if_pos k_4]; done) | (simp [sp_fonts, k_2, k_4]; done)) (hS.F ht)) hS.2.2 dX8_fonts_83
    · have k_9 : ¬ ((0 ≤ n ∧ n ≤ 2)) := b01f c_3
      refine lv_bipush (v := (-2)) hx hb dX8_fonts_21 (by decide) ?_
      exact W.iret (v := (-2)) hx hb hr (fun t ht hW => kQi_of (by first | rfl | (simp only [sp_fonts, if_pos k_2, if_neg k_9]; done) | (simp [sp_fonts, k_2, k_9]; done)) (hS.F ht)) hS.2.2 dX8_fonts_23
  · have k_10 : ¬ ((0 ≤ k ∧ k ≤ 3)) := b01f c_1
    refine lv_iconst (v := (-1)) hx hb dX8_fonts_12 (by decide) ?_
    exact W.iret (v := (-1)) hx hb hr (fun t ht hW => kQi_of (by first | rfl | (simp only [sp_fonts, if_neg k_10]; done) | (simp [sp_fonts, k_10]; done)) (hS.F ht)) hS.2.2 dX8_fonts_13
theorem dX8_write_0 : decode cX8_write 0 = .ok (.aload_n 0, 1) := by decide +kernel
theorem dX8_write_1 : decode cX8_write 1 = .ok (.iconst 0, 1) := by decide +kernel
theorem dX8_write_2 : decode cX8_write 2 = .ok (.putfield 76, 3) := by decide +kernel
theorem dX8_write_5 : decode cX8_write 5 = .ok (.iload_n 1, 1) := by decide +kernel
theorem dX8_write_6 : decode cX8_write 6 = .ok (.invokestatic 80, 3) := by decide +kernel
theorem dX8_write_9 : decode cX8_write 9 = .ok (.ifCond .ne 5, 3) := by decide +kernel
theorem dX8_write_12 : decode cX8_write 12 = .ok (.iconst (-1), 1) := by decide +kernel
theorem dX8_write_13 : decode cX8_write 13 = .ok (.ireturn, 1) := by decide +kernel
theorem dX8_write_14 : decode cX8_write 14 = .ok (.iload_n 2, 1) := by decide +kernel
theorem dX8_write_15 : decode cX8_write 15 = .ok (.invokestatic 84, 3) := by decide +kernel
theorem dX8_write_18 : decode cX8_write 18 = .ok (.ifCond .eq 14, 3) := by decide +kernel
theorem dX8_write_21 : decode cX8_write 21 = .ok (.iload 4, 2) := by decide +kernel
theorem dX8_write_23 : decode cX8_write 23 = .ok (.iconst 0, 1) := by decide +kernel
theorem dX8_write_24 : decode cX8_write 24 = .ok (.bipush 24, 2) := by decide +kernel
theorem dX8_write_26 : decode cX8_write 26 = .ok (.invokestatic 128, 3) := by decide +kernel
theorem dX8_write_29 : decode cX8_write 29 = .ok (.ifCond .ne 6, 3) := by decide +kernel
theorem dX8_write_32 : decode cX8_write 32 = .ok (.bipush (-2), 2) := by decide +kernel
theorem dX8_write_34 : decode cX8_write 34 = .ok (.ireturn, 1) := by decide +kernel
theorem dX8_write_35 : decode cX8_write 35 = .ok (.aload_n 0, 1) := by decide +kernel
theorem dX8_write_36 : decode cX8_write 36 = .ok (.getfield 13, 3) := by decide +kernel
theorem dX8_write_39 : decode cX8_write 39 = .ok (.iload_n 1, 1) := by decide +kernel
theorem dX8_write_40 : decode cX8_write 40 = .ok (.aaload, 1) := by decide +kernel
theorem dX8_write_41 : decode cX8_write 41 = .ok (.astore 5, 2) := by decide +kernel
theorem dX8_write_43 : decode cX8_write 43 = .ok (.aload 5, 2) := by decide +kernel
theorem dX8_write_45 : decode cX8_write 45 = .ok (.iload_n 2, 1) := by decide +kernel
theorem dX8_write_46 : decode cX8_write 46 = .ok (.iload_n 3, 1) := by decide +kernel
theorem dX8_write_47 : decode cX8_write 47 = .ok (.iload 4, 2) := by decide +kernel
theorem dX8_write_49 : decode cX8_write 49 = .ok (.invokestatic 149, 3) := by decide +kernel
theorem dX8_write_52 : decode cX8_write 52 = .ok (.istore 6, 2) := by decide +kernel
theorem dX8_write_54 : decode cX8_write 54 = .ok (.iload 6, 2) := by decide +kernel
theorem dX8_write_56 : decode cX8_write 56 = .ok (.ifCond .eq 10, 3) := by decide +kernel
theorem dX8_write_59 : decode cX8_write 59 = .ok (.aload_n 0, 1) := by decide +kernel
theorem dX8_write_60 : decode cX8_write 60 = .ok (.iload 6, 2) := by decide +kernel
theorem dX8_write_62 : decode cX8_write 62 = .ok (.invokevirtual 95, 3) := by decide +kernel
theorem dX8_write_65 : decode cX8_write 65 = .ok (.ireturn, 1) := by decide +kernel
set_option maxRecDepth 20000 in
theorem ggX8_write_X8_failWith : GoodIn wsX8_write wsX8_failWith := goodIn_r _ [35, 1, 122, 123, 124, 125, 126, 127, 128, 129, 130, 131, 132, 133, 134, 135, 136] (by decide +kernel) (by decide +kernel)
set_option maxRecDepth 20000 in
theorem gX8_write_X8_failWith : GoodIn wsX8_write (wsV RX8 95 RX8 yX8_failWith wsX8_failWith) := goodIn_app (goodIn_of _ (by decide +kernel)) ggX8_write_X8_failWith
set_option maxRecDepth 20000 in
theorem ggX8_write_X8_faultOfCells : GoodIn wsX8_write wsX8_faultOfCells := goodIn_r _ [19, 20, 21, 9, 22, 23, 24, 25, 26, 27, 28, 29, 30, 31, 12, 13, 143, 144, 145, 146] (by decide +kernel) (by decide +kernel)
set_option maxRecDepth 20000 in
theorem gX8_write_X8_faultOfCells : GoodIn wsX8_write (va_wsS RX8 149 yX8_faultOfCells wsX8_faultOfCells) := goodIn_app (goodIn_of _ (by decide +kernel)) ggX8_write_X8_faultOfCells
set_option maxRecDepth 20000 in
theorem ggX8_write_X8_isLane : GoodIn wsX8_write wsX8_isLane := goodIn_r _ [16, 11, 12, 9, 13] (by decide +kernel) (by decide +kernel)
set_option maxRecDepth 20000 in
theorem gX8_write_X8_isLane : GoodIn wsX8_write (va_wsS RX8 84 yX8_isLane wsX8_isLane) := goodIn_app (goodIn_of _ (by decide +kernel)) ggX8_write_X8_isLane
set_option maxRecDepth 20000 in
theorem ggX8_write_X8_isSheet : GoodIn wsX8_write wsX8_isSheet := goodIn_r _ [10, 11, 12, 9, 13] (by decide +kernel) (by decide +kernel)
set_option maxRecDepth 20000 in
theorem gX8_write_X8_isSheet : GoodIn wsX8_write (va_wsS RX8 80 yX8_isSheet wsX8_isSheet) := goodIn_app (goodIn_of _ (by decide +kernel)) ggX8_write_X8_isSheet
set_option maxRecDepth 20000 in
theorem ggX8_write_X8_isWithin : GoodIn wsX8_write wsX8_isWithin := goodIn_r _ [13] (by decide +kernel) (by decide +kernel)
set_option maxRecDepth 20000 in
theorem gX8_write_X8_isWithin : GoodIn wsX8_write (va_wsS RX8 128 yX8_isWithin wsX8_isWithin) := goodIn_app (goodIn_of _ (by decide +kernel)) ggX8_write_X8_isWithin
set_option maxHeartbeats 4000000 in
set_option maxRecDepth 100000 in
theorem c_X8_write (l : Launch) (D : va_G) (sz : Nat) (k : Int32) (n : Int32) (i : Int32) (z : Int32) (h0 : Nat) (sh : Nat) (rd : Nat) (fr : Nat) (wr : Nat) (pf : Nat) (rc : Nat) (se : Nat) (rs : Nat) (sw : Nat) (sp : Nat) (ss : Nat) (ew : Int32) (wc : Int64) (tr : Int32) (lf : Int32) (cS : ClassId) (s0 : Nat) (s1 : Nat) (s2 : Nat) (s3 : Nat) (e0 : Nat) (e1 : Nat) (e2 : Nat) (e3 : Nat) : Met l yX8_write wsX8_write ({ frames := 2, cells := 0, slots := 0, locals := 45 }) (kPre [.ref h0, .int k, .int n, .int i, .int z] D [(h0, .inr (8, [.ref sh, .ref rd, .ref fr, .ref wr, .ref pf, .ref rc, .ref se, .ref rs, .ref sw, .ref sp, .ref ss, .int ew, .long wc, .int tr, .int lf])), (sh, .inl (cS, 4, .inr (.inr (.inr (.inr (va_up (va_up (va_up (va_up (fun _ => none) 0 (some s0)) 1 (some s1)) 2 (some s2)) 3 (some s3))))))), (s0, .inr (5, [.ref e0, .int 0, .int 0, .int 0])), (s1, .inr (5, [.ref e1, .int 0, .int 0, .int 0])), (s2, .inr (5, [.ref e2, .int 0, .int 0, .int 0])), (s3, .inr (5, [.ref e3, .int 0, .int 0, .int 0]))] [(cS, .object RX5)] sz) (kQi (sp_write k n z) (va_A [(h0, .inr (8, [.ref sh, .ref rd, .ref fr, .ref wr, .ref pf, .ref rc, .ref se, .ref rs, .ref sw, .ref sp, .ref ss, .int ew, .long wc, .int tr, .int lf])), (sh, .inl (cS, 4, .inr (.inr (.inr (.inr (va_up (va_up (va_up (va_up (fun _ => none) 0 (some s0)) 1 (some s1)) 2 (some s2)) 3 (some s3))))))), (s0, .inr (5, [.ref e0, .int 0, .int 0, .int 0])), (s1, .inr (5, [.ref e1, .int 0, .int 0, .int 0])), (s2, .inr (5, [.ref e2, .int 0, .int 0, .int 0])), (s3, .inr (5, [.ref e3, .int 0, .int 0, .int 0]))] sz)) 0 0 (va_A [(h0, .inr (8, [.ref sh, .ref rd, .ref fr, .ref wr, .ref pf, .ref rc, .ref se, .ref rs, .ref sw, .ref sp, .ref ss, .int ew, .long wc, .int tr, .int lf])), (sh, .inl (cS, 4, .inr (.inr (.inr (.inr (va_up (va_up (va_up (va_up (fun _ => none) 0 (some s0)) 1 (some s1)) 2 (some s2)) 3 (some s3))))))), (s0, .inr (5, [.ref e0, .int 0, .int 0, .int 0])), (s1, .inr (5, [.ref e1, .int 0, .int 0, .int 0])), (s2, .inr (5, [.ref e2, .int 0, .int 0, .int 0])), (s3, .inr (5, [.ref e3, .int 0, .int 0, .int 0]))] sz) := by
  refine Met.ofW (cc := cX8_write) (maxL := 8) (ret := (some .int)) (by decide) rfl ?_
  intro p e s m args below meth c s₁ B hml hv
  obtain ⟨rfl, hsz, hP, hK, hD0, hN⟩ := hv
  have hx := B.exec
  have hb := B.bytes
  have hr := B.returns
  have hts := atoms_spec (ws := wsX8_write) B.pre
  have hown : s.vm.findClass RX8 = some m.cls := findClass_of_methodNamed B.named
  have hlocks := B.notSynchronized
  subst hsz
  have hD := hD0.self (sz := s.heap.size)
  generalize hAe : va_A [(h0, .inr (8, [.ref sh, .ref rd, .ref fr, .ref wr, .ref pf, .ref rc, .ref se, .ref rs, .ref sw, .ref sp, .ref ss, .int ew, .long wc, .int tr, .int lf])), (sh, .inl (cS, 4, .inr (.inr (.inr (.inr (va_up (va_up (va_up (va_up (fun _ => none) 0 (some s0)) 1 (some s1)) 2 (some s2)) 3 (some s3))))))), (s0, .inr (5, [.ref e0, .int 0, .int 0, .int 0])), (s1, .inr (5, [.ref e1, .int 0, .int 0, .int 0])), (s2, .inr (5, [.ref e2, .int 0, .int 0, .int 0])), (s3, .inr (5, [.ref e3, .int 0, .int 0, .int 0]))] s.heap.size = A at hD ⊢
  have hA : ∀ q : Nat, s.heap.size ≤ q → A q := fun q h => by rw [← hAe]; exact Or.inr h
  have hS : va_S A s.heap s.heap [] := va_S.rf
  have hP : va_P D vwCl [(h0, .inr (8, [.ref sh, .ref rd, .ref fr, .ref wr, .ref pf, .ref rc, .ref se, .ref rs, .ref sw, .ref sp, .ref ss, .int ew, .long wc, .int tr, .int lf])), (sh, .inl (cS, 4, .inr (.inr (.inr (.inr (va_up (va_up (va_up (va_up (fun _ => none) 0 (some s0)) 1 (some s1)) 2 (some s2)) 3 (some s3))))))), (s0, .inr (5, [.ref e0, .int 0, .int 0, .int 0])), (s1, .inr (5, [.ref e1, .int 0, .int 0, .int 0])), (s2, .inr (5, [.ref e2, .int 0, .int 0, .int 0])), (s3, .inr (5, [.ref e3, .int 0, .int 0, .int 0]))] s.heap := hP
  have hl := lv_entry ([.ref h0, .int k, .int n, .int i, .int z]) (n := 8) (Nat.le_of_ble_eq_true rfl)
  rw [lg_entry_eq]
  generalize (lg_sl ([.ref h0, .int k, .int n, .int i, .int z]) ++ List.replicate (8 - (lg_sl ([.ref h0, .int k, .int n, .int i, .int z])).length) Slot.unset).toArray = ls at hl ⊢
  have hl : lv_has ls 8 [(0, .ref h0), (1, .int k), (2, .int n), (3, .int i), (4, .int z)] := hl
  refine lv_aload_n hx hb dX8_write_0 rfl (lv_at hl 0 rfl) ?_
  refine lv_iconst (v := 0) hx hb dX8_write_1 (by decide) ?_
  refine va_put (D := D) (ci := 8) (v := .int 0) (ty := .int) (C := RX8) (T := TX8) (N := 15) hx hb hts (fun _ h9 => List.mem_cons_of_mem _ (List.mem_append_left _ (List.mem_append_left _ (List.mem_append_left _ (List.mem_append_left _ (List.mem_append_left _ (List.mem_append_right _ h9))))))) tyX8 tyX8_ok nmX8 hown hK hP hD hS 0 rfl rfl 14 (by decide) (hts (.fieldLink RX8 76 "FontRuns" "latestFault" "I") (by decide +kernel)) (fun _ h9 => h9) rfl (by decide +kernel) rfl rfl (Nat.le_of_ble_eq_true rfl) dX8_write_2 (fun H locs hP hD hS => ?_)
  have hP : va_P D vwCl [(h0, .inr (8, [.ref sh, .ref rd, .ref fr, .ref wr, .ref pf, .ref rc, .ref se, .ref rs, .ref sw, .ref sp, .ref ss, .int ew, .long wc, .int tr, .int 0])), (sh, .inl (cS, 4, .inr (.inr (.inr (.inr (va_up (va_up (va_up (va_up (fun _ => none) 0 (some s0)) 1 (some s1)) 2 (some s2)) 3 (some s3))))))), (s0, .inr (5, [.ref e0, .int 0, .int 0, .int 0])), (s1, .inr (5, [.ref e1, .int 0, .int 0, .int 0])), (s2, .inr (5, [.ref e2, .int 0, .int 0, .int 0])), (s3, .inr (5, [.ref e3, .int 0, .int 0, .int 0]))] H := hP
  have hD : va_D A [(h0, .inr (8, [.ref sh, .ref rd, .ref fr, .ref wr, .ref pf, .ref rc, .ref se, .ref rs, .ref sw, .ref sp, .ref ss, .int ew, .long wc, .int tr, .int 0])), (sh, .inl (cS, 4, .inr (.inr (.inr (.inr (va_up (va_up (va_up (va_up (fun _ => none) 0 (some s0)) 1 (some s1)) 2 (some s2)) 3 (some s3))))))), (s0, .inr (5, [.ref e0, .int 0, .int 0, .int 0])), (s1, .inr (5, [.ref e1, .int 0, .int 0, .int 0])), (s2, .inr (5, [.ref e2, .int 0, .int 0, .int 0])), (s3, .inr (5, [.ref e3, .int 0, .int 0, .int 0]))] := hD
  refine lv_iload_n hx hb dX8_write_5 rfl (lv_at hl 1 rfl) ?_
  refine k_callR (va_runS (As := [.int k]) (rest := []) ⟨hx, hb, hml, hown, hts⟩ (c_X8_isSheet l D H.size (k := k)) (va_cwS 1 hts gX8_write_X8_isSheet rfl rfl rfl (by decide +kernel) ⟨Nat.le_of_ble_eq_true rfl, Nat.le_of_ble_eq_true rfl⟩) (kPreS hP (kD0 hD) hK hN [] [] rfl rfl (by decide)) rfl rfl hl.1 rfl (lv_room (Nat.le_of_ble_eq_true rfl)) dX8_write_6 ⟨Nat.le_of_ble_eq_true rfl, Nat.le_of_ble_eq_true rfl⟩) ?_
  refine lv_if_ne (tgt := 14) hx hb dX8_write_9 (by decide) (fun c_1 => ?_) (fun c_1 => ?_)
  · have k_2 : (0 ≤ k ∧ k ≤ 3) := b01t c_1
    refine lv_iload_n hx hb dX8_write_14 rfl (lv_at hl 2 rfl) ?_
    refine k_callR (va_runS (As := [.int n]) (rest := []) ⟨hx, hb, hml, hown, hts⟩ (c_X8_isLane l D H.size (k := n)) (va_cwS 1 hts gX8_write_X8_isLane rfl rfl rfl (by decide +kernel) ⟨Nat.le_of_ble_eq_true rfl, Nat.le_of_ble_eq_true rfl⟩) (kPreS hP (kD0 hD) hK hN [] [] rfl rfl (by decide)) rfl rfl hl.1 rfl (lv_room (Nat.le_of_ble_eq_true rfl)) dX8_write_15 ⟨Nat.le_of_ble_eq_true rfl, Nat.le_of_ble_eq_true rfl⟩) ?_
    refine lv_if_eq (tgt := 32) hx hb dX8_write_18 (by decide) (fun c_3 => ?_) (fun c_3 => ?_)
    · have k_4 : ¬ ((0 ≤ n ∧ n ≤ 2)) := b01f c_3
      refine lv_bipush (v := (-2)) hx hb dX8_write_32 (by decide) ?_
      exact W.iret (v := (-2)) hx hb hr (fun t ht hW => kQi_of (by first | rfl | (simp only [sp_write, if_pos k_2, if_neg k_4]; done) | (simp [sp_write, k_2, k_4]; done)) (hS.F ht)) hS.2.2 dX8_write_34
    · have k_5 : (0 ≤ n ∧ n ≤ 2) := b01t c_3
      refine lv_iload hx hb dX8_write_21 (lv_at hl 4 rfl) ?_
      refine lv_iconst (v := 0) hx hb dX8_write_23 (by decide) ?_
      refine lv_bipush (v := 24) hx hb dX8_write_24 (by decide) ?_
      refine k_callR (va_runS (As := [.int z, .int 0, .int 24]) (rest := []) ⟨hx, hb, hml, hown, hts⟩ (c_X8_isWithin l D H.size (v := z) (a := 0) (b := 24)) (va_cwS 3 hts gX8_write_X8_isWithin rfl rfl rfl (by decide +kernel) ⟨Nat.le_of_ble_eq_true rfl, Nat.le_of_ble_eq_true rfl⟩) (kPreS hP (kD0 hD) hK hN [] [] rfl rfl (by decide)) rfl rfl hl.1 rfl (lv_room (Nat.le_of_ble_eq_true rfl)) dX8_write_26 ⟨Nat.le_of_ble_eq_true rfl, Nat.le_of_ble_eq_true rfl⟩) ?_
      refine lv_if_ne (tgt := 35) hx hb dX8_write_29 (by decide) (fun c_6 => ?_) (fun c_6 => ?_)
      · have k_7 : (0 ≤ z ∧ z ≤ 24) := b01t c_6
        refine lv_aload_n hx hb dX8_write_35 rfl (lv_at hl 0 rfl) ?_
        refine va_get (D := D) (ci := 8) (v := .ref sh) (C := RX8) (T := TX8) (N := 15) hx hb hts (fun _ h9 => List.mem_cons_of_mem _ (List.mem_append_left _ (List.mem_append_left _ (List.mem_append_left _ (List.mem_append_left _ (List.mem_append_left _ (List.mem_append_right _ h9))))))) hown hK hP 0 rfl rfl 0 (by decide) (hts (.fieldLink RX8 13 "FontRuns" "sheets" "[LFontRuns$Sheet;") (by decide +kernel)) (fun _ h9 => h9) rfl dX8_write_36 ?_
        refine lv_iload_n hx hb dX8_write_39 rfl (lv_at hl 1 rfl) ?_
        refine va_aldq hx hb hK hP 1 0 rfl rfl (k4in k_2) dX8_write_40 ?_
        rcases (k4 k_2) with e9 | e9 | e9 | e9
        · subst e9
          refine kn_v (.ref s0) rfl ?_
          refine lv_astore (lv' := [(5, .ref s0), (0, .ref h0), (1, .int 0), (2, .int n), (3, .int i), (4, .int z)]) hx hb dX8_write_41 hl (by decide) rfl (fun ls hl => ?_)
          refine lv_aload hx hb dX8_write_43 (lv_at hl 0 rfl) ?_
          refine lv_iload_n hx hb dX8_write_45 rfl (lv_at hl 3 rfl) ?_
          refine lv_iload_n hx hb dX8_write_46 rfl (lv_at hl 4 rfl) ?_
          refine lv_iload hx hb dX8_write_47 (lv_at hl 5 rfl) ?_
          refine k_callR (va_runS (As := [.ref s0, .int n, .int i, .int z]) (rest := []) ⟨hx, hb, hml, hown, hts⟩ (c_X8_faultOfCells l D H.size (ro := s0) (la := n) (i := i) (n := z) (e0 := e0) (ln := 0) (sz0 := 0)) (va_cwS 4 hts gX8_write_X8_faultOfCells rfl rfl rfl (by decide +kernel) ⟨Nat.le_of_ble_eq_true rfl, Nat.le_of_ble_eq_true rfl⟩) (kPreS hP (kD0 hD) hK hN [2] [] rfl rfl (by decide)) rfl rfl hl.1 rfl (lv_room (Nat.le_of_ble_eq_true rfl)) dX8_write_49 ⟨Nat.le_of_ble_eq_true rfl, Nat.le_of_ble_eq_true rfl⟩) ?_
          refine lv_istore (lv' := [(6, .int 1), (5, .ref s0), (0, .ref h0), (1, .int 0), (2, .int n), (3, .int i), (4, .int z)]) hx hb dX8_write_52 hl (by decide) rfl (fun ls hl => ?_)
          refine lv_iload hx hb dX8_write_54 (lv_at hl 0 rfl) ?_
          refine lv_if_eq (tgt := 66) hx hb dX8_write_56 (by decide) (fun c9 => absurd c9 (by decide)) (fun _ => ?_)
          refine lv_aload_n hx hb dX8_write_59 rfl (lv_at hl 2 rfl) ?_
          refine lv_iload hx hb dX8_write_60 (lv_at hl 0 rfl) ?_
          have hFc := va_free (wc := [(h0, .inr (8, [.ref sh, .ref rd, .ref fr, .ref wr, .ref pf, .ref rc, .ref se, .ref rs, .ref sw, .ref sp, .ref ss, .int ew, .long wc, .int tr, .int 0]))]) hD hS hA [0] rfl
          refine va_calli (va_runV (As := [.int 1]) (rest := []) ⟨hx, hb, hml, hown, hts⟩ (c_X8_failWith l D H.size (f := 1) (h0 := h0) (sh := sh) (rd := rd) (fr := fr) (wr := wr) (pf := pf) (rc := rc) (se := se) (rs := rs) (sw := sw) (sp := sp) (ss := ss) (ew := ew) (wc := wc) (tr := tr) (lf := 0)) (cwV 1 hts gX8_write_X8_failWith rfl rfl rfl (by decide +kernel) ⟨Nat.le_of_ble_eq_true rfl, Nat.le_of_ble_eq_true rfl⟩) (kPreV hP (kD0 hD) hK hN [0] [] rfl rfl (by decide) 0 8 rfl rfl) rfl rfl hl.1 rfl (lv_room (Nat.le_of_ble_eq_true rfl)) dX8_write_62 ⟨Nat.le_of_ble_eq_true rfl, Nat.le_of_ble_eq_true rfl⟩) hS (fun q _ h => hFc q h) hFc (fun r_8 u t H1 locs ht hvm hw hB hz1 hk1 hS => ?_)
          obtain ⟨hP, hD⟩ := va_join (wr := [(sh, .inl (cS, 4, .inr (.inr (.inr (.inr (va_up (va_up (va_up (va_up (fun _ => none) 0 (some s0)) 1 (some s1)) 2 (some s2)) 3 (some s3))))))), (s0, .inr (5, [.ref e0, .int 0, .int 0, .int 0])), (s1, .inr (5, [.ref e1, .int 0, .int 0, .int 0])), (s2, .inr (5, [.ref e2, .int 0, .int 0, .int 0])), (s3, .inr (5, [.ref e3, .int 0, .int 0, .int 0]))]) (w1 := []) hP hD [0] [1, 2, 3, 4, 5] rfl rfl (by decide) (by decide) hk1 hFc kP0 kDn
          generalize H1 = H at hP hS ⊢
          have hP : va_P D vwCl [(sh, .inl (cS, 4, .inr (.inr (.inr (.inr (va_up (va_up (va_up (va_up (fun _ => none) 0 (some s0)) 1 (some s1)) 2 (some s2)) 3 (some s3))))))), (s0, .inr (5, [.ref e0, .int 0, .int 0, .int 0])), (s1, .inr (5, [.ref e1, .int 0, .int 0, .int 0])), (s2, .inr (5, [.ref e2, .int 0, .int 0, .int 0])), (s3, .inr (5, [.ref e3, .int 0, .int 0, .int 0]))] H := hP
          have hD : va_D A [(sh, .inl (cS, 4, .inr (.inr (.inr (.inr (va_up (va_up (va_up (va_up (fun _ => none) 0 (some s0)) 1 (some s1)) 2 (some s2)) 3 (some s3))))))), (s0, .inr (5, [.ref e0, .int 0, .int 0, .int 0])), (s1, .inr (5, [.ref e1, .int 0, .int 0, .int 0])), (s2, .inr (5, [.ref e2, .int 0, .int 0, .int 0])), (s3, .inr (5, [.ref e3, .int 0, .int 0, .int 0]))] := hD
          refine kn_i ((-10) - 1) hw ?_
          refine kn_i (-11) (by decide) ?_
          exact W.iret (v := (-11)) hx hb hr (fun t ht hW => kQi_of (by first | rfl | (simp only [sp_write, if_pos k_2, if_pos k_5, if_pos k_7]; done) | (simp [sp_write, k_2, k_5, k_7]; done)) (hS.F ht)) hS.2.2 dX8_write_65
        · subst e9
          refine kn_v (.ref s1) rfl ?_
          refine lv_astore (lv' := [(5, .ref s1), (0, .ref h0), (1, .int 1), (2, .int n), (3, .int i), (4, .int z)]) hx hb dX8_write_41 hl (by decide) rfl (fun ls hl => ?_)
          refine lv_aload hx hb dX8_write_43 (lv_at hl 0 rfl) ?_
          refine lv_iload_n hx hb dX8_write_45 rfl (lv_at hl 3 rfl) ?_
          refine lv_iload_n hx hb dX8_write_46 rfl (lv_at hl 4 rfl) ?_
          refine lv_iload hx hb dX8_write_47 (lv_at hl 5 rfl) ?_
          refine k_callR (va_runS (As := [.ref s1, .int n, .int i, .int z]) (rest := []) ⟨hx, hb, hml, hown, hts⟩ (c_X8_faultOfCells l D H.size (ro := s1) (la := n) (i := i) (n := z) (e0 := e1) (ln := 0) (sz0 := 0)) (va_cwS 4 hts gX8_write_X8_faultOfCells rfl rfl rfl (by decide +kernel) ⟨Nat.le_of_ble_eq_true rfl, Nat.le_of_ble_eq_true rfl⟩) (kPreS hP (kD0 hD) hK hN [3] [] rfl rfl (by decide)) rfl rfl hl.1 rfl (lv_room (Nat.le_of_ble_eq_true rfl)) dX8_write_49 ⟨Nat.le_of_ble_eq_true rfl, Nat.le_of_ble_eq_true rfl⟩) ?_
          refine lv_istore (lv' := [(6, .int 1), (5, .ref s1), (0, .ref h0), (1, .int 1), (2, .int n), (3, .int i), (4, .int z)]) hx hb dX8_write_52 hl (by decide) rfl (fun ls hl => ?_)
          refine lv_iload hx hb dX8_write_54 (lv_at hl 0 rfl) ?_
          refine lv_if_eq (tgt := 66) hx hb dX8_write_56 (by decide) (fun c9 => absurd c9 (by decide)) (fun _ => ?_)
          refine lv_aload_n hx hb dX8_write_59 rfl (lv_at hl 2 rfl) ?_
          refine lv_iload hx hb dX8_write_60 (lv_at hl 0 rfl) ?_
          have hFc := va_free (wc := [(h0, .inr (8, [.ref sh, .ref rd, .ref fr, .ref wr, .ref pf, .ref rc, .ref se, .ref rs, .ref sw, .ref sp, .ref ss, .int ew, .long wc, .int tr, .int 0]))]) hD hS hA [0] rfl
          refine va_calli (va_runV (As := [.int 1]) (rest := []) ⟨hx, hb, hml, hown, hts⟩ (c_X8_failWith l D H.size (f := 1) (h0 := h0) (sh := sh) (rd := rd) (fr := fr) (wr := wr) (pf := pf) (rc := rc) (se := se) (rs := rs) (sw := sw) (sp := sp) (ss := ss) (ew := ew) (wc := wc) (tr := tr) (lf := 0)) (cwV 1 hts gX8_write_X8_failWith rfl rfl rfl (by decide +kernel) ⟨Nat.le_of_ble_eq_true rfl, Nat.le_of_ble_eq_true rfl⟩) (kPreV hP (kD0 hD) hK hN [0] [] rfl rfl (by decide) 0 8 rfl rfl) rfl rfl hl.1 rfl (lv_room (Nat.le_of_ble_eq_true rfl)) dX8_write_62 ⟨Nat.le_of_ble_eq_true rfl, Nat.le_of_ble_eq_true rfl⟩) hS (fun q _ h => hFc q h) hFc (fun r_9 u t H1 locs ht hvm hw hB hz1 hk1 hS => ?_)
          obtain ⟨hP, hD⟩ := va_join (wr := [(sh, .inl (cS, 4, .inr (.inr (.inr (.inr (va_up (va_up (va_up (va_up (fun _ => none) 0 (some s0)) 1 (some s1)) 2 (some s2)) 3 (some s3))))))), (s0, .inr (5, [.ref e0, .int 0, .int 0, .int 0])), (s1, .inr (5, [.ref e1, .int 0, .int 0, .int 0])), (s2, .inr (5, [.ref e2, .int 0, .int 0, .int 0])), (s3, .inr (5, [.ref e3, .int 0, .int 0, .int 0]))]) (w1 := []) hP hD [0] [1, 2, 3, 4, 5] rfl rfl (by decide) (by decide) hk1 hFc kP0 kDn
          generalize H1 = H at hP hS ⊢
          have hP : va_P D vwCl [(sh, .inl (cS, 4, .inr (.inr (.inr (.inr (va_up (va_up (va_up (va_up (fun _ => none) 0 (some s0)) 1 (some s1)) 2 (some s2)) 3 (some s3))))))), (s0, .inr (5, [.ref e0, .int 0, .int 0, .int 0])), (s1, .inr (5, [.ref e1, .int 0, .int 0, .int 0])), (s2, .inr (5, [.ref e2, .int 0, .int 0, .int 0])), (s3, .inr (5, [.ref e3, .int 0, .int 0, .int 0]))] H := hP
          have hD : va_D A [(sh, .inl (cS, 4, .inr (.inr (.inr (.inr (va_up (va_up (va_up (va_up (fun _ => none) 0 (some s0)) 1 (some s1)) 2 (some s2)) 3 (some s3))))))), (s0, .inr (5, [.ref e0, .int 0, .int 0, .int 0])), (s1, .inr (5, [.ref e1, .int 0, .int 0, .int 0])), (s2, .inr (5, [.ref e2, .int 0, .int 0, .int 0])), (s3, .inr (5, [.ref e3, .int 0, .int 0, .int 0]))] := hD
          refine kn_i ((-10) - 1) hw ?_
          refine kn_i (-11) (by decide) ?_
          exact W.iret (v := (-11)) hx hb hr (fun t ht hW => kQi_of (by first | rfl | (simp only [sp_write, if_pos k_2, if_pos k_5, if_pos k_7]; done) | (simp [sp_write, k_2, k_5, k_7]; done)) (hS.F ht)) hS.2.2 dX8_write_65
        · subst e9
          refine kn_v (.ref s2) rfl ?_
          refine lv_astore (lv' := [(5, .ref s2), (0, .ref h0), (1, .int 2), (2, .int n), (3, .int i), (4, .int z)]) hx hb dX8_write_41 hl (by decide) rfl (fun ls hl => ?_)
          refine lv_aload hx hb dX8_write_43 (lv_at hl 0 rfl) ?_
          refine lv_iload_n hx hb dX8_write_45 rfl (lv_at hl 3 rfl) ?_
          refine lv_iload_n hx hb dX8_write_46 rfl (lv_at hl 4 rfl) ?_
          refine lv_iload hx hb dX8_write_47 (lv_at hl 5 rfl) ?_
          refine k_callR (va_runS (As := [.ref s2, .int n, .int i, .int z]) (rest := []) ⟨hx, hb, hml, hown, hts⟩ (c_X8_faultOfCells l D H.size (ro := s2) (la := n) (i := i) (n := z) (e0 := e2) (ln := 0) (sz0 := 0)) (va_cwS 4 hts gX8_write_X8_faultOfCells rfl rfl rfl (by decide +kernel) ⟨Nat.le_of_ble_eq_true rfl, Nat.le_of_ble_eq_true rfl⟩) (kPreS hP (kD0 hD) hK hN [4] [] rfl rfl (by decide)) rfl rfl hl.1 rfl (lv_room (Nat.le_of_ble_eq_true rfl)) dX8_write_49 ⟨Nat.le_of_ble_eq_true rfl, Nat.le_of_ble_eq_true rfl⟩) ?_
          refine lv_istore (lv' := [(6, .int 1), (5, .ref s2), (0, .ref h0), (1, .int 2), (2, .int n), (3, .int i), (4, .int z)]) hx hb dX8_write_52 hl (by decide) rfl (fun ls hl => ?_)
          refine lv_iload hx hb dX8_write_54 (lv_at hl 0 rfl) ?_
          refine lv_if_eq (tgt := 66) hx hb dX8_write_56 (by decide) (fun c9 => absurd c9 (by decide)) (fun _ => ?_)
          refine lv_aload_n hx hb dX8_write_59 rfl (lv_at hl 2 rfl) ?_
          refine lv_iload hx hb dX8_write_60 (lv_at hl 0 rfl) ?_
          have hFc := va_free (wc := [(h0, .inr (8, [.ref sh, .ref rd, .ref fr, .ref wr, .ref pf, .ref rc, .ref se, .ref rs, .ref sw, .ref sp, .ref ss, .int ew, .long wc, .int tr, .int 0]))]) hD hS hA [0] rfl
          refine va_calli (va_runV (As := [.int 1]) (rest := []) ⟨hx, hb, hml, hown, hts⟩ (c_X8_failWith l D H.size (f := 1) (h0 := h0) (sh := sh) (rd := rd) (fr := fr) (wr := wr) (pf := pf) (rc := rc) (se := se) (rs := rs) (sw := sw) (sp := sp) (ss := ss) (ew := ew) (wc := wc) (tr := tr) (lf := 0)) (cwV 1 hts gX8_write_X8_failWith rfl rfl rfl (by decide +kernel) ⟨Nat.le_of_ble_eq_true rfl, Nat.le_of_ble_eq_true rfl⟩) (kPreV hP (kD0 hD) hK hN [0] [] rfl rfl (by decide) 0 8 rfl rfl) rfl rfl hl.1 rfl (lv_room (Nat.le_of_ble_eq_true rfl)) dX8_write_62 ⟨Nat.le_of_ble_eq_true rfl, Nat.le_of_ble_eq_true rfl⟩) hS (fun q _ h => hFc q h) hFc (fun r_10 u t H1 locs ht hvm hw hB hz1 hk1 hS => ?_)
          obtain ⟨hP, hD⟩ := va_join (wr := [(sh, .inl (cS, 4, .inr (.inr (.inr (.inr (va_up (va_up (va_up (va_up (fun _ => none) 0 (some s0)) 1 (some s1)) 2 (some s2)) 3 (some s3))))))), (s0, .inr (5, [.ref e0, .int 0, .int 0, .int 0])), (s1, .inr (5, [.ref e1, .int 0, .int 0, .int 0])), (s2, .inr (5, [.ref e2, .int 0, .int 0, .int 0])), (s3, .inr (5, [.ref e3, .int 0, .int 0, .int 0]))]) (w1 := []) hP hD [0] [1, 2, 3, 4, 5] rfl rfl (by decide) (by decide) hk1 hFc kP0 kDn
          generalize H1 = H at hP hS ⊢
          have hP : va_P D vwCl [(sh, .inl (cS, 4, .inr (.inr (.inr (.inr (va_up (va_up (va_up (va_up (fun _ => none) 0 (some s0)) 1 (some s1)) 2 (some s2)) 3 (some s3))))))), (s0, .inr (5, [.ref e0, .int 0, .int 0, .int 0])), (s1, .inr (5, [.ref e1, .int 0, .int 0, .int 0])), (s2, .inr (5, [.ref e2, .int 0, .int 0, .int 0])), (s3, .inr (5, [.ref e3, .int 0, .int 0, .int 0]))] H := hP
          have hD : va_D A [(sh, .inl (cS, 4, .inr (.inr (.inr (.inr (va_up (va_up (va_up (va_up (fun _ => none) 0 (some s0)) 1 (some s1)) 2 (some s2)) 3 (some s3))))))), (s0, .inr (5, [.ref e0, .int 0, .int 0, .int 0])), (s1, .inr (5, [.ref e1, .int 0, .int 0, .int 0])), (s2, .inr (5, [.ref e2, .int 0, .int 0, .int 0])), (s3, .inr (5, [.ref e3, .int 0, .int 0, .int 0]))] := hD
          refine kn_i ((-10) - 1) hw ?_
          refine kn_i (-11) (by decide) ?_
          exact W.iret (v := (-11)) hx hb hr (fun t ht hW => kQi_of (by first | rfl | (simp only [sp_write, if_pos k_2, if_pos k_5, if_pos k_7]; done) | (simp [sp_write, k_2, k_5, k_7]; done)) (hS.F ht)) hS.2.2 dX8_write_65
        · subst e9
          refine kn_v (.ref s3) rfl ?_
          refine lv_astore (lv' := [(5, .ref s3), (0, .ref h0), (1, .int 3), (2, .int n), (3, .int i), (4, .int z)]) hx hb dX8_write_41 hl (by decide) rfl (fun ls hl => ?_)
          refine lv_aload hx hb dX8_write_43 (lv_at hl 0 rfl) ?_
          refine lv_iload_n hx hb dX8_write_45 rfl (lv_at hl 3 rfl) ?_
          refine lv_iload_n hx hb dX8_write_46 rfl (lv_at hl 4 rfl) ?_
          refine lv_iload hx hb dX8_write_47 (lv_at hl 5 rfl) ?_
          refine k_callR (va_runS (As := [.ref s3, .int n, .int i, .int z]) (rest := []) ⟨hx, hb, hml, hown, hts⟩ (c_X8_faultOfCells l D H.size (ro := s3) (la := n) (i := i) (n := z) (e0 := e3) (ln := 0) (sz0 := 0)) (va_cwS 4 hts gX8_write_X8_faultOfCells rfl rfl rfl (by decide +kernel) ⟨Nat.le_of_ble_eq_true rfl, Nat.le_of_ble_eq_true rfl⟩) (kPreS hP (kD0 hD) hK hN [5] [] rfl rfl (by decide)) rfl rfl hl.1 rfl (lv_room (Nat.le_of_ble_eq_true rfl)) dX8_write_49 ⟨Nat.le_of_ble_eq_true rfl, Nat.le_of_ble_eq_true rfl⟩) ?_
          refine lv_istore (lv' := [(6, .int 1), (5, .ref s3), (0, .ref h0), (1, .int 3), (2, .int n), (3, .int i), (4, .int z)]) hx hb dX8_write_52 hl (by decide) rfl (fun ls hl => ?_)
          refine lv_iload hx hb dX8_write_54 (lv_at hl 0 rfl) ?_
          refine lv_if_eq (tgt := 66) hx hb dX8_write_56 (by decide) (fun c9 => absurd c9 (by decide)) (fun _ => ?_)
          refine lv_aload_n hx hb dX8_write_59 rfl (lv_at hl 2 rfl) ?_
          refine lv_iload hx hb dX8_write_60 (lv_at hl 0 rfl) ?_
          have hFc := va_free (wc := [(h0, .inr (8, [.ref sh, .ref rd, .ref fr, .ref wr, .ref pf, .ref rc, .ref se, .ref rs, .ref sw, .ref sp, .ref ss, .int ew, .long wc, .int tr, .int 0]))]) hD hS hA [0] rfl
          refine va_calli (va_runV (As := [.int 1]) (rest := []) ⟨hx, hb, hml, hown, hts⟩ (c_X8_failWith l D H.size (f := 1) (h0 := h0) (sh := sh) (rd := rd) (fr := fr) (wr := wr) (pf := pf) (rc := rc) (se := se) (rs := rs) (sw := sw) (sp := sp) (ss := ss) (ew := ew) (wc := wc) (tr := tr) (lf := 0)) (cwV 1 hts gX8_write_X8_failWith rfl rfl rfl (by decide +kernel) ⟨Nat.le_of_ble_eq_true rfl, Nat.le_of_ble_eq_true rfl⟩) (kPreV hP (kD0 hD) hK hN [0] [] rfl rfl (by decide) 0 8 rfl rfl) rfl rfl hl.1 rfl (lv_room (Nat.le_of_ble_eq_true rfl)) dX8_write_62 ⟨Nat.le_of_ble_eq_true rfl, Nat.le_of_ble_eq_true rfl⟩) hS (fun q _ h => hFc q h) hFc (fun r_11 u t H1 locs ht hvm hw hB hz1 hk1 hS => ?_)
          obtain ⟨hP, hD⟩ := va_join (wr := [(sh, .inl (cS, 4, .inr (.inr (.inr (.inr (va_up (va_up (va_up (va_up (fun _ => none) 0 (some s0)) 1 (some s1)) 2 (some s2)) 3 (some s3))))))), (s0, .inr (5, [.ref e0, .int 0, .int 0, .int 0])), (s1, .inr (5, [.ref e1, .int 0, .int 0, .int 0])), (s2, .inr (5, [.ref e2, .int 0, .int 0, .int 0])), (s3, .inr (5, [.ref e3, .int 0, .int 0, .int 0]))]) (w1 := []) hP hD [0] [1, 2, 3, 4, 5] rfl rfl (by decide) (by decide) hk1 hFc kP0 kDn
          generalize H1 = H at hP hS ⊢
          have hP : va_P D vwCl [(sh, .inl (cS, 4, .inr (.inr (.inr (.inr (va_up (va_up (va_up (va_up (fun _ => none) 0 (some s0)) 1 (some s1)) 2 (some s2)) 3 (some s3))))))), (s0, .inr (5, [.ref e0, .int 0, .int 0, .int 0])), (s1, .inr (5, [.ref e1, .int 0, .int 0, .int 0])), (s2, .inr (5, [.ref e2, .int 0, .int 0, .int 0])), (s3, .inr (5, [.ref e3, .int 0, .int 0, .int 0]))] H := hP
          have hD : va_D A [(sh, .inl (cS, 4, .inr (.inr (.inr (.inr (va_up (va_up (va_up (va_up (fun _ => none) 0 (some s0)) 1 (some s1)) 2 (some s2)) 3 (some s3))))))), (s0, .inr (5, [.ref e0, .int 0, .int 0, .int 0])), (s1, .inr (5, [.ref e1, .int 0, .int 0, .int 0])), (s2, .inr (5, [.ref e2, .int 0, .int 0, .int 0])), (s3, .inr (5, [.ref e3, .int 0, .int 0, .int 0]))] := hD
          refine kn_i ((-10) - 1) hw ?_
          refine kn_i (-11) (by decide) ?_
          exact W.iret (v := (-11)) hx hb hr (fun t ht hW => kQi_of (by first | rfl | (simp only [sp_write, if_pos k_2, if_pos k_5, if_pos k_7]; done) | (simp [sp_write, k_2, k_5, k_7]; done)) (hS.F ht)) hS.2.2 dX8_write_65
      · have k_12 : ¬ ((0 ≤ z ∧ z ≤ 24)) := b01f c_6
        refine lv_bipush (v := (-2)) hx hb dX8_write_32 (by decide) ?_
        exact W.iret (v := (-2)) hx hb hr (fun t ht hW => kQi_of (by first | rfl | (simp only [sp_write, if_pos k_2, if_pos k_5, if_neg k_12]; done) | (simp [sp_write, k_2, k_5, k_12]; done)) (hS.F ht)) hS.2.2 dX8_write_34
  · have k_13 : ¬ ((0 ≤ k ∧ k ≤ 3)) := b01f c_1
    refine lv_iconst (v := (-1)) hx hb dX8_write_12 (by decide) ?_
    exact W.iret (v := (-1)) hx hb hr (fun t ht hW => kQi_of (by first | rfl | (simp only [sp_write, if_neg k_13]; done) | (simp [sp_write, k_13]; done)) (hS.F ht)) hS.2.2 dX8_write_13
theorem dX8_day_0 : decode cX8_day 0 = .ok (.aload_n 0, 1) := by decide +kernel
theorem dX8_day_1 : decode cX8_day 1 = .ok (.iconst 0, 1) := by decide +kernel
theorem dX8_day_2 : decode cX8_day 2 = .ok (.putfield 76, 3) := by decide +kernel
theorem dX8_day_5 : decode cX8_day 5 = .ok (.iload_n 1, 1) := by decide +kernel
theorem dX8_day_6 : decode cX8_day 6 = .ok (.invokestatic 80, 3) := by decide +kernel
theorem dX8_day_9 : decode cX8_day 9 = .ok (.ifCond .ne 5, 3) := by decide +kernel
theorem dX8_day_12 : decode cX8_day 12 = .ok (.iconst (-1), 1) := by decide +kernel
theorem dX8_day_13 : decode cX8_day 13 = .ok (.ireturn, 1) := by decide +kernel
theorem dX8_day_14 : decode cX8_day 14 = .ok (.iload_n 2, 1) := by decide +kernel
theorem dX8_day_15 : decode cX8_day 15 = .ok (.invokestatic 84, 3) := by decide +kernel
theorem dX8_day_18 : decode cX8_day 18 = .ok (.ifCond .eq 22, 3) := by decide +kernel
theorem dX8_day_21 : decode cX8_day 21 = .ok (.iload 4, 2) := by decide +kernel
theorem dX8_day_23 : decode cX8_day 23 = .ok (.iconst 0, 1) := by decide +kernel
theorem dX8_day_24 : decode cX8_day 24 = .ok (.bipush 20, 2) := by decide +kernel
theorem dX8_day_26 : decode cX8_day 26 = .ok (.invokestatic 128, 3) := by decide +kernel
theorem dX8_day_29 : decode cX8_day 29 = .ok (.ifCond .eq 11, 3) := by decide +kernel
theorem dX8_day_32 : decode cX8_day 32 = .ok (.iload 5, 2) := by decide +kernel
theorem dX8_day_34 : decode cX8_day 34 = .ok (.invokestatic 210, 3) := by decide +kernel
theorem dX8_day_37 : decode cX8_day 37 = .ok (.ifCond .ne 6, 3) := by decide +kernel
theorem dX8_day_40 : decode cX8_day 40 = .ok (.bipush (-2), 2) := by decide +kernel
theorem dX8_day_42 : decode cX8_day 42 = .ok (.ireturn, 1) := by decide +kernel
theorem dX8_day_43 : decode cX8_day 43 = .ok (.aload_n 0, 1) := by decide +kernel
theorem dX8_day_44 : decode cX8_day 44 = .ok (.getfield 13, 3) := by decide +kernel
theorem dX8_day_47 : decode cX8_day 47 = .ok (.iload_n 1, 1) := by decide +kernel
theorem dX8_day_48 : decode cX8_day 48 = .ok (.aaload, 1) := by decide +kernel
theorem dX8_day_49 : decode cX8_day 49 = .ok (.astore 6, 2) := by decide +kernel
theorem dX8_day_51 : decode cX8_day 51 = .ok (.aload 6, 2) := by decide +kernel
theorem dX8_day_53 : decode cX8_day 53 = .ok (.iload_n 2, 1) := by decide +kernel
theorem dX8_day_54 : decode cX8_day 54 = .ok (.iload_n 3, 1) := by decide +kernel
theorem dX8_day_55 : decode cX8_day 55 = .ok (.iconst 2, 1) := by decide +kernel
theorem dX8_day_56 : decode cX8_day 56 = .ok (.iload 4, 2) := by decide +kernel
theorem dX8_day_58 : decode cX8_day 58 = .ok (.imul, 1) := by decide +kernel
theorem dX8_day_59 : decode cX8_day 59 = .ok (.invokestatic 149, 3) := by decide +kernel
theorem dX8_day_62 : decode cX8_day 62 = .ok (.istore 7, 2) := by decide +kernel
theorem dX8_day_64 : decode cX8_day 64 = .ok (.iload 7, 2) := by decide +kernel
theorem dX8_day_66 : decode cX8_day 66 = .ok (.ifCond .eq 10, 3) := by decide +kernel
theorem dX8_day_69 : decode cX8_day 69 = .ok (.aload_n 0, 1) := by decide +kernel
theorem dX8_day_70 : decode cX8_day 70 = .ok (.iload 7, 2) := by decide +kernel
theorem dX8_day_72 : decode cX8_day 72 = .ok (.invokevirtual 95, 3) := by decide +kernel
theorem dX8_day_75 : decode cX8_day 75 = .ok (.ireturn, 1) := by decide +kernel
set_option maxRecDepth 20000 in
theorem ggX8_day_X8_failWith : GoodIn wsX8_day wsX8_failWith := goodIn_r _ [36, 1, 179, 180, 181, 182, 183, 184, 185, 186, 187, 188, 189, 190, 191, 192, 193] (by decide +kernel) (by decide +kernel)
set_option maxRecDepth 20000 in
theorem gX8_day_X8_failWith : GoodIn wsX8_day (wsV RX8 95 RX8 yX8_failWith wsX8_failWith) := goodIn_app (goodIn_of _ (by decide +kernel)) ggX8_day_X8_failWith
set_option maxRecDepth 20000 in
theorem ggX8_day_X8_faultOfCells : GoodIn wsX8_day wsX8_faultOfCells := goodIn_r _ [20, 21, 22, 7, 23, 24, 25, 26, 27, 28, 29, 30, 31, 32, 10, 11, 198, 199, 200, 201] (by decide +kernel) (by decide +kernel)
set_option maxRecDepth 20000 in
theorem gX8_day_X8_faultOfCells : GoodIn wsX8_day (va_wsS RX8 149 yX8_faultOfCells wsX8_faultOfCells) := goodIn_app (goodIn_of _ (by decide +kernel)) ggX8_day_X8_faultOfCells
set_option maxRecDepth 20000 in
theorem ggX8_day_X8_isLane : GoodIn wsX8_day wsX8_isLane := goodIn_r _ [14, 9, 10, 7, 11] (by decide +kernel) (by decide +kernel)
set_option maxRecDepth 20000 in
theorem gX8_day_X8_isLane : GoodIn wsX8_day (va_wsS RX8 84 yX8_isLane wsX8_isLane) := goodIn_app (goodIn_of _ (by decide +kernel)) ggX8_day_X8_isLane
set_option maxRecDepth 20000 in
theorem ggX8_day_X8_isOfDay : GoodIn wsX8_day wsX8_isOfDay := goodIn_r _ [17, 9, 10, 7, 11] (by decide +kernel) (by decide +kernel)
set_option maxRecDepth 20000 in
theorem gX8_day_X8_isOfDay : GoodIn wsX8_day (va_wsS RX8 210 yX8_isOfDay wsX8_isOfDay) := goodIn_app (goodIn_of _ (by decide +kernel)) ggX8_day_X8_isOfDay
set_option maxRecDepth 20000 in
theorem ggX8_day_X8_isSheet : GoodIn wsX8_day wsX8_isSheet := goodIn_r _ [8, 9, 10, 7, 11] (by decide +kernel) (by decide +kernel)
set_option maxRecDepth 20000 in
theorem gX8_day_X8_isSheet : GoodIn wsX8_day (va_wsS RX8 80 yX8_isSheet wsX8_isSheet) := goodIn_app (goodIn_of _ (by decide +kernel)) ggX8_day_X8_isSheet
set_option maxRecDepth 20000 in
theorem ggX8_day_X8_isWithin : GoodIn wsX8_day wsX8_isWithin := goodIn_r _ [11] (by decide +kernel) (by decide +kernel)
set_option maxRecDepth 20000 in
theorem gX8_day_X8_isWithin : GoodIn wsX8_day (va_wsS RX8 128 yX8_isWithin wsX8_isWithin) := goodIn_app (goodIn_of _ (by decide +kernel)) ggX8_day_X8_isWithin
set_option maxHeartbeats 4000000 in
set_option maxRecDepth 100000 in
theorem c_X8_day (l : Launch) (D : va_G) (sz : Nat) (k : Int32) (n : Int32) (i : Int32) (z : Int32) (w : Int32) (h0 : Nat) (sh : Nat) (rd : Nat) (fr : Nat) (wr : Nat) (pf : Nat) (rc : Nat) (se : Nat) (rs : Nat) (sw : Nat) (sp : Nat) (ss : Nat) (ew : Int32) (wc : Int64) (tr : Int32) (lf : Int32) (cS : ClassId) (s0 : Nat) (s1 : Nat) (s2 : Nat) (s3 : Nat) (e0 : Nat) (e1 : Nat) (e2 : Nat) (e3 : Nat) : Met l yX8_day wsX8_day ({ frames := 2, cells := 0, slots := 0, locals := 45 }) (kPre [.ref h0, .int k, .int n, .int i, .int z, .int w] D [(h0, .inr (8, [.ref sh, .ref rd, .ref fr, .ref wr, .ref pf, .ref rc, .ref se, .ref rs, .ref sw, .ref sp, .ref ss, .int ew, .long wc, .int tr, .int lf])), (sh, .inl (cS, 4, .inr (.inr (.inr (.inr (va_up (va_up (va_up (va_up (fun _ => none) 0 (some s0)) 1 (some s1)) 2 (some s2)) 3 (some s3))))))), (s0, .inr (5, [.ref e0, .int 0, .int 0, .int 0])), (s1, .inr (5, [.ref e1, .int 0, .int 0, .int 0])), (s2, .inr (5, [.ref e2, .int 0, .int 0, .int 0])), (s3, .inr (5, [.ref e3, .int 0, .int 0, .int 0]))] [(cS, .object RX5)] sz) (kQi (sp_day k n z w) (va_A [(h0, .inr (8, [.ref sh, .ref rd, .ref fr, .ref wr, .ref pf, .ref rc, .ref se, .ref rs, .ref sw, .ref sp, .ref ss, .int ew, .long wc, .int tr, .int lf])), (sh, .inl (cS, 4, .inr (.inr (.inr (.inr (va_up (va_up (va_up (va_up (fun _ => none) 0 (some s0)) 1 (some s1)) 2 (some s2)) 3 (some s3))))))), (s0, .inr (5, [.ref e0, .int 0, .int 0, .int 0])), (s1, .inr (5, [.ref e1, .int 0, .int 0, .int 0])), (s2, .inr (5, [.ref e2, .int 0, .int 0, .int 0])), (s3, .inr (5, [.ref e3, .int 0, .int 0, .int 0]))] sz)) 0 0 (va_A [(h0, .inr (8, [.ref sh, .ref rd, .ref fr, .ref wr, .ref pf, .ref rc, .ref se, .ref rs, .ref sw, .ref sp, .ref ss, .int ew, .long wc, .int tr, .int lf])), (sh, .inl (cS, 4, .inr (.inr (.inr (.inr (va_up (va_up (va_up (va_up (fun _ => none) 0 (some s0)) 1 (some s1)) 2 (some s2)) 3 (some s3))))))), (s0, .inr (5, [.ref e0, .int 0, .int 0, .int 0])), (s1, .inr (5, [.ref e1, .int 0, .int 0, .int 0])), (s2, .inr (5, [.ref e2, .int 0, .int 0, .int 0])), (s3, .inr (5, [.ref e3, .int 0, .int 0, .int 0]))] sz) := by
  refine Met.ofW (cc := cX8_day) (maxL := 9) (ret := (some .int)) (by decide) rfl ?_
  intro p e s m args below meth c s₁ B hml hv
  obtain ⟨rfl, hsz, hP, hK, hD0, hN⟩ := hv
  have hx := B.exec
  have hb := B.bytes
  have hr := B.returns
  have hts := atoms_spec (ws := wsX8_day) B.pre
  have hown : s.vm.findClass RX8 = some m.cls := findClass_of_methodNamed B.named
  have hlocks := B.notSynchronized
  subst hsz
  have hD := hD0.self (sz := s.heap.size)
  generalize hAe : va_A [(h0, .inr (8, [.ref sh, .ref rd, .ref fr, .ref wr, .ref pf, .ref rc, .ref se, .ref rs, .ref sw, .ref sp, .ref ss, .int ew, .long wc, .int tr, .int lf])), (sh, .inl (cS, 4, .inr (.inr (.inr (.inr (va_up (va_up (va_up (va_up (fun _ => none) 0 (some s0)) 1 (some s1)) 2 (some s2)) 3 (some s3))))))), (s0, .inr (5, [.ref e0, .int 0, .int 0, .int 0])), (s1, .inr (5, [.ref e1, .int 0, .int 0, .int 0])), (s2, .inr (5, [.ref e2, .int 0, .int 0, .int 0])), (s3, .inr (5, [.ref e3, .int 0, .int 0, .int 0]))] s.heap.size = A at hD ⊢
  have hA : ∀ q : Nat, s.heap.size ≤ q → A q := fun q h => by rw [← hAe]; exact Or.inr h
  have hS : va_S A s.heap s.heap [] := va_S.rf
  have hP : va_P D vwCl [(h0, .inr (8, [.ref sh, .ref rd, .ref fr, .ref wr, .ref pf, .ref rc, .ref se, .ref rs, .ref sw, .ref sp, .ref ss, .int ew, .long wc, .int tr, .int lf])), (sh, .inl (cS, 4, .inr (.inr (.inr (.inr (va_up (va_up (va_up (va_up (fun _ => none) 0 (some s0)) 1 (some s1)) 2 (some s2)) 3 (some s3))))))), (s0, .inr (5, [.ref e0, .int 0, .int 0, .int 0])), (s1, .inr (5, [.ref e1, .int 0, .int 0, .int 0])), (s2, .inr (5, [.ref e2, .int 0, .int 0, .int 0])), (s3, .inr (5, [.ref e3, .int 0, .int 0, .int 0]))] s.heap := hP
  have hl := lv_entry ([.ref h0, .int k, .int n, .int i, .int z, .int w]) (n := 9) (Nat.le_of_ble_eq_true rfl)
  rw [lg_entry_eq]
  generalize (lg_sl ([.ref h0, .int k, .int n, .int i, .int z, .int w]) ++ List.replicate (9 - (lg_sl ([.ref h0, .int k, .int n, .int i, .int z, .int w])).length) Slot.unset).toArray = ls at hl ⊢
  have hl : lv_has ls 9 [(0, .ref h0), (1, .int k), (2, .int n), (3, .int i), (4, .int z), (5, .int w)] := hl
  refine lv_aload_n hx hb dX8_day_0 rfl (lv_at hl 0 rfl) ?_
  refine lv_iconst (v := 0) hx hb dX8_day_1 (by decide) ?_
  refine va_put (D := D) (ci := 8) (v := .int 0) (ty := .int) (C := RX8) (T := TX8) (N := 15) hx hb hts (fun _ h9 => List.mem_cons_of_mem _ (List.mem_append_left _ (List.mem_append_left _ (List.mem_append_left _ (List.mem_append_left _ (List.mem_append_left _ (List.mem_append_right _ h9))))))) tyX8 tyX8_ok nmX8 hown hK hP hD hS 0 rfl rfl 14 (by decide) (hts (.fieldLink RX8 76 "FontRuns" "latestFault" "I") (by decide +kernel)) (fun _ h9 => h9) rfl (by decide +kernel) rfl rfl (Nat.le_of_ble_eq_true rfl) dX8_day_2 (fun H locs hP hD hS => ?_)
  have hP : va_P D vwCl [(h0, .inr (8, [.ref sh, .ref rd, .ref fr, .ref wr, .ref pf, .ref rc, .ref se, .ref rs, .ref sw, .ref sp, .ref ss, .int ew, .long wc, .int tr, .int 0])), (sh, .inl (cS, 4, .inr (.inr (.inr (.inr (va_up (va_up (va_up (va_up (fun _ => none) 0 (some s0)) 1 (some s1)) 2 (some s2)) 3 (some s3))))))), (s0, .inr (5, [.ref e0, .int 0, .int 0, .int 0])), (s1, .inr (5, [.ref e1, .int 0, .int 0, .int 0])), (s2, .inr (5, [.ref e2, .int 0, .int 0, .int 0])), (s3, .inr (5, [.ref e3, .int 0, .int 0, .int 0]))] H := hP
  have hD : va_D A [(h0, .inr (8, [.ref sh, .ref rd, .ref fr, .ref wr, .ref pf, .ref rc, .ref se, .ref rs, .ref sw, .ref sp, .ref ss, .int ew, .long wc, .int tr, .int 0])), (sh, .inl (cS, 4, .inr (.inr (.inr (.inr (va_up (va_up (va_up (va_up (fun _ => none) 0 (some s0)) 1 (some s1)) 2 (some s2)) 3 (some s3))))))), (s0, .inr (5, [.ref e0, .int 0, .int 0, .int 0])), (s1, .inr (5, [.ref e1, .int 0, .int 0, .int 0])), (s2, .inr (5, [.ref e2, .int 0, .int 0, .int 0])), (s3, .inr (5, [.ref e3, .int 0, .int 0, .int 0]))] := hD
  refine lv_iload_n hx hb dX8_day_5 rfl (lv_at hl 1 rfl) ?_
  refine k_callR (va_runS (As := [.int k]) (rest := []) ⟨hx, hb, hml, hown, hts⟩ (c_X8_isSheet l D H.size (k := k)) (va_cwS 1 hts gX8_day_X8_isSheet rfl rfl rfl (by decide +kernel) ⟨Nat.le_of_ble_eq_true rfl, Nat.le_of_ble_eq_true rfl⟩) (kPreS hP (kD0 hD) hK hN [] [] rfl rfl (by decide)) rfl rfl hl.1 rfl (lv_room (Nat.le_of_ble_eq_true rfl)) dX8_day_6 ⟨Nat.le_of_ble_eq_true rfl, Nat.le_of_ble_eq_true rfl⟩) ?_
  refine lv_if_ne (tgt := 14) hx hb dX8_day_9 (by decide) (fun c_1 => ?_) (fun c_1 => ?_)
  · have k_2 : (0 ≤ k ∧ k ≤ 3) := b01t c_1
    refine lv_iload_n hx hb dX8_day_14 rfl (lv_at hl 2 rfl) ?_
    refine k_callR (va_runS (As := [.int n]) (rest := []) ⟨hx, hb, hml, hown, hts⟩ (c_X8_isLane l D H.size (k := n)) (va_cwS 1 hts gX8_day_X8_isLane rfl rfl rfl (by decide +kernel) ⟨Nat.le_of_ble_eq_true rfl, Nat.le_of_ble_eq_true rfl⟩) (kPreS hP (kD0 hD) hK hN [] [] rfl rfl (by decide)) rfl rfl hl.1 rfl (lv_room (Nat.le_of_ble_eq_true rfl)) dX8_day_15 ⟨Nat.le_of_ble_eq_true rfl, Nat.le_of_ble_eq_true rfl⟩) ?_
    refine lv_if_eq (tgt := 40) hx hb dX8_day_18 (by decide) (fun c_3 => ?_) (fun c_3 => ?_)
    · have k_4 : ¬ ((0 ≤ n ∧ n ≤ 2)) := b01f c_3
      refine lv_bipush (v := (-2)) hx hb dX8_day_40 (by decide) ?_
      exact W.iret (v := (-2)) hx hb hr (fun t ht hW => kQi_of (by first | rfl | (simp only [sp_day, if_pos k_2, if_neg k_4]; done) | (simp [sp_day, k_2, k_4]; done)) (hS.F ht)) hS.2.2 dX8_day_42
    · have k_5 : (0 ≤ n ∧ n ≤ 2) := b01t c_3
      refine lv_iload hx hb dX8_day_21 (lv_at hl 4 rfl) ?_
      refine lv_iconst (v := 0) hx hb dX8_day_23 (by decide) ?_
      refine lv_bipush (v := 20) hx hb dX8_day_24 (by decide) ?_
      refine k_callR (va_runS (As := [.int z, .int 0, .int 20]) (rest := []) ⟨hx, hb, hml, hown, hts⟩ (c_X8_isWithin l D H.size (v := z) (a := 0) (b := 20)) (va_cwS 3 hts gX8_day_X8_isWithin rfl rfl rfl (by decide +kernel) ⟨Nat.le_of_ble_eq_true rfl, Nat.le_of_ble_eq_true rfl⟩) (kPreS hP (kD0 hD) hK hN [] [] rfl rfl (by decide)) rfl rfl hl.1 rfl (lv_room (Nat.le_of_ble_eq_true rfl)) dX8_day_26 ⟨Nat.le_of_ble_eq_true rfl, Nat.le_of_ble_eq_true rfl⟩) ?_
      refine lv_if_eq (tgt := 40) hx hb dX8_day_29 (by decide) (fun c_6 => ?_) (fun c_6 => ?_)
      · have k_7 : ¬ ((0 ≤ z ∧ z ≤ 20)) := b01f c_6
        refine lv_bipush (v := (-2)) hx hb dX8_day_40 (by decide) ?_
        exact W.iret (v := (-2)) hx hb hr (fun t ht hW => kQi_of (by first | rfl | (simp only [sp_day, if_pos k_2, if_pos k_5, if_neg k_7]; done) | (simp [sp_day, k_2, k_5, k_7]; done)) (hS.F ht)) hS.2.2 dX8_day_42
      · have k_8 : (0 ≤ z ∧ z ≤ 20) := b01t c_6
        refine lv_iload hx hb dX8_day_32 (lv_at hl 5 rfl) ?_
        refine k_callR (va_runS (As := [.int w]) (rest := []) ⟨hx, hb, hml, hown, hts⟩ (c_X8_isOfDay l D H.size (k := w)) (va_cwS 1 hts gX8_day_X8_isOfDay rfl rfl rfl (by decide +kernel) ⟨Nat.le_of_ble_eq_true rfl, Nat.le_of_ble_eq_true rfl⟩) (kPreS hP (kD0 hD) hK hN [] [] rfl rfl (by decide)) rfl rfl hl.1 rfl (lv_room (Nat.le_of_ble_eq_true rfl)) dX8_day_34 ⟨Nat.le_of_ble_eq_true rfl, Nat.le_of_ble_eq_true rfl⟩) ?_
        refine lv_if_ne (tgt := 43) hx hb dX8_day_37 (by decide) (fun c_9 => ?_) (fun c_9 => ?_)
        · have k_10 : (0 ≤ w ∧ w ≤ 4) ∨ (10 ≤ w ∧ w ≤ 13) := b01t c_9
          refine lv_aload_n hx hb dX8_day_43 rfl (lv_at hl 0 rfl) ?_
          refine va_get (D := D) (ci := 8) (v := .ref sh) (C := RX8) (T := TX8) (N := 15) hx hb hts (fun _ h9 => List.mem_cons_of_mem _ (List.mem_append_left _ (List.mem_append_left _ (List.mem_append_left _ (List.mem_append_left _ (List.mem_append_left _ (List.mem_append_right _ h9))))))) hown hK hP 0 rfl rfl 0 (by decide) (hts (.fieldLink RX8 13 "FontRuns" "sheets" "[LFontRuns$Sheet;") (by decide +kernel)) (fun _ h9 => h9) rfl dX8_day_44 ?_
          refine lv_iload_n hx hb dX8_day_47 rfl (lv_at hl 1 rfl) ?_
          refine va_aldq hx hb hK hP 1 0 rfl rfl (k4in k_2) dX8_day_48 ?_
          rcases (k4 k_2) with e9 | e9 | e9 | e9
          · subst e9
            refine kn_v (.ref s0) rfl ?_
            refine lv_astore (lv' := [(6, .ref s0), (0, .ref h0), (1, .int 0), (2, .int n), (3, .int i), (4, .int z), (5, .int w)]) hx hb dX8_day_49 hl (by decide) rfl (fun ls hl => ?_)
            refine lv_aload hx hb dX8_day_51 (lv_at hl 0 rfl) ?_
            refine lv_iload_n hx hb dX8_day_53 rfl (lv_at hl 3 rfl) ?_
            refine lv_iload_n hx hb dX8_day_54 rfl (lv_at hl 4 rfl) ?_
            refine lv_iconst (v := 2) hx hb dX8_day_55 (by decide) ?_
            refine lv_iload hx hb dX8_day_56 (lv_at hl 5 rfl) ?_
            refine lv_imul hx hb dX8_day_58 ?_
            refine k_callR (va_runS (As := [.ref s0, .int n, .int i, .int (2 * z)]) (rest := []) ⟨hx, hb, hml, hown, hts⟩ (c_X8_faultOfCells l D H.size (ro := s0) (la := n) (i := i) (n := (2 * z)) (e0 := e0) (ln := 0) (sz0 := 0)) (va_cwS 4 hts gX8_day_X8_faultOfCells rfl rfl rfl (by decide +kernel) ⟨Nat.le_of_ble_eq_true rfl, Nat.le_of_ble_eq_true rfl⟩) (kPreS hP (kD0 hD) hK hN [2] [] rfl rfl (by decide)) rfl rfl hl.1 rfl (lv_room (Nat.le_of_ble_eq_true rfl)) dX8_day_59 ⟨Nat.le_of_ble_eq_true rfl, Nat.le_of_ble_eq_true rfl⟩) ?_
            refine lv_istore (lv' := [(7, .int 1), (6, .ref s0), (0, .ref h0), (1, .int 0), (2, .int n), (3, .int i), (4, .int z), (5, .int w)]) hx hb dX8_day_62 hl (by decide) rfl (fun ls hl => ?_)
            refine lv_iload hx hb dX8_day_64 (lv_at hl 0 rfl) ?_
            refine lv_if_eq (tgt := 76) hx hb dX8_day_66 (by decide) (fun c9 => absurd c9 (by decide)) (fun _ => ?_)
            refine lv_aload_n hx hb dX8_day_69 rfl (lv_at hl 2 rfl) ?_
            refine lv_iload hx hb dX8_day_70 (lv_at hl 0 rfl) ?_
            have hFc := va_free (wc := [(h0, .inr (8, [.ref sh, .ref rd, .ref fr, .ref wr, .ref pf, .ref rc, .ref se, .ref rs, .ref sw, .ref sp, .ref ss, .int ew, .long wc, .int tr, .int 0]))]) hD hS hA [0] rfl
            refine va_calli (va_runV (As := [.int 1]) (rest := []) ⟨hx, hb, hml, hown, hts⟩ (c_X8_failWith l D H.size (f := 1) (h0 := h0) (sh := sh) (rd := rd) (fr := fr) (wr := wr) (pf := pf) (rc := rc) (se := se) (rs := rs) (sw := sw) (sp := sp) (ss := ss) (ew := ew) (wc := wc) (tr := tr) (lf := 0)) (cwV 1 hts gX8_day_X8_failWith rfl rfl rfl (by decide +kernel) ⟨Nat.le_of_ble_eq_true rfl, Nat.le_of_ble_eq_true rfl⟩) (kPreV hP (kD0 hD) hK hN [0] [] rfl rfl (by decide) 0 8 rfl rfl) rfl rfl hl.1 rfl (lv_room (Nat.le_of_ble_eq_true rfl)) dX8_day_72 ⟨Nat.le_of_ble_eq_true rfl, Nat.le_of_ble_eq_true rfl⟩) hS (fun q _ h => hFc q h) hFc (fun r_11 u t H1 locs ht hvm hw hB hz1 hk1 hS => ?_)
            obtain ⟨hP, hD⟩ := va_join (wr := [(sh, .inl (cS, 4, .inr (.inr (.inr (.inr (va_up (va_up (va_up (va_up (fun _ => none) 0 (some s0)) 1 (some s1)) 2 (some s2)) 3 (some s3))))))), (s0, .inr (5, [.ref e0, .int 0, .int 0, .int 0])), (s1, .inr (5, [.ref e1, .int 0, .int 0, .int 0])), (s2, .inr (5, [.ref e2, .int 0, .int 0, .int 0])), (s3, .inr (5, [.ref e3, .int 0, .int 0, .int 0]))]) (w1 := []) hP hD [0] [1, 2, 3, 4, 5] rfl rfl (by decide) (by decide) hk1 hFc kP0 kDn
            generalize H1 = H at hP hS ⊢
            have hP : va_P D vwCl [(sh, .inl (cS, 4, .inr (.inr (.inr (.inr (va_up (va_up (va_up (va_up (fun _ => none) 0 (some s0)) 1 (some s1)) 2 (some s2)) 3 (some s3))))))), (s0, .inr (5, [.ref e0, .int 0, .int 0, .int 0])), (s1, .inr (5, [.ref e1, .int 0, .int 0, .int 0])), (s2, .inr (5, [.ref e2, .int 0, .int 0, .int 0])), (s3, .inr (5, [.ref e3, .int 0, .int 0, .int 0]))] H := hP
            have hD : va_D A [(sh, .inl (cS, 4, .inr (.inr (.inr (.inr (va_up (va_up (va_up (va_up (fun _ => none) 0 (some s0)) 1 (some s1)) 2 (some s2)) 3 (some s3))))))), (s0, .inr (5, [.ref e0, .int 0, .int 0, .int 0])), (s1, .inr (5, [.ref e1, .int 0, .int 0, .int 0])), (s2, .inr (5, [.ref e2, .int 0, .int 0, .int 0])), (s3, .inr (5, [.ref e3, .int 0, .int 0, .int 0]))] := hD
            refine kn_i ((-10) - 1) hw ?_
            refine kn_i (-11) (by decide) ?_
            exact W.iret (v := (-11)) hx hb hr (fun t ht hW => kQi_of (by first | rfl | (simp only [sp_day, if_pos k_2, if_pos k_5, if_pos k_8, if_pos k_10]; done) | (simp [sp_day, k_2, k_5, k_8, k_10]; done)) (hS.F ht)) hS.2.2 dX8_day_75
          · subst e9
            refine kn_v (.ref s1) rfl ?_
            refine lv_astore (lv' := [(6, .ref s1), (0, .ref h0), (1, .int 1), (2, .int n), (3, .int i), (4, .int z), (5, .int w)]) hx hb dX8_day_49 hl (by decide) rfl (fun ls hl => ?_)
            refine lv_aload hx hb dX8_day_51 (lv_at hl 0 rfl) ?_
            refine lv_iload_n hx hb dX8_day_53 rfl (lv_at hl 3 rfl) ?_
            refine lv_iload_n hx hb dX8_day_54 rfl (lv_at hl 4 rfl) ?_
            refine lv_iconst (v := 2) hx hb dX8_day_55 (by decide) ?_
            refine lv_iload hx hb dX8_day_56 (lv_at hl 5 rfl) ?_
            refine lv_imul hx hb dX8_day_58 ?_
            refine k_callR (va_runS (As := [.ref s1, .int n, .int i, .int (2 * z)]) (rest := []) ⟨hx, hb, hml, hown, hts⟩ (c_X8_faultOfCells l D H.size (ro := s1) (la := n) (i := i) (n := (2 * z)) (e0 := e1) (ln := 0) (sz0 := 0)) (va_cwS 4 hts gX8_day_X8_faultOfCells rfl rfl rfl (by decide +kernel) ⟨Nat.le_of_ble_eq_true rfl, Nat.le_of_ble_eq_true rfl⟩) (kPreS hP (kD0 hD) hK hN [3] [] rfl rfl (by decide)) rfl rfl hl.1 rfl (lv_room (Nat.le_of_ble_eq_true rfl)) dX8_day_59 ⟨Nat.le_of_ble_eq_true rfl, Nat.le_of_ble_eq_true rfl⟩) ?_
            refine lv_istore (lv' := [(7, .int 1), (6, .ref s1), (0, .ref h0), (1, .int 1), (2, .int n), (3, .int i), (4, .int z), (5, .int w)]) hx hb dX8_day_62 hl (by decide) rfl (fun ls hl => ?_)
            refine lv_iload hx hb dX8_day_64 (lv_at hl 0 rfl) ?_
            refine lv_if_eq (tgt := 76) hx hb dX8_day_66 (by decide) (fun c9 => absurd c9 (by decide)) (fun _ => ?_)
            refine lv_aload_n hx hb dX8_day_69 rfl (lv_at hl 2 rfl) ?_
            refine lv_iload hx hb dX8_day_70 (lv_at hl 0 rfl) ?_
            have hFc := va_free (wc := [(h0, .inr (8, [.ref sh, .ref rd, .ref fr, .ref wr, .ref pf, .ref rc, .ref se, .ref rs, .ref sw, .ref sp, .ref ss, .int ew, .long wc, .int tr, .int 0]))]) hD hS hA [0] rfl
            refine va_calli (va_runV (As := [.int 1]) (rest := []) ⟨hx, hb, hml, hown, hts⟩ (c_X8_failWith l D H.size (f := 1) (h0 := h0) (sh := sh) (rd := rd) (fr := fr) (wr := wr) (pf := pf) (rc := rc) (se := se) (rs := rs) (sw := sw) (sp := sp) (ss := ss) (ew := ew) (wc := wc) (tr := tr) (lf := 0)) (cwV 1 hts gX8_day_X8_failWith rfl rfl rfl (by decide +kernel) ⟨Nat.le_of_ble_eq_true rfl, Nat.le_of_ble_eq_true rfl⟩) (kPreV hP (kD0 hD) hK hN [0] [] rfl rfl (by decide) 0 8 rfl rfl) rfl rfl hl.1 rfl (lv_room (Nat.le_of_ble_eq_true rfl)) dX8_day_72 ⟨Nat.le_of_ble_eq_true rfl, Nat.le_of_ble_eq_true rfl⟩) hS (fun q _ h => hFc q h) hFc (fun r_12 u t H1 locs ht hvm hw hB hz1 hk1 hS => ?_)
            obtain ⟨hP, hD⟩ := va_join (wr := [(sh, .inl (cS, 4, .inr (.inr (.inr (.inr (va_up (va_up (va_up (va_up (fun _ => none) 0 (some s0)) 1 (some s1)) 2 (some s2)) 3 (some s3))))))), (s0, .inr (5, [.ref e0, .int 0, .int 0, .int 0])), (s1, .inr (5, [.ref e1, .int 0, .int 0, .int 0])), (s2, .inr (5, [.ref e2, .int 0, .int 0, .int 0])), (s3, .inr (5, [.ref e3, .int 0, .int 0, .int 0]))]) (w1 := []) hP hD [0] [1, 2, 3, 4, 5] rfl rfl (by decide) (by decide) hk1 hFc kP0 kDn
            generalize H1 = H at hP hS ⊢
            have hP : va_P D vwCl [(sh, .inl (cS, 4, .inr (.inr (.inr (.inr (va_up (va_up (va_up (va_up (fun _ => none) 0 (some s0)) 1 (some s1)) 2 (some s2)) 3 (some s3))))))), (s0, .inr (5, [.ref e0, .int 0, .int 0, .int 0])), (s1, .inr (5, [.ref e1, .int 0, .int 0, .int 0])), (s2, .inr (5, [.ref e2, .int 0, .int 0, .int 0])), (s3, .inr (5, [.ref e3, .int 0, .int 0, .int 0]))] H := hP
            have hD : va_D A [(sh, .inl (cS, 4, .inr (.inr (.inr (.inr (va_up (va_up (va_up (va_up (fun _ => none) 0 (some s0)) 1 (some s1)) 2 (some s2)) 3 (some s3))))))), (s0, .inr (5, [.ref e0, .int 0, .int 0, .int 0])), (s1, .inr (5, [.ref e1, .int 0, .int 0, .int 0])), (s2, .inr (5, [.ref e2, .int 0, .int 0, .int 0])), (s3, .inr (5, [.ref e3, .int 0, .int 0, .int 0]))] := hD
            refine kn_i ((-10) - 1) hw ?_
            refine kn_i (-11) (by decide) ?_
            exact W.iret (v := (-11)) hx hb hr (fun t ht hW => kQi_of (by first | rfl | (simp only [sp_day, if_pos k_2, if_pos k_5, if_pos k_8, if_pos k_10]; done) | (simp [sp_day, k_2, k_5, k_8, k_10]; done)) (hS.F ht)) hS.2.2 dX8_day_75
          · subst e9
            refine kn_v (.ref s2) rfl ?_
            refine lv_astore (lv' := [(6, .ref s2), (0, .ref h0), (1, .int 2), (2, .int n), (3, .int i), (4, .int z), (5, .int w)]) hx hb dX8_day_49 hl (by decide) rfl (fun ls hl => ?_)
            refine lv_aload hx hb dX8_day_51 (lv_at hl 0 rfl) ?_
            refine lv_iload_n hx hb dX8_day_53 rfl (lv_at hl 3 rfl) ?_
            refine lv_iload_n hx hb dX8_day_54 rfl (lv_at hl 4 rfl) ?_
            refine lv_iconst (v := 2) hx hb dX8_day_55 (by decide) ?_
            refine lv_iload hx hb dX8_day_56 (lv_at hl 5 rfl) ?_
            refine lv_imul hx hb dX8_day_58 ?_
            refine k_callR (va_runS (As := [.ref s2, .int n, .int i, .int (2 * z)]) (rest := []) ⟨hx, hb, hml, hown, hts⟩ (c_X8_faultOfCells l D H.size (ro := s2) (la := n) (i := i) (n := (2 * z)) (e0 := e2) (ln := 0) (sz0 := 0)) (va_cwS 4 hts gX8_day_X8_faultOfCells rfl rfl rfl (by decide +kernel) ⟨Nat.le_of_ble_eq_true rfl, Nat.le_of_ble_eq_true rfl⟩) (kPreS hP (kD0 hD) hK hN [4] [] rfl rfl (by decide)) rfl rfl hl.1 rfl (lv_room (Nat.le_of_ble_eq_true rfl)) dX8_day_59 ⟨Nat.le_of_ble_eq_true rfl, Nat.le_of_ble_eq_true rfl⟩) ?_
            refine lv_istore (lv' := [(7, .int 1), (6, .ref s2), (0, .ref h0), (1, .int 2), (2, .int n), (3, .int i), (4, .int z), (5, .int w)]) hx hb dX8_day_62 hl (by decide) rfl (fun ls hl => ?_)
            refine lv_iload hx hb dX8_day_64 (lv_at hl 0 rfl) ?_
            refine lv_if_eq (tgt := 76) hx hb dX8_day_66 (by decide) (fun c9 => absurd c9 (by decide)) (fun _ => ?_)
            refine lv_aload_n hx hb dX8_day_69 rfl (lv_at hl 2 rfl) ?_
            refine lv_iload hx hb dX8_day_70 (lv_at hl 0 rfl) ?_
            have hFc := va_free (wc := [(h0, .inr (8, [.ref sh, .ref rd, .ref fr, .ref wr, .ref pf, .ref rc, .ref se, .ref rs, .ref sw, .ref sp, .ref ss, .int ew, .long wc, .int tr, .int 0]))]) hD hS hA [0] rfl
            refine va_calli (va_runV (As := [.int 1]) (rest := []) ⟨hx, hb, hml, hown, hts⟩ (c_X8_failWith l D H.size (f := 1) (h0 := h0) (sh := sh) (rd := rd) (fr := fr) (wr := wr) (pf := pf) (rc := rc) (se := se) (rs := rs) (sw := sw) (sp := sp) (ss := ss) (ew := ew) (wc := wc) (tr := tr) (lf := 0)) (cwV 1 hts gX8_day_X8_failWith rfl rfl rfl (by decide +kernel) ⟨Nat.le_of_ble_eq_true rfl, Nat.le_of_ble_eq_true rfl⟩) (kPreV hP (kD0 hD) hK hN [0] [] rfl rfl (by decide) 0 8 rfl rfl) rfl rfl hl.1 rfl (lv_room (Nat.le_of_ble_eq_true rfl)) dX8_day_72 ⟨Nat.le_of_ble_eq_true rfl, Nat.le_of_ble_eq_true rfl⟩) hS (fun q _ h => hFc q h) hFc (fun r_13 u t H1 locs ht hvm hw hB hz1 hk1 hS => ?_)
            obtain ⟨hP, hD⟩ := va_join (wr := [(sh, .inl (cS, 4, .inr (.inr (.inr (.inr (va_up (va_up (va_up (va_up (fun _ => none) 0 (some s0)) 1 (some s1)) 2 (some s2)) 3 (some s3))))))), (s0, .inr (5, [.ref e0, .int 0, .int 0, .int 0])), (s1, .inr (5, [.ref e1, .int 0, .int 0, .int 0])), (s2, .inr (5, [.ref e2, .int 0, .int 0, .int 0])), (s3, .inr (5, [.ref e3, .int 0, .int 0, .int 0]))]) (w1 := []) hP hD [0] [1, 2, 3, 4, 5] rfl rfl (by decide) (by decide) hk1 hFc kP0 kDn
            generalize H1 = H at hP hS ⊢
            have hP : va_P D vwCl [(sh, .inl (cS, 4, .inr (.inr (.inr (.inr (va_up (va_up (va_up (va_up (fun _ => none) 0 (some s0)) 1 (some s1)) 2 (some s2)) 3 (some s3))))))), (s0, .inr (5, [.ref e0, .int 0, .int 0, .int 0])), (s1, .inr (5, [.ref e1, .int 0, .int 0, .int 0])), (s2, .inr (5, [.ref e2, .int 0, .int 0, .int 0])), (s3, .inr (5, [.ref e3, .int 0, .int 0, .int 0]))] H := hP
            have hD : va_D A [(sh, .inl (cS, 4, .inr (.inr (.inr (.inr (va_up (va_up (va_up (va_up (fun _ => none) 0 (some s0)) 1 (some s1)) 2 (some s2)) 3 (some s3))))))), (s0, .inr (5, [.ref e0, .int 0, .int 0, .int 0])), (s1, .inr (5, [.ref e1, .int 0, .int 0, .int 0])), (s2, .inr (5, [.ref e2, .int 0, .int 0, .int 0])), (s3, .inr (5, [.ref e3, .int 0, .int 0, .int 0]))] := hD
            refine kn_i ((-10) - 1) hw ?_
            refine kn_i (-11) (by decide) ?_
            exact W.iret (v := (-11)) hx hb hr (fun t ht hW => kQi_of (by first | rfl | (simp only [sp_day, if_pos k_2, if_pos k_5, if_pos k_8, if_pos k_10]; done) | (simp [sp_day, k_2, k_5, k_8, k_10]; done)) (hS.F ht)) hS.2.2 dX8_day_75
          · subst e9
            refine kn_v (.ref s3) rfl ?_
            refine lv_astore (lv' := [(6, .ref s3), (0, .ref h0), (1, .int 3), (2, .int n), (3, .int i), (4, .int z), (5, .int w)]) hx hb dX8_day_49 hl (by decide) rfl (fun ls hl => ?_)
            refine lv_aload hx hb dX8_day_51 (lv_at hl 0 rfl) ?_
            refine lv_iload_n hx hb dX8_day_53 rfl (lv_at hl 3 rfl) ?_
            refine lv_iload_n hx hb dX8_day_54 rfl (lv_at hl 4 rfl) ?_
            refine lv_iconst (v := 2) hx hb dX8_day_55 (by decide) ?_
            refine lv_iload hx hb dX8_day_56 (lv_at hl 5 rfl) ?_
            refine lv_imul hx hb dX8_day_58 ?_
            refine k_callR (va_runS (As := [.ref s3, .int n, .int i, .int (2 * z)]) (rest := []) ⟨hx, hb, hml, hown, hts⟩ (c_X8_faultOfCells l D H.size (ro := s3) (la := n) (i := i) (n := (2 * z)) (e0 := e3) (ln := 0) (sz0 := 0)) (va_cwS 4 hts gX8_day_X8_faultOfCells rfl rfl rfl (by decide +kernel) ⟨Nat.le_of_ble_eq_true rfl, Nat.le_of_ble_eq_true rfl⟩) (kPreS hP (kD0 hD) hK hN [5] [] rfl rfl (by decide)) rfl rfl hl.1 rfl (lv_room (Nat.le_of_ble_eq_true rfl)) dX8_day_59 ⟨Nat.le_of_ble_eq_true rfl, Nat.le_of_ble_eq_true rfl⟩) ?_
            refine lv_istore (lv' := [(7, .int 1), (6, .ref s3), (0, .ref h0), (1, .int 3), (2, .int n), (3, .int i), (4, .int z), (5, .int w)]) hx hb dX8_day_62 hl (by decide) rfl (fun ls hl => ?_)
            refine lv_iload hx hb dX8_day_64 (lv_at hl 0 rfl) ?_
            refine lv_if_eq (tgt := 76) hx hb dX8_day_66 (by decide) (fun c9 => absurd c9 (by decide)) (fun _ => ?_)
            refine lv_aload_n hx hb dX8_day_69 rfl (lv_at hl 2 rfl) ?_
            refine lv_iload hx hb dX8_day_70 (lv_at hl 0 rfl) ?_
            have hFc := va_free (wc := [(h0, .inr (8, [.ref sh, .ref rd, .ref fr, .ref wr, .ref pf, .ref rc, .ref se, .ref rs, .ref sw, .ref sp, .ref ss, .int ew, .long wc, .int tr, .int 0]))]) hD hS hA [0] rfl
            refine va_calli (va_runV (As := [.int 1]) (rest := []) ⟨hx, hb, hml, hown, hts⟩ (c_X8_failWith l D H.size (f := 1) (h0 := h0) (sh := sh) (rd := rd) (fr := fr) (wr := wr) (pf := pf) (rc := rc) (se := se) (rs := rs) (sw := sw) (sp := sp) (ss := ss) (ew := ew) (wc := wc) (tr := tr) (lf := 0)) (cwV 1 hts gX8_day_X8_failWith rfl rfl rfl (by decide +kernel) ⟨Nat.le_of_ble_eq_true rfl, Nat.le_of_ble_eq_true rfl⟩) (kPreV hP (kD0 hD) hK hN [0] [] rfl rfl (by decide) 0 8 rfl rfl) rfl rfl hl.1 rfl (lv_room (Nat.le_of_ble_eq_true rfl)) dX8_day_72 ⟨Nat.le_of_ble_eq_true rfl, Nat.le_of_ble_eq_true rfl⟩) hS (fun q _ h => hFc q h) hFc (fun r_14 u t H1 locs ht hvm hw hB hz1 hk1 hS => ?_)
            obtain ⟨hP, hD⟩ := va_join (wr := [(sh, .inl (cS, 4, .inr (.inr (.inr (.inr (va_up (va_up (va_up (va_up (fun _ => none) 0 (some s0)) 1 (some s1)) 2 (some s2)) 3 (some s3))))))), (s0, .inr (5, [.ref e0, .int 0, .int 0, .int 0])), (s1, .inr (5, [.ref e1, .int 0, .int 0, .int 0])), (s2, .inr (5, [.ref e2, .int 0, .int 0, .int 0])), (s3, .inr (5, [.ref e3, .int 0, .int 0, .int 0]))]) (w1 := []) hP hD [0] [1, 2, 3, 4, 5] rfl rfl (by decide) (by decide) hk1 hFc kP0 kDn
            generalize H1 = H at hP hS ⊢
            have hP : va_P D vwCl [(sh, .inl (cS, 4, .inr (.inr (.inr (.inr (va_up (va_up (va_up (va_up (fun _ => none) 0 (some s0)) 1 (some s1)) 2 (some s2)) 3 (some s3))))))), (s0, .inr (5, [.ref e0, .int 0, .int 0, .int 0])), (s1, .inr (5, [.ref e1, .int 0, .int 0, .int 0])), (s2, .inr (5, [.ref e2, .int 0, .int 0, .int 0])), (s3, .inr (5, [.ref e3, .int 0, .int 0, .int 0]))] H := hP
            have hD : va_D A [(sh, .inl (cS, 4, .inr (.inr (.inr (.inr (va_up (va_up (va_up (va_up (fun _ => none) 0 (some s0)) 1 (some s1)) 2 (some s2)) 3 (some s3))))))), (s0, .inr (5, [.ref e0, .int 0, .int 0, .int 0])), (s1, .inr (5, [.ref e1, .int 0, .int 0, .int 0])), (s2, .inr (5, [.ref e2, .int 0, .int 0, .int 0])), (s3, .inr (5, [.ref e3, .int 0, .int 0, .int 0]))] := hD
            refine kn_i ((-10) - 1) hw ?_
            refine kn_i (-11) (by decide) ?_
            exact W.iret (v := (-11)) hx hb hr (fun t ht hW => kQi_of (by first | rfl | (simp only [sp_day, if_pos k_2, if_pos k_5, if_pos k_8, if_pos k_10]; done) | (simp [sp_day, k_2, k_5, k_8, k_10]; done)) (hS.F ht)) hS.2.2 dX8_day_75
        · have k_15 : ¬ ((0 ≤ w ∧ w ≤ 4) ∨ (10 ≤ w ∧ w ≤ 13)) := b01f c_9
          refine lv_bipush (v := (-2)) hx hb dX8_day_40 (by decide) ?_
          exact W.iret (v := (-2)) hx hb hr (fun t ht hW => kQi_of (by first | rfl | (simp only [sp_day, if_pos k_2, if_pos k_5, if_pos k_8, if_neg k_15]; done) | (simp [sp_day, k_2, k_5, k_8, k_15]; done)) (hS.F ht)) hS.2.2 dX8_day_42
  · have k_16 : ¬ ((0 ≤ k ∧ k ≤ 3)) := b01f c_1
    refine lv_iconst (v := (-1)) hx hb dX8_day_12 (by decide) ?_
    exact W.iret (v := (-1)) hx hb hr (fun t ht hW => kQi_of (by first | rfl | (simp only [sp_day, if_neg k_16]; done) | (simp [sp_day, k_16]; done)) (hS.F ht)) hS.2.2 dX8_day_13
theorem dX8_ofFont_0 : decode cX8_ofFont 0 = .ok (.aload_n 0, 1) := by decide +kernel
theorem dX8_ofFont_1 : decode cX8_ofFont 1 = .ok (.getfield 28, 3) := by decide +kernel
theorem dX8_ofFont_4 : decode cX8_ofFont 4 = .ok (.iload_n 1, 1) := by decide +kernel
theorem dX8_ofFont_5 : decode cX8_ofFont 5 = .ok (.invokevirtual 109, 3) := by decide +kernel
theorem dX8_ofFont_8 : decode cX8_ofFont 8 = .ok (.ifCond .ne 5, 3) := by decide +kernel
theorem dX8_ofFont_11 : decode cX8_ofFont 11 = .ok (.iconst (-1), 1) := by decide +kernel
theorem dX8_ofFont_12 : decode cX8_ofFont 12 = .ok (.ireturn, 1) := by decide +kernel
set_option maxRecDepth 20000 in
theorem ggX8_ofFont_X0_isFont : GoodIn wsX8_ofFont wsX0_isFont := goodIn_r _ [10, 11, 12, 13, 14, 46, 47, 48, 49] (by decide +kernel) (by decide +kernel)
set_option maxRecDepth 20000 in
theorem gX8_ofFont_X0_isFont : GoodIn wsX8_ofFont (wsV RX8 109 RX0 yX0_isFont wsX0_isFont) := goodIn_app (goodIn_of _ (by decide +kernel)) ggX8_ofFont_X0_isFont
set_option maxHeartbeats 4000000 in
set_option maxRecDepth 100000 in
theorem c_X8_ofFont (l : Launch) (D : va_G) (sz : Nat) (f : Int32) (w : Int32) (h0 : Nat) (sh : Nat) (rd : Nat) (fr : Nat) (wr : Nat) (pf : Nat) (rc : Nat) (se : Nat) (rs : Nat) (sw : Nat) (sp : Nat) (ss : Nat) (ew : Int32) (wc : Int64) (tr : Int32) (lf : Int32) (k1 : Nat) (k2 : Nat) (k3 : Nat) : Met l yX8_ofFont wsX8_ofFont ({ frames := 2, cells := 0, slots := 0, locals := 43 }) (kPre [.ref h0, .int f, .int w] D [(h0, .inr (8, [.ref sh, .ref rd, .ref fr, .ref wr, .ref pf, .ref rc, .ref se, .ref rs, .ref sw, .ref sp, .ref ss, .int ew, .long wc, .int tr, .int lf])), (fr, .inr (0, [.ref k1, .ref k2, .ref k3, .int 0]))] [] sz) (QcRead (-1)) 0 0 (fun _ => False) := by
  refine Met.ofW (cc := cX8_ofFont) (maxL := 3) (ret := (some .int)) (by decide) rfl ?_
  intro p e s m args below meth c s₁ B hml hv
  obtain ⟨rfl, hsz, hP, hK, hD0, hN⟩ := hv
  have hx := B.exec
  have hb := B.bytes
  have hr := B.returns
  have hts := atoms_spec (ws := wsX8_ofFont) B.pre
  have hown : s.vm.findClass RX8 = some m.cls := findClass_of_methodNamed B.named
  have hlocks := B.notSynchronized
  subst hsz
  have hD := hD0
  have hP : va_P D vwCl [(h0, .inr (8, [.ref sh, .ref rd, .ref fr, .ref wr, .ref pf, .ref rc, .ref se, .ref rs, .ref sw, .ref sp, .ref ss, .int ew, .long wc, .int tr, .int lf])), (fr, .inr (0, [.ref k1, .ref k2, .ref k3, .int 0]))] s.heap := hP
  have hl := lv_entry ([.ref h0, .int f, .int w]) (n := 3) (Nat.le_of_ble_eq_true rfl)
  rw [lg_entry_eq]
  generalize (lg_sl ([.ref h0, .int f, .int w]) ++ List.replicate (3 - (lg_sl ([.ref h0, .int f, .int w])).length) Slot.unset).toArray = ls at hl ⊢
  have hl : lv_has ls 3 [(0, .ref h0), (1, .int f), (2, .int w)] := hl
  refine lv_aload_n hx hb dX8_ofFont_0 rfl (lv_at hl 0 rfl) ?_
  refine va_get (D := D) (ci := 8) (v := .ref fr) (C := RX8) (T := TX8) (N := 15) hx hb hts (fun _ h9 => List.mem_cons_of_mem _ (List.mem_append_left _ (List.mem_append_left _ (List.mem_append_right _ h9)))) hown hK hP 0 rfl rfl 2 (by decide) (hts (.fieldLink RX8 28 "FontRuns" "fontRow" "LFontRuns$FontRow;") (by decide +kernel)) (fun _ h9 => h9) rfl dX8_ofFont_1 ?_
  refine lv_iload_n hx hb dX8_ofFont_4 rfl (lv_at hl 1 rfl) ?_
  refine k_callR (va_runV (As := [.int f]) (rest := []) ⟨hx, hb, hml, hown, hts⟩ (c_X0_isFont l D s.heap.size (f := f) (h0 := fr) (k1 := k1) (k2 := k2) (k3 := k3) (n := 0)) (cwV 1 hts gX8_ofFont_X0_isFont rfl rfl rfl (by decide +kernel) ⟨Nat.le_of_ble_eq_true rfl, Nat.le_of_ble_eq_true rfl⟩) (kPreV hP (kD0 hD) hK hN [1] [] rfl rfl (by decide) 1 0 rfl rfl) rfl rfl hl.1 rfl (lv_room (Nat.le_of_ble_eq_true rfl)) dX8_ofFont_5 ⟨Nat.le_of_ble_eq_true rfl, Nat.le_of_ble_eq_true rfl⟩) ?_
  refine kn_i 0 (if_neg kno') ?_
  refine lv_if_ne (tgt := 13) hx hb dX8_ofFont_8 (by decide) (fun c9 => absurd (by decide) c9) (fun _ => ?_)
  refine lv_iconst (v := (-1)) hx hb dX8_ofFont_11 (by decide) ?_
  exact W.iret (v := (-1)) hx hb hr (fun t ht hW => kRd rfl ht) (fun _ h9 => by cases h9) dX8_ofFont_12
theorem dX8_width_0 : decode cX8_width 0 = .ok (.aload_n 0, 1) := by decide +kernel
theorem dX8_width_1 : decode cX8_width 1 = .ok (.getfield 28, 3) := by decide +kernel
theorem dX8_width_4 : decode cX8_width 4 = .ok (.iload_n 1, 1) := by decide +kernel
theorem dX8_width_5 : decode cX8_width 5 = .ok (.invokevirtual 109, 3) := by decide +kernel
theorem dX8_width_8 : decode cX8_width 8 = .ok (.ifCond .ne 5, 3) := by decide +kernel
theorem dX8_width_11 : decode cX8_width 11 = .ok (.iconst (-1), 1) := by decide +kernel
theorem dX8_width_12 : decode cX8_width 12 = .ok (.ireturn, 1) := by decide +kernel
set_option maxRecDepth 20000 in
theorem ggX8_width_X0_isFont : GoodIn wsX8_width wsX0_isFont := goodIn_r _ [7, 8, 9, 10, 11, 28, 29, 30, 31] (by decide +kernel) (by decide +kernel)
set_option maxRecDepth 20000 in
theorem gX8_width_X0_isFont : GoodIn wsX8_width (wsV RX8 109 RX0 yX0_isFont wsX0_isFont) := goodIn_app (goodIn_of _ (by decide +kernel)) ggX8_width_X0_isFont
set_option maxHeartbeats 4000000 in
set_option maxRecDepth 100000 in
theorem c_X8_width (l : Launch) (D : va_G) (sz : Nat) (f : Int32) (w : Int32) (h0 : Nat) (sh : Nat) (rd : Nat) (fr : Nat) (wr : Nat) (pf : Nat) (rc : Nat) (se : Nat) (rs : Nat) (sw : Nat) (sp : Nat) (ss : Nat) (ew : Int32) (wc : Int64) (tr : Int32) (lf : Int32) (k1 : Nat) (k2 : Nat) (k3 : Nat) : Met l yX8_width wsX8_width ({ frames := 2, cells := 0, slots := 0, locals := 43 }) (kPre [.ref h0, .int f, .int w] D [(h0, .inr (8, [.ref sh, .ref rd, .ref fr, .ref wr, .ref pf, .ref rc, .ref se, .ref rs, .ref sw, .ref sp, .ref ss, .int ew, .long wc, .int tr, .int lf])), (fr, .inr (0, [.ref k1, .ref k2, .ref k3, .int 0]))] [] sz) (QcRead (-1)) 0 0 (fun _ => False) := by
  refine Met.ofW (cc := cX8_width) (maxL := 4) (ret := (some .int)) (by decide) rfl ?_
  intro p e s m args below meth c s₁ B hml hv
  obtain ⟨rfl, hsz, hP, hK, hD0, hN⟩ := hv
  have hx := B.exec
  have hb := B.bytes
  have hr := B.returns
  have hts := atoms_spec (ws := wsX8_width) B.pre
  have hown : s.vm.findClass RX8 = some m.cls := findClass_of_methodNamed B.named
  have hlocks := B.notSynchronized
  subst hsz
  have hD := hD0
  have hP : va_P D vwCl [(h0, .inr (8, [.ref sh, .ref rd, .ref fr, .ref wr, .ref pf, .ref rc, .ref se, .ref rs, .ref sw, .ref sp, .ref ss, .int ew, .long wc, .int tr, .int lf])), (fr, .inr (0, [.ref k1, .ref k2, .ref k3, .int 0]))] s.heap := hP
  have hl := lv_entry ([.ref h0, .int f, .int w]) (n := 4) (Nat.le_of_ble_eq_true rfl)
  rw [lg_entry_eq]
  generalize (lg_sl ([.ref h0, .int f, .int w]) ++ List.replicate (4 - (lg_sl ([.ref h0, .int f, .int w])).length) Slot.unset).toArray = ls at hl ⊢
  have hl : lv_has ls 4 [(0, .ref h0), (1, .int f), (2, .int w)] := hl
  refine lv_aload_n hx hb dX8_width_0 rfl (lv_at hl 0 rfl) ?_
  refine va_get (D := D) (ci := 8) (v := .ref fr) (C := RX8) (T := TX8) (N := 15) hx hb hts (fun _ h9 => List.mem_cons_of_mem _ (List.mem_append_left _ (List.mem_append_right _ h9))) hown hK hP 0 rfl rfl 2 (by decide) (hts (.fieldLink RX8 28 "FontRuns" "fontRow" "LFontRuns$FontRow;") (by decide +kernel)) (fun _ h9 => h9) rfl dX8_width_1 ?_
  refine lv_iload_n hx hb dX8_width_4 rfl (lv_at hl 1 rfl) ?_
  refine k_callR (va_runV (As := [.int f]) (rest := []) ⟨hx, hb, hml, hown, hts⟩ (c_X0_isFont l D s.heap.size (f := f) (h0 := fr) (k1 := k1) (k2 := k2) (k3 := k3) (n := 0)) (cwV 1 hts gX8_width_X0_isFont rfl rfl rfl (by decide +kernel) ⟨Nat.le_of_ble_eq_true rfl, Nat.le_of_ble_eq_true rfl⟩) (kPreV hP (kD0 hD) hK hN [1] [] rfl rfl (by decide) 1 0 rfl rfl) rfl rfl hl.1 rfl (lv_room (Nat.le_of_ble_eq_true rfl)) dX8_width_5 ⟨Nat.le_of_ble_eq_true rfl, Nat.le_of_ble_eq_true rfl⟩) ?_
  refine kn_i 0 (if_neg kno') ?_
  refine lv_if_ne (tgt := 13) hx hb dX8_width_8 (by decide) (fun c9 => absurd (by decide) c9) (fun _ => ?_)
  refine lv_iconst (v := (-1)) hx hb dX8_width_11 (by decide) ?_
  exact W.iret (v := (-1)) hx hb hr (fun t ht hW => kRd rfl ht) (fun _ h9 => by cases h9) dX8_width_12
theorem dX8_prefer_0 : decode cX8_prefer 0 = .ok (.aload_n 0, 1) := by decide +kernel
theorem dX8_prefer_1 : decode cX8_prefer 1 = .ok (.getfield 28, 3) := by decide +kernel
theorem dX8_prefer_4 : decode cX8_prefer 4 = .ok (.iload_n 1, 1) := by decide +kernel
theorem dX8_prefer_5 : decode cX8_prefer 5 = .ok (.invokevirtual 109, 3) := by decide +kernel
theorem dX8_prefer_8 : decode cX8_prefer 8 = .ok (.ifCond .ne 5, 3) := by decide +kernel
theorem dX8_prefer_11 : decode cX8_prefer 11 = .ok (.iconst (-1), 1) := by decide +kernel
theorem dX8_prefer_12 : decode cX8_prefer 12 = .ok (.ireturn, 1) := by decide +kernel
set_option maxRecDepth 20000 in
theorem ggX8_prefer_X0_isFont : GoodIn wsX8_prefer wsX0_isFont := goodIn_r _ [8, 9, 10, 11, 12, 106, 107, 108, 109] (by decide +kernel) (by decide +kernel)
set_option maxRecDepth 20000 in
theorem gX8_prefer_X0_isFont : GoodIn wsX8_prefer (wsV RX8 109 RX0 yX0_isFont wsX0_isFont) := goodIn_app (goodIn_of _ (by decide +kernel)) ggX8_prefer_X0_isFont
set_option maxHeartbeats 4000000 in
set_option maxRecDepth 100000 in
theorem c_X8_prefer (l : Launch) (D : va_G) (sz : Nat) (f : Int32) (h0 : Nat) (sh : Nat) (rd : Nat) (fr : Nat) (wr : Nat) (pf : Nat) (rc : Nat) (se : Nat) (rs : Nat) (sw : Nat) (sp : Nat) (ss : Nat) (ew : Int32) (wc : Int64) (tr : Int32) (lf : Int32) (k1 : Nat) (k2 : Nat) (k3 : Nat) : Met l yX8_prefer wsX8_prefer ({ frames := 2, cells := 0, slots := 0, locals := 43 }) (kPre [.ref h0, .int f] D [(h0, .inr (8, [.ref sh, .ref rd, .ref fr, .ref wr, .ref pf, .ref rc, .ref se, .ref rs, .ref sw, .ref sp, .ref ss, .int ew, .long wc, .int tr, .int lf])), (fr, .inr (0, [.ref k1, .ref k2, .ref k3, .int 0]))] [] sz) (QcRead (-1)) 0 0 (fun _ => False) := by
  refine Met.ofW (cc := cX8_prefer) (maxL := 3) (ret := (some .int)) (by decide) rfl ?_
  intro p e s m args below meth c s₁ B hml hv
  obtain ⟨rfl, hsz, hP, hK, hD0, hN⟩ := hv
  have hx := B.exec
  have hb := B.bytes
  have hr := B.returns
  have hts := atoms_spec (ws := wsX8_prefer) B.pre
  have hown : s.vm.findClass RX8 = some m.cls := findClass_of_methodNamed B.named
  have hlocks := B.notSynchronized
  subst hsz
  have hD := hD0
  have hP : va_P D vwCl [(h0, .inr (8, [.ref sh, .ref rd, .ref fr, .ref wr, .ref pf, .ref rc, .ref se, .ref rs, .ref sw, .ref sp, .ref ss, .int ew, .long wc, .int tr, .int lf])), (fr, .inr (0, [.ref k1, .ref k2, .ref k3, .int 0]))] s.heap := hP
  have hl := lv_entry ([.ref h0, .int f]) (n := 3) (Nat.le_of_ble_eq_true rfl)
  rw [lg_entry_eq]
  generalize (lg_sl ([.ref h0, .int f]) ++ List.replicate (3 - (lg_sl ([.ref h0, .int f])).length) Slot.unset).toArray = ls at hl ⊢
  have hl : lv_has ls 3 [(0, .ref h0), (1, .int f)] := hl
  refine lv_aload_n hx hb dX8_prefer_0 rfl (lv_at hl 0 rfl) ?_
  refine va_get (D := D) (ci := 8) (v := .ref fr) (C := RX8) (T := TX8) (N := 15) hx hb hts (fun _ h9 => List.mem_cons_of_mem _ (List.mem_append_left _ (List.mem_append_left _ (List.mem_append_left _ (List.mem_append_left _ (List.mem_append_left _ (List.mem_append_right _ h9))))))) hown hK hP 0 rfl rfl 2 (by decide) (hts (.fieldLink RX8 28 "FontRuns" "fontRow" "LFontRuns$FontRow;") (by decide +kernel)) (fun _ h9 => h9) rfl dX8_prefer_1 ?_
  refine lv_iload_n hx hb dX8_prefer_4 rfl (lv_at hl 1 rfl) ?_
  refine k_callR (va_runV (As := [.int f]) (rest := []) ⟨hx, hb, hml, hown, hts⟩ (c_X0_isFont l D s.heap.size (f := f) (h0 := fr) (k1 := k1) (k2 := k2) (k3 := k3) (n := 0)) (cwV 1 hts gX8_prefer_X0_isFont rfl rfl rfl (by decide +kernel) ⟨Nat.le_of_ble_eq_true rfl, Nat.le_of_ble_eq_true rfl⟩) (kPreV hP (kD0 hD) hK hN [1] [] rfl rfl (by decide) 1 0 rfl rfl) rfl rfl hl.1 rfl (lv_room (Nat.le_of_ble_eq_true rfl)) dX8_prefer_5 ⟨Nat.le_of_ble_eq_true rfl, Nat.le_of_ble_eq_true rfl⟩) ?_
  refine kn_i 0 (if_neg kno') ?_
  refine lv_if_ne (tgt := 13) hx hb dX8_prefer_8 (by decide) (fun c9 => absurd (by decide) c9) (fun _ => ?_)
  refine lv_iconst (v := (-1)) hx hb dX8_prefer_11 (by decide) ?_
  exact W.iret (v := (-1)) hx hb hr (fun t ht hW => kRd rfl ht) (fun _ h9 => by cases h9) dX8_prefer_12
theorem dX8_without_0 : decode cX8_without 0 = .ok (.aload_n 0, 1) := by decide +kernel
theorem dX8_without_1 : decode cX8_without 1 = .ok (.getfield 28, 3) := by decide +kernel
theorem dX8_without_4 : decode cX8_without 4 = .ok (.iload_n 1, 1) := by decide +kernel
theorem dX8_without_5 : decode cX8_without 5 = .ok (.invokevirtual 109, 3) := by decide +kernel
theorem dX8_without_8 : decode cX8_without 8 = .ok (.ifCond .ne 5, 3) := by decide +kernel
theorem dX8_without_11 : decode cX8_without 11 = .ok (.iconst (-1), 1) := by decide +kernel
theorem dX8_without_12 : decode cX8_without 12 = .ok (.ireturn, 1) := by decide +kernel
set_option maxRecDepth 20000 in
theorem ggX8_without_X0_isFont : GoodIn wsX8_without wsX0_isFont := goodIn_r _ [10, 11, 12, 13, 14, 89, 90, 91, 92] (by decide +kernel) (by decide +kernel)
set_option maxRecDepth 20000 in
theorem gX8_without_X0_isFont : GoodIn wsX8_without (wsV RX8 109 RX0 yX0_isFont wsX0_isFont) := goodIn_app (goodIn_of _ (by decide +kernel)) ggX8_without_X0_isFont
set_option maxHeartbeats 4000000 in
set_option maxRecDepth 100000 in
theorem c_X8_without (l : Launch) (D : va_G) (sz : Nat) (f : Int32) (h0 : Nat) (sh : Nat) (rd : Nat) (fr : Nat) (wr : Nat) (pf : Nat) (rc : Nat) (se : Nat) (rs : Nat) (sw : Nat) (sp : Nat) (ss : Nat) (ew : Int32) (wc : Int64) (tr : Int32) (lf : Int32) (k1 : Nat) (k2 : Nat) (k3 : Nat) : Met l yX8_without wsX8_without ({ frames := 2, cells := 0, slots := 0, locals := 43 }) (kPre [.ref h0, .int f] D [(h0, .inr (8, [.ref sh, .ref rd, .ref fr, .ref wr, .ref pf, .ref rc, .ref se, .ref rs, .ref sw, .ref sp, .ref ss, .int ew, .long wc, .int tr, .int lf])), (fr, .inr (0, [.ref k1, .ref k2, .ref k3, .int 0]))] [] sz) (QcRead (-1)) 0 0 (fun _ => False) := by
  refine Met.ofW (cc := cX8_without) (maxL := 2) (ret := (some .int)) (by decide) rfl ?_
  intro p e s m args below meth c s₁ B hml hv
  obtain ⟨rfl, hsz, hP, hK, hD0, hN⟩ := hv
  have hx := B.exec
  have hb := B.bytes
  have hr := B.returns
  have hts := atoms_spec (ws := wsX8_without) B.pre
  have hown : s.vm.findClass RX8 = some m.cls := findClass_of_methodNamed B.named
  have hlocks := B.notSynchronized
  subst hsz
  have hD := hD0
  have hP : va_P D vwCl [(h0, .inr (8, [.ref sh, .ref rd, .ref fr, .ref wr, .ref pf, .ref rc, .ref se, .ref rs, .ref sw, .ref sp, .ref ss, .int ew, .long wc, .int tr, .int lf])), (fr, .inr (0, [.ref k1, .ref k2, .ref k3, .int 0]))] s.heap := hP
  have hl := lv_entry ([.ref h0, .int f]) (n := 2) (Nat.le_of_ble_eq_true rfl)
  rw [lg_entry_eq]
  generalize (lg_sl ([.ref h0, .int f]) ++ List.replicate (2 - (lg_sl ([.ref h0, .int f])).length) Slot.unset).toArray = ls at hl ⊢
  have hl : lv_has ls 2 [(0, .ref h0), (1, .int f)] := hl
  refine lv_aload_n hx hb dX8_without_0 rfl (lv_at hl 0 rfl) ?_
  refine va_get (D := D) (ci := 8) (v := .ref fr) (C := RX8) (T := TX8) (N := 15) hx hb hts (fun _ h9 => List.mem_cons_of_mem _ (List.mem_append_left _ (List.mem_append_left _ (List.mem_append_left _ (List.mem_append_left _ (List.mem_append_right _ h9)))))) hown hK hP 0 rfl rfl 2 (by decide) (hts (.fieldLink RX8 28 "FontRuns" "fontRow" "LFontRuns$FontRow;") (by decide +kernel)) (fun _ h9 => h9) rfl dX8_without_1 ?_
  refine lv_iload_n hx hb dX8_without_4 rfl (lv_at hl 1 rfl) ?_
  refine k_callR (va_runV (As := [.int f]) (rest := []) ⟨hx, hb, hml, hown, hts⟩ (c_X0_isFont l D s.heap.size (f := f) (h0 := fr) (k1 := k1) (k2 := k2) (k3 := k3) (n := 0)) (cwV 1 hts gX8_without_X0_isFont rfl rfl rfl (by decide +kernel) ⟨Nat.le_of_ble_eq_true rfl, Nat.le_of_ble_eq_true rfl⟩) (kPreV hP (kD0 hD) hK hN [1] [] rfl rfl (by decide) 1 0 rfl rfl) rfl rfl hl.1 rfl (lv_room (Nat.le_of_ble_eq_true rfl)) dX8_without_5 ⟨Nat.le_of_ble_eq_true rfl, Nat.le_of_ble_eq_true rfl⟩) ?_
  refine kn_i 0 (if_neg kno') ?_
  refine lv_if_ne (tgt := 13) hx hb dX8_without_8 (by decide) (fun c9 => absurd (by decide) c9) (fun _ => ?_)
  refine lv_iconst (v := (-1)) hx hb dX8_without_11 (by decide) ?_
  exact W.iret (v := (-1)) hx hb hr (fun t ht hW => kRd rfl ht) (fun _ h9 => by cases h9) dX8_without_12
theorem dX8_kinds_0 : decode cX8_kinds 0 = .ok (.aload_n 0, 1) := by decide +kernel
theorem dX8_kinds_1 : decode cX8_kinds 1 = .ok (.getfield 28, 3) := by decide +kernel
theorem dX8_kinds_4 : decode cX8_kinds 4 = .ok (.iload_n 1, 1) := by decide +kernel
theorem dX8_kinds_5 : decode cX8_kinds 5 = .ok (.invokevirtual 109, 3) := by decide +kernel
theorem dX8_kinds_8 : decode cX8_kinds 8 = .ok (.ifCond .ne 5, 3) := by decide +kernel
theorem dX8_kinds_11 : decode cX8_kinds 11 = .ok (.iconst (-1), 1) := by decide +kernel
theorem dX8_kinds_12 : decode cX8_kinds 12 = .ok (.ireturn, 1) := by decide +kernel
set_option maxRecDepth 20000 in
theorem ggX8_kinds_X0_isFont : GoodIn wsX8_kinds wsX0_isFont := goodIn_r _ [8, 9, 10, 11, 12, 47, 48, 49, 50] (by decide +kernel) (by decide +kernel)
set_option maxRecDepth 20000 in
theorem gX8_kinds_X0_isFont : GoodIn wsX8_kinds (wsV RX8 109 RX0 yX0_isFont wsX0_isFont) := goodIn_app (goodIn_of _ (by decide +kernel)) ggX8_kinds_X0_isFont
set_option maxHeartbeats 4000000 in
set_option maxRecDepth 100000 in
theorem c_X8_kinds (l : Launch) (D : va_G) (sz : Nat) (f : Int32) (h0 : Nat) (sh : Nat) (rd : Nat) (fr : Nat) (wr : Nat) (pf : Nat) (rc : Nat) (se : Nat) (rs : Nat) (sw : Nat) (sp : Nat) (ss : Nat) (ew : Int32) (wc : Int64) (tr : Int32) (lf : Int32) (k1 : Nat) (k2 : Nat) (k3 : Nat) : Met l yX8_kinds wsX8_kinds ({ frames := 2, cells := 0, slots := 0, locals := 43 }) (kPre [.ref h0, .int f] D [(h0, .inr (8, [.ref sh, .ref rd, .ref fr, .ref wr, .ref pf, .ref rc, .ref se, .ref rs, .ref sw, .ref sp, .ref ss, .int ew, .long wc, .int tr, .int lf])), (fr, .inr (0, [.ref k1, .ref k2, .ref k3, .int 0]))] [] sz) (QcRead (-1)) 0 0 (fun _ => False) := by
  refine Met.ofW (cc := cX8_kinds) (maxL := 4) (ret := (some .int)) (by decide) rfl ?_
  intro p e s m args below meth c s₁ B hml hv
  obtain ⟨rfl, hsz, hP, hK, hD0, hN⟩ := hv
  have hx := B.exec
  have hb := B.bytes
  have hr := B.returns
  have hts := atoms_spec (ws := wsX8_kinds) B.pre
  have hown : s.vm.findClass RX8 = some m.cls := findClass_of_methodNamed B.named
  have hlocks := B.notSynchronized
  subst hsz
  have hD := hD0
  have hP : va_P D vwCl [(h0, .inr (8, [.ref sh, .ref rd, .ref fr, .ref wr, .ref pf, .ref rc, .ref se, .ref rs, .ref sw, .ref sp, .ref ss, .int ew, .long wc, .int tr, .int lf])), (fr, .inr (0, [.ref k1, .ref k2, .ref k3, .int 0]))] s.heap := hP
  have hl := lv_entry ([.ref h0, .int f]) (n := 4) (Nat.le_of_ble_eq_true rfl)
  rw [lg_entry_eq]
  generalize (lg_sl ([.ref h0, .int f]) ++ List.replicate (4 - (lg_sl ([.ref h0, .int f])).length) Slot.unset).toArray = ls at hl ⊢
  have hl : lv_has ls 4 [(0, .ref h0), (1, .int f)] := hl
  refine lv_aload_n hx hb dX8_kinds_0 rfl (lv_at hl 0 rfl) ?_
  refine va_get (D := D) (ci := 8) (v := .ref fr) (C := RX8) (T := TX8) (N := 15) hx hb hts (fun _ h9 => List.mem_cons_of_mem _ (List.mem_append_left _ (List.mem_append_left _ (List.mem_append_right _ h9)))) hown hK hP 0 rfl rfl 2 (by decide) (hts (.fieldLink RX8 28 "FontRuns" "fontRow" "LFontRuns$FontRow;") (by decide +kernel)) (fun _ h9 => h9) rfl dX8_kinds_1 ?_
  refine lv_iload_n hx hb dX8_kinds_4 rfl (lv_at hl 1 rfl) ?_
  refine k_callR (va_runV (As := [.int f]) (rest := []) ⟨hx, hb, hml, hown, hts⟩ (c_X0_isFont l D s.heap.size (f := f) (h0 := fr) (k1 := k1) (k2 := k2) (k3 := k3) (n := 0)) (cwV 1 hts gX8_kinds_X0_isFont rfl rfl rfl (by decide +kernel) ⟨Nat.le_of_ble_eq_true rfl, Nat.le_of_ble_eq_true rfl⟩) (kPreV hP (kD0 hD) hK hN [1] [] rfl rfl (by decide) 1 0 rfl rfl) rfl rfl hl.1 rfl (lv_room (Nat.le_of_ble_eq_true rfl)) dX8_kinds_5 ⟨Nat.le_of_ble_eq_true rfl, Nat.le_of_ble_eq_true rfl⟩) ?_
  refine kn_i 0 (if_neg kno') ?_
  refine lv_if_ne (tgt := 13) hx hb dX8_kinds_8 (by decide) (fun c9 => absurd (by decide) c9) (fun _ => ?_)
  refine lv_iconst (v := (-1)) hx hb dX8_kinds_11 (by decide) ?_
  exact W.iret (v := (-1)) hx hb hr (fun t ht hW => kRd rfl ht) (fun _ h9 => by cases h9) dX8_kinds_12
theorem dX8_widths_0 : decode cX8_widths 0 = .ok (.aload_n 0, 1) := by decide +kernel
theorem dX8_widths_1 : decode cX8_widths 1 = .ok (.getfield 28, 3) := by decide +kernel
theorem dX8_widths_4 : decode cX8_widths 4 = .ok (.iload_n 1, 1) := by decide +kernel
theorem dX8_widths_5 : decode cX8_widths 5 = .ok (.invokevirtual 109, 3) := by decide +kernel
theorem dX8_widths_8 : decode cX8_widths 8 = .ok (.ifCond .ne 5, 3) := by decide +kernel
theorem dX8_widths_11 : decode cX8_widths 11 = .ok (.iconst (-1), 1) := by decide +kernel
theorem dX8_widths_12 : decode cX8_widths 12 = .ok (.ireturn, 1) := by decide +kernel
set_option maxRecDepth 20000 in
theorem ggX8_widths_X0_isFont : GoodIn wsX8_widths wsX0_isFont := goodIn_r _ [8, 9, 10, 11, 12, 47, 48, 49, 50] (by decide +kernel) (by decide +kernel)
set_option maxRecDepth 20000 in
theorem gX8_widths_X0_isFont : GoodIn wsX8_widths (wsV RX8 109 RX0 yX0_isFont wsX0_isFont) := goodIn_app (goodIn_of _ (by decide +kernel)) ggX8_widths_X0_isFont
set_option maxHeartbeats 4000000 in
set_option maxRecDepth 100000 in
theorem c_X8_widths (l : Launch) (D : va_G) (sz : Nat) (f : Int32) (h0 : Nat) (sh : Nat) (rd : Nat) (fr : Nat) (wr : Nat) (pf : Nat) (rc : Nat) (se : Nat) (rs : Nat) (sw : Nat) (sp : Nat) (ss : Nat) (ew : Int32) (wc : Int64) (tr : Int32) (lf : Int32) (k1 : Nat) (k2 : Nat) (k3 : Nat) : Met l yX8_widths wsX8_widths ({ frames := 2, cells := 0, slots := 0, locals := 43 }) (kPre [.ref h0, .int f] D [(h0, .inr (8, [.ref sh, .ref rd, .ref fr, .ref wr, .ref pf, .ref rc, .ref se, .ref rs, .ref sw, .ref sp, .ref ss, .int ew, .long wc, .int tr, .int lf])), (fr, .inr (0, [.ref k1, .ref k2, .ref k3, .int 0]))] [] sz) (QcRead (-1)) 0 0 (fun _ => False) := by
  refine Met.ofW (cc := cX8_widths) (maxL := 4) (ret := (some .int)) (by decide) rfl ?_
  intro p e s m args below meth c s₁ B hml hv
  obtain ⟨rfl, hsz, hP, hK, hD0, hN⟩ := hv
  have hx := B.exec
  have hb := B.bytes
  have hr := B.returns
  have hts := atoms_spec (ws := wsX8_widths) B.pre
  have hown : s.vm.findClass RX8 = some m.cls := findClass_of_methodNamed B.named
  have hlocks := B.notSynchronized
  subst hsz
  have hD := hD0
  have hP : va_P D vwCl [(h0, .inr (8, [.ref sh, .ref rd, .ref fr, .ref wr, .ref pf, .ref rc, .ref se, .ref rs, .ref sw, .ref sp, .ref ss, .int ew, .long wc, .int tr, .int lf])), (fr, .inr (0, [.ref k1, .ref k2, .ref k3, .int 0]))] s.heap := hP
  have hl := lv_entry ([.ref h0, .int f]) (n := 4) (Nat.le_of_ble_eq_true rfl)
  rw [lg_entry_eq]
  generalize (lg_sl ([.ref h0, .int f]) ++ List.replicate (4 - (lg_sl ([.ref h0, .int f])).length) Slot.unset).toArray = ls at hl ⊢
  have hl : lv_has ls 4 [(0, .ref h0), (1, .int f)] := hl
  refine lv_aload_n hx hb dX8_widths_0 rfl (lv_at hl 0 rfl) ?_
  refine va_get (D := D) (ci := 8) (v := .ref fr) (C := RX8) (T := TX8) (N := 15) hx hb hts (fun _ h9 => List.mem_cons_of_mem _ (List.mem_append_left _ (List.mem_append_left _ (List.mem_append_right _ h9)))) hown hK hP 0 rfl rfl 2 (by decide) (hts (.fieldLink RX8 28 "FontRuns" "fontRow" "LFontRuns$FontRow;") (by decide +kernel)) (fun _ h9 => h9) rfl dX8_widths_1 ?_
  refine lv_iload_n hx hb dX8_widths_4 rfl (lv_at hl 1 rfl) ?_
  refine k_callR (va_runV (As := [.int f]) (rest := []) ⟨hx, hb, hml, hown, hts⟩ (c_X0_isFont l D s.heap.size (f := f) (h0 := fr) (k1 := k1) (k2 := k2) (k3 := k3) (n := 0)) (cwV 1 hts gX8_widths_X0_isFont rfl rfl rfl (by decide +kernel) ⟨Nat.le_of_ble_eq_true rfl, Nat.le_of_ble_eq_true rfl⟩) (kPreV hP (kD0 hD) hK hN [1] [] rfl rfl (by decide) 1 0 rfl rfl) rfl rfl hl.1 rfl (lv_room (Nat.le_of_ble_eq_true rfl)) dX8_widths_5 ⟨Nat.le_of_ble_eq_true rfl, Nat.le_of_ble_eq_true rfl⟩) ?_
  refine kn_i 0 (if_neg kno') ?_
  refine lv_if_ne (tgt := 13) hx hb dX8_widths_8 (by decide) (fun c9 => absurd (by decide) c9) (fun _ => ?_)
  refine lv_iconst (v := (-1)) hx hb dX8_widths_11 (by decide) ?_
  exact W.iret (v := (-1)) hx hb hr (fun t ht hW => kRd rfl ht) (fun _ h9 => by cases h9) dX8_widths_12
theorem dX8_tell_0 : decode cX8_tell 0 = .ok (.aload_n 0, 1) := by decide +kernel
theorem dX8_tell_1 : decode cX8_tell 1 = .ok (.getfield 28, 3) := by decide +kernel
theorem dX8_tell_4 : decode cX8_tell 4 = .ok (.iload_n 1, 1) := by decide +kernel
theorem dX8_tell_5 : decode cX8_tell 5 = .ok (.invokevirtual 109, 3) := by decide +kernel
theorem dX8_tell_8 : decode cX8_tell 8 = .ok (.ifCond .ne 5, 3) := by decide +kernel
theorem dX8_tell_11 : decode cX8_tell 11 = .ok (.iconst (-1), 1) := by decide +kernel
theorem dX8_tell_12 : decode cX8_tell 12 = .ok (.ireturn, 1) := by decide +kernel
set_option maxRecDepth 20000 in
theorem ggX8_tell_X0_isFont : GoodIn wsX8_tell wsX0_isFont := goodIn_r _ [8, 9, 10, 11, 12, 45, 46, 47, 48] (by decide +kernel) (by decide +kernel)
set_option maxRecDepth 20000 in
theorem gX8_tell_X0_isFont : GoodIn wsX8_tell (wsV RX8 109 RX0 yX0_isFont wsX0_isFont) := goodIn_app (goodIn_of _ (by decide +kernel)) ggX8_tell_X0_isFont
set_option maxHeartbeats 4000000 in
set_option maxRecDepth 100000 in
theorem c_X8_tell (l : Launch) (D : va_G) (sz : Nat) (f : Int32) (h0 : Nat) (sh : Nat) (rd : Nat) (fr : Nat) (wr : Nat) (pf : Nat) (rc : Nat) (se : Nat) (rs : Nat) (sw : Nat) (sp : Nat) (ss : Nat) (ew : Int32) (wc : Int64) (tr : Int32) (lf : Int32) (k1 : Nat) (k2 : Nat) (k3 : Nat) : Met l yX8_tell wsX8_tell ({ frames := 2, cells := 0, slots := 0, locals := 43 }) (kPre [.ref h0, .int f] D [(h0, .inr (8, [.ref sh, .ref rd, .ref fr, .ref wr, .ref pf, .ref rc, .ref se, .ref rs, .ref sw, .ref sp, .ref ss, .int ew, .long wc, .int tr, .int lf])), (fr, .inr (0, [.ref k1, .ref k2, .ref k3, .int 0]))] [] sz) (QcRead (-1)) 0 0 (fun _ => False) := by
  refine Met.ofW (cc := cX8_tell) (maxL := 3) (ret := (some .int)) (by decide) rfl ?_
  intro p e s m args below meth c s₁ B hml hv
  obtain ⟨rfl, hsz, hP, hK, hD0, hN⟩ := hv
  have hx := B.exec
  have hb := B.bytes
  have hr := B.returns
  have hts := atoms_spec (ws := wsX8_tell) B.pre
  have hown : s.vm.findClass RX8 = some m.cls := findClass_of_methodNamed B.named
  have hlocks := B.notSynchronized
  subst hsz
  have hD := hD0
  have hP : va_P D vwCl [(h0, .inr (8, [.ref sh, .ref rd, .ref fr, .ref wr, .ref pf, .ref rc, .ref se, .ref rs, .ref sw, .ref sp, .ref ss, .int ew, .long wc, .int tr, .int lf])), (fr, .inr (0, [.ref k1, .ref k2, .ref k3, .int 0]))] s.heap := hP
  have hl := lv_entry ([.ref h0, .int f]) (n := 3) (Nat.le_of_ble_eq_true rfl)
  rw [lg_entry_eq]
  generalize (lg_sl ([.ref h0, .int f]) ++ List.replicate (3 - (lg_sl ([.ref h0, .int f])).length) Slot.unset).toArray = ls at hl ⊢
  have hl : lv_has ls 3 [(0, .ref h0), (1, .int f)] := hl
  refine lv_aload_n hx hb dX8_tell_0 rfl (lv_at hl 0 rfl) ?_
  refine va_get (D := D) (ci := 8) (v := .ref fr) (C := RX8) (T := TX8) (N := 15) hx hb hts (fun _ h9 => List.mem_cons_of_mem _ (List.mem_append_left _ (List.mem_append_right _ h9))) hown hK hP 0 rfl rfl 2 (by decide) (hts (.fieldLink RX8 28 "FontRuns" "fontRow" "LFontRuns$FontRow;") (by decide +kernel)) (fun _ h9 => h9) rfl dX8_tell_1 ?_
  refine lv_iload_n hx hb dX8_tell_4 rfl (lv_at hl 1 rfl) ?_
  refine k_callR (va_runV (As := [.int f]) (rest := []) ⟨hx, hb, hml, hown, hts⟩ (c_X0_isFont l D s.heap.size (f := f) (h0 := fr) (k1 := k1) (k2 := k2) (k3 := k3) (n := 0)) (cwV 1 hts gX8_tell_X0_isFont rfl rfl rfl (by decide +kernel) ⟨Nat.le_of_ble_eq_true rfl, Nat.le_of_ble_eq_true rfl⟩) (kPreV hP (kD0 hD) hK hN [1] [] rfl rfl (by decide) 1 0 rfl rfl) rfl rfl hl.1 rfl (lv_room (Nat.le_of_ble_eq_true rfl)) dX8_tell_5 ⟨Nat.le_of_ble_eq_true rfl, Nat.le_of_ble_eq_true rfl⟩) ?_
  refine kn_i 0 (if_neg kno') ?_
  refine lv_if_ne (tgt := 13) hx hb dX8_tell_8 (by decide) (fun c9 => absurd (by decide) c9) (fun _ => ?_)
  refine lv_iconst (v := (-1)) hx hb dX8_tell_11 (by decide) ?_
  exact W.iret (v := (-1)) hx hb hr (fun t ht hW => kRd rfl ht) (fun _ h9 => by cases h9) dX8_tell_12
theorem dX8_sample_0 : decode cX8_sample 0 = .ok (.aload_n 0, 1) := by decide +kernel
theorem dX8_sample_1 : decode cX8_sample 1 = .ok (.getfield 28, 3) := by decide +kernel
theorem dX8_sample_4 : decode cX8_sample 4 = .ok (.iload_n 1, 1) := by decide +kernel
theorem dX8_sample_5 : decode cX8_sample 5 = .ok (.invokevirtual 109, 3) := by decide +kernel
theorem dX8_sample_8 : decode cX8_sample 8 = .ok (.ifCond .ne 5, 3) := by decide +kernel
theorem dX8_sample_11 : decode cX8_sample 11 = .ok (.iconst (-1), 1) := by decide +kernel
theorem dX8_sample_12 : decode cX8_sample 12 = .ok (.ireturn, 1) := by decide +kernel
set_option maxRecDepth 20000 in
theorem ggX8_sample_X0_isFont : GoodIn wsX8_sample wsX0_isFont := goodIn_r _ [8, 9, 10, 11, 12, 40, 41, 42, 43] (by decide +kernel) (by decide +kernel)
set_option maxRecDepth 20000 in
theorem gX8_sample_X0_isFont : GoodIn wsX8_sample (wsV RX8 109 RX0 yX0_isFont wsX0_isFont) := goodIn_app (goodIn_of _ (by decide +kernel)) ggX8_sample_X0_isFont
set_option maxHeartbeats 4000000 in
set_option maxRecDepth 100000 in
theorem c_X8_sample (l : Launch) (D : va_G) (sz : Nat) (f : Int32) (h0 : Nat) (sh : Nat) (rd : Nat) (fr : Nat) (wr : Nat) (pf : Nat) (rc : Nat) (se : Nat) (rs : Nat) (sw : Nat) (sp : Nat) (ss : Nat) (ew : Int32) (wc : Int64) (tr : Int32) (lf : Int32) (k1 : Nat) (k2 : Nat) (k3 : Nat) : Met l yX8_sample wsX8_sample ({ frames := 2, cells := 0, slots := 0, locals := 43 }) (kPre [.ref h0, .int f] D [(h0, .inr (8, [.ref sh, .ref rd, .ref fr, .ref wr, .ref pf, .ref rc, .ref se, .ref rs, .ref sw, .ref sp, .ref ss, .int ew, .long wc, .int tr, .int lf])), (fr, .inr (0, [.ref k1, .ref k2, .ref k3, .int 0]))] [] sz) (QcRead (-1)) 0 0 (fun _ => False) := by
  refine Met.ofW (cc := cX8_sample) (maxL := 2) (ret := (some .int)) (by decide) rfl ?_
  intro p e s m args below meth c s₁ B hml hv
  obtain ⟨rfl, hsz, hP, hK, hD0, hN⟩ := hv
  have hx := B.exec
  have hb := B.bytes
  have hr := B.returns
  have hts := atoms_spec (ws := wsX8_sample) B.pre
  have hown : s.vm.findClass RX8 = some m.cls := findClass_of_methodNamed B.named
  have hlocks := B.notSynchronized
  subst hsz
  have hD := hD0
  have hP : va_P D vwCl [(h0, .inr (8, [.ref sh, .ref rd, .ref fr, .ref wr, .ref pf, .ref rc, .ref se, .ref rs, .ref sw, .ref sp, .ref ss, .int ew, .long wc, .int tr, .int lf])), (fr, .inr (0, [.ref k1, .ref k2, .ref k3, .int 0]))] s.heap := hP
  have hl := lv_entry ([.ref h0, .int f]) (n := 2) (Nat.le_of_ble_eq_true rfl)
  rw [lg_entry_eq]
  generalize (lg_sl ([.ref h0, .int f]) ++ List.replicate (2 - (lg_sl ([.ref h0, .int f])).length) Slot.unset).toArray = ls at hl ⊢
  have hl : lv_has ls 2 [(0, .ref h0), (1, .int f)] := hl
  refine lv_aload_n hx hb dX8_sample_0 rfl (lv_at hl 0 rfl) ?_
  refine va_get (D := D) (ci := 8) (v := .ref fr) (C := RX8) (T := TX8) (N := 15) hx hb hts (fun _ h9 => List.mem_cons_of_mem _ (List.mem_append_left _ (List.mem_append_right _ h9))) hown hK hP 0 rfl rfl 2 (by decide) (hts (.fieldLink RX8 28 "FontRuns" "fontRow" "LFontRuns$FontRow;") (by decide +kernel)) (fun _ h9 => h9) rfl dX8_sample_1 ?_
  refine lv_iload_n hx hb dX8_sample_4 rfl (lv_at hl 1 rfl) ?_
  refine k_callR (va_runV (As := [.int f]) (rest := []) ⟨hx, hb, hml, hown, hts⟩ (c_X0_isFont l D s.heap.size (f := f) (h0 := fr) (k1 := k1) (k2 := k2) (k3 := k3) (n := 0)) (cwV 1 hts gX8_sample_X0_isFont rfl rfl rfl (by decide +kernel) ⟨Nat.le_of_ble_eq_true rfl, Nat.le_of_ble_eq_true rfl⟩) (kPreV hP (kD0 hD) hK hN [1] [] rfl rfl (by decide) 1 0 rfl rfl) rfl rfl hl.1 rfl (lv_room (Nat.le_of_ble_eq_true rfl)) dX8_sample_5 ⟨Nat.le_of_ble_eq_true rfl, Nat.le_of_ble_eq_true rfl⟩) ?_
  refine kn_i 0 (if_neg kno') ?_
  refine lv_if_ne (tgt := 13) hx hb dX8_sample_8 (by decide) (fun c9 => absurd (by decide) c9) (fun _ => ?_)
  refine lv_iconst (v := (-1)) hx hb dX8_sample_11 (by decide) ?_
  exact W.iret (v := (-1)) hx hb hr (fun t ht hW => kRd rfl ht) (fun _ h9 => by cases h9) dX8_sample_12
theorem dX8_as_0 : decode cX8_as 0 = .ok (.aload_n 0, 1) := by decide +kernel
theorem dX8_as_1 : decode cX8_as 1 = .ok (.iconst 0, 1) := by decide +kernel
theorem dX8_as_2 : decode cX8_as 2 = .ok (.putfield 76, 3) := by decide +kernel
theorem dX8_as_5 : decode cX8_as 5 = .ok (.aload_n 0, 1) := by decide +kernel
theorem dX8_as_6 : decode cX8_as 6 = .ok (.getfield 28, 3) := by decide +kernel
theorem dX8_as_9 : decode cX8_as 9 = .ok (.iload_n 1, 1) := by decide +kernel
theorem dX8_as_10 : decode cX8_as 10 = .ok (.invokevirtual 109, 3) := by decide +kernel
theorem dX8_as_13 : decode cX8_as 13 = .ok (.ifCond .ne 5, 3) := by decide +kernel
theorem dX8_as_16 : decode cX8_as 16 = .ok (.iconst (-1), 1) := by decide +kernel
theorem dX8_as_17 : decode cX8_as 17 = .ok (.ireturn, 1) := by decide +kernel
set_option maxRecDepth 20000 in
theorem ggX8_as_X0_isFont : GoodIn wsX8_as wsX0_isFont := goodIn_r _ [8, 9, 10, 11, 12, 33, 34, 35, 36] (by decide +kernel) (by decide +kernel)
set_option maxRecDepth 20000 in
theorem gX8_as_X0_isFont : GoodIn wsX8_as (wsV RX8 109 RX0 yX0_isFont wsX0_isFont) := goodIn_app (goodIn_of _ (by decide +kernel)) ggX8_as_X0_isFont
set_option maxHeartbeats 4000000 in
set_option maxRecDepth 100000 in
theorem c_X8_as (l : Launch) (D : va_G) (sz : Nat) (f : Int32) (w : Int32) (h0 : Nat) (sh : Nat) (rd : Nat) (fr : Nat) (wr : Nat) (pf : Nat) (rc : Nat) (se : Nat) (rs : Nat) (sw : Nat) (sp : Nat) (ss : Nat) (ew : Int32) (wc : Int64) (tr : Int32) (lf : Int32) (k1 : Nat) (k2 : Nat) (k3 : Nat) : Met l yX8_as wsX8_as ({ frames := 2, cells := 0, slots := 0, locals := 43 }) (kPre [.ref h0, .int f, .int w] D [(h0, .inr (8, [.ref sh, .ref rd, .ref fr, .ref wr, .ref pf, .ref rc, .ref se, .ref rs, .ref sw, .ref sp, .ref ss, .int ew, .long wc, .int tr, .int lf])), (fr, .inr (0, [.ref k1, .ref k2, .ref k3, .int 0]))] [] sz) (kQi (-1) (va_A [(h0, .inr (8, [.ref sh, .ref rd, .ref fr, .ref wr, .ref pf, .ref rc, .ref se, .ref rs, .ref sw, .ref sp, .ref ss, .int ew, .long wc, .int tr, .int lf])), (fr, .inr (0, [.ref k1, .ref k2, .ref k3, .int 0]))] sz)) 0 0 (va_A [(h0, .inr (8, [.ref sh, .ref rd, .ref fr, .ref wr, .ref pf, .ref rc, .ref se, .ref rs, .ref sw, .ref sp, .ref ss, .int ew, .long wc, .int tr, .int lf])), (fr, .inr (0, [.ref k1, .ref k2, .ref k3, .int 0]))] sz) := by
  refine Met.ofW (cc := cX8_as) (maxL := 3) (ret := (some .int)) (by decide) rfl ?_
  intro p e s m args below meth c s₁ B hml hv
  obtain ⟨rfl, hsz, hP, hK, hD0, hN⟩ := hv
  have hx := B.exec
  have hb := B.bytes
  have hr := B.returns
  have hts := atoms_spec (ws := wsX8_as) B.pre
  have hown : s.vm.findClass RX8 = some m.cls := findClass_of_methodNamed B.named
  have hlocks := B.notSynchronized
  subst hsz
  have hD := hD0.self (sz := s.heap.size)
  generalize hAe : va_A [(h0, .inr (8, [.ref sh, .ref rd, .ref fr, .ref wr, .ref pf, .ref rc, .ref se, .ref rs, .ref sw, .ref sp, .ref ss, .int ew, .long wc, .int tr, .int lf])), (fr, .inr (0, [.ref k1, .ref k2, .ref k3, .int 0]))] s.heap.size = A at hD ⊢
  have hA : ∀ q : Nat, s.heap.size ≤ q → A q := fun q h => by rw [← hAe]; exact Or.inr h
  have hS : va_S A s.heap s.heap [] := va_S.rf
  have hP : va_P D vwCl [(h0, .inr (8, [.ref sh, .ref rd, .ref fr, .ref wr, .ref pf, .ref rc, .ref se, .ref rs, .ref sw, .ref sp, .ref ss, .int ew, .long wc, .int tr, .int lf])), (fr, .inr (0, [.ref k1, .ref k2, .ref k3, .int 0]))] s.heap := hP
  have hl := lv_entry ([.ref h0, .int f, .int w]) (n := 3) (Nat.le_of_ble_eq_true rfl)
  rw [lg_entry_eq]
  generalize (lg_sl ([.ref h0, .int f, .int w]) ++ List.replicate (3 - (lg_sl ([.ref h0, .int f, .int w])).length) Slot.unset).toArray = ls at hl ⊢
  have hl : lv_has ls 3 [(0, .ref h0), (1, .int f), (2, .int w)] := hl
  refine lv_aload_n hx hb dX8_as_0 rfl (lv_at hl 0 rfl) ?_
  refine lv_iconst (v := 0) hx hb dX8_as_1 (by decide) ?_
  refine va_put (D := D) (ci := 8) (v := .int 0) (ty := .int) (C := RX8) (T := TX8) (N := 15) hx hb hts (fun _ h9 => List.mem_cons_of_mem _ (List.mem_append_left _ (List.mem_append_right _ h9))) tyX8 tyX8_ok nmX8 hown hK hP hD hS 0 rfl rfl 14 (by decide) (hts (.fieldLink RX8 76 "FontRuns" "latestFault" "I") (by decide +kernel)) (fun _ h9 => h9) rfl (by decide +kernel) rfl rfl (Nat.le_of_ble_eq_true rfl) dX8_as_2 (fun H locs hP hD hS => ?_)
  have hP : va_P D vwCl [(h0, .inr (8, [.ref sh, .ref rd, .ref fr, .ref wr, .ref pf, .ref rc, .ref se, .ref rs, .ref sw, .ref sp, .ref ss, .int ew, .long wc, .int tr, .int 0])), (fr, .inr (0, [.ref k1, .ref k2, .ref k3, .int 0]))] H := hP
  have hD : va_D A [(h0, .inr (8, [.ref sh, .ref rd, .ref fr, .ref wr, .ref pf, .ref rc, .ref se, .ref rs, .ref sw, .ref sp, .ref ss, .int ew, .long wc, .int tr, .int 0])), (fr, .inr (0, [.ref k1, .ref k2, .ref k3, .int 0]))] := hD
  refine lv_aload_n hx hb dX8_as_5 rfl (lv_at hl 0 rfl) ?_
  refine va_get (D := D) (ci := 8) (v := .ref fr) (C := RX8) (T := TX8) (N := 15) hx hb hts (fun _ h9 => List.mem_cons_of_mem _ (List.mem_append_left _ (List.mem_append_right _ h9))) hown hK hP 0 rfl rfl 2 (by decide) (hts (.fieldLink RX8 28 "FontRuns" "fontRow" "LFontRuns$FontRow;") (by decide +kernel)) (fun _ h9 => h9) rfl dX8_as_6 ?_
  refine lv_iload_n hx hb dX8_as_9 rfl (lv_at hl 1 rfl) ?_
  refine k_callR (va_runV (As := [.int f]) (rest := []) ⟨hx, hb, hml, hown, hts⟩ (c_X0_isFont l D H.size (f := f) (h0 := fr) (k1 := k1) (k2 := k2) (k3 := k3) (n := 0)) (cwV 1 hts gX8_as_X0_isFont rfl rfl rfl (by decide +kernel) ⟨Nat.le_of_ble_eq_true rfl, Nat.le_of_ble_eq_true rfl⟩) (kPreV hP (kD0 hD) hK hN [1] [] rfl rfl (by decide) 1 0 rfl rfl) rfl rfl hl.1 rfl (lv_room (Nat.le_of_ble_eq_true rfl)) dX8_as_10 ⟨Nat.le_of_ble_eq_true rfl, Nat.le_of_ble_eq_true rfl⟩) ?_
  refine kn_i 0 (if_neg kno') ?_
  refine lv_if_ne (tgt := 18) hx hb dX8_as_13 (by decide) (fun c9 => absurd (by decide) c9) (fun _ => ?_)
  refine lv_iconst (v := (-1)) hx hb dX8_as_16 (by decide) ?_
  exact W.iret (v := (-1)) hx hb hr (fun t ht hW => kQi_of rfl (hS.F ht)) hS.2.2 dX8_as_17
theorem dX8_letter_0 : decode cX8_letter 0 = .ok (.iload_n 1, 1) := by decide +kernel
theorem dX8_letter_1 : decode cX8_letter 1 = .ok (.iconst 0, 1) := by decide +kernel
theorem dX8_letter_2 : decode cX8_letter 2 = .ok (.aload_n 0, 1) := by decide +kernel
theorem dX8_letter_3 : decode cX8_letter 3 = .ok (.getfield 35, 3) := by decide +kernel
theorem dX8_letter_6 : decode cX8_letter 6 = .ok (.getfield 139, 3) := by decide +kernel
theorem dX8_letter_9 : decode cX8_letter 9 = .ok (.iconst 1, 1) := by decide +kernel
theorem dX8_letter_10 : decode cX8_letter 10 = .ok (.isub, 1) := by decide +kernel
theorem dX8_letter_11 : decode cX8_letter 11 = .ok (.invokestatic 128, 3) := by decide +kernel
theorem dX8_letter_14 : decode cX8_letter 14 = .ok (.ifCond .eq 15, 3) := by decide +kernel
theorem dX8_letter_29 : decode cX8_letter 29 = .ok (.iconst (-1), 1) := by decide +kernel
theorem dX8_letter_30 : decode cX8_letter 30 = .ok (.ireturn, 1) := by decide +kernel
set_option maxRecDepth 20000 in
theorem ggX8_letter_X8_isWithin : GoodIn wsX8_letter wsX8_isWithin := goodIn_r _ [7] (by decide +kernel) (by decide +kernel)
set_option maxRecDepth 20000 in
theorem gX8_letter_X8_isWithin : GoodIn wsX8_letter (va_wsS RX8 128 yX8_isWithin wsX8_isWithin) := goodIn_app (goodIn_of _ (by decide +kernel)) ggX8_letter_X8_isWithin
set_option maxHeartbeats 4000000 in
set_option maxRecDepth 100000 in
theorem c_X8_letter (l : Launch) (D : va_G) (sz : Nat) (k : Int32) (h0 : Nat) (sh : Nat) (rd : Nat) (fr : Nat) (wr : Nat) (pf : Nat) (rc : Nat) (se : Nat) (rs : Nat) (sw : Nat) (sp : Nat) (ss : Nat) (ew : Int32) (wc : Int64) (tr : Int32) (lf : Int32) (w1 : Nat) : Met l yX8_letter wsX8_letter ({ frames := 1, cells := 0, slots := 0, locals := 22 }) (kPre [.ref h0, .int k] D [(h0, .inr (8, [.ref sh, .ref rd, .ref fr, .ref wr, .ref pf, .ref rc, .ref se, .ref rs, .ref sw, .ref sp, .ref ss, .int ew, .long wc, .int tr, .int lf])), (wr, .inr (7, [.ref w1, .int 0]))] [] sz) (QcRead (-1)) 0 0 (fun _ => False) := by
  refine Met.ofW (cc := cX8_letter) (maxL := 2) (ret := (some .int)) (by decide) rfl ?_
  intro p e s m args below meth c s₁ B hml hv
  obtain ⟨rfl, hsz, hP, hK, hD0, hN⟩ := hv
  have hx := B.exec
  have hb := B.bytes
  have hr := B.returns
  have hts := atoms_spec (ws := wsX8_letter) B.pre
  have hown : s.vm.findClass RX8 = some m.cls := findClass_of_methodNamed B.named
  have hlocks := B.notSynchronized
  subst hsz
  have hD := hD0
  have hP : va_P D vwCl [(h0, .inr (8, [.ref sh, .ref rd, .ref fr, .ref wr, .ref pf, .ref rc, .ref se, .ref rs, .ref sw, .ref sp, .ref ss, .int ew, .long wc, .int tr, .int lf])), (wr, .inr (7, [.ref w1, .int 0]))] s.heap := hP
  have hl := lv_entry ([.ref h0, .int k]) (n := 2) (Nat.le_of_ble_eq_true rfl)
  rw [lg_entry_eq]
  generalize (lg_sl ([.ref h0, .int k]) ++ List.replicate (2 - (lg_sl ([.ref h0, .int k])).length) Slot.unset).toArray = ls at hl ⊢
  have hl : lv_has ls 2 [(0, .ref h0), (1, .int k)] := hl
  refine lv_iload_n hx hb dX8_letter_0 rfl (lv_at hl 1 rfl) ?_
  refine lv_iconst (v := 0) hx hb dX8_letter_1 (by decide) ?_
  refine lv_aload_n hx hb dX8_letter_2 rfl (lv_at hl 0 rfl) ?_
  refine va_get (D := D) (ci := 8) (v := .ref wr) (C := RX8) (T := TX8) (N := 15) hx hb hts (fun _ h9 => List.mem_cons_of_mem _ (List.mem_append_left _ (List.mem_append_right _ h9))) hown hK hP 0 rfl rfl 3 (by decide) (hts (.fieldLink RX8 35 "FontRuns" "writing" "LFontRuns$Writing;") (by decide +kernel)) (fun _ h9 => h9) rfl dX8_letter_3 ?_
  refine va_get (D := D) (ci := 7) (v := .int 0) (C := RX7) (T := TX7) (N := 2) hx hb hts (fun _ h9 => List.mem_cons_of_mem _ (List.mem_append_right _ h9)) hown hK hP 1 rfl rfl 1 (by decide) (hts (.fieldLink RX8 139 "FontRuns$Writing" "count" "I") (by decide +kernel)) (fun _ h9 => h9) rfl dX8_letter_6 ?_
  refine lv_iconst (v := 1) hx hb dX8_letter_9 (by decide) ?_
  refine lv_isub hx hb dX8_letter_10 ?_
  refine kn_i (-1) (by decide) ?_
  refine k_callR (va_runS (As := [.int k, .int 0, .int (-1)]) (rest := []) ⟨hx, hb, hml, hown, hts⟩ (c_X8_isWithin l D s.heap.size (v := k) (a := 0) (b := (-1))) (va_cwS 3 hts gX8_letter_X8_isWithin rfl rfl rfl (by decide +kernel) ⟨Nat.le_of_ble_eq_true rfl, Nat.le_of_ble_eq_true rfl⟩) (kPreS hP (kD0 hD) hK hN [] [] rfl rfl (by decide)) rfl rfl hl.1 rfl (lv_room (Nat.le_of_ble_eq_true rfl)) dX8_letter_11 ⟨Nat.le_of_ble_eq_true rfl, Nat.le_of_ble_eq_true rfl⟩) ?_
  refine kn_i 0 (if_neg kno) ?_
  refine lv_if_eq (tgt := 29) hx hb dX8_letter_14 (by decide) (fun _ => ?_) (fun c9 => absurd (by decide) c9)
  refine lv_iconst (v := (-1)) hx hb dX8_letter_29 (by decide) ?_
  exact W.iret (v := (-1)) hx hb hr (fun t ht hW => kRd rfl ht) (fun _ h9 => by cases h9) dX8_letter_30
theorem dX8_ofCluster_0 : decode cX8_ofCluster 0 = .ok (.aload_n 0, 1) := by decide +kernel
theorem dX8_ofCluster_1 : decode cX8_ofCluster 1 = .ok (.getfield 56, 3) := by decide +kernel
theorem dX8_ofCluster_4 : decode cX8_ofCluster 4 = .ok (.iload_n 1, 1) := by decide +kernel
theorem dX8_ofCluster_5 : decode cX8_ofCluster 5 = .ok (.invokevirtual 169, 3) := by decide +kernel
theorem dX8_ofCluster_8 : decode cX8_ofCluster 8 = .ok (.ifCond .ne 5, 3) := by decide +kernel
theorem dX8_ofCluster_11 : decode cX8_ofCluster 11 = .ok (.iconst (-1), 1) := by decide +kernel
theorem dX8_ofCluster_12 : decode cX8_ofCluster 12 = .ok (.ireturn, 1) := by decide +kernel
set_option maxRecDepth 20000 in
theorem ggX8_ofCluster_X4_isCluster : GoodIn wsX8_ofCluster wsX4_isCluster := goodIn_r _ [11, 12, 13, 14, 15, 31, 32, 33, 34, 35, 36, 37, 38, 39, 40] (by decide +kernel) (by decide +kernel)
set_option maxRecDepth 20000 in
theorem gX8_ofCluster_X4_isCluster : GoodIn wsX8_ofCluster (wsV RX8 169 RX4 yX4_isCluster wsX4_isCluster) := goodIn_app (goodIn_of _ (by decide +kernel)) ggX8_ofCluster_X4_isCluster
set_option maxHeartbeats 4000000 in
set_option maxRecDepth 100000 in
theorem c_X8_ofCluster (l : Launch) (D : va_G) (sz : Nat) (k : Int32) (w : Int32) (h0 : Nat) (sh : Nat) (rd : Nat) (fr : Nat) (wr : Nat) (pf : Nat) (rc : Nat) (se : Nat) (rs : Nat) (sw : Nat) (sp : Nat) (ss : Nat) (ew : Int32) (wc : Int64) (tr : Int32) (lf : Int32) (g1 : Nat) (g2 : Nat) (g3 : Nat) (g4 : Nat) (g5 : Nat) (g6 : Nat) (g7 : Nat) : Met l yX8_ofCluster wsX8_ofCluster ({ frames := 2, cells := 0, slots := 0, locals := 43 }) (kPre [.ref h0, .int k, .int w] D [(h0, .inr (8, [.ref sh, .ref rd, .ref fr, .ref wr, .ref pf, .ref rc, .ref se, .ref rs, .ref sw, .ref sp, .ref ss, .int ew, .long wc, .int tr, .int lf])), (se, .inr (4, [.ref g1, .ref g2, .ref g3, .ref g4, .ref g5, .int 0, .int 0, .int 0, .ref g6, .ref g7]))] [] sz) (QcRead (-1)) 0 0 (fun _ => False) := by
  refine Met.ofW (cc := cX8_ofCluster) (maxL := 3) (ret := (some .int)) (by decide) rfl ?_
  intro p e s m args below meth c s₁ B hml hv
  obtain ⟨rfl, hsz, hP, hK, hD0, hN⟩ := hv
  have hx := B.exec
  have hb := B.bytes
  have hr := B.returns
  have hts := atoms_spec (ws := wsX8_ofCluster) B.pre
  have hown : s.vm.findClass RX8 = some m.cls := findClass_of_methodNamed B.named
  have hlocks := B.notSynchronized
  subst hsz
  have hD := hD0
  have hP : va_P D vwCl [(h0, .inr (8, [.ref sh, .ref rd, .ref fr, .ref wr, .ref pf, .ref rc, .ref se, .ref rs, .ref sw, .ref sp, .ref ss, .int ew, .long wc, .int tr, .int lf])), (se, .inr (4, [.ref g1, .ref g2, .ref g3, .ref g4, .ref g5, .int 0, .int 0, .int 0, .ref g6, .ref g7]))] s.heap := hP
  have hl := lv_entry ([.ref h0, .int k, .int w]) (n := 3) (Nat.le_of_ble_eq_true rfl)
  rw [lg_entry_eq]
  generalize (lg_sl ([.ref h0, .int k, .int w]) ++ List.replicate (3 - (lg_sl ([.ref h0, .int k, .int w])).length) Slot.unset).toArray = ls at hl ⊢
  have hl : lv_has ls 3 [(0, .ref h0), (1, .int k), (2, .int w)] := hl
  refine lv_aload_n hx hb dX8_ofCluster_0 rfl (lv_at hl 0 rfl) ?_
  refine va_get (D := D) (ci := 8) (v := .ref se) (C := RX8) (T := TX8) (N := 15) hx hb hts (fun _ h9 => List.mem_cons_of_mem _ (List.mem_append_left _ (List.mem_append_right _ h9))) hown hK hP 0 rfl rfl 6 (by decide) (hts (.fieldLink RX8 56 "FontRuns" "setting" "LFontRuns$Setting;") (by decide +kernel)) (fun _ h9 => h9) rfl dX8_ofCluster_1 ?_
  refine lv_iload_n hx hb dX8_ofCluster_4 rfl (lv_at hl 1 rfl) ?_
  refine k_callR (va_runV (As := [.int k]) (rest := []) ⟨hx, hb, hml, hown, hts⟩ (c_X4_isCluster l D s.heap.size (k := k) (h0 := se) (g1 := g1) (g2 := g2) (g3 := g3) (g4 := g4) (g5 := g5) (n := 0) (bo := 0) (ru := 0) (g6 := g6) (g7 := g7)) (cwV 1 hts gX8_ofCluster_X4_isCluster rfl rfl rfl (by decide +kernel) ⟨Nat.le_of_ble_eq_true rfl, Nat.le_of_ble_eq_true rfl⟩) (kPreV hP (kD0 hD) hK hN [1] [] rfl rfl (by decide) 1 4 rfl rfl) rfl rfl hl.1 rfl (lv_room (Nat.le_of_ble_eq_true rfl)) dX8_ofCluster_5 ⟨Nat.le_of_ble_eq_true rfl, Nat.le_of_ble_eq_true rfl⟩) ?_
  refine kn_i 0 (if_neg kno') ?_
  refine lv_if_ne (tgt := 13) hx hb dX8_ofCluster_8 (by decide) (fun c9 => absurd (by decide) c9) (fun _ => ?_)
  refine lv_iconst (v := (-1)) hx hb dX8_ofCluster_11 (by decide) ?_
  exact W.iret (v := (-1)) hx hb hr (fun t ht hW => kRd rfl ht) (fun _ h9 => by cases h9) dX8_ofCluster_12
theorem dX8_ofRun_0 : decode cX8_ofRun 0 = .ok (.iload_n 1, 1) := by decide +kernel
theorem dX8_ofRun_1 : decode cX8_ofRun 1 = .ok (.iconst 0, 1) := by decide +kernel
theorem dX8_ofRun_2 : decode cX8_ofRun 2 = .ok (.aload_n 0, 1) := by decide +kernel
theorem dX8_ofRun_3 : decode cX8_ofRun 3 = .ok (.getfield 56, 3) := by decide +kernel
theorem dX8_ofRun_6 : decode cX8_ofRun 6 = .ok (.getfield 187, 3) := by decide +kernel
theorem dX8_ofRun_9 : decode cX8_ofRun 9 = .ok (.iconst 1, 1) := by decide +kernel
theorem dX8_ofRun_10 : decode cX8_ofRun 10 = .ok (.isub, 1) := by decide +kernel
theorem dX8_ofRun_11 : decode cX8_ofRun 11 = .ok (.invokestatic 128, 3) := by decide +kernel
theorem dX8_ofRun_14 : decode cX8_ofRun 14 = .ok (.ifCond .ne 5, 3) := by decide +kernel
theorem dX8_ofRun_17 : decode cX8_ofRun 17 = .ok (.iconst (-1), 1) := by decide +kernel
theorem dX8_ofRun_18 : decode cX8_ofRun 18 = .ok (.ireturn, 1) := by decide +kernel
set_option maxRecDepth 20000 in
theorem ggX8_ofRun_X8_isWithin : GoodIn wsX8_ofRun wsX8_isWithin := goodIn_r _ [8] (by decide +kernel) (by decide +kernel)
set_option maxRecDepth 20000 in
theorem gX8_ofRun_X8_isWithin : GoodIn wsX8_ofRun (va_wsS RX8 128 yX8_isWithin wsX8_isWithin) := goodIn_app (goodIn_of _ (by decide +kernel)) ggX8_ofRun_X8_isWithin
set_option maxHeartbeats 4000000 in
set_option maxRecDepth 100000 in
theorem c_X8_ofRun (l : Launch) (D : va_G) (sz : Nat) (k : Int32) (w : Int32) (h0 : Nat) (sh : Nat) (rd : Nat) (fr : Nat) (wr : Nat) (pf : Nat) (rc : Nat) (se : Nat) (rs : Nat) (sw : Nat) (sp : Nat) (ss : Nat) (ew : Int32) (wc : Int64) (tr : Int32) (lf : Int32) (g1 : Nat) (g2 : Nat) (g3 : Nat) (g4 : Nat) (g5 : Nat) (g6 : Nat) (g7 : Nat) : Met l yX8_ofRun wsX8_ofRun ({ frames := 1, cells := 0, slots := 0, locals := 22 }) (kPre [.ref h0, .int k, .int w] D [(h0, .inr (8, [.ref sh, .ref rd, .ref fr, .ref wr, .ref pf, .ref rc, .ref se, .ref rs, .ref sw, .ref sp, .ref ss, .int ew, .long wc, .int tr, .int lf])), (se, .inr (4, [.ref g1, .ref g2, .ref g3, .ref g4, .ref g5, .int 0, .int 0, .int 0, .ref g6, .ref g7]))] [] sz) (QcRead (-1)) 0 0 (fun _ => False) := by
  refine Met.ofW (cc := cX8_ofRun) (maxL := 5) (ret := (some .int)) (by decide) rfl ?_
  intro p e s m args below meth c s₁ B hml hv
  obtain ⟨rfl, hsz, hP, hK, hD0, hN⟩ := hv
  have hx := B.exec
  have hb := B.bytes
  have hr := B.returns
  have hts := atoms_spec (ws := wsX8_ofRun) B.pre
  have hown : s.vm.findClass RX8 = some m.cls := findClass_of_methodNamed B.named
  have hlocks := B.notSynchronized
  subst hsz
  have hD := hD0
  have hP : va_P D vwCl [(h0, .inr (8, [.ref sh, .ref rd, .ref fr, .ref wr, .ref pf, .ref rc, .ref se, .ref rs, .ref sw, .ref sp, .ref ss, .int ew, .long wc, .int tr, .int lf])), (se, .inr (4, [.ref g1, .ref g2, .ref g3, .ref g4, .ref g5, .int 0, .int 0, .int 0, .ref g6, .ref g7]))] s.heap := hP
  have hl := lv_entry ([.ref h0, .int k, .int w]) (n := 5) (Nat.le_of_ble_eq_true rfl)
  rw [lg_entry_eq]
  generalize (lg_sl ([.ref h0, .int k, .int w]) ++ List.replicate (5 - (lg_sl ([.ref h0, .int k, .int w])).length) Slot.unset).toArray = ls at hl ⊢
  have hl : lv_has ls 5 [(0, .ref h0), (1, .int k), (2, .int w)] := hl
  refine lv_iload_n hx hb dX8_ofRun_0 rfl (lv_at hl 1 rfl) ?_
  refine lv_iconst (v := 0) hx hb dX8_ofRun_1 (by decide) ?_
  refine lv_aload_n hx hb dX8_ofRun_2 rfl (lv_at hl 0 rfl) ?_
  refine va_get (D := D) (ci := 8) (v := .ref se) (C := RX8) (T := TX8) (N := 15) hx hb hts (fun _ h9 => List.mem_cons_of_mem _ (List.mem_append_left _ (List.mem_append_left _ (List.mem_append_right _ h9)))) hown hK hP 0 rfl rfl 6 (by decide) (hts (.fieldLink RX8 56 "FontRuns" "setting" "LFontRuns$Setting;") (by decide +kernel)) (fun _ h9 => h9) rfl dX8_ofRun_3 ?_
  refine va_get (D := D) (ci := 4) (v := .int 0) (C := RX4) (T := TX4) (N := 10) hx hb hts (fun _ h9 => List.mem_cons_of_mem _ (List.mem_append_left _ (List.mem_append_right _ h9))) hown hK hP 1 rfl rfl 7 (by decide) (hts (.fieldLink RX8 187 "FontRuns$Setting" "runs" "I") (by decide +kernel)) (fun _ h9 => h9) rfl dX8_ofRun_6 ?_
  refine lv_iconst (v := 1) hx hb dX8_ofRun_9 (by decide) ?_
  refine lv_isub hx hb dX8_ofRun_10 ?_
  refine kn_i (-1) (by decide) ?_
  refine k_callR (va_runS (As := [.int k, .int 0, .int (-1)]) (rest := []) ⟨hx, hb, hml, hown, hts⟩ (c_X8_isWithin l D s.heap.size (v := k) (a := 0) (b := (-1))) (va_cwS 3 hts gX8_ofRun_X8_isWithin rfl rfl rfl (by decide +kernel) ⟨Nat.le_of_ble_eq_true rfl, Nat.le_of_ble_eq_true rfl⟩) (kPreS hP (kD0 hD) hK hN [] [] rfl rfl (by decide)) rfl rfl hl.1 rfl (lv_room (Nat.le_of_ble_eq_true rfl)) dX8_ofRun_11 ⟨Nat.le_of_ble_eq_true rfl, Nat.le_of_ble_eq_true rfl⟩) ?_
  refine kn_i 0 (if_neg kno) ?_
  refine lv_if_ne (tgt := 19) hx hb dX8_ofRun_14 (by decide) (fun c9 => absurd (by decide) c9) (fun _ => ?_)
  refine lv_iconst (v := (-1)) hx hb dX8_ofRun_17 (by decide) ?_
  exact W.iret (v := (-1)) hx hb hr (fun t ht hW => kRd rfl ht) (fun _ h9 => by cases h9) dX8_ofRun_18
theorem dX8_latest_0 : decode cX8_latest 0 = .ok (.iload_n 1, 1) := by decide +kernel
theorem dX8_latest_1 : decode cX8_latest 1 = .ok (.iconst 0, 1) := by decide +kernel
theorem dX8_latest_2 : decode cX8_latest 2 = .ok (.iconst 4, 1) := by decide +kernel
theorem dX8_latest_3 : decode cX8_latest 3 = .ok (.invokestatic 128, 3) := by decide +kernel
theorem dX8_latest_6 : decode cX8_latest 6 = .ok (.ifCond .ne 6, 3) := by decide +kernel
theorem dX8_latest_9 : decode cX8_latest 9 = .ok (.bipush (-2), 2) := by decide +kernel
theorem dX8_latest_11 : decode cX8_latest 11 = .ok (.ireturn, 1) := by decide +kernel
theorem dX8_latest_12 : decode cX8_latest 12 = .ok (.iload_n 1, 1) := by decide +kernel
theorem dX8_latest_13 : decode cX8_latest 13 = .ok (.aload_n 0, 1) := by decide +kernel
theorem dX8_latest_14 : decode cX8_latest 14 = .ok (.getfield 49, 3) := by decide +kernel
theorem dX8_latest_17 : decode cX8_latest 17 = .ok (.getfield 144, 3) := by decide +kernel
theorem dX8_latest_20 : decode cX8_latest 20 = .ok (.if_icmp .ge 15, 3) := by decide +kernel
theorem dX8_latest_35 : decode cX8_latest 35 = .ok (.bipush (-9), 2) := by decide +kernel
theorem dX8_latest_37 : decode cX8_latest 37 = .ok (.ireturn, 1) := by decide +kernel
set_option maxRecDepth 20000 in
theorem ggX8_latest_X8_isWithin : GoodIn wsX8_latest wsX8_isWithin := goodIn_r _ [7] (by decide +kernel) (by decide +kernel)
set_option maxRecDepth 20000 in
theorem gX8_latest_X8_isWithin : GoodIn wsX8_latest (va_wsS RX8 128 yX8_isWithin wsX8_isWithin) := goodIn_app (goodIn_of _ (by decide +kernel)) ggX8_latest_X8_isWithin
set_option maxHeartbeats 4000000 in
set_option maxRecDepth 100000 in
theorem c_X8_latest (l : Launch) (D : va_G) (sz : Nat) (k : Int32) (h0 : Nat) (sh : Nat) (rd : Nat) (fr : Nat) (wr : Nat) (pf : Nat) (rc : Nat) (se : Nat) (rs : Nat) (sw : Nat) (sp : Nat) (ss : Nat) (ew : Int32) (wc : Int64) (tr : Int32) (lf : Int32) (y1 : Nat) : Met l yX8_latest wsX8_latest ({ frames := 1, cells := 0, slots := 0, locals := 22 }) (kPre [.ref h0, .int k] D [(h0, .inr (8, [.ref sh, .ref rd, .ref fr, .ref wr, .ref pf, .ref rc, .ref se, .ref rs, .ref sw, .ref sp, .ref ss, .int ew, .long wc, .int tr, .int lf])), (rc, .inr (3, [.ref y1, .int 0]))] [] sz) (QcRead (sp_latest k)) 0 0 (fun _ => False) := by
  refine Met.ofW (cc := cX8_latest) (maxL := 2) (ret := (some .int)) (by decide) rfl ?_
  intro p e s m args below meth c s₁ B hml hv
  obtain ⟨rfl, hsz, hP, hK, hD0, hN⟩ := hv
  have hx := B.exec
  have hb := B.bytes
  have hr := B.returns
  have hts := atoms_spec (ws := wsX8_latest) B.pre
  have hown : s.vm.findClass RX8 = some m.cls := findClass_of_methodNamed B.named
  have hlocks := B.notSynchronized
  subst hsz
  have hD := hD0
  have hP : va_P D vwCl [(h0, .inr (8, [.ref sh, .ref rd, .ref fr, .ref wr, .ref pf, .ref rc, .ref se, .ref rs, .ref sw, .ref sp, .ref ss, .int ew, .long wc, .int tr, .int lf])), (rc, .inr (3, [.ref y1, .int 0]))] s.heap := hP
  have hl := lv_entry ([.ref h0, .int k]) (n := 2) (Nat.le_of_ble_eq_true rfl)
  rw [lg_entry_eq]
  generalize (lg_sl ([.ref h0, .int k]) ++ List.replicate (2 - (lg_sl ([.ref h0, .int k])).length) Slot.unset).toArray = ls at hl ⊢
  have hl : lv_has ls 2 [(0, .ref h0), (1, .int k)] := hl
  refine lv_iload_n hx hb dX8_latest_0 rfl (lv_at hl 1 rfl) ?_
  refine lv_iconst (v := 0) hx hb dX8_latest_1 (by decide) ?_
  refine lv_iconst (v := 4) hx hb dX8_latest_2 (by decide) ?_
  refine k_callR (va_runS (As := [.int k, .int 0, .int 4]) (rest := []) ⟨hx, hb, hml, hown, hts⟩ (c_X8_isWithin l D s.heap.size (v := k) (a := 0) (b := 4)) (va_cwS 3 hts gX8_latest_X8_isWithin rfl rfl rfl (by decide +kernel) ⟨Nat.le_of_ble_eq_true rfl, Nat.le_of_ble_eq_true rfl⟩) (kPreS hP (kD0 hD) hK hN [] [] rfl rfl (by decide)) rfl rfl hl.1 rfl (lv_room (Nat.le_of_ble_eq_true rfl)) dX8_latest_3 ⟨Nat.le_of_ble_eq_true rfl, Nat.le_of_ble_eq_true rfl⟩) ?_
  refine lv_if_ne (tgt := 12) hx hb dX8_latest_6 (by decide) (fun c_1 => ?_) (fun c_1 => ?_)
  · have k_2 : (0 ≤ k ∧ k ≤ 4) := b01t c_1
    refine lv_iload_n hx hb dX8_latest_12 rfl (lv_at hl 1 rfl) ?_
    refine lv_aload_n hx hb dX8_latest_13 rfl (lv_at hl 0 rfl) ?_
    refine va_get (D := D) (ci := 8) (v := .ref rc) (C := RX8) (T := TX8) (N := 15) hx hb hts (fun _ h9 => List.mem_cons_of_mem _ (List.mem_append_left _ (List.mem_append_right _ h9))) hown hK hP 0 rfl rfl 5 (by decide) (hts (.fieldLink RX8 49 "FontRuns" "recent" "LFontRuns$Recent;") (by decide +kernel)) (fun _ h9 => h9) rfl dX8_latest_14 ?_
    refine va_get (D := D) (ci := 3) (v := .int 0) (C := RX3) (T := TX3) (N := 2) hx hb hts (fun _ h9 => List.mem_cons_of_mem _ (List.mem_append_right _ h9)) hown hK hP 1 rfl rfl 1 (by decide) (hts (.fieldLink RX8 144 "FontRuns$Recent" "count" "I") (by decide +kernel)) (fun _ h9 => h9) rfl dX8_latest_17 ?_
    refine lv_icmp_ge (tgt := 35) hx hb dX8_latest_20 (by decide) (fun c_3 => ?_) (fun c_3 => ?_)
    · refine lv_bipush (v := (-9)) hx hb dX8_latest_35 (by decide) ?_
      exact W.iret (v := (-9)) hx hb hr (fun t ht hW => kRd (by first | rfl | (simp only [sp_latest, if_pos k_2]; done) | (simp [sp_latest, k_2, c_3]; done)) ht) (fun _ h9 => by cases h9) dX8_latest_37
    · exact absurd k_2.1 c_3
  · have k_4 : ¬ ((0 ≤ k ∧ k ≤ 4)) := b01f c_1
    refine lv_bipush (v := (-2)) hx hb dX8_latest_9 (by decide) ?_
    exact W.iret (v := (-2)) hx hb hr (fun t ht hW => kRd (by first | rfl | (simp only [sp_latest, if_neg k_4]; done) | (simp [sp_latest, k_4]; done)) ht) (fun _ h9 => by cases h9) dX8_latest_11
theorem dX8_tally_0 : decode cX8_tally 0 = .ok (.aload_n 0, 1) := by decide +kernel
theorem dX8_tally_1 : decode cX8_tally 1 = .ok (.getfield 203, 3) := by decide +kernel
theorem dX8_tally_4 : decode cX8_tally 4 = .ok (.ireturn, 1) := by decide +kernel
set_option maxHeartbeats 4000000 in
set_option maxRecDepth 100000 in
theorem c_X8_tally (l : Launch) (D : va_G) (sz : Nat) (h0 : Nat) (sh : Nat) (rd : Nat) (fr : Nat) (wr : Nat) (pf : Nat) (rc : Nat) (se : Nat) (rs : Nat) (sw : Nat) (sp : Nat) (ss : Nat) (ew : Int32) (wc : Int64) (tr : Int32) (lf : Int32) : Met l yX8_tally wsX8_tally ({ frames := 0, cells := 0, slots := 0, locals := 0 }) (kPre [.ref h0] D [(h0, .inr (8, [.ref sh, .ref rd, .ref fr, .ref wr, .ref pf, .ref rc, .ref se, .ref rs, .ref sw, .ref sp, .ref ss, .int ew, .long wc, .int tr, .int lf]))] [] sz) (QcRead ew) 0 0 (fun _ => False) := by
  refine Met.ofW (cc := cX8_tally) (maxL := 1) (ret := (some .int)) (by decide) rfl ?_
  intro p e s m args below meth c s₁ B hml hv
  obtain ⟨rfl, hsz, hP, hK, hD0, hN⟩ := hv
  have hx := B.exec
  have hb := B.bytes
  have hr := B.returns
  have hts := atoms_spec (ws := wsX8_tally) B.pre
  have hown : s.vm.findClass RX8 = some m.cls := findClass_of_methodNamed B.named
  have hlocks := B.notSynchronized
  subst hsz
  have hD := hD0
  have hP : va_P D vwCl [(h0, .inr (8, [.ref sh, .ref rd, .ref fr, .ref wr, .ref pf, .ref rc, .ref se, .ref rs, .ref sw, .ref sp, .ref ss, .int ew, .long wc, .int tr, .int lf]))] s.heap := hP
  have hl := lv_entry ([.ref h0]) (n := 1) (Nat.le_of_ble_eq_true rfl)
  rw [lg_entry_eq]
  generalize (lg_sl ([.ref h0]) ++ List.replicate (1 - (lg_sl ([.ref h0])).length) Slot.unset).toArray = ls at hl ⊢
  have hl : lv_has ls 1 [(0, .ref h0)] := hl
  refine lv_aload_n hx hb dX8_tally_0 rfl (lv_at hl 0 rfl) ?_
  refine va_get (D := D) (ci := 8) (v := .int ew) (C := RX8) (T := TX8) (N := 15) hx hb hts (fun _ h9 => List.mem_cons_of_mem _ (List.mem_append_right _ h9)) hown hK hP 0 rfl rfl 11 (by decide) (hts (.fieldLink RX8 203 "FontRuns" "everWritten" "I") (by decide +kernel)) (fun _ h9 => h9) rfl dX8_tally_1 ?_
  exact W.iret (v := ew) hx hb hr (fun t ht hW => kRd rfl ht) (fun _ h9 => by cases h9) dX8_tally_4
theorem dX8_check_0 : decode cX8_check 0 = .ok (.aload_n 0, 1) := by decide +kernel
theorem dX8_check_1 : decode cX8_check 1 = .ok (.getfield 206, 3) := by decide +kernel
theorem dX8_check_4 : decode cX8_check 4 = .ok (.lreturn, 1) := by decide +kernel
set_option maxHeartbeats 4000000 in
set_option maxRecDepth 100000 in
theorem c_X8_check (l : Launch) (D : va_G) (sz : Nat) (h0 : Nat) (sh : Nat) (rd : Nat) (fr : Nat) (wr : Nat) (pf : Nat) (rc : Nat) (se : Nat) (rs : Nat) (sw : Nat) (sp : Nat) (ss : Nat) (ew : Int32) (wc : Int64) (tr : Int32) (lf : Int32) : Met l yX8_check wsX8_check ({ frames := 0, cells := 0, slots := 0, locals := 0 }) (kPre [.ref h0] D [(h0, .inr (8, [.ref sh, .ref rd, .ref fr, .ref wr, .ref pf, .ref rc, .ref se, .ref rs, .ref sw, .ref sp, .ref ss, .int ew, .long wc, .int tr, .int lf]))] [] sz) (QcReadL wc) 0 0 (fun _ => False) := by
  refine Met.ofW (cc := cX8_check) (maxL := 1) (ret := (some .long)) (by decide) rfl ?_
  intro p e s m args below meth c s₁ B hml hv
  obtain ⟨rfl, hsz, hP, hK, hD0, hN⟩ := hv
  have hx := B.exec
  have hb := B.bytes
  have hr := B.returns
  have hts := atoms_spec (ws := wsX8_check) B.pre
  have hown : s.vm.findClass RX8 = some m.cls := findClass_of_methodNamed B.named
  have hlocks := B.notSynchronized
  subst hsz
  have hD := hD0
  have hP : va_P D vwCl [(h0, .inr (8, [.ref sh, .ref rd, .ref fr, .ref wr, .ref pf, .ref rc, .ref se, .ref rs, .ref sw, .ref sp, .ref ss, .int ew, .long wc, .int tr, .int lf]))] s.heap := hP
  have hl := lv_entry ([.ref h0]) (n := 1) (Nat.le_of_ble_eq_true rfl)
  rw [lg_entry_eq]
  generalize (lg_sl ([.ref h0]) ++ List.replicate (1 - (lg_sl ([.ref h0])).length) Slot.unset).toArray = ls at hl ⊢
  have hl : lv_has ls 1 [(0, .ref h0)] := hl
  refine lv_aload_n hx hb dX8_check_0 rfl (lv_at hl 0 rfl) ?_
  refine va_get (D := D) (ci := 8) (v := .long wc) (C := RX8) (T := TX8) (N := 15) hx hb hts (fun _ h9 => List.mem_cons_of_mem _ (List.mem_append_right _ h9)) hown hK hP 0 rfl rfl 12 (by decide) (hts (.fieldLink RX8 206 "FontRuns" "writtenCheck" "J") (by decide +kernel)) (fun _ h9 => h9) rfl dX8_check_1 ?_
  exact W.lret (v := wc) hx hb hr (fun t ht hW => kRdL rfl ht) (fun _ h9 => by cases h9) dX8_check_4
theorem dX8_trace_0 : decode cX8_trace 0 = .ok (.aload_n 0, 1) := by decide +kernel
theorem dX8_trace_1 : decode cX8_trace 1 = .ok (.getfield 322, 3) := by decide +kernel
theorem dX8_trace_4 : decode cX8_trace 4 = .ok (.ireturn, 1) := by decide +kernel
set_option maxHeartbeats 4000000 in
set_option maxRecDepth 100000 in
theorem c_X8_trace (l : Launch) (D : va_G) (sz : Nat) (h0 : Nat) (sh : Nat) (rd : Nat) (fr : Nat) (wr : Nat) (pf : Nat) (rc : Nat) (se : Nat) (rs : Nat) (sw : Nat) (sp : Nat) (ss : Nat) (ew : Int32) (wc : Int64) (tr : Int32) (lf : Int32) : Met l yX8_trace wsX8_trace ({ frames := 0, cells := 0, slots := 0, locals := 0 }) (kPre [.ref h0] D [(h0, .inr (8, [.ref sh, .ref rd, .ref fr, .ref wr, .ref pf, .ref rc, .ref se, .ref rs, .ref sw, .ref sp, .ref ss, .int ew, .long wc, .int tr, .int lf]))] [] sz) (QcRead tr) 0 0 (fun _ => False) := by
  refine Met.ofW (cc := cX8_trace) (maxL := 1) (ret := (some .int)) (by decide) rfl ?_
  intro p e s m args below meth c s₁ B hml hv
  obtain ⟨rfl, hsz, hP, hK, hD0, hN⟩ := hv
  have hx := B.exec
  have hb := B.bytes
  have hr := B.returns
  have hts := atoms_spec (ws := wsX8_trace) B.pre
  have hown : s.vm.findClass RX8 = some m.cls := findClass_of_methodNamed B.named
  have hlocks := B.notSynchronized
  subst hsz
  have hD := hD0
  have hP : va_P D vwCl [(h0, .inr (8, [.ref sh, .ref rd, .ref fr, .ref wr, .ref pf, .ref rc, .ref se, .ref rs, .ref sw, .ref sp, .ref ss, .int ew, .long wc, .int tr, .int lf]))] s.heap := hP
  have hl := lv_entry ([.ref h0]) (n := 1) (Nat.le_of_ble_eq_true rfl)
  rw [lg_entry_eq]
  generalize (lg_sl ([.ref h0]) ++ List.replicate (1 - (lg_sl ([.ref h0])).length) Slot.unset).toArray = ls at hl ⊢
  have hl : lv_has ls 1 [(0, .ref h0)] := hl
  refine lv_aload_n hx hb dX8_trace_0 rfl (lv_at hl 0 rfl) ?_
  refine va_get (D := D) (ci := 8) (v := .int tr) (C := RX8) (T := TX8) (N := 15) hx hb hts (fun _ h9 => List.mem_cons_of_mem _ (List.mem_append_right _ h9)) hown hK hP 0 rfl rfl 13 (by decide) (hts (.fieldLink RX8 322 "FontRuns" "trail" "I") (by decide +kernel)) (fun _ h9 => h9) rfl dX8_trace_1 ?_
  exact W.iret (v := tr) hx hb hr (fun t ht hW => kRd rfl ht) (fun _ h9 => by cases h9) dX8_trace_4
theorem dX8_fault_0 : decode cX8_fault 0 = .ok (.aload_n 0, 1) := by decide +kernel
theorem dX8_fault_1 : decode cX8_fault 1 = .ok (.getfield 76, 3) := by decide +kernel
theorem dX8_fault_4 : decode cX8_fault 4 = .ok (.ireturn, 1) := by decide +kernel
set_option maxHeartbeats 4000000 in
set_option maxRecDepth 100000 in
theorem c_X8_fault (l : Launch) (D : va_G) (sz : Nat) (h0 : Nat) (sh : Nat) (rd : Nat) (fr : Nat) (wr : Nat) (pf : Nat) (rc : Nat) (se : Nat) (rs : Nat) (sw : Nat) (sp : Nat) (ss : Nat) (ew : Int32) (wc : Int64) (tr : Int32) (lf : Int32) : Met l yX8_fault wsX8_fault ({ frames := 0, cells := 0, slots := 0, locals := 0 }) (kPre [.ref h0] D [(h0, .inr (8, [.ref sh, .ref rd, .ref fr, .ref wr, .ref pf, .ref rc, .ref se, .ref rs, .ref sw, .ref sp, .ref ss, .int ew, .long wc, .int tr, .int lf]))] [] sz) (QcRead lf) 0 0 (fun _ => False) := by
  refine Met.ofW (cc := cX8_fault) (maxL := 1) (ret := (some .int)) (by decide) rfl ?_
  intro p e s m args below meth c s₁ B hml hv
  obtain ⟨rfl, hsz, hP, hK, hD0, hN⟩ := hv
  have hx := B.exec
  have hb := B.bytes
  have hr := B.returns
  have hts := atoms_spec (ws := wsX8_fault) B.pre
  have hown : s.vm.findClass RX8 = some m.cls := findClass_of_methodNamed B.named
  have hlocks := B.notSynchronized
  subst hsz
  have hD := hD0
  have hP : va_P D vwCl [(h0, .inr (8, [.ref sh, .ref rd, .ref fr, .ref wr, .ref pf, .ref rc, .ref se, .ref rs, .ref sw, .ref sp, .ref ss, .int ew, .long wc, .int tr, .int lf]))] s.heap := hP
  have hl := lv_entry ([.ref h0]) (n := 1) (Nat.le_of_ble_eq_true rfl)
  rw [lg_entry_eq]
  generalize (lg_sl ([.ref h0]) ++ List.replicate (1 - (lg_sl ([.ref h0])).length) Slot.unset).toArray = ls at hl ⊢
  have hl : lv_has ls 1 [(0, .ref h0)] := hl
  refine lv_aload_n hx hb dX8_fault_0 rfl (lv_at hl 0 rfl) ?_
  refine va_get (D := D) (ci := 8) (v := .int lf) (C := RX8) (T := TX8) (N := 15) hx hb hts (fun _ h9 => List.mem_cons_of_mem _ (List.mem_append_right _ h9)) hown hK hP 0 rfl rfl 14 (by decide) (hts (.fieldLink RX8 76 "FontRuns" "latestFault" "I") (by decide +kernel)) (fun _ h9 => h9) rfl dX8_fault_1 ?_
  exact W.iret (v := lf) hx hb hr (fun t ht hW => kRd rfl ht) (fun _ h9 => by cases h9) dX8_fault_4
theorem dX8_best_0 : decode cX8_best 0 = .ok (.iload_n 1, 1) := by decide +kernel
theorem dX8_best_1 : decode cX8_best 1 = .ok (.iconst 0, 1) := by decide +kernel
theorem dX8_best_2 : decode cX8_best 2 = .ok (.iconst 3, 1) := by decide +kernel
theorem dX8_best_3 : decode cX8_best 3 = .ok (.invokestatic 128, 3) := by decide +kernel
theorem dX8_best_6 : decode cX8_best 6 = .ok (.ifCond .ne 6, 3) := by decide +kernel
theorem dX8_best_9 : decode cX8_best 9 = .ok (.bipush (-2), 2) := by decide +kernel
theorem dX8_best_11 : decode cX8_best 11 = .ok (.ireturn, 1) := by decide +kernel
theorem dX8_best_12 : decode cX8_best 12 = .ok (.aload_n 0, 1) := by decide +kernel
theorem dX8_best_13 : decode cX8_best 13 = .ok (.getfield 28, 3) := by decide +kernel
theorem dX8_best_16 : decode cX8_best 16 = .ok (.getfield 106, 3) := by decide +kernel
theorem dX8_best_19 : decode cX8_best 19 = .ok (.ifCond .ne 6, 3) := by decide +kernel
theorem dX8_best_22 : decode cX8_best 22 = .ok (.bipush (-3), 2) := by decide +kernel
theorem dX8_best_24 : decode cX8_best 24 = .ok (.ireturn, 1) := by decide +kernel
set_option maxRecDepth 20000 in
theorem ggX8_best_X8_isWithin : GoodIn wsX8_best wsX8_isWithin := goodIn_r _ [9] (by decide +kernel) (by decide +kernel)
set_option maxRecDepth 20000 in
theorem gX8_best_X8_isWithin : GoodIn wsX8_best (va_wsS RX8 128 yX8_isWithin wsX8_isWithin) := goodIn_app (goodIn_of _ (by decide +kernel)) ggX8_best_X8_isWithin
set_option maxHeartbeats 4000000 in
set_option maxRecDepth 100000 in
theorem c_X8_best (l : Launch) (D : va_G) (sz : Nat) (k : Int32) (h0 : Nat) (sh : Nat) (rd : Nat) (fr : Nat) (wr : Nat) (pf : Nat) (rc : Nat) (se : Nat) (rs : Nat) (sw : Nat) (sp : Nat) (ss : Nat) (ew : Int32) (wc : Int64) (tr : Int32) (lf : Int32) (k1 : Nat) (k2 : Nat) (k3 : Nat) : Met l yX8_best wsX8_best ({ frames := 1, cells := 0, slots := 0, locals := 22 }) (kPre [.ref h0, .int k] D [(h0, .inr (8, [.ref sh, .ref rd, .ref fr, .ref wr, .ref pf, .ref rc, .ref se, .ref rs, .ref sw, .ref sp, .ref ss, .int ew, .long wc, .int tr, .int lf])), (fr, .inr (0, [.ref k1, .ref k2, .ref k3, .int 0]))] [] sz) (QcRead (sp_best k)) 0 0 (fun _ => False) := by
  refine Met.ofW (cc := cX8_best) (maxL := 2) (ret := (some .int)) (by decide) rfl ?_
  intro p e s m args below meth c s₁ B hml hv
  obtain ⟨rfl, hsz, hP, hK, hD0, hN⟩ := hv
  have hx := B.exec
  have hb := B.bytes
  have hr := B.returns
  have hts := atoms_spec (ws := wsX8_best) B.pre
  have hown : s.vm.findClass RX8 = some m.cls := findClass_of_methodNamed B.named
  have hlocks := B.notSynchronized
  subst hsz
  have hD := hD0
  have hP : va_P D vwCl [(h0, .inr (8, [.ref sh, .ref rd, .ref fr, .ref wr, .ref pf, .ref rc, .ref se, .ref rs, .ref sw, .ref sp, .ref ss, .int ew, .long wc, .int tr, .int lf])), (fr, .inr (0, [.ref k1, .ref k2, .ref k3, .int 0]))] s.heap := hP
  have hl := lv_entry ([.ref h0, .int k]) (n := 2) (Nat.le_of_ble_eq_true rfl)
  rw [lg_entry_eq]
  generalize (lg_sl ([.ref h0, .int k]) ++ List.replicate (2 - (lg_sl ([.ref h0, .int k])).length) Slot.unset).toArray = ls at hl ⊢
  have hl : lv_has ls 2 [(0, .ref h0), (1, .int k)] := hl
  refine lv_iload_n hx hb dX8_best_0 rfl (lv_at hl 1 rfl) ?_
  refine lv_iconst (v := 0) hx hb dX8_best_1 (by decide) ?_
  refine lv_iconst (v := 3) hx hb dX8_best_2 (by decide) ?_
  refine k_callR (va_runS (As := [.int k, .int 0, .int 3]) (rest := []) ⟨hx, hb, hml, hown, hts⟩ (c_X8_isWithin l D s.heap.size (v := k) (a := 0) (b := 3)) (va_cwS 3 hts gX8_best_X8_isWithin rfl rfl rfl (by decide +kernel) ⟨Nat.le_of_ble_eq_true rfl, Nat.le_of_ble_eq_true rfl⟩) (kPreS hP (kD0 hD) hK hN [] [] rfl rfl (by decide)) rfl rfl hl.1 rfl (lv_room (Nat.le_of_ble_eq_true rfl)) dX8_best_3 ⟨Nat.le_of_ble_eq_true rfl, Nat.le_of_ble_eq_true rfl⟩) ?_
  refine lv_if_ne (tgt := 12) hx hb dX8_best_6 (by decide) (fun c_1 => ?_) (fun c_1 => ?_)
  · have k_2 : (0 ≤ k ∧ k ≤ 3) := b01t c_1
    refine lv_aload_n hx hb dX8_best_12 rfl (lv_at hl 0 rfl) ?_
    refine va_get (D := D) (ci := 8) (v := .ref fr) (C := RX8) (T := TX8) (N := 15) hx hb hts (fun _ h9 => List.mem_cons_of_mem _ (List.mem_append_left _ (List.mem_append_left _ (List.mem_append_right _ h9)))) hown hK hP 0 rfl rfl 2 (by decide) (hts (.fieldLink RX8 28 "FontRuns" "fontRow" "LFontRuns$FontRow;") (by decide +kernel)) (fun _ h9 => h9) rfl dX8_best_13 ?_
    refine va_get (D := D) (ci := 0) (v := .int 0) (C := RX0) (T := TX0) (N := 4) hx hb hts (fun _ h9 => List.mem_cons_of_mem _ (List.mem_append_left _ (List.mem_append_right _ h9))) hown hK hP 1 rfl rfl 3 (by decide) (hts (.fieldLink RX8 106 "FontRuns$FontRow" "count" "I") (by decide +kernel)) (fun _ h9 => h9) rfl dX8_best_16 ?_
    refine lv_if_ne (tgt := 25) hx hb dX8_best_19 (by decide) (fun c9 => absurd (by decide) c9) (fun _ => ?_)
    refine lv_bipush (v := (-3)) hx hb dX8_best_22 (by decide) ?_
    exact W.iret (v := (-3)) hx hb hr (fun t ht hW => kRd (by first | rfl | (simp only [sp_best, if_pos k_2]; done) | (simp [sp_best, k_2]; done)) ht) (fun _ h9 => by cases h9) dX8_best_24
  · have k_3 : ¬ ((0 ≤ k ∧ k ≤ 3)) := b01f c_1
    refine lv_bipush (v := (-2)) hx hb dX8_best_9 (by decide) ?_
    exact W.iret (v := (-2)) hx hb hr (fun t ht hW => kRd (by first | rfl | (simp only [sp_best, if_neg k_3]; done) | (simp [sp_best, k_3]; done)) ht) (fun _ h9 => by cases h9) dX8_best_11
theorem dX8_enough_0 : decode cX8_enough 0 = .ok (.iload_n 1, 1) := by decide +kernel
theorem dX8_enough_1 : decode cX8_enough 1 = .ok (.iconst 0, 1) := by decide +kernel
theorem dX8_enough_2 : decode cX8_enough 2 = .ok (.iconst 1, 1) := by decide +kernel
theorem dX8_enough_3 : decode cX8_enough 3 = .ok (.invokestatic 128, 3) := by decide +kernel
theorem dX8_enough_6 : decode cX8_enough 6 = .ok (.ifCond .ne 6, 3) := by decide +kernel
theorem dX8_enough_9 : decode cX8_enough 9 = .ok (.bipush (-2), 2) := by decide +kernel
theorem dX8_enough_11 : decode cX8_enough 11 = .ok (.ireturn, 1) := by decide +kernel
theorem dX8_enough_12 : decode cX8_enough 12 = .ok (.aload_n 0, 1) := by decide +kernel
theorem dX8_enough_13 : decode cX8_enough 13 = .ok (.getfield 28, 3) := by decide +kernel
theorem dX8_enough_16 : decode cX8_enough 16 = .ok (.getfield 106, 3) := by decide +kernel
theorem dX8_enough_19 : decode cX8_enough 19 = .ok (.ifCond .ne 6, 3) := by decide +kernel
theorem dX8_enough_22 : decode cX8_enough 22 = .ok (.bipush (-3), 2) := by decide +kernel
theorem dX8_enough_24 : decode cX8_enough 24 = .ok (.ireturn, 1) := by decide +kernel
set_option maxRecDepth 20000 in
theorem ggX8_enough_X8_isWithin : GoodIn wsX8_enough wsX8_isWithin := goodIn_r _ [6] (by decide +kernel) (by decide +kernel)
set_option maxRecDepth 20000 in
theorem gX8_enough_X8_isWithin : GoodIn wsX8_enough (va_wsS RX8 128 yX8_isWithin wsX8_isWithin) := goodIn_app (goodIn_of _ (by decide +kernel)) ggX8_enough_X8_isWithin
set_option maxHeartbeats 4000000 in
set_option maxRecDepth 100000 in
theorem c_X8_enough (l : Launch) (D : va_G) (sz : Nat) (k : Int32) (h0 : Nat) (sh : Nat) (rd : Nat) (fr : Nat) (wr : Nat) (pf : Nat) (rc : Nat) (se : Nat) (rs : Nat) (sw : Nat) (sp : Nat) (ss : Nat) (ew : Int32) (wc : Int64) (tr : Int32) (lf : Int32) (k1 : Nat) (k2 : Nat) (k3 : Nat) : Met l yX8_enough wsX8_enough ({ frames := 1, cells := 0, slots := 0, locals := 22 }) (kPre [.ref h0, .int k] D [(h0, .inr (8, [.ref sh, .ref rd, .ref fr, .ref wr, .ref pf, .ref rc, .ref se, .ref rs, .ref sw, .ref sp, .ref ss, .int ew, .long wc, .int tr, .int lf])), (fr, .inr (0, [.ref k1, .ref k2, .ref k3, .int 0]))] [] sz) (QcRead (sp_enough k)) 0 0 (fun _ => False) := by
  refine Met.ofW (cc := cX8_enough) (maxL := 3) (ret := (some .int)) (by decide) rfl ?_
  intro p e s m args below meth c s₁ B hml hv
  obtain ⟨rfl, hsz, hP, hK, hD0, hN⟩ := hv
  have hx := B.exec
  have hb := B.bytes
  have hr := B.returns
  have hts := atoms_spec (ws := wsX8_enough) B.pre
  have hown : s.vm.findClass RX8 = some m.cls := findClass_of_methodNamed B.named
  have hlocks := B.notSynchronized
  subst hsz
  have hD := hD0
  have hP : va_P D vwCl [(h0, .inr (8, [.ref sh, .ref rd, .ref fr, .ref wr, .ref pf, .ref rc, .ref se, .ref rs, .ref sw, .ref sp, .ref ss, .int ew, .long wc, .int tr, .int lf])), (fr, .inr (0, [.ref k1, .ref k2, .ref k3, .int 0]))] s.heap := hP
  have hl := lv_entry ([.ref h0, .int k]) (n := 3) (Nat.le_of_ble_eq_true rfl)
  rw [lg_entry_eq]
  generalize (lg_sl ([.ref h0, .int k]) ++ List.replicate (3 - (lg_sl ([.ref h0, .int k])).length) Slot.unset).toArray = ls at hl ⊢
  have hl : lv_has ls 3 [(0, .ref h0), (1, .int k)] := hl
  refine lv_iload_n hx hb dX8_enough_0 rfl (lv_at hl 1 rfl) ?_
  refine lv_iconst (v := 0) hx hb dX8_enough_1 (by decide) ?_
  refine lv_iconst (v := 1) hx hb dX8_enough_2 (by decide) ?_
  refine k_callR (va_runS (As := [.int k, .int 0, .int 1]) (rest := []) ⟨hx, hb, hml, hown, hts⟩ (c_X8_isWithin l D s.heap.size (v := k) (a := 0) (b := 1)) (va_cwS 3 hts gX8_enough_X8_isWithin rfl rfl rfl (by decide +kernel) ⟨Nat.le_of_ble_eq_true rfl, Nat.le_of_ble_eq_true rfl⟩) (kPreS hP (kD0 hD) hK hN [] [] rfl rfl (by decide)) rfl rfl hl.1 rfl (lv_room (Nat.le_of_ble_eq_true rfl)) dX8_enough_3 ⟨Nat.le_of_ble_eq_true rfl, Nat.le_of_ble_eq_true rfl⟩) ?_
  refine lv_if_ne (tgt := 12) hx hb dX8_enough_6 (by decide) (fun c_1 => ?_) (fun c_1 => ?_)
  · have k_2 : (0 ≤ k ∧ k ≤ 1) := b01t c_1
    refine lv_aload_n hx hb dX8_enough_12 rfl (lv_at hl 0 rfl) ?_
    refine va_get (D := D) (ci := 8) (v := .ref fr) (C := RX8) (T := TX8) (N := 15) hx hb hts (fun _ h9 => List.mem_cons_of_mem _ (List.mem_append_left _ (List.mem_append_left _ (List.mem_append_right _ h9)))) hown hK hP 0 rfl rfl 2 (by decide) (hts (.fieldLink RX8 28 "FontRuns" "fontRow" "LFontRuns$FontRow;") (by decide +kernel)) (fun _ h9 => h9) rfl dX8_enough_13 ?_
    refine va_get (D := D) (ci := 0) (v := .int 0) (C := RX0) (T := TX0) (N := 4) hx hb hts (fun _ h9 => List.mem_cons_of_mem _ (List.mem_append_left _ (List.mem_append_right _ h9))) hown hK hP 1 rfl rfl 3 (by decide) (hts (.fieldLink RX8 106 "FontRuns$FontRow" "count" "I") (by decide +kernel)) (fun _ h9 => h9) rfl dX8_enough_16 ?_
    refine lv_if_ne (tgt := 25) hx hb dX8_enough_19 (by decide) (fun c9 => absurd (by decide) c9) (fun _ => ?_)
    refine lv_bipush (v := (-3)) hx hb dX8_enough_22 (by decide) ?_
    exact W.iret (v := (-3)) hx hb hr (fun t ht hW => kRd (by first | rfl | (simp only [sp_enough, if_pos k_2]; done) | (simp [sp_enough, k_2]; done)) ht) (fun _ h9 => by cases h9) dX8_enough_24
  · have k_3 : ¬ ((0 ≤ k ∧ k ≤ 1)) := b01f c_1
    refine lv_bipush (v := (-2)) hx hb dX8_enough_9 (by decide) ?_
    exact W.iret (v := (-2)) hx hb hr (fun t ht hW => kRd (by first | rfl | (simp only [sp_enough, if_neg k_3]; done) | (simp [sp_enough, k_3]; done)) ht) (fun _ h9 => by cases h9) dX8_enough_11
theorem dX8_reading_0 : decode cX8_reading 0 = .ok (.aload_n 0, 1) := by decide +kernel
theorem dX8_reading_1 : decode cX8_reading 1 = .ok (.getfield 28, 3) := by decide +kernel
theorem dX8_reading_4 : decode cX8_reading 4 = .ok (.getfield 106, 3) := by decide +kernel
theorem dX8_reading_7 : decode cX8_reading 7 = .ok (.ifCond .ne 6, 3) := by decide +kernel
theorem dX8_reading_10 : decode cX8_reading 10 = .ok (.bipush (-3), 2) := by decide +kernel
theorem dX8_reading_12 : decode cX8_reading 12 = .ok (.ireturn, 1) := by decide +kernel
set_option maxHeartbeats 4000000 in
set_option maxRecDepth 100000 in
theorem c_X8_reading (l : Launch) (D : va_G) (sz : Nat) (k : Int32) (h0 : Nat) (sh : Nat) (rd : Nat) (fr : Nat) (wr : Nat) (pf : Nat) (rc : Nat) (se : Nat) (rs : Nat) (sw : Nat) (sp : Nat) (ss : Nat) (ew : Int32) (wc : Int64) (tr : Int32) (lf : Int32) (k1 : Nat) (k2 : Nat) (k3 : Nat) : Met l yX8_reading wsX8_reading ({ frames := 0, cells := 0, slots := 0, locals := 0 }) (kPre [.ref h0, .int k] D [(h0, .inr (8, [.ref sh, .ref rd, .ref fr, .ref wr, .ref pf, .ref rc, .ref se, .ref rs, .ref sw, .ref sp, .ref ss, .int ew, .long wc, .int tr, .int lf])), (fr, .inr (0, [.ref k1, .ref k2, .ref k3, .int 0]))] [] sz) (QcRead (-3)) 0 0 (fun _ => False) := by
  refine Met.ofW (cc := cX8_reading) (maxL := 3) (ret := (some .int)) (by decide) rfl ?_
  intro p e s m args below meth c s₁ B hml hv
  obtain ⟨rfl, hsz, hP, hK, hD0, hN⟩ := hv
  have hx := B.exec
  have hb := B.bytes
  have hr := B.returns
  have hts := atoms_spec (ws := wsX8_reading) B.pre
  have hown : s.vm.findClass RX8 = some m.cls := findClass_of_methodNamed B.named
  have hlocks := B.notSynchronized
  subst hsz
  have hD := hD0
  have hP : va_P D vwCl [(h0, .inr (8, [.ref sh, .ref rd, .ref fr, .ref wr, .ref pf, .ref rc, .ref se, .ref rs, .ref sw, .ref sp, .ref ss, .int ew, .long wc, .int tr, .int lf])), (fr, .inr (0, [.ref k1, .ref k2, .ref k3, .int 0]))] s.heap := hP
  have hl := lv_entry ([.ref h0, .int k]) (n := 3) (Nat.le_of_ble_eq_true rfl)
  rw [lg_entry_eq]
  generalize (lg_sl ([.ref h0, .int k]) ++ List.replicate (3 - (lg_sl ([.ref h0, .int k])).length) Slot.unset).toArray = ls at hl ⊢
  have hl : lv_has ls 3 [(0, .ref h0), (1, .int k)] := hl
  refine lv_aload_n hx hb dX8_reading_0 rfl (lv_at hl 0 rfl) ?_
  refine va_get (D := D) (ci := 8) (v := .ref fr) (C := RX8) (T := TX8) (N := 15) hx hb hts (fun _ h9 => List.mem_cons_of_mem _ (List.mem_append_left _ (List.mem_append_left _ (List.mem_append_left _ (List.mem_append_right _ h9))))) hown hK hP 0 rfl rfl 2 (by decide) (hts (.fieldLink RX8 28 "FontRuns" "fontRow" "LFontRuns$FontRow;") (by decide +kernel)) (fun _ h9 => h9) rfl dX8_reading_1 ?_
  refine va_get (D := D) (ci := 0) (v := .int 0) (C := RX0) (T := TX0) (N := 4) hx hb hts (fun _ h9 => List.mem_cons_of_mem _ (List.mem_append_left _ (List.mem_append_left _ (List.mem_append_right _ h9)))) hown hK hP 1 rfl rfl 3 (by decide) (hts (.fieldLink RX8 106 "FontRuns$FontRow" "count" "I") (by decide +kernel)) (fun _ h9 => h9) rfl dX8_reading_4 ?_
  refine lv_if_ne (tgt := 13) hx hb dX8_reading_7 (by decide) (fun c9 => absurd (by decide) c9) (fun _ => ?_)
  refine lv_bipush (v := (-3)) hx hb dX8_reading_10 (by decide) ?_
  exact W.iret (v := (-3)) hx hb hr (fun t ht hW => kRd rfl ht) (fun _ h9 => by cases h9) dX8_reading_12
theorem dX8_odds_0 : decode cX8_odds 0 = .ok (.iload_n 1, 1) := by decide +kernel
theorem dX8_odds_1 : decode cX8_odds 1 = .ok (.iconst 0, 1) := by decide +kernel
theorem dX8_odds_2 : decode cX8_odds 2 = .ok (.bipush 24, 2) := by decide +kernel
theorem dX8_odds_4 : decode cX8_odds 4 = .ok (.invokestatic 128, 3) := by decide +kernel
theorem dX8_odds_7 : decode cX8_odds 7 = .ok (.ifCond .eq 12, 3) := by decide +kernel
theorem dX8_odds_10 : decode cX8_odds 10 = .ok (.iload_n 2, 1) := by decide +kernel
theorem dX8_odds_11 : decode cX8_odds 11 = .ok (.iconst 0, 1) := by decide +kernel
theorem dX8_odds_12 : decode cX8_odds 12 = .ok (.iconst 1, 1) := by decide +kernel
theorem dX8_odds_13 : decode cX8_odds 13 = .ok (.invokestatic 128, 3) := by decide +kernel
theorem dX8_odds_16 : decode cX8_odds 16 = .ok (.ifCond .ne 7, 3) := by decide +kernel
theorem dX8_odds_19 : decode cX8_odds 19 = .ok (.ldc2_w 280, 3) := by decide +kernel
theorem dX8_odds_22 : decode cX8_odds 22 = .ok (.lreturn, 1) := by decide +kernel
theorem dX8_odds_23 : decode cX8_odds 23 = .ok (.aload_n 0, 1) := by decide +kernel
theorem dX8_odds_24 : decode cX8_odds 24 = .ok (.getfield 28, 3) := by decide +kernel
theorem dX8_odds_27 : decode cX8_odds 27 = .ok (.getfield 106, 3) := by decide +kernel
theorem dX8_odds_30 : decode cX8_odds 30 = .ok (.ifCond .eq 15, 3) := by decide +kernel
theorem dX8_odds_45 : decode cX8_odds 45 = .ok (.ldc2_w 280, 3) := by decide +kernel
theorem dX8_odds_48 : decode cX8_odds 48 = .ok (.lreturn, 1) := by decide +kernel
set_option maxRecDepth 20000 in
theorem ggX8_odds_X8_isWithin : GoodIn wsX8_odds wsX8_isWithin := goodIn_r _ [9] (by decide +kernel) (by decide +kernel)
set_option maxRecDepth 20000 in
theorem gX8_odds_X8_isWithin : GoodIn wsX8_odds (va_wsS RX8 128 yX8_isWithin wsX8_isWithin) := goodIn_app (goodIn_of _ (by decide +kernel)) ggX8_odds_X8_isWithin
set_option maxHeartbeats 4000000 in
set_option maxRecDepth 100000 in
theorem c_X8_odds (l : Launch) (D : va_G) (sz : Nat) (k : Int32) (w : Int32) (h0 : Nat) (sh : Nat) (rd : Nat) (fr : Nat) (wr : Nat) (pf : Nat) (rc : Nat) (se : Nat) (rs : Nat) (sw : Nat) (sp : Nat) (ss : Nat) (ew : Int32) (wc : Int64) (tr : Int32) (lf : Int32) (k1 : Nat) (k2 : Nat) (k3 : Nat) : Met l yX8_odds wsX8_odds ({ frames := 1, cells := 0, slots := 0, locals := 22 }) (kPre [.ref h0, .int k, .int w] D [(h0, .inr (8, [.ref sh, .ref rd, .ref fr, .ref wr, .ref pf, .ref rc, .ref se, .ref rs, .ref sw, .ref sp, .ref ss, .int ew, .long wc, .int tr, .int lf])), (fr, .inr (0, [.ref k1, .ref k2, .ref k3, .int 0]))] [] sz) (QcReadL (-9223372036854775808)) 0 0 (fun _ => False) := by
  refine Met.ofW (cc := cX8_odds) (maxL := 5) (ret := (some .long)) (by decide) rfl ?_
  intro p e s m args below meth c s₁ B hml hv
  obtain ⟨rfl, hsz, hP, hK, hD0, hN⟩ := hv
  have hx := B.exec
  have hb := B.bytes
  have hr := B.returns
  have hts := atoms_spec (ws := wsX8_odds) B.pre
  have hown : s.vm.findClass RX8 = some m.cls := findClass_of_methodNamed B.named
  have hlocks := B.notSynchronized
  subst hsz
  have hD := hD0
  have hP : va_P D vwCl [(h0, .inr (8, [.ref sh, .ref rd, .ref fr, .ref wr, .ref pf, .ref rc, .ref se, .ref rs, .ref sw, .ref sp, .ref ss, .int ew, .long wc, .int tr, .int lf])), (fr, .inr (0, [.ref k1, .ref k2, .ref k3, .int 0]))] s.heap := hP
  have hl := lv_entry ([.ref h0, .int k, .int w]) (n := 5) (Nat.le_of_ble_eq_true rfl)
  rw [lg_entry_eq]
  generalize (lg_sl ([.ref h0, .int k, .int w]) ++ List.replicate (5 - (lg_sl ([.ref h0, .int k, .int w])).length) Slot.unset).toArray = ls at hl ⊢
  have hl : lv_has ls 5 [(0, .ref h0), (1, .int k), (2, .int w)] := hl
  refine lv_iload_n hx hb dX8_odds_0 rfl (lv_at hl 1 rfl) ?_
  refine lv_iconst (v := 0) hx hb dX8_odds_1 (by decide) ?_
  refine lv_bipush (v := 24) hx hb dX8_odds_2 (by decide) ?_
  refine k_callR (va_runS (As := [.int k, .int 0, .int 24]) (rest := []) ⟨hx, hb, hml, hown, hts⟩ (c_X8_isWithin l D s.heap.size (v := k) (a := 0) (b := 24)) (va_cwS 3 hts gX8_odds_X8_isWithin rfl rfl rfl (by decide +kernel) ⟨Nat.le_of_ble_eq_true rfl, Nat.le_of_ble_eq_true rfl⟩) (kPreS hP (kD0 hD) hK hN [] [] rfl rfl (by decide)) rfl rfl hl.1 rfl (lv_room (Nat.le_of_ble_eq_true rfl)) dX8_odds_4 ⟨Nat.le_of_ble_eq_true rfl, Nat.le_of_ble_eq_true rfl⟩) ?_
  refine lv_if_eq (tgt := 19) hx hb dX8_odds_7 (by decide) (fun c_1 => ?_) (fun c_1 => ?_)
  · have k_2 : ¬ ((0 ≤ k ∧ k ≤ 24)) := b01f c_1
    refine lv_ldc2 (v := (-9223372036854775808)) hx hb hown (hts (.constantLong RX8 280 (-9223372036854775808)) (by decide +kernel)) dX8_odds_19 ?_
    exact W.lret (v := (-9223372036854775808)) hx hb hr (fun t ht hW => kRdL rfl ht) (fun _ h9 => by cases h9) dX8_odds_22
  · have k_3 : (0 ≤ k ∧ k ≤ 24) := b01t c_1
    refine lv_iload_n hx hb dX8_odds_10 rfl (lv_at hl 2 rfl) ?_
    refine lv_iconst (v := 0) hx hb dX8_odds_11 (by decide) ?_
    refine lv_iconst (v := 1) hx hb dX8_odds_12 (by decide) ?_
    refine k_callR (va_runS (As := [.int w, .int 0, .int 1]) (rest := []) ⟨hx, hb, hml, hown, hts⟩ (c_X8_isWithin l D s.heap.size (v := w) (a := 0) (b := 1)) (va_cwS 3 hts gX8_odds_X8_isWithin rfl rfl rfl (by decide +kernel) ⟨Nat.le_of_ble_eq_true rfl, Nat.le_of_ble_eq_true rfl⟩) (kPreS hP (kD0 hD) hK hN [] [] rfl rfl (by decide)) rfl rfl hl.1 rfl (lv_room (Nat.le_of_ble_eq_true rfl)) dX8_odds_13 ⟨Nat.le_of_ble_eq_true rfl, Nat.le_of_ble_eq_true rfl⟩) ?_
    refine lv_if_ne (tgt := 23) hx hb dX8_odds_16 (by decide) (fun c_4 => ?_) (fun c_4 => ?_)
    · have k_5 : (0 ≤ w ∧ w ≤ 1) := b01t c_4
      refine lv_aload_n hx hb dX8_odds_23 rfl (lv_at hl 0 rfl) ?_
      refine va_get (D := D) (ci := 8) (v := .ref fr) (C := RX8) (T := TX8) (N := 15) hx hb hts (fun _ h9 => List.mem_cons_of_mem _ (List.mem_append_left _ (List.mem_append_left _ (List.mem_append_left _ (List.mem_append_left _ (List.mem_append_right _ h9)))))) hown hK hP 0 rfl rfl 2 (by decide) (hts (.fieldLink RX8 28 "FontRuns" "fontRow" "LFontRuns$FontRow;") (by decide +kernel)) (fun _ h9 => h9) rfl dX8_odds_24 ?_
      refine va_get (D := D) (ci := 0) (v := .int 0) (C := RX0) (T := TX0) (N := 4) hx hb hts (fun _ h9 => List.mem_cons_of_mem _ (List.mem_append_left _ (List.mem_append_left _ (List.mem_append_left _ (List.mem_append_right _ h9))))) hown hK hP 1 rfl rfl 3 (by decide) (hts (.fieldLink RX8 106 "FontRuns$FontRow" "count" "I") (by decide +kernel)) (fun _ h9 => h9) rfl dX8_odds_27 ?_
      refine lv_if_eq (tgt := 45) hx hb dX8_odds_30 (by decide) (fun _ => ?_) (fun c9 => absurd (by decide) c9)
      refine lv_ldc2 (v := (-9223372036854775808)) hx hb hown (hts (.constantLong RX8 280 (-9223372036854775808)) (by decide +kernel)) dX8_odds_45 ?_
      exact W.lret (v := (-9223372036854775808)) hx hb hr (fun t ht hW => kRdL rfl ht) (fun _ h9 => by cases h9) dX8_odds_48
    · have k_6 : ¬ ((0 ≤ w ∧ w ≤ 1)) := b01f c_4
      refine lv_ldc2 (v := (-9223372036854775808)) hx hb hown (hts (.constantLong RX8 280 (-9223372036854775808)) (by decide +kernel)) dX8_odds_19 ?_
      exact W.lret (v := (-9223372036854775808)) hx hb hr (fun t ht hW => kRdL rfl ht) (fun _ h9 => by cases h9) dX8_odds_22
theorem dX8_back_0 : decode cX8_back 0 = .ok (.iload_n 1, 1) := by decide +kernel
theorem dX8_back_1 : decode cX8_back 1 = .ok (.iconst 0, 1) := by decide +kernel
theorem dX8_back_2 : decode cX8_back 2 = .ok (.aload_n 0, 1) := by decide +kernel
theorem dX8_back_3 : decode cX8_back 3 = .ok (.getfield 63, 3) := by decide +kernel
theorem dX8_back_6 : decode cX8_back 6 = .ok (.getfield 145, 3) := by decide +kernel
theorem dX8_back_9 : decode cX8_back 9 = .ok (.invokestatic 128, 3) := by decide +kernel
theorem dX8_back_12 : decode cX8_back 12 = .ok (.ifCond .ne 6, 3) := by decide +kernel
theorem dX8_back_15 : decode cX8_back 15 = .ok (.bipush (-2), 2) := by decide +kernel
theorem dX8_back_17 : decode cX8_back 17 = .ok (.ireturn, 1) := by decide +kernel
theorem dX8_back_18 : decode cX8_back 18 = .ok (.aload_n 0, 1) := by decide +kernel
theorem dX8_back_19 : decode cX8_back 19 = .ok (.getfield 63, 3) := by decide +kernel
theorem dX8_back_22 : decode cX8_back 22 = .ok (.dup, 1) := by decide +kernel
theorem dX8_back_23 : decode cX8_back 23 = .ok (.getfield 145, 3) := by decide +kernel
theorem dX8_back_26 : decode cX8_back 26 = .ok (.iload_n 1, 1) := by decide +kernel
theorem dX8_back_27 : decode cX8_back 27 = .ok (.isub, 1) := by decide +kernel
theorem dX8_back_28 : decode cX8_back 28 = .ok (.putfield 145, 3) := by decide +kernel
theorem dX8_back_31 : decode cX8_back 31 = .ok (.aload_n 0, 1) := by decide +kernel
theorem dX8_back_32 : decode cX8_back 32 = .ok (.getfield 63, 3) := by decide +kernel
theorem dX8_back_35 : decode cX8_back 35 = .ok (.getfield 145, 3) := by decide +kernel
theorem dX8_back_38 : decode cX8_back 38 = .ok (.ireturn, 1) := by decide +kernel
set_option maxRecDepth 20000 in
theorem ggX8_back_X8_isWithin : GoodIn wsX8_back wsX8_isWithin := goodIn_r _ [6] (by decide +kernel) (by decide +kernel)
set_option maxRecDepth 20000 in
theorem gX8_back_X8_isWithin : GoodIn wsX8_back (va_wsS RX8 128 yX8_isWithin wsX8_isWithin) := goodIn_app (goodIn_of _ (by decide +kernel)) ggX8_back_X8_isWithin
set_option maxHeartbeats 4000000 in
set_option maxRecDepth 100000 in
theorem c_X8_back (l : Launch) (D : va_G) (sz : Nat) (n : Int32) (h0 : Nat) (sh : Nat) (rd : Nat) (fr : Nat) (wr : Nat) (pf : Nat) (rc : Nat) (se : Nat) (rs : Nat) (sw : Nat) (sp : Nat) (ss : Nat) (ew : Int32) (wc : Int64) (tr : Int32) (lf : Int32) (z1 : Nat) (z2 : Nat) : Met l yX8_back wsX8_back ({ frames := 1, cells := 0, slots := 0, locals := 22 }) (kPre [.ref h0, .int n] D [(h0, .inr (8, [.ref sh, .ref rd, .ref fr, .ref wr, .ref pf, .ref rc, .ref se, .ref rs, .ref sw, .ref sp, .ref ss, .int ew, .long wc, .int tr, .int lf])), (rs, .inr (2, [.int 0, .ref z1, .ref z2]))] [] sz) (kQi (sp_zero n) (va_A [(h0, .inr (8, [.ref sh, .ref rd, .ref fr, .ref wr, .ref pf, .ref rc, .ref se, .ref rs, .ref sw, .ref sp, .ref ss, .int ew, .long wc, .int tr, .int lf])), (rs, .inr (2, [.int 0, .ref z1, .ref z2]))] sz)) 0 0 (va_A [(h0, .inr (8, [.ref sh, .ref rd, .ref fr, .ref wr, .ref pf, .ref rc, .ref se, .ref rs, .ref sw, .ref sp, .ref ss, .int ew, .long wc, .int tr, .int lf])), (rs, .inr (2, [.int 0, .ref z1, .ref z2]))] sz) := by
  refine Met.ofW (cc := cX8_back) (maxL := 2) (ret := (some .int)) (by decide) rfl ?_
  intro p e s m args below meth c s₁ B hml hv
  obtain ⟨rfl, hsz, hP, hK, hD0, hN⟩ := hv
  have hx := B.exec
  have hb := B.bytes
  have hr := B.returns
  have hts := atoms_spec (ws := wsX8_back) B.pre
  have hown : s.vm.findClass RX8 = some m.cls := findClass_of_methodNamed B.named
  have hlocks := B.notSynchronized
  subst hsz
  have hD := hD0.self (sz := s.heap.size)
  generalize hAe : va_A [(h0, .inr (8, [.ref sh, .ref rd, .ref fr, .ref wr, .ref pf, .ref rc, .ref se, .ref rs, .ref sw, .ref sp, .ref ss, .int ew, .long wc, .int tr, .int lf])), (rs, .inr (2, [.int 0, .ref z1, .ref z2]))] s.heap.size = A at hD ⊢
  have hA : ∀ q : Nat, s.heap.size ≤ q → A q := fun q h => by rw [← hAe]; exact Or.inr h
  have hS : va_S A s.heap s.heap [] := va_S.rf
  have hP : va_P D vwCl [(h0, .inr (8, [.ref sh, .ref rd, .ref fr, .ref wr, .ref pf, .ref rc, .ref se, .ref rs, .ref sw, .ref sp, .ref ss, .int ew, .long wc, .int tr, .int lf])), (rs, .inr (2, [.int 0, .ref z1, .ref z2]))] s.heap := hP
  have hl := lv_entry ([.ref h0, .int n]) (n := 2) (Nat.le_of_ble_eq_true rfl)
  rw [lg_entry_eq]
  generalize (lg_sl ([.ref h0, .int n]) ++ List.replicate (2 - (lg_sl ([.ref h0, .int n])).length) Slot.unset).toArray = ls at hl ⊢
  have hl : lv_has ls 2 [(0, .ref h0), (1, .int n)] := hl
  refine lv_iload_n hx hb dX8_back_0 rfl (lv_at hl 1 rfl) ?_
  refine lv_iconst (v := 0) hx hb dX8_back_1 (by decide) ?_
  refine lv_aload_n hx hb dX8_back_2 rfl (lv_at hl 0 rfl) ?_
  refine va_get (D := D) (ci := 8) (v := .ref rs) (C := RX8) (T := TX8) (N := 15) hx hb hts (fun _ h9 => List.mem_cons_of_mem _ (List.mem_append_left _ (List.mem_append_right _ h9))) hown hK hP 0 rfl rfl 7 (by decide) (hts (.fieldLink RX8 63 "FontRuns" "readings" "LFontRuns$Readings;") (by decide +kernel)) (fun _ h9 => h9) rfl dX8_back_3 ?_
  refine va_get (D := D) (ci := 2) (v := .int 0) (C := RX2) (T := TX2) (N := 3) hx hb hts (fun _ h9 => List.mem_cons_of_mem _ (List.mem_append_right _ h9)) hown hK hP 1 rfl rfl 0 (by decide) (hts (.fieldLink RX8 145 "FontRuns$Readings" "count" "I") (by decide +kernel)) (fun _ h9 => h9) rfl dX8_back_6 ?_
  refine k_callR (va_runS (As := [.int n, .int 0, .int 0]) (rest := []) ⟨hx, hb, hml, hown, hts⟩ (c_X8_isWithin l D s.heap.size (v := n) (a := 0) (b := 0)) (va_cwS 3 hts gX8_back_X8_isWithin rfl rfl rfl (by decide +kernel) ⟨Nat.le_of_ble_eq_true rfl, Nat.le_of_ble_eq_true rfl⟩) (kPreS hP (kD0 hD) hK hN [] [] rfl rfl (by decide)) rfl rfl hl.1 rfl (lv_room (Nat.le_of_ble_eq_true rfl)) dX8_back_9 ⟨Nat.le_of_ble_eq_true rfl, Nat.le_of_ble_eq_true rfl⟩) ?_
  refine lv_if_ne (tgt := 18) hx hb dX8_back_12 (by decide) (fun c_1 => ?_) (fun c_1 => ?_)
  · have k_2 : (0 ≤ n ∧ n ≤ 0) := b01t c_1
    have e9 := kz1 k_2
    subst e9
    refine lv_aload_n hx hb dX8_back_18 rfl (lv_at hl 0 rfl) ?_
    refine va_get (D := D) (ci := 8) (v := .ref rs) (C := RX8) (T := TX8) (N := 15) hx hb hts (fun _ h9 => List.mem_cons_of_mem _ (List.mem_append_left _ (List.mem_append_right _ h9))) hown hK hP 0 rfl rfl 7 (by decide) (hts (.fieldLink RX8 63 "FontRuns" "readings" "LFontRuns$Readings;") (by decide +kernel)) (fun _ h9 => h9) rfl dX8_back_19 ?_
    refine lv_dup hx hb dX8_back_22 rfl ?_
    refine va_get (D := D) (ci := 2) (v := .int 0) (C := RX2) (T := TX2) (N := 3) hx hb hts (fun _ h9 => List.mem_cons_of_mem _ (List.mem_append_right _ h9)) hown hK hP 1 rfl rfl 0 (by decide) (hts (.fieldLink RX8 145 "FontRuns$Readings" "count" "I") (by decide +kernel)) (fun _ h9 => h9) rfl dX8_back_23 ?_
    refine lv_iload_n hx hb dX8_back_26 rfl (lv_at hl 1 rfl) ?_
    refine lv_isub hx hb dX8_back_27 ?_
    refine kn_i 0 (by decide) ?_
    refine va_put (D := D) (ci := 2) (v := .int 0) (ty := .int) (C := RX2) (T := TX2) (N := 3) hx hb hts (fun _ h9 => List.mem_cons_of_mem _ (List.mem_append_right _ h9)) tyX2 tyX2_ok nmX2 hown hK hP hD hS 1 rfl rfl 0 (by decide) (hts (.fieldLink RX8 145 "FontRuns$Readings" "count" "I") (by decide +kernel)) (fun _ h9 => h9) rfl (by decide +kernel) rfl rfl (Nat.le_of_ble_eq_true rfl) dX8_back_28 (fun H locs hP hD hS => ?_)
    have hP : va_P D vwCl [(h0, .inr (8, [.ref sh, .ref rd, .ref fr, .ref wr, .ref pf, .ref rc, .ref se, .ref rs, .ref sw, .ref sp, .ref ss, .int ew, .long wc, .int tr, .int lf])), (rs, .inr (2, [.int 0, .ref z1, .ref z2]))] H := hP
    have hD : va_D A [(h0, .inr (8, [.ref sh, .ref rd, .ref fr, .ref wr, .ref pf, .ref rc, .ref se, .ref rs, .ref sw, .ref sp, .ref ss, .int ew, .long wc, .int tr, .int lf])), (rs, .inr (2, [.int 0, .ref z1, .ref z2]))] := hD
    refine lv_aload_n hx hb dX8_back_31 rfl (lv_at hl 0 rfl) ?_
    refine va_get (D := D) (ci := 8) (v := .ref rs) (C := RX8) (T := TX8) (N := 15) hx hb hts (fun _ h9 => List.mem_cons_of_mem _ (List.mem_append_left _ (List.mem_append_right _ h9))) hown hK hP 0 rfl rfl 7 (by decide) (hts (.fieldLink RX8 63 "FontRuns" "readings" "LFontRuns$Readings;") (by decide +kernel)) (fun _ h9 => h9) rfl dX8_back_32 ?_
    refine va_get (D := D) (ci := 2) (v := .int 0) (C := RX2) (T := TX2) (N := 3) hx hb hts (fun _ h9 => List.mem_cons_of_mem _ (List.mem_append_right _ h9)) hown hK hP 1 rfl rfl 0 (by decide) (hts (.fieldLink RX8 145 "FontRuns$Readings" "count" "I") (by decide +kernel)) (fun _ h9 => h9) rfl dX8_back_35 ?_
    exact W.iret (v := 0) hx hb hr (fun t ht hW => kQi_of (by first | rfl | (simp only [sp_zero, if_pos k_2]; done) | (simp [sp_zero, k_2]; done)) (hS.F ht)) hS.2.2 dX8_back_38
  · have k_3 : ¬ ((0 ≤ n ∧ n ≤ 0)) := b01f c_1
    refine lv_bipush (v := (-2)) hx hb dX8_back_15 (by decide) ?_
    exact W.iret (v := (-2)) hx hb hr (fun t ht hW => kQi_of (by first | rfl | (simp only [sp_zero, if_neg k_3]; done) | (simp [sp_zero, k_3]; done)) (hS.F ht)) hS.2.2 dX8_back_17
theorem dX8_lose_0 : decode cX8_lose 0 = .ok (.iload_n 1, 1) := by decide +kernel
theorem dX8_lose_1 : decode cX8_lose 1 = .ok (.invokestatic 80, 3) := by decide +kernel
theorem dX8_lose_4 : decode cX8_lose 4 = .ok (.ifCond .ne 5, 3) := by decide +kernel
theorem dX8_lose_7 : decode cX8_lose 7 = .ok (.iconst (-1), 1) := by decide +kernel
theorem dX8_lose_8 : decode cX8_lose 8 = .ok (.ireturn, 1) := by decide +kernel
theorem dX8_lose_9 : decode cX8_lose 9 = .ok (.aload_n 0, 1) := by decide +kernel
theorem dX8_lose_10 : decode cX8_lose 10 = .ok (.getfield 13, 3) := by decide +kernel
theorem dX8_lose_13 : decode cX8_lose 13 = .ok (.iload_n 1, 1) := by decide +kernel
theorem dX8_lose_14 : decode cX8_lose 14 = .ok (.aaload, 1) := by decide +kernel
theorem dX8_lose_15 : decode cX8_lose 15 = .ok (.getfield 288, 3) := by decide +kernel
theorem dX8_lose_18 : decode cX8_lose 18 = .ok (.istore_n 2, 1) := by decide +kernel
theorem dX8_lose_19 : decode cX8_lose 19 = .ok (.aload_n 0, 1) := by decide +kernel
theorem dX8_lose_20 : decode cX8_lose 20 = .ok (.getfield 13, 3) := by decide +kernel
theorem dX8_lose_23 : decode cX8_lose 23 = .ok (.iload_n 1, 1) := by decide +kernel
theorem dX8_lose_24 : decode cX8_lose 24 = .ok (.aaload, 1) := by decide +kernel
theorem dX8_lose_25 : decode cX8_lose 25 = .ok (.iconst 0, 1) := by decide +kernel
theorem dX8_lose_26 : decode cX8_lose 26 = .ok (.putfield 288, 3) := by decide +kernel
theorem dX8_lose_29 : decode cX8_lose 29 = .ok (.iload_n 2, 1) := by decide +kernel
theorem dX8_lose_30 : decode cX8_lose 30 = .ok (.ifCond .eq 7, 3) := by decide +kernel
theorem dX8_lose_37 : decode cX8_lose 37 = .ok (.iconst 0, 1) := by decide +kernel
theorem dX8_lose_38 : decode cX8_lose 38 = .ok (.ireturn, 1) := by decide +kernel
set_option maxRecDepth 20000 in
theorem ggX8_lose_X8_isSheet : GoodIn wsX8_lose wsX8_isSheet := goodIn_r _ [6, 7, 8, 5, 9] (by decide +kernel) (by decide +kernel)
set_option maxRecDepth 20000 in
theorem gX8_lose_X8_isSheet : GoodIn wsX8_lose (va_wsS RX8 80 yX8_isSheet wsX8_isSheet) := goodIn_app (goodIn_of _ (by decide +kernel)) ggX8_lose_X8_isSheet
set_option maxHeartbeats 4000000 in
set_option maxRecDepth 100000 in
theorem c_X8_lose (l : Launch) (D : va_G) (sz : Nat) (k : Int32) (h0 : Nat) (sh : Nat) (rd : Nat) (fr : Nat) (wr : Nat) (pf : Nat) (rc : Nat) (se : Nat) (rs : Nat) (sw : Nat) (sp : Nat) (ss : Nat) (ew : Int32) (wc : Int64) (tr : Int32) (lf : Int32) (cS : ClassId) (s0 : Nat) (s1 : Nat) (s2 : Nat) (s3 : Nat) (e0 : Nat) (e1 : Nat) (e2 : Nat) (e3 : Nat) : Met l yX8_lose wsX8_lose ({ frames := 2, cells := 0, slots := 0, locals := 42 }) (kPre [.ref h0, .int k] D [(h0, .inr (8, [.ref sh, .ref rd, .ref fr, .ref wr, .ref pf, .ref rc, .ref se, .ref rs, .ref sw, .ref sp, .ref ss, .int ew, .long wc, .int tr, .int lf])), (sh, .inl (cS, 4, .inr (.inr (.inr (.inr (va_up (va_up (va_up (va_up (fun _ => none) 0 (some s0)) 1 (some s1)) 2 (some s2)) 3 (some s3))))))), (s0, .inr (5, [.ref e0, .int 0, .int 0, .int 0])), (s1, .inr (5, [.ref e1, .int 0, .int 0, .int 0])), (s2, .inr (5, [.ref e2, .int 0, .int 0, .int 0])), (s3, .inr (5, [.ref e3, .int 0, .int 0, .int 0]))] [(cS, .object RX5)] sz) (kQi (sp_lose k) (va_A [(h0, .inr (8, [.ref sh, .ref rd, .ref fr, .ref wr, .ref pf, .ref rc, .ref se, .ref rs, .ref sw, .ref sp, .ref ss, .int ew, .long wc, .int tr, .int lf])), (sh, .inl (cS, 4, .inr (.inr (.inr (.inr (va_up (va_up (va_up (va_up (fun _ => none) 0 (some s0)) 1 (some s1)) 2 (some s2)) 3 (some s3))))))), (s0, .inr (5, [.ref e0, .int 0, .int 0, .int 0])), (s1, .inr (5, [.ref e1, .int 0, .int 0, .int 0])), (s2, .inr (5, [.ref e2, .int 0, .int 0, .int 0])), (s3, .inr (5, [.ref e3, .int 0, .int 0, .int 0]))] sz)) 0 0 (va_A [(h0, .inr (8, [.ref sh, .ref rd, .ref fr, .ref wr, .ref pf, .ref rc, .ref se, .ref rs, .ref sw, .ref sp, .ref ss, .int ew, .long wc, .int tr, .int lf])), (sh, .inl (cS, 4, .inr (.inr (.inr (.inr (va_up (va_up (va_up (va_up (fun _ => none) 0 (some s0)) 1 (some s1)) 2 (some s2)) 3 (some s3))))))), (s0, .inr (5, [.ref e0, .int 0, .int 0, .int 0])), (s1, .inr (5, [.ref e1, .int 0, .int 0, .int 0])), (s2, .inr (5, [.ref e2, .int 0, .int 0, .int 0])), (s3, .inr (5, [.ref e3, .int 0, .int 0, .int 0]))] sz) := by
  refine Met.ofW (cc := cX8_lose) (maxL := 3) (ret := (some .int)) (by decide) rfl ?_
  intro p e s m args below meth c s₁ B hml hv
  obtain ⟨rfl, hsz, hP, hK, hD0, hN⟩ := hv
  have hx := B.exec
  have hb := B.bytes
  have hr := B.returns
  have hts := atoms_spec (ws := wsX8_lose) B.pre
  have hown : s.vm.findClass RX8 = some m.cls := findClass_of_methodNamed B.named
  have hlocks := B.notSynchronized
  subst hsz
  have hD := hD0.self (sz := s.heap.size)
  generalize hAe : va_A [(h0, .inr (8, [.ref sh, .ref rd, .ref fr, .ref wr, .ref pf, .ref rc, .ref se, .ref rs, .ref sw, .ref sp, .ref ss, .int ew, .long wc, .int tr, .int lf])), (sh, .inl (cS, 4, .inr (.inr (.inr (.inr (va_up (va_up (va_up (va_up (fun _ => none) 0 (some s0)) 1 (some s1)) 2 (some s2)) 3 (some s3))))))), (s0, .inr (5, [.ref e0, .int 0, .int 0, .int 0])), (s1, .inr (5, [.ref e1, .int 0, .int 0, .int 0])), (s2, .inr (5, [.ref e2, .int 0, .int 0, .int 0])), (s3, .inr (5, [.ref e3, .int 0, .int 0, .int 0]))] s.heap.size = A at hD ⊢
  have hA : ∀ q : Nat, s.heap.size ≤ q → A q := fun q h => by rw [← hAe]; exact Or.inr h
  have hS : va_S A s.heap s.heap [] := va_S.rf
  have hP : va_P D vwCl [(h0, .inr (8, [.ref sh, .ref rd, .ref fr, .ref wr, .ref pf, .ref rc, .ref se, .ref rs, .ref sw, .ref sp, .ref ss, .int ew, .long wc, .int tr, .int lf])), (sh, .inl (cS, 4, .inr (.inr (.inr (.inr (va_up (va_up (va_up (va_up (fun _ => none) 0 (some s0)) 1 (some s1)) 2 (some s2)) 3 (some s3))))))), (s0, .inr (5, [.ref e0, .int 0, .int 0, .int 0])), (s1, .inr (5, [.ref e1, .int 0, .int 0, .int 0])), (s2, .inr (5, [.ref e2, .int 0, .int 0, .int 0])), (s3, .inr (5, [.ref e3, .int 0, .int 0, .int 0]))] s.heap := hP
  have hl := lv_entry ([.ref h0, .int k]) (n := 3) (Nat.le_of_ble_eq_true rfl)
  rw [lg_entry_eq]
  generalize (lg_sl ([.ref h0, .int k]) ++ List.replicate (3 - (lg_sl ([.ref h0, .int k])).length) Slot.unset).toArray = ls at hl ⊢
  have hl : lv_has ls 3 [(0, .ref h0), (1, .int k)] := hl
  refine lv_iload_n hx hb dX8_lose_0 rfl (lv_at hl 1 rfl) ?_
  refine k_callR (va_runS (As := [.int k]) (rest := []) ⟨hx, hb, hml, hown, hts⟩ (c_X8_isSheet l D s.heap.size (k := k)) (va_cwS 1 hts gX8_lose_X8_isSheet rfl rfl rfl (by decide +kernel) ⟨Nat.le_of_ble_eq_true rfl, Nat.le_of_ble_eq_true rfl⟩) (kPreS hP (kD0 hD) hK hN [] [] rfl rfl (by decide)) rfl rfl hl.1 rfl (lv_room (Nat.le_of_ble_eq_true rfl)) dX8_lose_1 ⟨Nat.le_of_ble_eq_true rfl, Nat.le_of_ble_eq_true rfl⟩) ?_
  refine lv_if_ne (tgt := 9) hx hb dX8_lose_4 (by decide) (fun c_1 => ?_) (fun c_1 => ?_)
  · have k_2 : (0 ≤ k ∧ k ≤ 3) := b01t c_1
    refine lv_aload_n hx hb dX8_lose_9 rfl (lv_at hl 0 rfl) ?_
    refine va_get (D := D) (ci := 8) (v := .ref sh) (C := RX8) (T := TX8) (N := 15) hx hb hts (fun _ h9 => List.mem_cons_of_mem _ (List.mem_append_left _ (List.mem_append_right _ h9))) hown hK hP 0 rfl rfl 0 (by decide) (hts (.fieldLink RX8 13 "FontRuns" "sheets" "[LFontRuns$Sheet;") (by decide +kernel)) (fun _ h9 => h9) rfl dX8_lose_10 ?_
    refine lv_iload_n hx hb dX8_lose_13 rfl (lv_at hl 1 rfl) ?_
    refine va_aldq hx hb hK hP 1 0 rfl rfl (k4in k_2) dX8_lose_14 ?_
    rcases (k4 k_2) with e9 | e9 | e9 | e9
    · subst e9
      refine kn_v (.ref s0) rfl ?_
      refine va_get (D := D) (ci := 5) (v := .int 0) (C := RX5) (T := TX5) (N := 4) hx hb hts (fun _ h9 => List.mem_cons_of_mem _ (List.mem_append_right _ h9)) hown hK hP 2 rfl rfl 1 (by decide) (hts (.fieldLink RX8 288 "FontRuns$Sheet" "isThere" "Z") (by decide +kernel)) (fun _ h9 => h9) rfl dX8_lose_15 ?_
      refine lv_istore_n (lv' := [(2, .int 0), (0, .ref h0), (1, .int 0)]) hx hb dX8_lose_18 rfl hl (by decide) rfl (fun ls hl => ?_)
      refine lv_aload_n hx hb dX8_lose_19 rfl (lv_at hl 1 rfl) ?_
      refine va_get (D := D) (ci := 8) (v := .ref sh) (C := RX8) (T := TX8) (N := 15) hx hb hts (fun _ h9 => List.mem_cons_of_mem _ (List.mem_append_left _ (List.mem_append_right _ h9))) hown hK hP 0 rfl rfl 0 (by decide) (hts (.fieldLink RX8 13 "FontRuns" "sheets" "[LFontRuns$Sheet;") (by decide +kernel)) (fun _ h9 => h9) rfl dX8_lose_20 ?_
      refine lv_iload_n hx hb dX8_lose_23 rfl (lv_at hl 2 rfl) ?_
      refine va_aldq hx hb hK hP 1 0 rfl rfl (by unfold vp_in; decide) dX8_lose_24 ?_
      refine kn_v (.ref s0) rfl ?_
      refine lv_iconst (v := 0) hx hb dX8_lose_25 (by decide) ?_
      refine va_put (D := D) (ci := 5) (v := .int 0) (ty := .boolean) (C := RX5) (T := TX5) (N := 4) hx hb hts (fun _ h9 => List.mem_cons_of_mem _ (List.mem_append_right _ h9)) tyX5 tyX5_ok nmX5 hown hK hP hD hS 2 rfl rfl 1 (by decide) (hts (.fieldLink RX8 288 "FontRuns$Sheet" "isThere" "Z") (by decide +kernel)) (fun _ h9 => h9) rfl (by decide +kernel) rfl rfl (Nat.le_of_ble_eq_true rfl) dX8_lose_26 (fun H locs hP hD hS => ?_)
      have hP : va_P D vwCl [(h0, .inr (8, [.ref sh, .ref rd, .ref fr, .ref wr, .ref pf, .ref rc, .ref se, .ref rs, .ref sw, .ref sp, .ref ss, .int ew, .long wc, .int tr, .int lf])), (sh, .inl (cS, 4, .inr (.inr (.inr (.inr (va_up (va_up (va_up (va_up (fun _ => none) 0 (some s0)) 1 (some s1)) 2 (some s2)) 3 (some s3))))))), (s0, .inr (5, [.ref e0, .int 0, .int 0, .int 0])), (s1, .inr (5, [.ref e1, .int 0, .int 0, .int 0])), (s2, .inr (5, [.ref e2, .int 0, .int 0, .int 0])), (s3, .inr (5, [.ref e3, .int 0, .int 0, .int 0]))] H := hP
      have hD : va_D A [(h0, .inr (8, [.ref sh, .ref rd, .ref fr, .ref wr, .ref pf, .ref rc, .ref se, .ref rs, .ref sw, .ref sp, .ref ss, .int ew, .long wc, .int tr, .int lf])), (sh, .inl (cS, 4, .inr (.inr (.inr (.inr (va_up (va_up (va_up (va_up (fun _ => none) 0 (some s0)) 1 (some s1)) 2 (some s2)) 3 (some s3))))))), (s0, .inr (5, [.ref e0, .int 0, .int 0, .int 0])), (s1, .inr (5, [.ref e1, .int 0, .int 0, .int 0])), (s2, .inr (5, [.ref e2, .int 0, .int 0, .int 0])), (s3, .inr (5, [.ref e3, .int 0, .int 0, .int 0]))] := hD
      refine lv_iload_n hx hb dX8_lose_29 rfl (lv_at hl 0 rfl) ?_
      refine lv_if_eq (tgt := 37) hx hb dX8_lose_30 (by decide) (fun _ => ?_) (fun c9 => absurd (by decide) c9)
      refine lv_iconst (v := 0) hx hb dX8_lose_37 (by decide) ?_
      exact W.iret (v := 0) hx hb hr (fun t ht hW => kQi_of (by first | rfl | (simp only [sp_lose, if_pos k_2]; done) | (simp [sp_lose, k_2]; done)) (hS.F ht)) hS.2.2 dX8_lose_38
    · subst e9
      refine kn_v (.ref s1) rfl ?_
      refine va_get (D := D) (ci := 5) (v := .int 0) (C := RX5) (T := TX5) (N := 4) hx hb hts (fun _ h9 => List.mem_cons_of_mem _ (List.mem_append_right _ h9)) hown hK hP 3 rfl rfl 1 (by decide) (hts (.fieldLink RX8 288 "FontRuns$Sheet" "isThere" "Z") (by decide +kernel)) (fun _ h9 => h9) rfl dX8_lose_15 ?_
      refine lv_istore_n (lv' := [(2, .int 0), (0, .ref h0), (1, .int 1)]) hx hb dX8_lose_18 rfl hl (by decide) rfl (fun ls hl => ?_)
      refine lv_aload_n hx hb dX8_lose_19 rfl (lv_at hl 1 rfl) ?_
      refine va_get (D := D) (ci := 8) (v := .ref sh) (C := RX8) (T := TX8) (N := 15) hx hb hts (fun _ h9 => List.mem_cons_of_mem _ (List.mem_append_left _ (List.mem_append_right _ h9))) hown hK hP 0 rfl rfl 0 (by decide) (hts (.fieldLink RX8 13 "FontRuns" "sheets" "[LFontRuns$Sheet;") (by decide +kernel)) (fun _ h9 => h9) rfl dX8_lose_20 ?_
      refine lv_iload_n hx hb dX8_lose_23 rfl (lv_at hl 2 rfl) ?_
      refine va_aldq hx hb hK hP 1 0 rfl rfl (by unfold vp_in; decide) dX8_lose_24 ?_
      refine kn_v (.ref s1) rfl ?_
      refine lv_iconst (v := 0) hx hb dX8_lose_25 (by decide) ?_
      refine va_put (D := D) (ci := 5) (v := .int 0) (ty := .boolean) (C := RX5) (T := TX5) (N := 4) hx hb hts (fun _ h9 => List.mem_cons_of_mem _ (List.mem_append_right _ h9)) tyX5 tyX5_ok nmX5 hown hK hP hD hS 3 rfl rfl 1 (by decide) (hts (.fieldLink RX8 288 "FontRuns$Sheet" "isThere" "Z") (by decide +kernel)) (fun _ h9 => h9) rfl (by decide +kernel) rfl rfl (Nat.le_of_ble_eq_true rfl) dX8_lose_26 (fun H locs hP hD hS => ?_)
      have hP : va_P D vwCl [(h0, .inr (8, [.ref sh, .ref rd, .ref fr, .ref wr, .ref pf, .ref rc, .ref se, .ref rs, .ref sw, .ref sp, .ref ss, .int ew, .long wc, .int tr, .int lf])), (sh, .inl (cS, 4, .inr (.inr (.inr (.inr (va_up (va_up (va_up (va_up (fun _ => none) 0 (some s0)) 1 (some s1)) 2 (some s2)) 3 (some s3))))))), (s0, .inr (5, [.ref e0, .int 0, .int 0, .int 0])), (s1, .inr (5, [.ref e1, .int 0, .int 0, .int 0])), (s2, .inr (5, [.ref e2, .int 0, .int 0, .int 0])), (s3, .inr (5, [.ref e3, .int 0, .int 0, .int 0]))] H := hP
      have hD : va_D A [(h0, .inr (8, [.ref sh, .ref rd, .ref fr, .ref wr, .ref pf, .ref rc, .ref se, .ref rs, .ref sw, .ref sp, .ref ss, .int ew, .long wc, .int tr, .int lf])), (sh, .inl (cS, 4, .inr (.inr (.inr (.inr (va_up (va_up (va_up (va_up (fun _ => none) 0 (some s0)) 1 (some s1)) 2 (some s2)) 3 (some s3))))))), (s0, .inr (5, [.ref e0, .int 0, .int 0, .int 0])), (s1, .inr (5, [.ref e1, .int 0, .int 0, .int 0])), (s2, .inr (5, [.ref e2, .int 0, .int 0, .int 0])), (s3, .inr (5, [.ref e3, .int 0, .int 0, .int 0]))] := hD
      refine lv_iload_n hx hb dX8_lose_29 rfl (lv_at hl 0 rfl) ?_
      refine lv_if_eq (tgt := 37) hx hb dX8_lose_30 (by decide) (fun _ => ?_) (fun c9 => absurd (by decide) c9)
      refine lv_iconst (v := 0) hx hb dX8_lose_37 (by decide) ?_
      exact W.iret (v := 0) hx hb hr (fun t ht hW => kQi_of (by first | rfl | (simp only [sp_lose, if_pos k_2]; done) | (simp [sp_lose, k_2]; done)) (hS.F ht)) hS.2.2 dX8_lose_38
    · subst e9
      refine kn_v (.ref s2) rfl ?_
      refine va_get (D := D) (ci := 5) (v := .int 0) (C := RX5) (T := TX5) (N := 4) hx hb hts (fun _ h9 => List.mem_cons_of_mem _ (List.mem_append_right _ h9)) hown hK hP 4 rfl rfl 1 (by decide) (hts (.fieldLink RX8 288 "FontRuns$Sheet" "isThere" "Z") (by decide +kernel)) (fun _ h9 => h9) rfl dX8_lose_15 ?_
      refine lv_istore_n (lv' := [(2, .int 0), (0, .ref h0), (1, .int 2)]) hx hb dX8_lose_18 rfl hl (by decide) rfl (fun ls hl => ?_)
      refine lv_aload_n hx hb dX8_lose_19 rfl (lv_at hl 1 rfl) ?_
      refine va_get (D := D) (ci := 8) (v := .ref sh) (C := RX8) (T := TX8) (N := 15) hx hb hts (fun _ h9 => List.mem_cons_of_mem _ (List.mem_append_left _ (List.mem_append_right _ h9))) hown hK hP 0 rfl rfl 0 (by decide) (hts (.fieldLink RX8 13 "FontRuns" "sheets" "[LFontRuns$Sheet;") (by decide +kernel)) (fun _ h9 => h9) rfl dX8_lose_20 ?_
      refine lv_iload_n hx hb dX8_lose_23 rfl (lv_at hl 2 rfl) ?_
      refine va_aldq hx hb hK hP 1 0 rfl rfl (by unfold vp_in; decide) dX8_lose_24 ?_
      refine kn_v (.ref s2) rfl ?_
      refine lv_iconst (v := 0) hx hb dX8_lose_25 (by decide) ?_
      refine va_put (D := D) (ci := 5) (v := .int 0) (ty := .boolean) (C := RX5) (T := TX5) (N := 4) hx hb hts (fun _ h9 => List.mem_cons_of_mem _ (List.mem_append_right _ h9)) tyX5 tyX5_ok nmX5 hown hK hP hD hS 4 rfl rfl 1 (by decide) (hts (.fieldLink RX8 288 "FontRuns$Sheet" "isThere" "Z") (by decide +kernel)) (fun _ h9 => h9) rfl (by decide +kernel) rfl rfl (Nat.le_of_ble_eq_true rfl) dX8_lose_26 (fun H locs hP hD hS => ?_)
      have hP : va_P D vwCl [(h0, .inr (8, [.ref sh, .ref rd, .ref fr, .ref wr, .ref pf, .ref rc, .ref se, .ref rs, .ref sw, .ref sp, .ref ss, .int ew, .long wc, .int tr, .int lf])), (sh, .inl (cS, 4, .inr (.inr (.inr (.inr (va_up (va_up (va_up (va_up (fun _ => none) 0 (some s0)) 1 (some s1)) 2 (some s2)) 3 (some s3))))))), (s0, .inr (5, [.ref e0, .int 0, .int 0, .int 0])), (s1, .inr (5, [.ref e1, .int 0, .int 0, .int 0])), (s2, .inr (5, [.ref e2, .int 0, .int 0, .int 0])), (s3, .inr (5, [.ref e3, .int 0, .int 0, .int 0]))] H := hP
      have hD : va_D A [(h0, .inr (8, [.ref sh, .ref rd, .ref fr, .ref wr, .ref pf, .ref rc, .ref se, .ref rs, .ref sw, .ref sp, .ref ss, .int ew, .long wc, .int tr, .int lf])), (sh, .inl (cS, 4, .inr (.inr (.inr (.inr (va_up (va_up (va_up (va_up (fun _ => none) 0 (some s0)) 1 (some s1)) 2 (some s2)) 3 (some s3))))))), (s0, .inr (5, [.ref e0, .int 0, .int 0, .int 0])), (s1, .inr (5, [.ref e1, .int 0, .int 0, .int 0])), (s2, .inr (5, [.ref e2, .int 0, .int 0, .int 0])), (s3, .inr (5, [.ref e3, .int 0, .int 0, .int 0]))] := hD
      refine lv_iload_n hx hb dX8_lose_29 rfl (lv_at hl 0 rfl) ?_
      refine lv_if_eq (tgt := 37) hx hb dX8_lose_30 (by decide) (fun _ => ?_) (fun c9 => absurd (by decide) c9)
      refine lv_iconst (v := 0) hx hb dX8_lose_37 (by decide) ?_
      exact W.iret (v := 0) hx hb hr (fun t ht hW => kQi_of (by first | rfl | (simp only [sp_lose, if_pos k_2]; done) | (simp [sp_lose, k_2]; done)) (hS.F ht)) hS.2.2 dX8_lose_38
    · subst e9
      refine kn_v (.ref s3) rfl ?_
      refine va_get (D := D) (ci := 5) (v := .int 0) (C := RX5) (T := TX5) (N := 4) hx hb hts (fun _ h9 => List.mem_cons_of_mem _ (List.mem_append_right _ h9)) hown hK hP 5 rfl rfl 1 (by decide) (hts (.fieldLink RX8 288 "FontRuns$Sheet" "isThere" "Z") (by decide +kernel)) (fun _ h9 => h9) rfl dX8_lose_15 ?_
      refine lv_istore_n (lv' := [(2, .int 0), (0, .ref h0), (1, .int 3)]) hx hb dX8_lose_18 rfl hl (by decide) rfl (fun ls hl => ?_)
      refine lv_aload_n hx hb dX8_lose_19 rfl (lv_at hl 1 rfl) ?_
      refine va_get (D := D) (ci := 8) (v := .ref sh) (C := RX8) (T := TX8) (N := 15) hx hb hts (fun _ h9 => List.mem_cons_of_mem _ (List.mem_append_left _ (List.mem_append_right _ h9))) hown hK hP 0 rfl rfl 0 (by decide) (hts (.fieldLink RX8 13 "FontRuns" "sheets" "[LFontRuns$Sheet;") (by decide +kernel)) (fun _ h9 => h9) rfl dX8_lose_20 ?_
      refine lv_iload_n hx hb dX8_lose_23 rfl (lv_at hl 2 rfl) ?_
      refine va_aldq hx hb hK hP 1 0 rfl rfl (by unfold vp_in; decide) dX8_lose_24 ?_
      refine kn_v (.ref s3) rfl ?_
      refine lv_iconst (v := 0) hx hb dX8_lose_25 (by decide) ?_
      refine va_put (D := D) (ci := 5) (v := .int 0) (ty := .boolean) (C := RX5) (T := TX5) (N := 4) hx hb hts (fun _ h9 => List.mem_cons_of_mem _ (List.mem_append_right _ h9)) tyX5 tyX5_ok nmX5 hown hK hP hD hS 5 rfl rfl 1 (by decide) (hts (.fieldLink RX8 288 "FontRuns$Sheet" "isThere" "Z") (by decide +kernel)) (fun _ h9 => h9) rfl (by decide +kernel) rfl rfl (Nat.le_of_ble_eq_true rfl) dX8_lose_26 (fun H locs hP hD hS => ?_)
      have hP : va_P D vwCl [(h0, .inr (8, [.ref sh, .ref rd, .ref fr, .ref wr, .ref pf, .ref rc, .ref se, .ref rs, .ref sw, .ref sp, .ref ss, .int ew, .long wc, .int tr, .int lf])), (sh, .inl (cS, 4, .inr (.inr (.inr (.inr (va_up (va_up (va_up (va_up (fun _ => none) 0 (some s0)) 1 (some s1)) 2 (some s2)) 3 (some s3))))))), (s0, .inr (5, [.ref e0, .int 0, .int 0, .int 0])), (s1, .inr (5, [.ref e1, .int 0, .int 0, .int 0])), (s2, .inr (5, [.ref e2, .int 0, .int 0, .int 0])), (s3, .inr (5, [.ref e3, .int 0, .int 0, .int 0]))] H := hP
      have hD : va_D A [(h0, .inr (8, [.ref sh, .ref rd, .ref fr, .ref wr, .ref pf, .ref rc, .ref se, .ref rs, .ref sw, .ref sp, .ref ss, .int ew, .long wc, .int tr, .int lf])), (sh, .inl (cS, 4, .inr (.inr (.inr (.inr (va_up (va_up (va_up (va_up (fun _ => none) 0 (some s0)) 1 (some s1)) 2 (some s2)) 3 (some s3))))))), (s0, .inr (5, [.ref e0, .int 0, .int 0, .int 0])), (s1, .inr (5, [.ref e1, .int 0, .int 0, .int 0])), (s2, .inr (5, [.ref e2, .int 0, .int 0, .int 0])), (s3, .inr (5, [.ref e3, .int 0, .int 0, .int 0]))] := hD
      refine lv_iload_n hx hb dX8_lose_29 rfl (lv_at hl 0 rfl) ?_
      refine lv_if_eq (tgt := 37) hx hb dX8_lose_30 (by decide) (fun _ => ?_) (fun c9 => absurd (by decide) c9)
      refine lv_iconst (v := 0) hx hb dX8_lose_37 (by decide) ?_
      exact W.iret (v := 0) hx hb hr (fun t ht hW => kQi_of (by first | rfl | (simp only [sp_lose, if_pos k_2]; done) | (simp [sp_lose, k_2]; done)) (hS.F ht)) hS.2.2 dX8_lose_38
  · have k_3 : ¬ ((0 ≤ k ∧ k ≤ 3)) := b01f c_1
    refine lv_iconst (v := (-1)) hx hb dX8_lose_7 (by decide) ?_
    exact W.iret (v := (-1)) hx hb hr (fun t ht hW => kQi_of (by first | rfl | (simp only [sp_lose, if_neg k_3]; done) | (simp [sp_lose, k_3]; done)) (hS.F ht)) hS.2.2 dX8_lose_8
theorem dX8_put_0 : decode cX8_put 0 = .ok (.aload_n 0, 1) := by decide +kernel
theorem dX8_put_1 : decode cX8_put 1 = .ok (.iconst 0, 1) := by decide +kernel
theorem dX8_put_2 : decode cX8_put 2 = .ok (.putfield 76, 3) := by decide +kernel
theorem dX8_put_5 : decode cX8_put 5 = .ok (.iload_n 1, 1) := by decide +kernel
theorem dX8_put_6 : decode cX8_put 6 = .ok (.invokestatic 80, 3) := by decide +kernel
theorem dX8_put_9 : decode cX8_put 9 = .ok (.ifCond .ne 5, 3) := by decide +kernel
theorem dX8_put_12 : decode cX8_put 12 = .ok (.iconst (-1), 1) := by decide +kernel
theorem dX8_put_13 : decode cX8_put 13 = .ok (.ireturn, 1) := by decide +kernel
theorem dX8_put_14 : decode cX8_put 14 = .ok (.aload_n 0, 1) := by decide +kernel
theorem dX8_put_15 : decode cX8_put 15 = .ok (.getfield 13, 3) := by decide +kernel
theorem dX8_put_18 : decode cX8_put 18 = .ok (.iload_n 1, 1) := by decide +kernel
theorem dX8_put_19 : decode cX8_put 19 = .ok (.aaload, 1) := by decide +kernel
theorem dX8_put_20 : decode cX8_put 20 = .ok (.astore 4, 2) := by decide +kernel
theorem dX8_put_22 : decode cX8_put 22 = .ok (.aload 4, 2) := by decide +kernel
theorem dX8_put_24 : decode cX8_put 24 = .ok (.getfield 288, 3) := by decide +kernel
theorem dX8_put_27 : decode cX8_put 27 = .ok (.ifCond .ne 9, 3) := by decide +kernel
theorem dX8_put_30 : decode cX8_put 30 = .ok (.aload_n 0, 1) := by decide +kernel
theorem dX8_put_31 : decode cX8_put 31 = .ok (.iconst 1, 1) := by decide +kernel
theorem dX8_put_32 : decode cX8_put 32 = .ok (.invokevirtual 95, 3) := by decide +kernel
theorem dX8_put_35 : decode cX8_put 35 = .ok (.ireturn, 1) := by decide +kernel
set_option maxRecDepth 20000 in
theorem ggX8_put_X8_failWith : GoodIn wsX8_put wsX8_failWith := goodIn_r _ [15, 1, 28, 29, 30, 31, 32, 33, 34, 35, 36, 37, 38, 39, 40, 41, 42] (by decide +kernel) (by decide +kernel)
set_option maxRecDepth 20000 in
theorem gX8_put_X8_failWith : GoodIn wsX8_put (wsV RX8 95 RX8 yX8_failWith wsX8_failWith) := goodIn_app (goodIn_of _ (by decide +kernel)) ggX8_put_X8_failWith
set_option maxRecDepth 20000 in
theorem ggX8_put_X8_isSheet : GoodIn wsX8_put wsX8_isSheet := goodIn_r _ [8, 9, 10, 7, 11] (by decide +kernel) (by decide +kernel)
set_option maxRecDepth 20000 in
theorem gX8_put_X8_isSheet : GoodIn wsX8_put (va_wsS RX8 80 yX8_isSheet wsX8_isSheet) := goodIn_app (goodIn_of _ (by decide +kernel)) ggX8_put_X8_isSheet
set_option maxHeartbeats 4000000 in
set_option maxRecDepth 100000 in
theorem c_X8_put (l : Launch) (D : va_G) (sz : Nat) (k : Int32) (i : Int32) (z : Int32) (h0 : Nat) (sh : Nat) (rd : Nat) (fr : Nat) (wr : Nat) (pf : Nat) (rc : Nat) (se : Nat) (rs : Nat) (sw : Nat) (sp : Nat) (ss : Nat) (ew : Int32) (wc : Int64) (tr : Int32) (lf : Int32) (cS : ClassId) (s0 : Nat) (s1 : Nat) (s2 : Nat) (s3 : Nat) (e0 : Nat) (e1 : Nat) (e2 : Nat) (e3 : Nat) : Met l yX8_put wsX8_put ({ frames := 2, cells := 0, slots := 0, locals := 42 }) (kPre [.ref h0, .int k, .int i, .int z] D [(h0, .inr (8, [.ref sh, .ref rd, .ref fr, .ref wr, .ref pf, .ref rc, .ref se, .ref rs, .ref sw, .ref sp, .ref ss, .int ew, .long wc, .int tr, .int lf])), (sh, .inl (cS, 4, .inr (.inr (.inr (.inr (va_up (va_up (va_up (va_up (fun _ => none) 0 (some s0)) 1 (some s1)) 2 (some s2)) 3 (some s3))))))), (s0, .inr (5, [.ref e0, .int 0, .int 0, .int 0])), (s1, .inr (5, [.ref e1, .int 0, .int 0, .int 0])), (s2, .inr (5, [.ref e2, .int 0, .int 0, .int 0])), (s3, .inr (5, [.ref e3, .int 0, .int 0, .int 0]))] [(cS, .object RX5)] sz) (kQi (sp_put k) (va_A [(h0, .inr (8, [.ref sh, .ref rd, .ref fr, .ref wr, .ref pf, .ref rc, .ref se, .ref rs, .ref sw, .ref sp, .ref ss, .int ew, .long wc, .int tr, .int lf])), (sh, .inl (cS, 4, .inr (.inr (.inr (.inr (va_up (va_up (va_up (va_up (fun _ => none) 0 (some s0)) 1 (some s1)) 2 (some s2)) 3 (some s3))))))), (s0, .inr (5, [.ref e0, .int 0, .int 0, .int 0])), (s1, .inr (5, [.ref e1, .int 0, .int 0, .int 0])), (s2, .inr (5, [.ref e2, .int 0, .int 0, .int 0])), (s3, .inr (5, [.ref e3, .int 0, .int 0, .int 0]))] sz)) 0 0 (va_A [(h0, .inr (8, [.ref sh, .ref rd, .ref fr, .ref wr, .ref pf, .ref rc, .ref se, .ref rs, .ref sw, .ref sp, .ref ss, .int ew, .long wc, .int tr, .int lf])), (sh, .inl (cS, 4, .inr (.inr (.inr (.inr (va_up (va_up (va_up (va_up (fun _ => none) 0 (some s0)) 1 (some s1)) 2 (some s2)) 3 (some s3))))))), (s0, .inr (5, [.ref e0, .int 0, .int 0, .int 0])), (s1, .inr (5, [.ref e1, .int 0, .int 0, .int 0])), (s2, .inr (5, [.ref e2, .int 0, .int 0, .int 0])), (s3, .inr (5, [.ref e3, .int 0, .int 0, .int 0]))] sz) := by
  refine Met.ofW (cc := cX8_put) (maxL := 5) (ret := (some .int)) (by decide) rfl ?_
  intro p e s m args below meth c s₁ B hml hv
  obtain ⟨rfl, hsz, hP, hK, hD0, hN⟩ := hv
  have hx := B.exec
  have hb := B.bytes
  have hr := B.returns
  have hts := atoms_spec (ws := wsX8_put) B.pre
  have hown : s.vm.findClass RX8 = some m.cls := findClass_of_methodNamed B.named
  have hlocks := B.notSynchronized
  subst hsz
  have hD := hD0.self (sz := s.heap.size)
  generalize hAe : va_A [(h0, .inr (8, [.ref sh, .ref rd, .ref fr, .ref wr, .ref pf, .ref rc, .ref se, .ref rs, .ref sw, .ref sp, .ref ss, .int ew, .long wc, .int tr, .int lf])), (sh, .inl (cS, 4, .inr (.inr (.inr (.inr (va_up (va_up (va_up (va_up (fun _ => none) 0 (some s0)) 1 (some s1)) 2 (some s2)) 3 (some s3))))))), (s0, .inr (5, [.ref e0, .int 0, .int 0, .int 0])), (s1, .inr (5, [.ref e1, .int 0, .int 0, .int 0])), (s2, .inr (5, [.ref e2, .int 0, .int 0, .int 0])), (s3, .inr (5, [.ref e3, .int 0, .int 0, .int 0]))] s.heap.size = A at hD ⊢
  have hA : ∀ q : Nat, s.heap.size ≤ q → A q := fun q h => by rw [← hAe]; exact Or.inr h
  have hS : va_S A s.heap s.heap [] := va_S.rf
  have hP : va_P D vwCl [(h0, .inr (8, [.ref sh, .ref rd, .ref fr, .ref wr, .ref pf, .ref rc, .ref se, .ref rs, .ref sw, .ref sp, .ref ss, .int ew, .long wc, .int tr, .int lf])), (sh, .inl (cS, 4, .inr (.inr (.inr (.inr (va_up (va_up (va_up (va_up (fun _ => none) 0 (some s0)) 1 (some s1)) 2 (some s2)) 3 (some s3))))))), (s0, .inr (5, [.ref e0, .int 0, .int 0, .int 0])), (s1, .inr (5, [.ref e1, .int 0, .int 0, .int 0])), (s2, .inr (5, [.ref e2, .int 0, .int 0, .int 0])), (s3, .inr (5, [.ref e3, .int 0, .int 0, .int 0]))] s.heap := hP
  have hl := lv_entry ([.ref h0, .int k, .int i, .int z]) (n := 5) (Nat.le_of_ble_eq_true rfl)
  rw [lg_entry_eq]
  generalize (lg_sl ([.ref h0, .int k, .int i, .int z]) ++ List.replicate (5 - (lg_sl ([.ref h0, .int k, .int i, .int z])).length) Slot.unset).toArray = ls at hl ⊢
  have hl : lv_has ls 5 [(0, .ref h0), (1, .int k), (2, .int i), (3, .int z)] := hl
  refine lv_aload_n hx hb dX8_put_0 rfl (lv_at hl 0 rfl) ?_
  refine lv_iconst (v := 0) hx hb dX8_put_1 (by decide) ?_
  refine va_put (D := D) (ci := 8) (v := .int 0) (ty := .int) (C := RX8) (T := TX8) (N := 15) hx hb hts (fun _ h9 => List.mem_cons_of_mem _ (List.mem_append_left _ (List.mem_append_right _ h9))) tyX8 tyX8_ok nmX8 hown hK hP hD hS 0 rfl rfl 14 (by decide) (hts (.fieldLink RX8 76 "FontRuns" "latestFault" "I") (by decide +kernel)) (fun _ h9 => h9) rfl (by decide +kernel) rfl rfl (Nat.le_of_ble_eq_true rfl) dX8_put_2 (fun H locs hP hD hS => ?_)
  have hP : va_P D vwCl [(h0, .inr (8, [.ref sh, .ref rd, .ref fr, .ref wr, .ref pf, .ref rc, .ref se, .ref rs, .ref sw, .ref sp, .ref ss, .int ew, .long wc, .int tr, .int 0])), (sh, .inl (cS, 4, .inr (.inr (.inr (.inr (va_up (va_up (va_up (va_up (fun _ => none) 0 (some s0)) 1 (some s1)) 2 (some s2)) 3 (some s3))))))), (s0, .inr (5, [.ref e0, .int 0, .int 0, .int 0])), (s1, .inr (5, [.ref e1, .int 0, .int 0, .int 0])), (s2, .inr (5, [.ref e2, .int 0, .int 0, .int 0])), (s3, .inr (5, [.ref e3, .int 0, .int 0, .int 0]))] H := hP
  have hD : va_D A [(h0, .inr (8, [.ref sh, .ref rd, .ref fr, .ref wr, .ref pf, .ref rc, .ref se, .ref rs, .ref sw, .ref sp, .ref ss, .int ew, .long wc, .int tr, .int 0])), (sh, .inl (cS, 4, .inr (.inr (.inr (.inr (va_up (va_up (va_up (va_up (fun _ => none) 0 (some s0)) 1 (some s1)) 2 (some s2)) 3 (some s3))))))), (s0, .inr (5, [.ref e0, .int 0, .int 0, .int 0])), (s1, .inr (5, [.ref e1, .int 0, .int 0, .int 0])), (s2, .inr (5, [.ref e2, .int 0, .int 0, .int 0])), (s3, .inr (5, [.ref e3, .int 0, .int 0, .int 0]))] := hD
  refine lv_iload_n hx hb dX8_put_5 rfl (lv_at hl 1 rfl) ?_
  refine k_callR (va_runS (As := [.int k]) (rest := []) ⟨hx, hb, hml, hown, hts⟩ (c_X8_isSheet l D H.size (k := k)) (va_cwS 1 hts gX8_put_X8_isSheet rfl rfl rfl (by decide +kernel) ⟨Nat.le_of_ble_eq_true rfl, Nat.le_of_ble_eq_true rfl⟩) (kPreS hP (kD0 hD) hK hN [] [] rfl rfl (by decide)) rfl rfl hl.1 rfl (lv_room (Nat.le_of_ble_eq_true rfl)) dX8_put_6 ⟨Nat.le_of_ble_eq_true rfl, Nat.le_of_ble_eq_true rfl⟩) ?_
  refine lv_if_ne (tgt := 14) hx hb dX8_put_9 (by decide) (fun c_1 => ?_) (fun c_1 => ?_)
  · have k_2 : (0 ≤ k ∧ k ≤ 3) := b01t c_1
    refine lv_aload_n hx hb dX8_put_14 rfl (lv_at hl 0 rfl) ?_
    refine va_get (D := D) (ci := 8) (v := .ref sh) (C := RX8) (T := TX8) (N := 15) hx hb hts (fun _ h9 => List.mem_cons_of_mem _ (List.mem_append_left _ (List.mem_append_right _ h9))) hown hK hP 0 rfl rfl 0 (by decide) (hts (.fieldLink RX8 13 "FontRuns" "sheets" "[LFontRuns$Sheet;") (by decide +kernel)) (fun _ h9 => h9) rfl dX8_put_15 ?_
    refine lv_iload_n hx hb dX8_put_18 rfl (lv_at hl 1 rfl) ?_
    refine va_aldq hx hb hK hP 1 0 rfl rfl (k4in k_2) dX8_put_19 ?_
    rcases (k4 k_2) with e9 | e9 | e9 | e9
    · subst e9
      refine kn_v (.ref s0) rfl ?_
      refine lv_astore (lv' := [(4, .ref s0), (0, .ref h0), (1, .int 0), (2, .int i), (3, .int z)]) hx hb dX8_put_20 hl (by decide) rfl (fun ls hl => ?_)
      refine lv_aload hx hb dX8_put_22 (lv_at hl 0 rfl) ?_
      refine va_get (D := D) (ci := 5) (v := .int 0) (C := RX5) (T := TX5) (N := 4) hx hb hts (fun _ h9 => List.mem_cons_of_mem _ (List.mem_append_right _ h9)) hown hK hP 2 rfl rfl 1 (by decide) (hts (.fieldLink RX8 288 "FontRuns$Sheet" "isThere" "Z") (by decide +kernel)) (fun _ h9 => h9) rfl dX8_put_24 ?_
      refine lv_if_ne (tgt := 36) hx hb dX8_put_27 (by decide) (fun c9 => absurd (by decide) c9) (fun _ => ?_)
      refine lv_aload_n hx hb dX8_put_30 rfl (lv_at hl 1 rfl) ?_
      refine lv_iconst (v := 1) hx hb dX8_put_31 (by decide) ?_
      have hFc := va_free (wc := [(h0, .inr (8, [.ref sh, .ref rd, .ref fr, .ref wr, .ref pf, .ref rc, .ref se, .ref rs, .ref sw, .ref sp, .ref ss, .int ew, .long wc, .int tr, .int 0]))]) hD hS hA [0] rfl
      refine va_calli (va_runV (As := [.int 1]) (rest := []) ⟨hx, hb, hml, hown, hts⟩ (c_X8_failWith l D H.size (f := 1) (h0 := h0) (sh := sh) (rd := rd) (fr := fr) (wr := wr) (pf := pf) (rc := rc) (se := se) (rs := rs) (sw := sw) (sp := sp) (ss := ss) (ew := ew) (wc := wc) (tr := tr) (lf := 0)) (cwV 1 hts gX8_put_X8_failWith rfl rfl rfl (by decide +kernel) ⟨Nat.le_of_ble_eq_true rfl, Nat.le_of_ble_eq_true rfl⟩) (kPreV hP (kD0 hD) hK hN [0] [] rfl rfl (by decide) 0 8 rfl rfl) rfl rfl hl.1 rfl (lv_room (Nat.le_of_ble_eq_true rfl)) dX8_put_32 ⟨Nat.le_of_ble_eq_true rfl, Nat.le_of_ble_eq_true rfl⟩) hS (fun q _ h => hFc q h) hFc (fun r_3 u t H1 locs ht hvm hw hB hz1 hk1 hS => ?_)
      obtain ⟨hP, hD⟩ := va_join (wr := [(sh, .inl (cS, 4, .inr (.inr (.inr (.inr (va_up (va_up (va_up (va_up (fun _ => none) 0 (some s0)) 1 (some s1)) 2 (some s2)) 3 (some s3))))))), (s0, .inr (5, [.ref e0, .int 0, .int 0, .int 0])), (s1, .inr (5, [.ref e1, .int 0, .int 0, .int 0])), (s2, .inr (5, [.ref e2, .int 0, .int 0, .int 0])), (s3, .inr (5, [.ref e3, .int 0, .int 0, .int 0]))]) (w1 := []) hP hD [0] [1, 2, 3, 4, 5] rfl rfl (by decide) (by decide) hk1 hFc kP0 kDn
      generalize H1 = H at hP hS ⊢
      have hP : va_P D vwCl [(sh, .inl (cS, 4, .inr (.inr (.inr (.inr (va_up (va_up (va_up (va_up (fun _ => none) 0 (some s0)) 1 (some s1)) 2 (some s2)) 3 (some s3))))))), (s0, .inr (5, [.ref e0, .int 0, .int 0, .int 0])), (s1, .inr (5, [.ref e1, .int 0, .int 0, .int 0])), (s2, .inr (5, [.ref e2, .int 0, .int 0, .int 0])), (s3, .inr (5, [.ref e3, .int 0, .int 0, .int 0]))] H := hP
      have hD : va_D A [(sh, .inl (cS, 4, .inr (.inr (.inr (.inr (va_up (va_up (va_up (va_up (fun _ => none) 0 (some s0)) 1 (some s1)) 2 (some s2)) 3 (some s3))))))), (s0, .inr (5, [.ref e0, .int 0, .int 0, .int 0])), (s1, .inr (5, [.ref e1, .int 0, .int 0, .int 0])), (s2, .inr (5, [.ref e2, .int 0, .int 0, .int 0])), (s3, .inr (5, [.ref e3, .int 0, .int 0, .int 0]))] := hD
      refine kn_i ((-10) - 1) hw ?_
      refine kn_i (-11) (by decide) ?_
      exact W.iret (v := (-11)) hx hb hr (fun t ht hW => kQi_of (by first | rfl | (simp only [sp_put, if_pos k_2]; done) | (simp [sp_put, k_2]; done)) (hS.F ht)) hS.2.2 dX8_put_35
    · subst e9
      refine kn_v (.ref s1) rfl ?_
      refine lv_astore (lv' := [(4, .ref s1), (0, .ref h0), (1, .int 1), (2, .int i), (3, .int z)]) hx hb dX8_put_20 hl (by decide) rfl (fun ls hl => ?_)
      refine lv_aload hx hb dX8_put_22 (lv_at hl 0 rfl) ?_
      refine va_get (D := D) (ci := 5) (v := .int 0) (C := RX5) (T := TX5) (N := 4) hx hb hts (fun _ h9 => List.mem_cons_of_mem _ (List.mem_append_right _ h9)) hown hK hP 3 rfl rfl 1 (by decide) (hts (.fieldLink RX8 288 "FontRuns$Sheet" "isThere" "Z") (by decide +kernel)) (fun _ h9 => h9) rfl dX8_put_24 ?_
      refine lv_if_ne (tgt := 36) hx hb dX8_put_27 (by decide) (fun c9 => absurd (by decide) c9) (fun _ => ?_)
      refine lv_aload_n hx hb dX8_put_30 rfl (lv_at hl 1 rfl) ?_
      refine lv_iconst (v := 1) hx hb dX8_put_31 (by decide) ?_
      have hFc := va_free (wc := [(h0, .inr (8, [.ref sh, .ref rd, .ref fr, .ref wr, .ref pf, .ref rc, .ref se, .ref rs, .ref sw, .ref sp, .ref ss, .int ew, .long wc, .int tr, .int 0]))]) hD hS hA [0] rfl
      refine va_calli (va_runV (As := [.int 1]) (rest := []) ⟨hx, hb, hml, hown, hts⟩ (c_X8_failWith l D H.size (f := 1) (h0 := h0) (sh := sh) (rd := rd) (fr := fr) (wr := wr) (pf := pf) (rc := rc) (se := se) (rs := rs) (sw := sw) (sp := sp) (ss := ss) (ew := ew) (wc := wc) (tr := tr) (lf := 0)) (cwV 1 hts gX8_put_X8_failWith rfl rfl rfl (by decide +kernel) ⟨Nat.le_of_ble_eq_true rfl, Nat.le_of_ble_eq_true rfl⟩) (kPreV hP (kD0 hD) hK hN [0] [] rfl rfl (by decide) 0 8 rfl rfl) rfl rfl hl.1 rfl (lv_room (Nat.le_of_ble_eq_true rfl)) dX8_put_32 ⟨Nat.le_of_ble_eq_true rfl, Nat.le_of_ble_eq_true rfl⟩) hS (fun q _ h => hFc q h) hFc (fun r_4 u t H1 locs ht hvm hw hB hz1 hk1 hS => ?_)
      obtain ⟨hP, hD⟩ := va_join (wr := [(sh, .inl (cS, 4, .inr (.inr (.inr (.inr (va_up (va_up (va_up (va_up (fun _ => none) 0 (some s0)) 1 (some s1)) 2 (some s2)) 3 (some s3))))))), (s0, .inr (5, [.ref e0, .int 0, .int 0, .int 0])), (s1, .inr (5, [.ref e1, .int 0, .int 0, .int 0])), (s2, .inr (5, [.ref e2, .int 0, .int 0, .int 0])), (s3, .inr (5, [.ref e3, .int 0, .int 0, .int 0]))]) (w1 := []) hP hD [0] [1, 2, 3, 4, 5] rfl rfl (by decide) (by decide) hk1 hFc kP0 kDn
      generalize H1 = H at hP hS ⊢
      have hP : va_P D vwCl [(sh, .inl (cS, 4, .inr (.inr (.inr (.inr (va_up (va_up (va_up (va_up (fun _ => none) 0 (some s0)) 1 (some s1)) 2 (some s2)) 3 (some s3))))))), (s0, .inr (5, [.ref e0, .int 0, .int 0, .int 0])), (s1, .inr (5, [.ref e1, .int 0, .int 0, .int 0])), (s2, .inr (5, [.ref e2, .int 0, .int 0, .int 0])), (s3, .inr (5, [.ref e3, .int 0, .int 0, .int 0]))] H := hP
      have hD : va_D A [(sh, .inl (cS, 4, .inr (.inr (.inr (.inr (va_up (va_up (va_up (va_up (fun _ => none) 0 (some s0)) 1 (some s1)) 2 (some s2)) 3 (some s3))))))), (s0, .inr (5, [.ref e0, .int 0, .int 0, .int 0])), (s1, .inr (5, [.ref e1, .int 0, .int 0, .int 0])), (s2, .inr (5, [.ref e2, .int 0, .int 0, .int 0])), (s3, .inr (5, [.ref e3, .int 0, .int 0, .int 0]))] := hD
      refine kn_i ((-10) - 1) hw ?_
      refine kn_i (-11) (by decide) ?_
      exact W.iret (v := (-11)) hx hb hr (fun t ht hW => kQi_of (by first | rfl | (simp only [sp_put, if_pos k_2]; done) | (simp [sp_put, k_2]; done)) (hS.F ht)) hS.2.2 dX8_put_35
    · subst e9
      refine kn_v (.ref s2) rfl ?_
      refine lv_astore (lv' := [(4, .ref s2), (0, .ref h0), (1, .int 2), (2, .int i), (3, .int z)]) hx hb dX8_put_20 hl (by decide) rfl (fun ls hl => ?_)
      refine lv_aload hx hb dX8_put_22 (lv_at hl 0 rfl) ?_
      refine va_get (D := D) (ci := 5) (v := .int 0) (C := RX5) (T := TX5) (N := 4) hx hb hts (fun _ h9 => List.mem_cons_of_mem _ (List.mem_append_right _ h9)) hown hK hP 4 rfl rfl 1 (by decide) (hts (.fieldLink RX8 288 "FontRuns$Sheet" "isThere" "Z") (by decide +kernel)) (fun _ h9 => h9) rfl dX8_put_24 ?_
      refine lv_if_ne (tgt := 36) hx hb dX8_put_27 (by decide) (fun c9 => absurd (by decide) c9) (fun _ => ?_)
      refine lv_aload_n hx hb dX8_put_30 rfl (lv_at hl 1 rfl) ?_
      refine lv_iconst (v := 1) hx hb dX8_put_31 (by decide) ?_
      have hFc := va_free (wc := [(h0, .inr (8, [.ref sh, .ref rd, .ref fr, .ref wr, .ref pf, .ref rc, .ref se, .ref rs, .ref sw, .ref sp, .ref ss, .int ew, .long wc, .int tr, .int 0]))]) hD hS hA [0] rfl
      refine va_calli (va_runV (As := [.int 1]) (rest := []) ⟨hx, hb, hml, hown, hts⟩ (c_X8_failWith l D H.size (f := 1) (h0 := h0) (sh := sh) (rd := rd) (fr := fr) (wr := wr) (pf := pf) (rc := rc) (se := se) (rs := rs) (sw := sw) (sp := sp) (ss := ss) (ew := ew) (wc := wc) (tr := tr) (lf := 0)) (cwV 1 hts gX8_put_X8_failWith rfl rfl rfl (by decide +kernel) ⟨Nat.le_of_ble_eq_true rfl, Nat.le_of_ble_eq_true rfl⟩) (kPreV hP (kD0 hD) hK hN [0] [] rfl rfl (by decide) 0 8 rfl rfl) rfl rfl hl.1 rfl (lv_room (Nat.le_of_ble_eq_true rfl)) dX8_put_32 ⟨Nat.le_of_ble_eq_true rfl, Nat.le_of_ble_eq_true rfl⟩) hS (fun q _ h => hFc q h) hFc (fun r_5 u t H1 locs ht hvm hw hB hz1 hk1 hS => ?_)
      obtain ⟨hP, hD⟩ := va_join (wr := [(sh, .inl (cS, 4, .inr (.inr (.inr (.inr (va_up (va_up (va_up (va_up (fun _ => none) 0 (some s0)) 1 (some s1)) 2 (some s2)) 3 (some s3))))))), (s0, .inr (5, [.ref e0, .int 0, .int 0, .int 0])), (s1, .inr (5, [.ref e1, .int 0, .int 0, .int 0])), (s2, .inr (5, [.ref e2, .int 0, .int 0, .int 0])), (s3, .inr (5, [.ref e3, .int 0, .int 0, .int 0]))]) (w1 := []) hP hD [0] [1, 2, 3, 4, 5] rfl rfl (by decide) (by decide) hk1 hFc kP0 kDn
      generalize H1 = H at hP hS ⊢
      have hP : va_P D vwCl [(sh, .inl (cS, 4, .inr (.inr (.inr (.inr (va_up (va_up (va_up (va_up (fun _ => none) 0 (some s0)) 1 (some s1)) 2 (some s2)) 3 (some s3))))))), (s0, .inr (5, [.ref e0, .int 0, .int 0, .int 0])), (s1, .inr (5, [.ref e1, .int 0, .int 0, .int 0])), (s2, .inr (5, [.ref e2, .int 0, .int 0, .int 0])), (s3, .inr (5, [.ref e3, .int 0, .int 0, .int 0]))] H := hP
      have hD : va_D A [(sh, .inl (cS, 4, .inr (.inr (.inr (.inr (va_up (va_up (va_up (va_up (fun _ => none) 0 (some s0)) 1 (some s1)) 2 (some s2)) 3 (some s3))))))), (s0, .inr (5, [.ref e0, .int 0, .int 0, .int 0])), (s1, .inr (5, [.ref e1, .int 0, .int 0, .int 0])), (s2, .inr (5, [.ref e2, .int 0, .int 0, .int 0])), (s3, .inr (5, [.ref e3, .int 0, .int 0, .int 0]))] := hD
      refine kn_i ((-10) - 1) hw ?_
      refine kn_i (-11) (by decide) ?_
      exact W.iret (v := (-11)) hx hb hr (fun t ht hW => kQi_of (by first | rfl | (simp only [sp_put, if_pos k_2]; done) | (simp [sp_put, k_2]; done)) (hS.F ht)) hS.2.2 dX8_put_35
    · subst e9
      refine kn_v (.ref s3) rfl ?_
      refine lv_astore (lv' := [(4, .ref s3), (0, .ref h0), (1, .int 3), (2, .int i), (3, .int z)]) hx hb dX8_put_20 hl (by decide) rfl (fun ls hl => ?_)
      refine lv_aload hx hb dX8_put_22 (lv_at hl 0 rfl) ?_
      refine va_get (D := D) (ci := 5) (v := .int 0) (C := RX5) (T := TX5) (N := 4) hx hb hts (fun _ h9 => List.mem_cons_of_mem _ (List.mem_append_right _ h9)) hown hK hP 5 rfl rfl 1 (by decide) (hts (.fieldLink RX8 288 "FontRuns$Sheet" "isThere" "Z") (by decide +kernel)) (fun _ h9 => h9) rfl dX8_put_24 ?_
      refine lv_if_ne (tgt := 36) hx hb dX8_put_27 (by decide) (fun c9 => absurd (by decide) c9) (fun _ => ?_)
      refine lv_aload_n hx hb dX8_put_30 rfl (lv_at hl 1 rfl) ?_
      refine lv_iconst (v := 1) hx hb dX8_put_31 (by decide) ?_
      have hFc := va_free (wc := [(h0, .inr (8, [.ref sh, .ref rd, .ref fr, .ref wr, .ref pf, .ref rc, .ref se, .ref rs, .ref sw, .ref sp, .ref ss, .int ew, .long wc, .int tr, .int 0]))]) hD hS hA [0] rfl
      refine va_calli (va_runV (As := [.int 1]) (rest := []) ⟨hx, hb, hml, hown, hts⟩ (c_X8_failWith l D H.size (f := 1) (h0 := h0) (sh := sh) (rd := rd) (fr := fr) (wr := wr) (pf := pf) (rc := rc) (se := se) (rs := rs) (sw := sw) (sp := sp) (ss := ss) (ew := ew) (wc := wc) (tr := tr) (lf := 0)) (cwV 1 hts gX8_put_X8_failWith rfl rfl rfl (by decide +kernel) ⟨Nat.le_of_ble_eq_true rfl, Nat.le_of_ble_eq_true rfl⟩) (kPreV hP (kD0 hD) hK hN [0] [] rfl rfl (by decide) 0 8 rfl rfl) rfl rfl hl.1 rfl (lv_room (Nat.le_of_ble_eq_true rfl)) dX8_put_32 ⟨Nat.le_of_ble_eq_true rfl, Nat.le_of_ble_eq_true rfl⟩) hS (fun q _ h => hFc q h) hFc (fun r_6 u t H1 locs ht hvm hw hB hz1 hk1 hS => ?_)
      obtain ⟨hP, hD⟩ := va_join (wr := [(sh, .inl (cS, 4, .inr (.inr (.inr (.inr (va_up (va_up (va_up (va_up (fun _ => none) 0 (some s0)) 1 (some s1)) 2 (some s2)) 3 (some s3))))))), (s0, .inr (5, [.ref e0, .int 0, .int 0, .int 0])), (s1, .inr (5, [.ref e1, .int 0, .int 0, .int 0])), (s2, .inr (5, [.ref e2, .int 0, .int 0, .int 0])), (s3, .inr (5, [.ref e3, .int 0, .int 0, .int 0]))]) (w1 := []) hP hD [0] [1, 2, 3, 4, 5] rfl rfl (by decide) (by decide) hk1 hFc kP0 kDn
      generalize H1 = H at hP hS ⊢
      have hP : va_P D vwCl [(sh, .inl (cS, 4, .inr (.inr (.inr (.inr (va_up (va_up (va_up (va_up (fun _ => none) 0 (some s0)) 1 (some s1)) 2 (some s2)) 3 (some s3))))))), (s0, .inr (5, [.ref e0, .int 0, .int 0, .int 0])), (s1, .inr (5, [.ref e1, .int 0, .int 0, .int 0])), (s2, .inr (5, [.ref e2, .int 0, .int 0, .int 0])), (s3, .inr (5, [.ref e3, .int 0, .int 0, .int 0]))] H := hP
      have hD : va_D A [(sh, .inl (cS, 4, .inr (.inr (.inr (.inr (va_up (va_up (va_up (va_up (fun _ => none) 0 (some s0)) 1 (some s1)) 2 (some s2)) 3 (some s3))))))), (s0, .inr (5, [.ref e0, .int 0, .int 0, .int 0])), (s1, .inr (5, [.ref e1, .int 0, .int 0, .int 0])), (s2, .inr (5, [.ref e2, .int 0, .int 0, .int 0])), (s3, .inr (5, [.ref e3, .int 0, .int 0, .int 0]))] := hD
      refine kn_i ((-10) - 1) hw ?_
      refine kn_i (-11) (by decide) ?_
      exact W.iret (v := (-11)) hx hb hr (fun t ht hW => kQi_of (by first | rfl | (simp only [sp_put, if_pos k_2]; done) | (simp [sp_put, k_2]; done)) (hS.F ht)) hS.2.2 dX8_put_35
  · have k_7 : ¬ ((0 ≤ k ∧ k ≤ 3)) := b01f c_1
    refine lv_iconst (v := (-1)) hx hb dX8_put_12 (by decide) ?_
    exact W.iret (v := (-1)) hx hb hr (fun t ht hW => kQi_of (by first | rfl | (simp only [sp_put, if_neg k_7]; done) | (simp [sp_put, k_7]; done)) (hS.F ht)) hS.2.2 dX8_put_13
theorem dX8_cell_0 : decode cX8_cell 0 = .ok (.aload_n 0, 1) := by decide +kernel
theorem dX8_cell_1 : decode cX8_cell 1 = .ok (.iconst 0, 1) := by decide +kernel
theorem dX8_cell_2 : decode cX8_cell 2 = .ok (.putfield 76, 3) := by decide +kernel
theorem dX8_cell_5 : decode cX8_cell 5 = .ok (.iload_n 1, 1) := by decide +kernel
theorem dX8_cell_6 : decode cX8_cell 6 = .ok (.invokestatic 80, 3) := by decide +kernel
theorem dX8_cell_9 : decode cX8_cell 9 = .ok (.ifCond .eq 10, 3) := by decide +kernel
theorem dX8_cell_12 : decode cX8_cell 12 = .ok (.iload_n 3, 1) := by decide +kernel
theorem dX8_cell_13 : decode cX8_cell 13 = .ok (.invokestatic 84, 3) := by decide +kernel
theorem dX8_cell_16 : decode cX8_cell 16 = .ok (.ifCond .ne 7, 3) := by decide +kernel
theorem dX8_cell_19 : decode cX8_cell 19 = .ok (.ldc2_w 280, 3) := by decide +kernel
theorem dX8_cell_22 : decode cX8_cell 22 = .ok (.lreturn, 1) := by decide +kernel
theorem dX8_cell_23 : decode cX8_cell 23 = .ok (.aload_n 0, 1) := by decide +kernel
theorem dX8_cell_24 : decode cX8_cell 24 = .ok (.getfield 13, 3) := by decide +kernel
theorem dX8_cell_27 : decode cX8_cell 27 = .ok (.iload_n 1, 1) := by decide +kernel
theorem dX8_cell_28 : decode cX8_cell 28 = .ok (.aaload, 1) := by decide +kernel
theorem dX8_cell_29 : decode cX8_cell 29 = .ok (.astore 4, 2) := by decide +kernel
theorem dX8_cell_31 : decode cX8_cell 31 = .ok (.aload 4, 2) := by decide +kernel
theorem dX8_cell_33 : decode cX8_cell 33 = .ok (.iload_n 3, 1) := by decide +kernel
theorem dX8_cell_34 : decode cX8_cell 34 = .ok (.invokestatic 87, 3) := by decide +kernel
theorem dX8_cell_37 : decode cX8_cell 37 = .ok (.istore 5, 2) := by decide +kernel
theorem dX8_cell_39 : decode cX8_cell 39 = .ok (.iload 5, 2) := by decide +kernel
theorem dX8_cell_41 : decode cX8_cell 41 = .ok (.ifCond .ne 15, 3) := by decide +kernel
theorem dX8_cell_56 : decode cX8_cell 56 = .ok (.iload 5, 2) := by decide +kernel
theorem dX8_cell_58 : decode cX8_cell 58 = .ok (.ifCond .eq 13, 3) := by decide +kernel
theorem dX8_cell_61 : decode cX8_cell 61 = .ok (.aload_n 0, 1) := by decide +kernel
theorem dX8_cell_62 : decode cX8_cell 62 = .ok (.iload 5, 2) := by decide +kernel
theorem dX8_cell_64 : decode cX8_cell 64 = .ok (.putfield 76, 3) := by decide +kernel
theorem dX8_cell_67 : decode cX8_cell 67 = .ok (.ldc2_w 280, 3) := by decide +kernel
theorem dX8_cell_70 : decode cX8_cell 70 = .ok (.lreturn, 1) := by decide +kernel
set_option maxRecDepth 20000 in
theorem ggX8_cell_X8_faultOfLane : GoodIn wsX8_cell wsX8_faultOfLane := goodIn_r _ [16, 17, 18, 47, 48, 49, 50] (by decide +kernel) (by decide +kernel)
set_option maxRecDepth 20000 in
theorem gX8_cell_X8_faultOfLane : GoodIn wsX8_cell (va_wsS RX8 87 yX8_faultOfLane wsX8_faultOfLane) := goodIn_app (goodIn_of _ (by decide +kernel)) ggX8_cell_X8_faultOfLane
set_option maxRecDepth 20000 in
theorem ggX8_cell_X8_isLane : GoodIn wsX8_cell wsX8_isLane := goodIn_r _ [13, 8, 9, 6, 10] (by decide +kernel) (by decide +kernel)
set_option maxRecDepth 20000 in
theorem gX8_cell_X8_isLane : GoodIn wsX8_cell (va_wsS RX8 84 yX8_isLane wsX8_isLane) := goodIn_app (goodIn_of _ (by decide +kernel)) ggX8_cell_X8_isLane
set_option maxRecDepth 20000 in
theorem ggX8_cell_X8_isSheet : GoodIn wsX8_cell wsX8_isSheet := goodIn_r _ [7, 8, 9, 6, 10] (by decide +kernel) (by decide +kernel)
set_option maxRecDepth 20000 in
theorem gX8_cell_X8_isSheet : GoodIn wsX8_cell (va_wsS RX8 80 yX8_isSheet wsX8_isSheet) := goodIn_app (goodIn_of _ (by decide +kernel)) ggX8_cell_X8_isSheet
set_option maxHeartbeats 4000000 in
set_option maxRecDepth 100000 in
theorem c_X8_cell (l : Launch) (D : va_G) (sz : Nat) (k : Int32) (i : Int32) (n : Int32) (h0 : Nat) (sh : Nat) (rd : Nat) (fr : Nat) (wr : Nat) (pf : Nat) (rc : Nat) (se : Nat) (rs : Nat) (sw : Nat) (sp : Nat) (ss : Nat) (ew : Int32) (wc : Int64) (tr : Int32) (lf : Int32) (cS : ClassId) (s0 : Nat) (s1 : Nat) (s2 : Nat) (s3 : Nat) (e0 : Nat) (e1 : Nat) (e2 : Nat) (e3 : Nat) : Met l yX8_cell wsX8_cell ({ frames := 2, cells := 0, slots := 0, locals := 42 }) (kPre [.ref h0, .int k, .int i, .int n] D [(h0, .inr (8, [.ref sh, .ref rd, .ref fr, .ref wr, .ref pf, .ref rc, .ref se, .ref rs, .ref sw, .ref sp, .ref ss, .int ew, .long wc, .int tr, .int lf])), (sh, .inl (cS, 4, .inr (.inr (.inr (.inr (va_up (va_up (va_up (va_up (fun _ => none) 0 (some s0)) 1 (some s1)) 2 (some s2)) 3 (some s3))))))), (s0, .inr (5, [.ref e0, .int 0, .int 0, .int 0])), (s1, .inr (5, [.ref e1, .int 0, .int 0, .int 0])), (s2, .inr (5, [.ref e2, .int 0, .int 0, .int 0])), (s3, .inr (5, [.ref e3, .int 0, .int 0, .int 0]))] [(cS, .object RX5)] sz) (kQl (-9223372036854775808) (va_A [(h0, .inr (8, [.ref sh, .ref rd, .ref fr, .ref wr, .ref pf, .ref rc, .ref se, .ref rs, .ref sw, .ref sp, .ref ss, .int ew, .long wc, .int tr, .int lf])), (sh, .inl (cS, 4, .inr (.inr (.inr (.inr (va_up (va_up (va_up (va_up (fun _ => none) 0 (some s0)) 1 (some s1)) 2 (some s2)) 3 (some s3))))))), (s0, .inr (5, [.ref e0, .int 0, .int 0, .int 0])), (s1, .inr (5, [.ref e1, .int 0, .int 0, .int 0])), (s2, .inr (5, [.ref e2, .int 0, .int 0, .int 0])), (s3, .inr (5, [.ref e3, .int 0, .int 0, .int 0]))] sz)) 0 0 (va_A [(h0, .inr (8, [.ref sh, .ref rd, .ref fr, .ref wr, .ref pf, .ref rc, .ref se, .ref rs, .ref sw, .ref sp, .ref ss, .int ew, .long wc, .int tr, .int lf])), (sh, .inl (cS, 4, .inr (.inr (.inr (.inr (va_up (va_up (va_up (va_up (fun _ => none) 0 (some s0)) 1 (some s1)) 2 (some s2)) 3 (some s3))))))), (s0, .inr (5, [.ref e0, .int 0, .int 0, .int 0])), (s1, .inr (5, [.ref e1, .int 0, .int 0, .int 0])), (s2, .inr (5, [.ref e2, .int 0, .int 0, .int 0])), (s3, .inr (5, [.ref e3, .int 0, .int 0, .int 0]))] sz) := by
  refine Met.ofW (cc := cX8_cell) (maxL := 6) (ret := (some .long)) (by decide) rfl ?_
  intro p e s m args below meth c s₁ B hml hv
  obtain ⟨rfl, hsz, hP, hK, hD0, hN⟩ := hv
  have hx := B.exec
  have hb := B.bytes
  have hr := B.returns
  have hts := atoms_spec (ws := wsX8_cell) B.pre
  have hown : s.vm.findClass RX8 = some m.cls := findClass_of_methodNamed B.named
  have hlocks := B.notSynchronized
  subst hsz
  have hD := hD0.self (sz := s.heap.size)
  generalize hAe : va_A [(h0, .inr (8, [.ref sh, .ref rd, .ref fr, .ref wr, .ref pf, .ref rc, .ref se, .ref rs, .ref sw, .ref sp, .ref ss, .int ew, .long wc, .int tr, .int lf])), (sh, .inl (cS, 4, .inr (.inr (.inr (.inr (va_up (va_up (va_up (va_up (fun _ => none) 0 (some s0)) 1 (some s1)) 2 (some s2)) 3 (some s3))))))), (s0, .inr (5, [.ref e0, .int 0, .int 0, .int 0])), (s1, .inr (5, [.ref e1, .int 0, .int 0, .int 0])), (s2, .inr (5, [.ref e2, .int 0, .int 0, .int 0])), (s3, .inr (5, [.ref e3, .int 0, .int 0, .int 0]))] s.heap.size = A at hD ⊢
  have hA : ∀ q : Nat, s.heap.size ≤ q → A q := fun q h => by rw [← hAe]; exact Or.inr h
  have hS : va_S A s.heap s.heap [] := va_S.rf
  have hP : va_P D vwCl [(h0, .inr (8, [.ref sh, .ref rd, .ref fr, .ref wr, .ref pf, .ref rc, .ref se, .ref rs, .ref sw, .ref sp, .ref ss, .int ew, .long wc, .int tr, .int lf])), (sh, .inl (cS, 4, .inr (.inr (.inr (.inr (va_up (va_up (va_up (va_up (fun _ => none) 0 (some s0)) 1 (some s1)) 2 (some s2)) 3 (some s3))))))), (s0, .inr (5, [.ref e0, .int 0, .int 0, .int 0])), (s1, .inr (5, [.ref e1, .int 0, .int 0, .int 0])), (s2, .inr (5, [.ref e2, .int 0, .int 0, .int 0])), (s3, .inr (5, [.ref e3, .int 0, .int 0, .int 0]))] s.heap := hP
  have hl := lv_entry ([.ref h0, .int k, .int i, .int n]) (n := 6) (Nat.le_of_ble_eq_true rfl)
  rw [lg_entry_eq]
  generalize (lg_sl ([.ref h0, .int k, .int i, .int n]) ++ List.replicate (6 - (lg_sl ([.ref h0, .int k, .int i, .int n])).length) Slot.unset).toArray = ls at hl ⊢
  have hl : lv_has ls 6 [(0, .ref h0), (1, .int k), (2, .int i), (3, .int n)] := hl
  refine lv_aload_n hx hb dX8_cell_0 rfl (lv_at hl 0 rfl) ?_
  refine lv_iconst (v := 0) hx hb dX8_cell_1 (by decide) ?_
  refine va_put (D := D) (ci := 8) (v := .int 0) (ty := .int) (C := RX8) (T := TX8) (N := 15) hx hb hts (fun _ h9 => List.mem_cons_of_mem _ (List.mem_append_left _ (List.mem_append_right _ h9))) tyX8 tyX8_ok nmX8 hown hK hP hD hS 0 rfl rfl 14 (by decide) (hts (.fieldLink RX8 76 "FontRuns" "latestFault" "I") (by decide +kernel)) (fun _ h9 => h9) rfl (by decide +kernel) rfl rfl (Nat.le_of_ble_eq_true rfl) dX8_cell_2 (fun H locs hP hD hS => ?_)
  have hP : va_P D vwCl [(h0, .inr (8, [.ref sh, .ref rd, .ref fr, .ref wr, .ref pf, .ref rc, .ref se, .ref rs, .ref sw, .ref sp, .ref ss, .int ew, .long wc, .int tr, .int 0])), (sh, .inl (cS, 4, .inr (.inr (.inr (.inr (va_up (va_up (va_up (va_up (fun _ => none) 0 (some s0)) 1 (some s1)) 2 (some s2)) 3 (some s3))))))), (s0, .inr (5, [.ref e0, .int 0, .int 0, .int 0])), (s1, .inr (5, [.ref e1, .int 0, .int 0, .int 0])), (s2, .inr (5, [.ref e2, .int 0, .int 0, .int 0])), (s3, .inr (5, [.ref e3, .int 0, .int 0, .int 0]))] H := hP
  have hD : va_D A [(h0, .inr (8, [.ref sh, .ref rd, .ref fr, .ref wr, .ref pf, .ref rc, .ref se, .ref rs, .ref sw, .ref sp, .ref ss, .int ew, .long wc, .int tr, .int 0])), (sh, .inl (cS, 4, .inr (.inr (.inr (.inr (va_up (va_up (va_up (va_up (fun _ => none) 0 (some s0)) 1 (some s1)) 2 (some s2)) 3 (some s3))))))), (s0, .inr (5, [.ref e0, .int 0, .int 0, .int 0])), (s1, .inr (5, [.ref e1, .int 0, .int 0, .int 0])), (s2, .inr (5, [.ref e2, .int 0, .int 0, .int 0])), (s3, .inr (5, [.ref e3, .int 0, .int 0, .int 0]))] := hD
  refine lv_iload_n hx hb dX8_cell_5 rfl (lv_at hl 1 rfl) ?_
  refine k_callR (va_runS (As := [.int k]) (rest := []) ⟨hx, hb, hml, hown, hts⟩ (c_X8_isSheet l D H.size (k := k)) (va_cwS 1 hts gX8_cell_X8_isSheet rfl rfl rfl (by decide +kernel) ⟨Nat.le_of_ble_eq_true rfl, Nat.le_of_ble_eq_true rfl⟩) (kPreS hP (kD0 hD) hK hN [] [] rfl rfl (by decide)) rfl rfl hl.1 rfl (lv_room (Nat.le_of_ble_eq_true rfl)) dX8_cell_6 ⟨Nat.le_of_ble_eq_true rfl, Nat.le_of_ble_eq_true rfl⟩) ?_
  refine lv_if_eq (tgt := 19) hx hb dX8_cell_9 (by decide) (fun c_1 => ?_) (fun c_1 => ?_)
  · have k_2 : ¬ ((0 ≤ k ∧ k ≤ 3)) := b01f c_1
    refine lv_ldc2 (v := (-9223372036854775808)) hx hb hown (hts (.constantLong RX8 280 (-9223372036854775808)) (by decide +kernel)) dX8_cell_19 ?_
    exact W.lret (v := (-9223372036854775808)) hx hb hr (fun t ht hW => kQl_of rfl (hS.F ht)) hS.2.2 dX8_cell_22
  · have k_3 : (0 ≤ k ∧ k ≤ 3) := b01t c_1
    refine lv_iload_n hx hb dX8_cell_12 rfl (lv_at hl 3 rfl) ?_
    refine k_callR (va_runS (As := [.int n]) (rest := []) ⟨hx, hb, hml, hown, hts⟩ (c_X8_isLane l D H.size (k := n)) (va_cwS 1 hts gX8_cell_X8_isLane rfl rfl rfl (by decide +kernel) ⟨Nat.le_of_ble_eq_true rfl, Nat.le_of_ble_eq_true rfl⟩) (kPreS hP (kD0 hD) hK hN [] [] rfl rfl (by decide)) rfl rfl hl.1 rfl (lv_room (Nat.le_of_ble_eq_true rfl)) dX8_cell_13 ⟨Nat.le_of_ble_eq_true rfl, Nat.le_of_ble_eq_true rfl⟩) ?_
    refine lv_if_ne (tgt := 23) hx hb dX8_cell_16 (by decide) (fun c_4 => ?_) (fun c_4 => ?_)
    · have k_5 : (0 ≤ n ∧ n ≤ 2) := b01t c_4
      refine lv_aload_n hx hb dX8_cell_23 rfl (lv_at hl 0 rfl) ?_
      refine va_get (D := D) (ci := 8) (v := .ref sh) (C := RX8) (T := TX8) (N := 15) hx hb hts (fun _ h9 => List.mem_cons_of_mem _ (List.mem_append_left _ (List.mem_append_right _ h9))) hown hK hP 0 rfl rfl 0 (by decide) (hts (.fieldLink RX8 13 "FontRuns" "sheets" "[LFontRuns$Sheet;") (by decide +kernel)) (fun _ h9 => h9) rfl dX8_cell_24 ?_
      refine lv_iload_n hx hb dX8_cell_27 rfl (lv_at hl 1 rfl) ?_
      refine va_aldq hx hb hK hP 1 0 rfl rfl (k4in k_3) dX8_cell_28 ?_
      rcases (k4 k_3) with e9 | e9 | e9 | e9
      · subst e9
        refine kn_v (.ref s0) rfl ?_
        refine lv_astore (lv' := [(4, .ref s0), (0, .ref h0), (1, .int 0), (2, .int i), (3, .int n)]) hx hb dX8_cell_29 hl (by decide) rfl (fun ls hl => ?_)
        refine lv_aload hx hb dX8_cell_31 (lv_at hl 0 rfl) ?_
        refine lv_iload_n hx hb dX8_cell_33 rfl (lv_at hl 4 rfl) ?_
        refine k_callR (va_runS (As := [.ref s0, .int n]) (rest := []) ⟨hx, hb, hml, hown, hts⟩ (c_X8_faultOfLane l D H.size (ro := s0) (la := n) (e0 := e0) (ln := 0) (sz0 := 0)) (va_cwS 2 hts gX8_cell_X8_faultOfLane rfl rfl rfl (by decide +kernel) ⟨Nat.le_of_ble_eq_true rfl, Nat.le_of_ble_eq_true rfl⟩) (kPreS hP (kD0 hD) hK hN [2] [] rfl rfl (by decide)) rfl rfl hl.1 rfl (lv_room (Nat.le_of_ble_eq_true rfl)) dX8_cell_34 ⟨Nat.le_of_ble_eq_true rfl, Nat.le_of_ble_eq_true rfl⟩) ?_
        refine lv_istore (lv' := [(5, .int 1), (4, .ref s0), (0, .ref h0), (1, .int 0), (2, .int i), (3, .int n)]) hx hb dX8_cell_37 hl (by decide) rfl (fun ls hl => ?_)
        refine lv_iload hx hb dX8_cell_39 (lv_at hl 0 rfl) ?_
        refine lv_if_ne (tgt := 56) hx hb dX8_cell_41 (by decide) (fun _ => ?_) (fun c9 => absurd c9 (by decide))
        refine lv_iload hx hb dX8_cell_56 (lv_at hl 0 rfl) ?_
        refine lv_if_eq (tgt := 71) hx hb dX8_cell_58 (by decide) (fun c9 => absurd c9 (by decide)) (fun _ => ?_)
        refine lv_aload_n hx hb dX8_cell_61 rfl (lv_at hl 2 rfl) ?_
        refine lv_iload hx hb dX8_cell_62 (lv_at hl 0 rfl) ?_
        refine va_put (D := D) (ci := 8) (v := .int 1) (ty := .int) (C := RX8) (T := TX8) (N := 15) hx hb hts (fun _ h9 => List.mem_cons_of_mem _ (List.mem_append_left _ (List.mem_append_right _ h9))) tyX8 tyX8_ok nmX8 hown hK hP hD hS 0 rfl rfl 14 (by decide) (hts (.fieldLink RX8 76 "FontRuns" "latestFault" "I") (by decide +kernel)) (fun _ h9 => h9) rfl (by decide +kernel) rfl rfl (Nat.le_of_ble_eq_true rfl) dX8_cell_64 (fun H locs hP hD hS => ?_)
        have hP : va_P D vwCl [(h0, .inr (8, [.ref sh, .ref rd, .ref fr, .ref wr, .ref pf, .ref rc, .ref se, .ref rs, .ref sw, .ref sp, .ref ss, .int ew, .long wc, .int tr, .int 1])), (sh, .inl (cS, 4, .inr (.inr (.inr (.inr (va_up (va_up (va_up (va_up (fun _ => none) 0 (some s0)) 1 (some s1)) 2 (some s2)) 3 (some s3))))))), (s0, .inr (5, [.ref e0, .int 0, .int 0, .int 0])), (s1, .inr (5, [.ref e1, .int 0, .int 0, .int 0])), (s2, .inr (5, [.ref e2, .int 0, .int 0, .int 0])), (s3, .inr (5, [.ref e3, .int 0, .int 0, .int 0]))] H := hP
        have hD : va_D A [(h0, .inr (8, [.ref sh, .ref rd, .ref fr, .ref wr, .ref pf, .ref rc, .ref se, .ref rs, .ref sw, .ref sp, .ref ss, .int ew, .long wc, .int tr, .int 1])), (sh, .inl (cS, 4, .inr (.inr (.inr (.inr (va_up (va_up (va_up (va_up (fun _ => none) 0 (some s0)) 1 (some s1)) 2 (some s2)) 3 (some s3))))))), (s0, .inr (5, [.ref e0, .int 0, .int 0, .int 0])), (s1, .inr (5, [.ref e1, .int 0, .int 0, .int 0])), (s2, .inr (5, [.ref e2, .int 0, .int 0, .int 0])), (s3, .inr (5, [.ref e3, .int 0, .int 0, .int 0]))] := hD
        refine lv_ldc2 (v := (-9223372036854775808)) hx hb hown (hts (.constantLong RX8 280 (-9223372036854775808)) (by decide +kernel)) dX8_cell_67 ?_
        exact W.lret (v := (-9223372036854775808)) hx hb hr (fun t ht hW => kQl_of rfl (hS.F ht)) hS.2.2 dX8_cell_70
      · subst e9
        refine kn_v (.ref s1) rfl ?_
        refine lv_astore (lv' := [(4, .ref s1), (0, .ref h0), (1, .int 1), (2, .int i), (3, .int n)]) hx hb dX8_cell_29 hl (by decide) rfl (fun ls hl => ?_)
        refine lv_aload hx hb dX8_cell_31 (lv_at hl 0 rfl) ?_
        refine lv_iload_n hx hb dX8_cell_33 rfl (lv_at hl 4 rfl) ?_
        refine k_callR (va_runS (As := [.ref s1, .int n]) (rest := []) ⟨hx, hb, hml, hown, hts⟩ (c_X8_faultOfLane l D H.size (ro := s1) (la := n) (e0 := e1) (ln := 0) (sz0 := 0)) (va_cwS 2 hts gX8_cell_X8_faultOfLane rfl rfl rfl (by decide +kernel) ⟨Nat.le_of_ble_eq_true rfl, Nat.le_of_ble_eq_true rfl⟩) (kPreS hP (kD0 hD) hK hN [3] [] rfl rfl (by decide)) rfl rfl hl.1 rfl (lv_room (Nat.le_of_ble_eq_true rfl)) dX8_cell_34 ⟨Nat.le_of_ble_eq_true rfl, Nat.le_of_ble_eq_true rfl⟩) ?_
        refine lv_istore (lv' := [(5, .int 1), (4, .ref s1), (0, .ref h0), (1, .int 1), (2, .int i), (3, .int n)]) hx hb dX8_cell_37 hl (by decide) rfl (fun ls hl => ?_)
        refine lv_iload hx hb dX8_cell_39 (lv_at hl 0 rfl) ?_
        refine lv_if_ne (tgt := 56) hx hb dX8_cell_41 (by decide) (fun _ => ?_) (fun c9 => absurd c9 (by decide))
        refine lv_iload hx hb dX8_cell_56 (lv_at hl 0 rfl) ?_
        refine lv_if_eq (tgt := 71) hx hb dX8_cell_58 (by decide) (fun c9 => absurd c9 (by decide)) (fun _ => ?_)
        refine lv_aload_n hx hb dX8_cell_61 rfl (lv_at hl 2 rfl) ?_
        refine lv_iload hx hb dX8_cell_62 (lv_at hl 0 rfl) ?_
        refine va_put (D := D) (ci := 8) (v := .int 1) (ty := .int) (C := RX8) (T := TX8) (N := 15) hx hb hts (fun _ h9 => List.mem_cons_of_mem _ (List.mem_append_left _ (List.mem_append_right _ h9))) tyX8 tyX8_ok nmX8 hown hK hP hD hS 0 rfl rfl 14 (by decide) (hts (.fieldLink RX8 76 "FontRuns" "latestFault" "I") (by decide +kernel)) (fun _ h9 => h9) rfl (by decide +kernel) rfl rfl (Nat.le_of_ble_eq_true rfl) dX8_cell_64 (fun H locs hP hD hS => ?_)
        have hP : va_P D vwCl [(h0, .inr (8, [.ref sh, .ref rd, .ref fr, .ref wr, .ref pf, .ref rc, .ref se, .ref rs, .ref sw, .ref sp, .ref ss, .int ew, .long wc, .int tr, .int 1])), (sh, .inl (cS, 4, .inr (.inr (.inr (.inr (va_up (va_up (va_up (va_up (fun _ => none) 0 (some s0)) 1 (some s1)) 2 (some s2)) 3 (some s3))))))), (s0, .inr (5, [.ref e0, .int 0, .int 0, .int 0])), (s1, .inr (5, [.ref e1, .int 0, .int 0, .int 0])), (s2, .inr (5, [.ref e2, .int 0, .int 0, .int 0])), (s3, .inr (5, [.ref e3, .int 0, .int 0, .int 0]))] H := hP
        have hD : va_D A [(h0, .inr (8, [.ref sh, .ref rd, .ref fr, .ref wr, .ref pf, .ref rc, .ref se, .ref rs, .ref sw, .ref sp, .ref ss, .int ew, .long wc, .int tr, .int 1])), (sh, .inl (cS, 4, .inr (.inr (.inr (.inr (va_up (va_up (va_up (va_up (fun _ => none) 0 (some s0)) 1 (some s1)) 2 (some s2)) 3 (some s3))))))), (s0, .inr (5, [.ref e0, .int 0, .int 0, .int 0])), (s1, .inr (5, [.ref e1, .int 0, .int 0, .int 0])), (s2, .inr (5, [.ref e2, .int 0, .int 0, .int 0])), (s3, .inr (5, [.ref e3, .int 0, .int 0, .int 0]))] := hD
        refine lv_ldc2 (v := (-9223372036854775808)) hx hb hown (hts (.constantLong RX8 280 (-9223372036854775808)) (by decide +kernel)) dX8_cell_67 ?_
        exact W.lret (v := (-9223372036854775808)) hx hb hr (fun t ht hW => kQl_of rfl (hS.F ht)) hS.2.2 dX8_cell_70
      · subst e9
        refine kn_v (.ref s2) rfl ?_
        refine lv_astore (lv' := [(4, .ref s2), (0, .ref h0), (1, .int 2), (2, .int i), (3, .int n)]) hx hb dX8_cell_29 hl (by decide) rfl (fun ls hl => ?_)
        refine lv_aload hx hb dX8_cell_31 (lv_at hl 0 rfl) ?_
        refine lv_iload_n hx hb dX8_cell_33 rfl (lv_at hl 4 rfl) ?_
        refine k_callR (va_runS (As := [.ref s2, .int n]) (rest := []) ⟨hx, hb, hml, hown, hts⟩ (c_X8_faultOfLane l D H.size (ro := s2) (la := n) (e0 := e2) (ln := 0) (sz0 := 0)) (va_cwS 2 hts gX8_cell_X8_faultOfLane rfl rfl rfl (by decide +kernel) ⟨Nat.le_of_ble_eq_true rfl, Nat.le_of_ble_eq_true rfl⟩) (kPreS hP (kD0 hD) hK hN [4] [] rfl rfl (by decide)) rfl rfl hl.1 rfl (lv_room (Nat.le_of_ble_eq_true rfl)) dX8_cell_34 ⟨Nat.le_of_ble_eq_true rfl, Nat.le_of_ble_eq_true rfl⟩) ?_
        refine lv_istore (lv' := [(5, .int 1), (4, .ref s2), (0, .ref h0), (1, .int 2), (2, .int i), (3, .int n)]) hx hb dX8_cell_37 hl (by decide) rfl (fun ls hl => ?_)
        refine lv_iload hx hb dX8_cell_39 (lv_at hl 0 rfl) ?_
        refine lv_if_ne (tgt := 56) hx hb dX8_cell_41 (by decide) (fun _ => ?_) (fun c9 => absurd c9 (by decide))
        refine lv_iload hx hb dX8_cell_56 (lv_at hl 0 rfl) ?_
        refine lv_if_eq (tgt := 71) hx hb dX8_cell_58 (by decide) (fun c9 => absurd c9 (by decide)) (fun _ => ?_)
        refine lv_aload_n hx hb dX8_cell_61 rfl (lv_at hl 2 rfl) ?_
        refine lv_iload hx hb dX8_cell_62 (lv_at hl 0 rfl) ?_
        refine va_put (D := D) (ci := 8) (v := .int 1) (ty := .int) (C := RX8) (T := TX8) (N := 15) hx hb hts (fun _ h9 => List.mem_cons_of_mem _ (List.mem_append_left _ (List.mem_append_right _ h9))) tyX8 tyX8_ok nmX8 hown hK hP hD hS 0 rfl rfl 14 (by decide) (hts (.fieldLink RX8 76 "FontRuns" "latestFault" "I") (by decide +kernel)) (fun _ h9 => h9) rfl (by decide +kernel) rfl rfl (Nat.le_of_ble_eq_true rfl) dX8_cell_64 (fun H locs hP hD hS => ?_)
        have hP : va_P D vwCl [(h0, .inr (8, [.ref sh, .ref rd, .ref fr, .ref wr, .ref pf, .ref rc, .ref se, .ref rs, .ref sw, .ref sp, .ref ss, .int ew, .long wc, .int tr, .int 1])), (sh, .inl (cS, 4, .inr (.inr (.inr (.inr (va_up (va_up (va_up (va_up (fun _ => none) 0 (some s0)) 1 (some s1)) 2 (some s2)) 3 (some s3))))))), (s0, .inr (5, [.ref e0, .int 0, .int 0, .int 0])), (s1, .inr (5, [.ref e1, .int 0, .int 0, .int 0])), (s2, .inr (5, [.ref e2, .int 0, .int 0, .int 0])), (s3, .inr (5, [.ref e3, .int 0, .int 0, .int 0]))] H := hP
        have hD : va_D A [(h0, .inr (8, [.ref sh, .ref rd, .ref fr, .ref wr, .ref pf, .ref rc, .ref se, .ref rs, .ref sw, .ref sp, .ref ss, .int ew, .long wc, .int tr, .int 1])), (sh, .inl (cS, 4, .inr (.inr (.inr (.inr (va_up (va_up (va_up (va_up (fun _ => none) 0 (some s0)) 1 (some s1)) 2 (some s2)) 3 (some s3))))))), (s0, .inr (5, [.ref e0, .int 0, .int 0, .int 0])), (s1, .inr (5, [.ref e1, .int 0, .int 0, .int 0])), (s2, .inr (5, [.ref e2, .int 0, .int 0, .int 0])), (s3, .inr (5, [.ref e3, .int 0, .int 0, .int 0]))] := hD
        refine lv_ldc2 (v := (-9223372036854775808)) hx hb hown (hts (.constantLong RX8 280 (-9223372036854775808)) (by decide +kernel)) dX8_cell_67 ?_
        exact W.lret (v := (-9223372036854775808)) hx hb hr (fun t ht hW => kQl_of rfl (hS.F ht)) hS.2.2 dX8_cell_70
      · subst e9
        refine kn_v (.ref s3) rfl ?_
        refine lv_astore (lv' := [(4, .ref s3), (0, .ref h0), (1, .int 3), (2, .int i), (3, .int n)]) hx hb dX8_cell_29 hl (by decide) rfl (fun ls hl => ?_)
        refine lv_aload hx hb dX8_cell_31 (lv_at hl 0 rfl) ?_
        refine lv_iload_n hx hb dX8_cell_33 rfl (lv_at hl 4 rfl) ?_
        refine k_callR (va_runS (As := [.ref s3, .int n]) (rest := []) ⟨hx, hb, hml, hown, hts⟩ (c_X8_faultOfLane l D H.size (ro := s3) (la := n) (e0 := e3) (ln := 0) (sz0 := 0)) (va_cwS 2 hts gX8_cell_X8_faultOfLane rfl rfl rfl (by decide +kernel) ⟨Nat.le_of_ble_eq_true rfl, Nat.le_of_ble_eq_true rfl⟩) (kPreS hP (kD0 hD) hK hN [5] [] rfl rfl (by decide)) rfl rfl hl.1 rfl (lv_room (Nat.le_of_ble_eq_true rfl)) dX8_cell_34 ⟨Nat.le_of_ble_eq_true rfl, Nat.le_of_ble_eq_true rfl⟩) ?_
        refine lv_istore (lv' := [(5, .int 1), (4, .ref s3), (0, .ref h0), (1, .int 3), (2, .int i), (3, .int n)]) hx hb dX8_cell_37 hl (by decide) rfl (fun ls hl => ?_)
        refine lv_iload hx hb dX8_cell_39 (lv_at hl 0 rfl) ?_
        refine lv_if_ne (tgt := 56) hx hb dX8_cell_41 (by decide) (fun _ => ?_) (fun c9 => absurd c9 (by decide))
        refine lv_iload hx hb dX8_cell_56 (lv_at hl 0 rfl) ?_
        refine lv_if_eq (tgt := 71) hx hb dX8_cell_58 (by decide) (fun c9 => absurd c9 (by decide)) (fun _ => ?_)
        refine lv_aload_n hx hb dX8_cell_61 rfl (lv_at hl 2 rfl) ?_
        refine lv_iload hx hb dX8_cell_62 (lv_at hl 0 rfl) ?_
        refine va_put (D := D) (ci := 8) (v := .int 1) (ty := .int) (C := RX8) (T := TX8) (N := 15) hx hb hts (fun _ h9 => List.mem_cons_of_mem _ (List.mem_append_left _ (List.mem_append_right _ h9))) tyX8 tyX8_ok nmX8 hown hK hP hD hS 0 rfl rfl 14 (by decide) (hts (.fieldLink RX8 76 "FontRuns" "latestFault" "I") (by decide +kernel)) (fun _ h9 => h9) rfl (by decide +kernel) rfl rfl (Nat.le_of_ble_eq_true rfl) dX8_cell_64 (fun H locs hP hD hS => ?_)
        have hP : va_P D vwCl [(h0, .inr (8, [.ref sh, .ref rd, .ref fr, .ref wr, .ref pf, .ref rc, .ref se, .ref rs, .ref sw, .ref sp, .ref ss, .int ew, .long wc, .int tr, .int 1])), (sh, .inl (cS, 4, .inr (.inr (.inr (.inr (va_up (va_up (va_up (va_up (fun _ => none) 0 (some s0)) 1 (some s1)) 2 (some s2)) 3 (some s3))))))), (s0, .inr (5, [.ref e0, .int 0, .int 0, .int 0])), (s1, .inr (5, [.ref e1, .int 0, .int 0, .int 0])), (s2, .inr (5, [.ref e2, .int 0, .int 0, .int 0])), (s3, .inr (5, [.ref e3, .int 0, .int 0, .int 0]))] H := hP
        have hD : va_D A [(h0, .inr (8, [.ref sh, .ref rd, .ref fr, .ref wr, .ref pf, .ref rc, .ref se, .ref rs, .ref sw, .ref sp, .ref ss, .int ew, .long wc, .int tr, .int 1])), (sh, .inl (cS, 4, .inr (.inr (.inr (.inr (va_up (va_up (va_up (va_up (fun _ => none) 0 (some s0)) 1 (some s1)) 2 (some s2)) 3 (some s3))))))), (s0, .inr (5, [.ref e0, .int 0, .int 0, .int 0])), (s1, .inr (5, [.ref e1, .int 0, .int 0, .int 0])), (s2, .inr (5, [.ref e2, .int 0, .int 0, .int 0])), (s3, .inr (5, [.ref e3, .int 0, .int 0, .int 0]))] := hD
        refine lv_ldc2 (v := (-9223372036854775808)) hx hb hown (hts (.constantLong RX8 280 (-9223372036854775808)) (by decide +kernel)) dX8_cell_67 ?_
        exact W.lret (v := (-9223372036854775808)) hx hb hr (fun t ht hW => kQl_of rfl (hS.F ht)) hS.2.2 dX8_cell_70
    · have k_6 : ¬ ((0 ≤ n ∧ n ≤ 2)) := b01f c_4
      refine lv_ldc2 (v := (-9223372036854775808)) hx hb hown (hts (.constantLong RX8 280 (-9223372036854775808)) (by decide +kernel)) dX8_cell_19 ?_
      exact W.lret (v := (-9223372036854775808)) hx hb hr (fun t ht hW => kQl_of rfl (hS.F ht)) hS.2.2 dX8_cell_22
theorem dX8_copy_0 : decode cX8_copy 0 = .ok (.aload_n 0, 1) := by decide +kernel
theorem dX8_copy_1 : decode cX8_copy 1 = .ok (.iconst 0, 1) := by decide +kernel
theorem dX8_copy_2 : decode cX8_copy 2 = .ok (.putfield 76, 3) := by decide +kernel
theorem dX8_copy_5 : decode cX8_copy 5 = .ok (.iload_n 1, 1) := by decide +kernel
theorem dX8_copy_6 : decode cX8_copy 6 = .ok (.invokestatic 80, 3) := by decide +kernel
theorem dX8_copy_9 : decode cX8_copy 9 = .ok (.ifCond .eq 10, 3) := by decide +kernel
theorem dX8_copy_12 : decode cX8_copy 12 = .ok (.iload_n 3, 1) := by decide +kernel
theorem dX8_copy_13 : decode cX8_copy 13 = .ok (.invokestatic 80, 3) := by decide +kernel
theorem dX8_copy_16 : decode cX8_copy 16 = .ok (.ifCond .ne 5, 3) := by decide +kernel
theorem dX8_copy_19 : decode cX8_copy 19 = .ok (.iconst (-1), 1) := by decide +kernel
theorem dX8_copy_20 : decode cX8_copy 20 = .ok (.ireturn, 1) := by decide +kernel
theorem dX8_copy_21 : decode cX8_copy 21 = .ok (.aload_n 0, 1) := by decide +kernel
theorem dX8_copy_22 : decode cX8_copy 22 = .ok (.getfield 13, 3) := by decide +kernel
theorem dX8_copy_25 : decode cX8_copy 25 = .ok (.iload_n 1, 1) := by decide +kernel
theorem dX8_copy_26 : decode cX8_copy 26 = .ok (.aaload, 1) := by decide +kernel
theorem dX8_copy_27 : decode cX8_copy 27 = .ok (.astore 6, 2) := by decide +kernel
theorem dX8_copy_29 : decode cX8_copy 29 = .ok (.aload_n 0, 1) := by decide +kernel
theorem dX8_copy_30 : decode cX8_copy 30 = .ok (.getfield 13, 3) := by decide +kernel
theorem dX8_copy_33 : decode cX8_copy 33 = .ok (.iload_n 3, 1) := by decide +kernel
theorem dX8_copy_34 : decode cX8_copy 34 = .ok (.aaload, 1) := by decide +kernel
theorem dX8_copy_35 : decode cX8_copy 35 = .ok (.astore 7, 2) := by decide +kernel
theorem dX8_copy_37 : decode cX8_copy 37 = .ok (.aload 6, 2) := by decide +kernel
theorem dX8_copy_39 : decode cX8_copy 39 = .ok (.getfield 288, 3) := by decide +kernel
theorem dX8_copy_42 : decode cX8_copy 42 = .ok (.ifCond .eq 11, 3) := by decide +kernel
theorem dX8_copy_53 : decode cX8_copy 53 = .ok (.aload_n 0, 1) := by decide +kernel
theorem dX8_copy_54 : decode cX8_copy 54 = .ok (.iconst 1, 1) := by decide +kernel
theorem dX8_copy_55 : decode cX8_copy 55 = .ok (.invokevirtual 95, 3) := by decide +kernel
theorem dX8_copy_58 : decode cX8_copy 58 = .ok (.ireturn, 1) := by decide +kernel
set_option maxRecDepth 20000 in
theorem ggX8_copy_X8_failWith : GoodIn wsX8_copy wsX8_failWith := goodIn_r _ [20, 1, 28, 29, 30, 31, 32, 33, 34, 35, 36, 37, 38, 39, 40, 41, 42] (by decide +kernel) (by decide +kernel)
set_option maxRecDepth 20000 in
theorem gX8_copy_X8_failWith : GoodIn wsX8_copy (wsV RX8 95 RX8 yX8_failWith wsX8_failWith) := goodIn_app (goodIn_of _ (by decide +kernel)) ggX8_copy_X8_failWith
set_option maxRecDepth 20000 in
theorem ggX8_copy_X8_isSheet : GoodIn wsX8_copy wsX8_isSheet := goodIn_r _ [13, 14, 15, 12, 16] (by decide +kernel) (by decide +kernel)
set_option maxRecDepth 20000 in
theorem gX8_copy_X8_isSheet : GoodIn wsX8_copy (va_wsS RX8 80 yX8_isSheet wsX8_isSheet) := goodIn_app (goodIn_of _ (by decide +kernel)) ggX8_copy_X8_isSheet
set_option maxHeartbeats 4000000 in
set_option maxRecDepth 100000 in
theorem c_X8_copy (l : Launch) (D : va_G) (sz : Nat) (k : Int32) (i : Int32) (o : Int32) (j : Int32) (n : Int32) (h0 : Nat) (sh : Nat) (rd : Nat) (fr : Nat) (wr : Nat) (pf : Nat) (rc : Nat) (se : Nat) (rs : Nat) (sw : Nat) (sp : Nat) (ss : Nat) (ew : Int32) (wc : Int64) (tr : Int32) (lf : Int32) (cS : ClassId) (s0 : Nat) (s1 : Nat) (s2 : Nat) (s3 : Nat) (e0 : Nat) (e1 : Nat) (e2 : Nat) (e3 : Nat) : Met l yX8_copy wsX8_copy ({ frames := 2, cells := 0, slots := 0, locals := 42 }) (kPre [.ref h0, .int k, .int i, .int o, .int j, .int n] D [(h0, .inr (8, [.ref sh, .ref rd, .ref fr, .ref wr, .ref pf, .ref rc, .ref se, .ref rs, .ref sw, .ref sp, .ref ss, .int ew, .long wc, .int tr, .int lf])), (sh, .inl (cS, 4, .inr (.inr (.inr (.inr (va_up (va_up (va_up (va_up (fun _ => none) 0 (some s0)) 1 (some s1)) 2 (some s2)) 3 (some s3))))))), (s0, .inr (5, [.ref e0, .int 0, .int 0, .int 0])), (s1, .inr (5, [.ref e1, .int 0, .int 0, .int 0])), (s2, .inr (5, [.ref e2, .int 0, .int 0, .int 0])), (s3, .inr (5, [.ref e3, .int 0, .int 0, .int 0]))] [(cS, .object RX5)] sz) (kQi (sp_copy k o) (va_A [(h0, .inr (8, [.ref sh, .ref rd, .ref fr, .ref wr, .ref pf, .ref rc, .ref se, .ref rs, .ref sw, .ref sp, .ref ss, .int ew, .long wc, .int tr, .int lf])), (sh, .inl (cS, 4, .inr (.inr (.inr (.inr (va_up (va_up (va_up (va_up (fun _ => none) 0 (some s0)) 1 (some s1)) 2 (some s2)) 3 (some s3))))))), (s0, .inr (5, [.ref e0, .int 0, .int 0, .int 0])), (s1, .inr (5, [.ref e1, .int 0, .int 0, .int 0])), (s2, .inr (5, [.ref e2, .int 0, .int 0, .int 0])), (s3, .inr (5, [.ref e3, .int 0, .int 0, .int 0]))] sz)) 0 0 (va_A [(h0, .inr (8, [.ref sh, .ref rd, .ref fr, .ref wr, .ref pf, .ref rc, .ref se, .ref rs, .ref sw, .ref sp, .ref ss, .int ew, .long wc, .int tr, .int lf])), (sh, .inl (cS, 4, .inr (.inr (.inr (.inr (va_up (va_up (va_up (va_up (fun _ => none) 0 (some s0)) 1 (some s1)) 2 (some s2)) 3 (some s3))))))), (s0, .inr (5, [.ref e0, .int 0, .int 0, .int 0])), (s1, .inr (5, [.ref e1, .int 0, .int 0, .int 0])), (s2, .inr (5, [.ref e2, .int 0, .int 0, .int 0])), (s3, .inr (5, [.ref e3, .int 0, .int 0, .int 0]))] sz) := by
  refine Met.ofW (cc := cX8_copy) (maxL := 8) (ret := (some .int)) (by decide) rfl ?_
  intro p e s m args below meth c s₁ B hml hv
  obtain ⟨rfl, hsz, hP, hK, hD0, hN⟩ := hv
  have hx := B.exec
  have hb := B.bytes
  have hr := B.returns
  have hts := atoms_spec (ws := wsX8_copy) B.pre
  have hown : s.vm.findClass RX8 = some m.cls := findClass_of_methodNamed B.named
  have hlocks := B.notSynchronized
  subst hsz
  have hD := hD0.self (sz := s.heap.size)
  generalize hAe : va_A [(h0, .inr (8, [.ref sh, .ref rd, .ref fr, .ref wr, .ref pf, .ref rc, .ref se, .ref rs, .ref sw, .ref sp, .ref ss, .int ew, .long wc, .int tr, .int lf])), (sh, .inl (cS, 4, .inr (.inr (.inr (.inr (va_up (va_up (va_up (va_up (fun _ => none) 0 (some s0)) 1 (some s1)) 2 (some s2)) 3 (some s3))))))), (s0, .inr (5, [.ref e0, .int 0, .int 0, .int 0])), (s1, .inr (5, [.ref e1, .int 0, .int 0, .int 0])), (s2, .inr (5, [.ref e2, .int 0, .int 0, .int 0])), (s3, .inr (5, [.ref e3, .int 0, .int 0, .int 0]))] s.heap.size = A at hD ⊢
  have hA : ∀ q : Nat, s.heap.size ≤ q → A q := fun q h => by rw [← hAe]; exact Or.inr h
  have hS : va_S A s.heap s.heap [] := va_S.rf
  have hP : va_P D vwCl [(h0, .inr (8, [.ref sh, .ref rd, .ref fr, .ref wr, .ref pf, .ref rc, .ref se, .ref rs, .ref sw, .ref sp, .ref ss, .int ew, .long wc, .int tr, .int lf])), (sh, .inl (cS, 4, .inr (.inr (.inr (.inr (va_up (va_up (va_up (va_up (fun _ => none) 0 (some s0)) 1 (some s1)) 2 (some s2)) 3 (some s3))))))), (s0, .inr (5, [.ref e0, .int 0, .int 0, .int 0])), (s1, .inr (5, [.ref e1, .int 0, .int 0, .int 0])), (s2, .inr (5, [.ref e2, .int 0, .int 0, .int 0])), (s3, .inr (5, [.ref e3, .int 0, .int 0, .int 0]))] s.heap := hP
  have hl := lv_entry ([.ref h0, .int k, .int i, .int o, .int j, .int n]) (n := 8) (Nat.le_of_ble_eq_true rfl)
  rw [lg_entry_eq]
  generalize (lg_sl ([.ref h0, .int k, .int i, .int o, .int j, .int n]) ++ List.replicate (8 - (lg_sl ([.ref h0, .int k, .int i, .int o, .int j, .int n])).length) Slot.unset).toArray = ls at hl ⊢
  have hl : lv_has ls 8 [(0, .ref h0), (1, .int k), (2, .int i), (3, .int o), (4, .int j), (5, .int n)] := hl
  refine lv_aload_n hx hb dX8_copy_0 rfl (lv_at hl 0 rfl) ?_
  refine lv_iconst (v := 0) hx hb dX8_copy_1 (by decide) ?_
  refine va_put (D := D) (ci := 8) (v := .int 0) (ty := .int) (C := RX8) (T := TX8) (N := 15) hx hb hts (fun _ h9 => List.mem_cons_of_mem _ (List.mem_append_left _ (List.mem_append_right _ h9))) tyX8 tyX8_ok nmX8 hown hK hP hD hS 0 rfl rfl 14 (by decide) (hts (.fieldLink RX8 76 "FontRuns" "latestFault" "I") (by decide +kernel)) (fun _ h9 => h9) rfl (by decide +kernel) rfl rfl (Nat.le_of_ble_eq_true rfl) dX8_copy_2 (fun H locs hP hD hS => ?_)
  have hP : va_P D vwCl [(h0, .inr (8, [.ref sh, .ref rd, .ref fr, .ref wr, .ref pf, .ref rc, .ref se, .ref rs, .ref sw, .ref sp, .ref ss, .int ew, .long wc, .int tr, .int 0])), (sh, .inl (cS, 4, .inr (.inr (.inr (.inr (va_up (va_up (va_up (va_up (fun _ => none) 0 (some s0)) 1 (some s1)) 2 (some s2)) 3 (some s3))))))), (s0, .inr (5, [.ref e0, .int 0, .int 0, .int 0])), (s1, .inr (5, [.ref e1, .int 0, .int 0, .int 0])), (s2, .inr (5, [.ref e2, .int 0, .int 0, .int 0])), (s3, .inr (5, [.ref e3, .int 0, .int 0, .int 0]))] H := hP
  have hD : va_D A [(h0, .inr (8, [.ref sh, .ref rd, .ref fr, .ref wr, .ref pf, .ref rc, .ref se, .ref rs, .ref sw, .ref sp, .ref ss, .int ew, .long wc, .int tr, .int 0])), (sh, .inl (cS, 4, .inr (.inr (.inr (.inr (va_up (va_up (va_up (va_up (fun _ => none) 0 (some s0)) 1 (some s1)) 2 (some s2)) 3 (some s3))))))), (s0, .inr (5, [.ref e0, .int 0, .int 0, .int 0])), (s1, .inr (5, [.ref e1, .int 0, .int 0, .int 0])), (s2, .inr (5, [.ref e2, .int 0, .int 0, .int 0])), (s3, .inr (5, [.ref e3, .int 0, .int 0, .int 0]))] := hD
  refine lv_iload_n hx hb dX8_copy_5 rfl (lv_at hl 1 rfl) ?_
  refine k_callR (va_runS (As := [.int k]) (rest := []) ⟨hx, hb, hml, hown, hts⟩ (c_X8_isSheet l D H.size (k := k)) (va_cwS 1 hts gX8_copy_X8_isSheet rfl rfl rfl (by decide +kernel) ⟨Nat.le_of_ble_eq_true rfl, Nat.le_of_ble_eq_true rfl⟩) (kPreS hP (kD0 hD) hK hN [] [] rfl rfl (by decide)) rfl rfl hl.1 rfl (lv_room (Nat.le_of_ble_eq_true rfl)) dX8_copy_6 ⟨Nat.le_of_ble_eq_true rfl, Nat.le_of_ble_eq_true rfl⟩) ?_
  refine lv_if_eq (tgt := 19) hx hb dX8_copy_9 (by decide) (fun c_1 => ?_) (fun c_1 => ?_)
  · have k_2 : ¬ ((0 ≤ k ∧ k ≤ 3)) := b01f c_1
    refine lv_iconst (v := (-1)) hx hb dX8_copy_19 (by decide) ?_
    exact W.iret (v := (-1)) hx hb hr (fun t ht hW => kQi_of (by first | rfl | (simp only [sp_copy, if_neg k_2]; done) | (simp [sp_copy, k_2]; done)) (hS.F ht)) hS.2.2 dX8_copy_20
  · have k_3 : (0 ≤ k ∧ k ≤ 3) := b01t c_1
    refine lv_iload_n hx hb dX8_copy_12 rfl (lv_at hl 3 rfl) ?_
    refine k_callR (va_runS (As := [.int o]) (rest := []) ⟨hx, hb, hml, hown, hts⟩ (c_X8_isSheet l D H.size (k := o)) (va_cwS 1 hts gX8_copy_X8_isSheet rfl rfl rfl (by decide +kernel) ⟨Nat.le_of_ble_eq_true rfl, Nat.le_of_ble_eq_true rfl⟩) (kPreS hP (kD0 hD) hK hN [] [] rfl rfl (by decide)) rfl rfl hl.1 rfl (lv_room (Nat.le_of_ble_eq_true rfl)) dX8_copy_13 ⟨Nat.le_of_ble_eq_true rfl, Nat.le_of_ble_eq_true rfl⟩) ?_
    refine lv_if_ne (tgt := 21) hx hb dX8_copy_16 (by decide) (fun c_4 => ?_) (fun c_4 => ?_)
    · have k_5 : (0 ≤ o ∧ o ≤ 3) := b01t c_4
      refine lv_aload_n hx hb dX8_copy_21 rfl (lv_at hl 0 rfl) ?_
      refine va_get (D := D) (ci := 8) (v := .ref sh) (C := RX8) (T := TX8) (N := 15) hx hb hts (fun _ h9 => List.mem_cons_of_mem _ (List.mem_append_left _ (List.mem_append_right _ h9))) hown hK hP 0 rfl rfl 0 (by decide) (hts (.fieldLink RX8 13 "FontRuns" "sheets" "[LFontRuns$Sheet;") (by decide +kernel)) (fun _ h9 => h9) rfl dX8_copy_22 ?_
      refine lv_iload_n hx hb dX8_copy_25 rfl (lv_at hl 1 rfl) ?_
      refine va_aldq hx hb hK hP 1 0 rfl rfl (k4in k_3) dX8_copy_26 ?_
      rcases (k4 k_3) with e9 | e9 | e9 | e9
      · subst e9
        refine kn_v (.ref s0) rfl ?_
        refine lv_astore (lv' := [(6, .ref s0), (0, .ref h0), (1, .int 0), (2, .int i), (3, .int o), (4, .int j), (5, .int n)]) hx hb dX8_copy_27 hl (by decide) rfl (fun ls hl => ?_)
        refine lv_aload_n hx hb dX8_copy_29 rfl (lv_at hl 1 rfl) ?_
        refine va_get (D := D) (ci := 8) (v := .ref sh) (C := RX8) (T := TX8) (N := 15) hx hb hts (fun _ h9 => List.mem_cons_of_mem _ (List.mem_append_left _ (List.mem_append_right _ h9))) hown hK hP 0 rfl rfl 0 (by decide) (hts (.fieldLink RX8 13 "FontRuns" "sheets" "[LFontRuns$Sheet;") (by decide +kernel)) (fun _ h9 => h9) rfl dX8_copy_30 ?_
        refine lv_iload_n hx hb dX8_copy_33 rfl (lv_at hl 4 rfl) ?_
        refine va_aldq hx hb hK hP 1 0 rfl rfl (k4in k_5) dX8_copy_34 ?_
        rcases (k4 k_5) with e9 | e9 | e9 | e9
        · subst e9
          refine kn_v (.ref s0) rfl ?_
          refine lv_astore (lv' := [(7, .ref s0), (6, .ref s0), (0, .ref h0), (1, .int 0), (2, .int i), (3, .int 0), (4, .int j), (5, .int n)]) hx hb dX8_copy_35 hl (by decide) rfl (fun ls hl => ?_)
          refine lv_aload hx hb dX8_copy_37 (lv_at hl 1 rfl) ?_
          refine va_get (D := D) (ci := 5) (v := .int 0) (C := RX5) (T := TX5) (N := 4) hx hb hts (fun _ h9 => List.mem_cons_of_mem _ (List.mem_append_right _ h9)) hown hK hP 2 rfl rfl 1 (by decide) (hts (.fieldLink RX8 288 "FontRuns$Sheet" "isThere" "Z") (by decide +kernel)) (fun _ h9 => h9) rfl dX8_copy_39 ?_
          refine lv_if_eq (tgt := 53) hx hb dX8_copy_42 (by decide) (fun _ => ?_) (fun c9 => absurd (by decide) c9)
          refine lv_aload_n hx hb dX8_copy_53 rfl (lv_at hl 2 rfl) ?_
          refine lv_iconst (v := 1) hx hb dX8_copy_54 (by decide) ?_
          have hFc := va_free (wc := [(h0, .inr (8, [.ref sh, .ref rd, .ref fr, .ref wr, .ref pf, .ref rc, .ref se, .ref rs, .ref sw, .ref sp, .ref ss, .int ew, .long wc, .int tr, .int 0]))]) hD hS hA [0] rfl
          refine va_calli (va_runV (As := [.int 1]) (rest := []) ⟨hx, hb, hml, hown, hts⟩ (c_X8_failWith l D H.size (f := 1) (h0 := h0) (sh := sh) (rd := rd) (fr := fr) (wr := wr) (pf := pf) (rc := rc) (se := se) (rs := rs) (sw := sw) (sp := sp) (ss := ss) (ew := ew) (wc := wc) (tr := tr) (lf := 0)) (cwV 1 hts gX8_copy_X8_failWith rfl rfl rfl (by decide +kernel) ⟨Nat.le_of_ble_eq_true rfl, Nat.le_of_ble_eq_true rfl⟩) (kPreV hP (kD0 hD) hK hN [0] [] rfl rfl (by decide) 0 8 rfl rfl) rfl rfl hl.1 rfl (lv_room (Nat.le_of_ble_eq_true rfl)) dX8_copy_55 ⟨Nat.le_of_ble_eq_true rfl, Nat.le_of_ble_eq_true rfl⟩) hS (fun q _ h => hFc q h) hFc (fun r_6 u t H1 locs ht hvm hw hB hz1 hk1 hS => ?_)
          obtain ⟨hP, hD⟩ := va_join (wr := [(sh, .inl (cS, 4, .inr (.inr (.inr (.inr (va_up (va_up (va_up (va_up (fun _ => none) 0 (some s0)) 1 (some s1)) 2 (some s2)) 3 (some s3))))))), (s0, .inr (5, [.ref e0, .int 0, .int 0, .int 0])), (s1, .inr (5, [.ref e1, .int 0, .int 0, .int 0])), (s2, .inr (5, [.ref e2, .int 0, .int 0, .int 0])), (s3, .inr (5, [.ref e3, .int 0, .int 0, .int 0]))]) (w1 := []) hP hD [0] [1, 2, 3, 4, 5] rfl rfl (by decide) (by decide) hk1 hFc kP0 kDn
          generalize H1 = H at hP hS ⊢
          have hP : va_P D vwCl [(sh, .inl (cS, 4, .inr (.inr (.inr (.inr (va_up (va_up (va_up (va_up (fun _ => none) 0 (some s0)) 1 (some s1)) 2 (some s2)) 3 (some s3))))))), (s0, .inr (5, [.ref e0, .int 0, .int 0, .int 0])), (s1, .inr (5, [.ref e1, .int 0, .int 0, .int 0])), (s2, .inr (5, [.ref e2, .int 0, .int 0, .int 0])), (s3, .inr (5, [.ref e3, .int 0, .int 0, .int 0]))] H := hP
          have hD : va_D A [(sh, .inl (cS, 4, .inr (.inr (.inr (.inr (va_up (va_up (va_up (va_up (fun _ => none) 0 (some s0)) 1 (some s1)) 2 (some s2)) 3 (some s3))))))), (s0, .inr (5, [.ref e0, .int 0, .int 0, .int 0])), (s1, .inr (5, [.ref e1, .int 0, .int 0, .int 0])), (s2, .inr (5, [.ref e2, .int 0, .int 0, .int 0])), (s3, .inr (5, [.ref e3, .int 0, .int 0, .int 0]))] := hD
          refine kn_i ((-10) - 1) hw ?_
          refine kn_i (-11) (by decide) ?_
          exact W.iret (v := (-11)) hx hb hr (fun t ht hW => kQi_of (by first | rfl | (simp only [sp_copy, if_pos k_3, if_pos k_5]; done) | (simp [sp_copy, k_3, k_5]; done)) (hS.F ht)) hS.2.2 dX8_copy_58
        · subst e9
          refine kn_v (.ref s1) rfl ?_
          refine lv_astore (lv' := [(7, .ref s1), (6, .ref s0), (0, .ref h0), (1, .int 0), (2, .int i), (3, .int 1), (4, .int j), (5, .int n)]) hx hb dX8_copy_35 hl (by decide) rfl (fun ls hl => ?_)
          refine lv_aload hx hb dX8_copy_37 (lv_at hl 1 rfl) ?_
          refine va_get (D := D) (ci := 5) (v := .int 0) (C := RX5) (T := TX5) (N := 4) hx hb hts (fun _ h9 => List.mem_cons_of_mem _ (List.mem_append_right _ h9)) hown hK hP 2 rfl rfl 1 (by decide) (hts (.fieldLink RX8 288 "FontRuns$Sheet" "isThere" "Z") (by decide +kernel)) (fun _ h9 => h9) rfl dX8_copy_39 ?_
          refine lv_if_eq (tgt := 53) hx hb dX8_copy_42 (by decide) (fun _ => ?_) (fun c9 => absurd (by decide) c9)
          refine lv_aload_n hx hb dX8_copy_53 rfl (lv_at hl 2 rfl) ?_
          refine lv_iconst (v := 1) hx hb dX8_copy_54 (by decide) ?_
          have hFc := va_free (wc := [(h0, .inr (8, [.ref sh, .ref rd, .ref fr, .ref wr, .ref pf, .ref rc, .ref se, .ref rs, .ref sw, .ref sp, .ref ss, .int ew, .long wc, .int tr, .int 0]))]) hD hS hA [0] rfl
          refine va_calli (va_runV (As := [.int 1]) (rest := []) ⟨hx, hb, hml, hown, hts⟩ (c_X8_failWith l D H.size (f := 1) (h0 := h0) (sh := sh) (rd := rd) (fr := fr) (wr := wr) (pf := pf) (rc := rc) (se := se) (rs := rs) (sw := sw) (sp := sp) (ss := ss) (ew := ew) (wc := wc) (tr := tr) (lf := 0)) (cwV 1 hts gX8_copy_X8_failWith rfl rfl rfl (by decide +kernel) ⟨Nat.le_of_ble_eq_true rfl, Nat.le_of_ble_eq_true rfl⟩) (kPreV hP (kD0 hD) hK hN [0] [] rfl rfl (by decide) 0 8 rfl rfl) rfl rfl hl.1 rfl (lv_room (Nat.le_of_ble_eq_true rfl)) dX8_copy_55 ⟨Nat.le_of_ble_eq_true rfl, Nat.le_of_ble_eq_true rfl⟩) hS (fun q _ h => hFc q h) hFc (fun r_7 u t H1 locs ht hvm hw hB hz1 hk1 hS => ?_)
          obtain ⟨hP, hD⟩ := va_join (wr := [(sh, .inl (cS, 4, .inr (.inr (.inr (.inr (va_up (va_up (va_up (va_up (fun _ => none) 0 (some s0)) 1 (some s1)) 2 (some s2)) 3 (some s3))))))), (s0, .inr (5, [.ref e0, .int 0, .int 0, .int 0])), (s1, .inr (5, [.ref e1, .int 0, .int 0, .int 0])), (s2, .inr (5, [.ref e2, .int 0, .int 0, .int 0])), (s3, .inr (5, [.ref e3, .int 0, .int 0, .int 0]))]) (w1 := []) hP hD [0] [1, 2, 3, 4, 5] rfl rfl (by decide) (by decide) hk1 hFc kP0 kDn
          generalize H1 = H at hP hS ⊢
          have hP : va_P D vwCl [(sh, .inl (cS, 4, .inr (.inr (.inr (.inr (va_up (va_up (va_up (va_up (fun _ => none) 0 (some s0)) 1 (some s1)) 2 (some s2)) 3 (some s3))))))), (s0, .inr (5, [.ref e0, .int 0, .int 0, .int 0])), (s1, .inr (5, [.ref e1, .int 0, .int 0, .int 0])), (s2, .inr (5, [.ref e2, .int 0, .int 0, .int 0])), (s3, .inr (5, [.ref e3, .int 0, .int 0, .int 0]))] H := hP
          have hD : va_D A [(sh, .inl (cS, 4, .inr (.inr (.inr (.inr (va_up (va_up (va_up (va_up (fun _ => none) 0 (some s0)) 1 (some s1)) 2 (some s2)) 3 (some s3))))))), (s0, .inr (5, [.ref e0, .int 0, .int 0, .int 0])), (s1, .inr (5, [.ref e1, .int 0, .int 0, .int 0])), (s2, .inr (5, [.ref e2, .int 0, .int 0, .int 0])), (s3, .inr (5, [.ref e3, .int 0, .int 0, .int 0]))] := hD
          refine kn_i ((-10) - 1) hw ?_
          refine kn_i (-11) (by decide) ?_
          exact W.iret (v := (-11)) hx hb hr (fun t ht hW => kQi_of (by first | rfl | (simp only [sp_copy, if_pos k_3, if_pos k_5]; done) | (simp [sp_copy, k_3, k_5]; done)) (hS.F ht)) hS.2.2 dX8_copy_58
        · subst e9
          refine kn_v (.ref s2) rfl ?_
          refine lv_astore (lv' := [(7, .ref s2), (6, .ref s0), (0, .ref h0), (1, .int 0), (2, .int i), (3, .int 2), (4, .int j), (5, .int n)]) hx hb dX8_copy_35 hl (by decide) rfl (fun ls hl => ?_)
          refine lv_aload hx hb dX8_copy_37 (lv_at hl 1 rfl) ?_
          refine va_get (D := D) (ci := 5) (v := .int 0) (C := RX5) (T := TX5) (N := 4) hx hb hts (fun _ h9 => List.mem_cons_of_mem _ (List.mem_append_right _ h9)) hown hK hP 2 rfl rfl 1 (by decide) (hts (.fieldLink RX8 288 "FontRuns$Sheet" "isThere" "Z") (by decide +kernel)) (fun _ h9 => h9) rfl dX8_copy_39 ?_
          refine lv_if_eq (tgt := 53) hx hb dX8_copy_42 (by decide) (fun _ => ?_) (fun c9 => absurd (by decide) c9)
          refine lv_aload_n hx hb dX8_copy_53 rfl (lv_at hl 2 rfl) ?_
          refine lv_iconst (v := 1) hx hb dX8_copy_54 (by decide) ?_
          have hFc := va_free (wc := [(h0, .inr (8, [.ref sh, .ref rd, .ref fr, .ref wr, .ref pf, .ref rc, .ref se, .ref rs, .ref sw, .ref sp, .ref ss, .int ew, .long wc, .int tr, .int 0]))]) hD hS hA [0] rfl
          refine va_calli (va_runV (As := [.int 1]) (rest := []) ⟨hx, hb, hml, hown, hts⟩ (c_X8_failWith l D H.size (f := 1) (h0 := h0) (sh := sh) (rd := rd) (fr := fr) (wr := wr) (pf := pf) (rc := rc) (se := se) (rs := rs) (sw := sw) (sp := sp) (ss := ss) (ew := ew) (wc := wc) (tr := tr) (lf := 0)) (cwV 1 hts gX8_copy_X8_failWith rfl rfl rfl (by decide +kernel) ⟨Nat.le_of_ble_eq_true rfl, Nat.le_of_ble_eq_true rfl⟩) (kPreV hP (kD0 hD) hK hN [0] [] rfl rfl (by decide) 0 8 rfl rfl) rfl rfl hl.1 rfl (lv_room (Nat.le_of_ble_eq_true rfl)) dX8_copy_55 ⟨Nat.le_of_ble_eq_true rfl, Nat.le_of_ble_eq_true rfl⟩) hS (fun q _ h => hFc q h) hFc (fun r_8 u t H1 locs ht hvm hw hB hz1 hk1 hS => ?_)
          obtain ⟨hP, hD⟩ := va_join (wr := [(sh, .inl (cS, 4, .inr (.inr (.inr (.inr (va_up (va_up (va_up (va_up (fun _ => none) 0 (some s0)) 1 (some s1)) 2 (some s2)) 3 (some s3))))))), (s0, .inr (5, [.ref e0, .int 0, .int 0, .int 0])), (s1, .inr (5, [.ref e1, .int 0, .int 0, .int 0])), (s2, .inr (5, [.ref e2, .int 0, .int 0, .int 0])), (s3, .inr (5, [.ref e3, .int 0, .int 0, .int 0]))]) (w1 := []) hP hD [0] [1, 2, 3, 4, 5] rfl rfl (by decide) (by decide) hk1 hFc kP0 kDn
          generalize H1 = H at hP hS ⊢
          have hP : va_P D vwCl [(sh, .inl (cS, 4, .inr (.inr (.inr (.inr (va_up (va_up (va_up (va_up (fun _ => none) 0 (some s0)) 1 (some s1)) 2 (some s2)) 3 (some s3))))))), (s0, .inr (5, [.ref e0, .int 0, .int 0, .int 0])), (s1, .inr (5, [.ref e1, .int 0, .int 0, .int 0])), (s2, .inr (5, [.ref e2, .int 0, .int 0, .int 0])), (s3, .inr (5, [.ref e3, .int 0, .int 0, .int 0]))] H := hP
          have hD : va_D A [(sh, .inl (cS, 4, .inr (.inr (.inr (.inr (va_up (va_up (va_up (va_up (fun _ => none) 0 (some s0)) 1 (some s1)) 2 (some s2)) 3 (some s3))))))), (s0, .inr (5, [.ref e0, .int 0, .int 0, .int 0])), (s1, .inr (5, [.ref e1, .int 0, .int 0, .int 0])), (s2, .inr (5, [.ref e2, .int 0, .int 0, .int 0])), (s3, .inr (5, [.ref e3, .int 0, .int 0, .int 0]))] := hD
          refine kn_i ((-10) - 1) hw ?_
          refine kn_i (-11) (by decide) ?_
          exact W.iret (v := (-11)) hx hb hr (fun t ht hW => kQi_of (by first | rfl | (simp only [sp_copy, if_pos k_3, if_pos k_5]; done) | (simp [sp_copy, k_3, k_5]; done)) (hS.F ht)) hS.2.2 dX8_copy_58
        · subst e9
          refine kn_v (.ref s3) rfl ?_
          refine lv_astore (lv' := [(7, .ref s3), (6, .ref s0), (0, .ref h0), (1, .int 0), (2, .int i), (3, .int 3), (4, .int j), (5, .int n)]) hx hb dX8_copy_35 hl (by decide) rfl (fun ls hl => ?_)
          refine lv_aload hx hb dX8_copy_37 (lv_at hl 1 rfl) ?_
          refine va_get (D := D) (ci := 5) (v := .int 0) (C := RX5) (T := TX5) (N := 4) hx hb hts (fun _ h9 => List.mem_cons_of_mem _ (List.mem_append_right _ h9)) hown hK hP 2 rfl rfl 1 (by decide) (hts (.fieldLink RX8 288 "FontRuns$Sheet" "isThere" "Z") (by decide +kernel)) (fun _ h9 => h9) rfl dX8_copy_39 ?_
          refine lv_if_eq (tgt := 53) hx hb dX8_copy_42 (by decide) (fun _ => ?_) (fun c9 => absurd (by decide) c9)
          refine lv_aload_n hx hb dX8_copy_53 rfl (lv_at hl 2 rfl) ?_
          refine lv_iconst (v := 1) hx hb dX8_copy_54 (by decide) ?_
          have hFc := va_free (wc := [(h0, .inr (8, [.ref sh, .ref rd, .ref fr, .ref wr, .ref pf, .ref rc, .ref se, .ref rs, .ref sw, .ref sp, .ref ss, .int ew, .long wc, .int tr, .int 0]))]) hD hS hA [0] rfl
          refine va_calli (va_runV (As := [.int 1]) (rest := []) ⟨hx, hb, hml, hown, hts⟩ (c_X8_failWith l D H.size (f := 1) (h0 := h0) (sh := sh) (rd := rd) (fr := fr) (wr := wr) (pf := pf) (rc := rc) (se := se) (rs := rs) (sw := sw) (sp := sp) (ss := ss) (ew := ew) (wc := wc) (tr := tr) (lf := 0)) (cwV 1 hts gX8_copy_X8_failWith rfl rfl rfl (by decide +kernel) ⟨Nat.le_of_ble_eq_true rfl, Nat.le_of_ble_eq_true rfl⟩) (kPreV hP (kD0 hD) hK hN [0] [] rfl rfl (by decide) 0 8 rfl rfl) rfl rfl hl.1 rfl (lv_room (Nat.le_of_ble_eq_true rfl)) dX8_copy_55 ⟨Nat.le_of_ble_eq_true rfl, Nat.le_of_ble_eq_true rfl⟩) hS (fun q _ h => hFc q h) hFc (fun r_9 u t H1 locs ht hvm hw hB hz1 hk1 hS => ?_)
          obtain ⟨hP, hD⟩ := va_join (wr := [(sh, .inl (cS, 4, .inr (.inr (.inr (.inr (va_up (va_up (va_up (va_up (fun _ => none) 0 (some s0)) 1 (some s1)) 2 (some s2)) 3 (some s3))))))), (s0, .inr (5, [.ref e0, .int 0, .int 0, .int 0])), (s1, .inr (5, [.ref e1, .int 0, .int 0, .int 0])), (s2, .inr (5, [.ref e2, .int 0, .int 0, .int 0])), (s3, .inr (5, [.ref e3, .int 0, .int 0, .int 0]))]) (w1 := []) hP hD [0] [1, 2, 3, 4, 5] rfl rfl (by decide) (by decide) hk1 hFc kP0 kDn
          generalize H1 = H at hP hS ⊢
          have hP : va_P D vwCl [(sh, .inl (cS, 4, .inr (.inr (.inr (.inr (va_up (va_up (va_up (va_up (fun _ => none) 0 (some s0)) 1 (some s1)) 2 (some s2)) 3 (some s3))))))), (s0, .inr (5, [.ref e0, .int 0, .int 0, .int 0])), (s1, .inr (5, [.ref e1, .int 0, .int 0, .int 0])), (s2, .inr (5, [.ref e2, .int 0, .int 0, .int 0])), (s3, .inr (5, [.ref e3, .int 0, .int 0, .int 0]))] H := hP
          have hD : va_D A [(sh, .inl (cS, 4, .inr (.inr (.inr (.inr (va_up (va_up (va_up (va_up (fun _ => none) 0 (some s0)) 1 (some s1)) 2 (some s2)) 3 (some s3))))))), (s0, .inr (5, [.ref e0, .int 0, .int 0, .int 0])), (s1, .inr (5, [.ref e1, .int 0, .int 0, .int 0])), (s2, .inr (5, [.ref e2, .int 0, .int 0, .int 0])), (s3, .inr (5, [.ref e3, .int 0, .int 0, .int 0]))] := hD
          refine kn_i ((-10) - 1) hw ?_
          refine kn_i (-11) (by decide) ?_
          exact W.iret (v := (-11)) hx hb hr (fun t ht hW => kQi_of (by first | rfl | (simp only [sp_copy, if_pos k_3, if_pos k_5]; done) | (simp [sp_copy, k_3, k_5]; done)) (hS.F ht)) hS.2.2 dX8_copy_58
      · subst e9
        refine kn_v (.ref s1) rfl ?_
        refine lv_astore (lv' := [(6, .ref s1), (0, .ref h0), (1, .int 1), (2, .int i), (3, .int o), (4, .int j), (5, .int n)]) hx hb dX8_copy_27 hl (by decide) rfl (fun ls hl => ?_)
        refine lv_aload_n hx hb dX8_copy_29 rfl (lv_at hl 1 rfl) ?_
        refine va_get (D := D) (ci := 8) (v := .ref sh) (C := RX8) (T := TX8) (N := 15) hx hb hts (fun _ h9 => List.mem_cons_of_mem _ (List.mem_append_left _ (List.mem_append_right _ h9))) hown hK hP 0 rfl rfl 0 (by decide) (hts (.fieldLink RX8 13 "FontRuns" "sheets" "[LFontRuns$Sheet;") (by decide +kernel)) (fun _ h9 => h9) rfl dX8_copy_30 ?_
        refine lv_iload_n hx hb dX8_copy_33 rfl (lv_at hl 4 rfl) ?_
        refine va_aldq hx hb hK hP 1 0 rfl rfl (k4in k_5) dX8_copy_34 ?_
        rcases (k4 k_5) with e9 | e9 | e9 | e9
        · subst e9
          refine kn_v (.ref s0) rfl ?_
          refine lv_astore (lv' := [(7, .ref s0), (6, .ref s1), (0, .ref h0), (1, .int 1), (2, .int i), (3, .int 0), (4, .int j), (5, .int n)]) hx hb dX8_copy_35 hl (by decide) rfl (fun ls hl => ?_)
          refine lv_aload hx hb dX8_copy_37 (lv_at hl 1 rfl) ?_
          refine va_get (D := D) (ci := 5) (v := .int 0) (C := RX5) (T := TX5) (N := 4) hx hb hts (fun _ h9 => List.mem_cons_of_mem _ (List.mem_append_right _ h9)) hown hK hP 3 rfl rfl 1 (by decide) (hts (.fieldLink RX8 288 "FontRuns$Sheet" "isThere" "Z") (by decide +kernel)) (fun _ h9 => h9) rfl dX8_copy_39 ?_
          refine lv_if_eq (tgt := 53) hx hb dX8_copy_42 (by decide) (fun _ => ?_) (fun c9 => absurd (by decide) c9)
          refine lv_aload_n hx hb dX8_copy_53 rfl (lv_at hl 2 rfl) ?_
          refine lv_iconst (v := 1) hx hb dX8_copy_54 (by decide) ?_
          have hFc := va_free (wc := [(h0, .inr (8, [.ref sh, .ref rd, .ref fr, .ref wr, .ref pf, .ref rc, .ref se, .ref rs, .ref sw, .ref sp, .ref ss, .int ew, .long wc, .int tr, .int 0]))]) hD hS hA [0] rfl
          refine va_calli (va_runV (As := [.int 1]) (rest := []) ⟨hx, hb, hml, hown, hts⟩ (c_X8_failWith l D H.size (f := 1) (h0 := h0) (sh := sh) (rd := rd) (fr := fr) (wr := wr) (pf := pf) (rc := rc) (se := se) (rs := rs) (sw := sw) (sp := sp) (ss := ss) (ew := ew) (wc := wc) (tr := tr) (lf := 0)) (cwV 1 hts gX8_copy_X8_failWith rfl rfl rfl (by decide +kernel) ⟨Nat.le_of_ble_eq_true rfl, Nat.le_of_ble_eq_true rfl⟩) (kPreV hP (kD0 hD) hK hN [0] [] rfl rfl (by decide) 0 8 rfl rfl) rfl rfl hl.1 rfl (lv_room (Nat.le_of_ble_eq_true rfl)) dX8_copy_55 ⟨Nat.le_of_ble_eq_true rfl, Nat.le_of_ble_eq_true rfl⟩) hS (fun q _ h => hFc q h) hFc (fun r_10 u t H1 locs ht hvm hw hB hz1 hk1 hS => ?_)
          obtain ⟨hP, hD⟩ := va_join (wr := [(sh, .inl (cS, 4, .inr (.inr (.inr (.inr (va_up (va_up (va_up (va_up (fun _ => none) 0 (some s0)) 1 (some s1)) 2 (some s2)) 3 (some s3))))))), (s0, .inr (5, [.ref e0, .int 0, .int 0, .int 0])), (s1, .inr (5, [.ref e1, .int 0, .int 0, .int 0])), (s2, .inr (5, [.ref e2, .int 0, .int 0, .int 0])), (s3, .inr (5, [.ref e3, .int 0, .int 0, .int 0]))]) (w1 := []) hP hD [0] [1, 2, 3, 4, 5] rfl rfl (by decide) (by decide) hk1 hFc kP0 kDn
          generalize H1 = H at hP hS ⊢
          have hP : va_P D vwCl [(sh, .inl (cS, 4, .inr (.inr (.inr (.inr (va_up (va_up (va_up (va_up (fun _ => none) 0 (some s0)) 1 (some s1)) 2 (some s2)) 3 (some s3))))))), (s0, .inr (5, [.ref e0, .int 0, .int 0, .int 0])), (s1, .inr (5, [.ref e1, .int 0, .int 0, .int 0])), (s2, .inr (5, [.ref e2, .int 0, .int 0, .int 0])), (s3, .inr (5, [.ref e3, .int 0, .int 0, .int 0]))] H := hP
          have hD : va_D A [(sh, .inl (cS, 4, .inr (.inr (.inr (.inr (va_up (va_up (va_up (va_up (fun _ => none) 0 (some s0)) 1 (some s1)) 2 (some s2)) 3 (some s3))))))), (s0, .inr (5, [.ref e0, .int 0, .int 0, .int 0])), (s1, .inr (5, [.ref e1, .int 0, .int 0, .int 0])), (s2, .inr (5, [.ref e2, .int 0, .int 0, .int 0])), (s3, .inr (5, [.ref e3, .int 0, .int 0, .int 0]))] := hD
          refine kn_i ((-10) - 1) hw ?_
          refine kn_i (-11) (by decide) ?_
          exact W.iret (v := (-11)) hx hb hr (fun t ht hW => kQi_of (by first | rfl | (simp only [sp_copy, if_pos k_3, if_pos k_5]; done) | (simp [sp_copy, k_3, k_5]; done)) (hS.F ht)) hS.2.2 dX8_copy_58
        · subst e9
          refine kn_v (.ref s1) rfl ?_
          refine lv_astore (lv' := [(7, .ref s1), (6, .ref s1), (0, .ref h0), (1, .int 1), (2, .int i), (3, .int 1), (4, .int j), (5, .int n)]) hx hb dX8_copy_35 hl (by decide) rfl (fun ls hl => ?_)
          refine lv_aload hx hb dX8_copy_37 (lv_at hl 1 rfl) ?_
          refine va_get (D := D) (ci := 5) (v := .int 0) (C := RX5) (T := TX5) (N := 4) hx hb hts (fun _ h9 => List.mem_cons_of_mem _ (List.mem_append_right _ h9)) hown hK hP 3 rfl rfl 1 (by decide) (hts (.fieldLink RX8 288 "FontRuns$Sheet" "isThere" "Z") (by decide +kernel)) (fun _ h9 => h9) rfl dX8_copy_39 ?_
          refine lv_if_eq (tgt := 53) hx hb dX8_copy_42 (by decide) (fun _ => ?_) (fun c9 => absurd (by decide) c9)
          refine lv_aload_n hx hb dX8_copy_53 rfl (lv_at hl 2 rfl) ?_
          refine lv_iconst (v := 1) hx hb dX8_copy_54 (by decide) ?_
          have hFc := va_free (wc := [(h0, .inr (8, [.ref sh, .ref rd, .ref fr, .ref wr, .ref pf, .ref rc, .ref se, .ref rs, .ref sw, .ref sp, .ref ss, .int ew, .long wc, .int tr, .int 0]))]) hD hS hA [0] rfl
          refine va_calli (va_runV (As := [.int 1]) (rest := []) ⟨hx, hb, hml, hown, hts⟩ (c_X8_failWith l D H.size (f := 1) (h0 := h0) (sh := sh) (rd := rd) (fr := fr) (wr := wr) (pf := pf) (rc := rc) (se := se) (rs := rs) (sw := sw) (sp := sp) (ss := ss) (ew := ew) (wc := wc) (tr := tr) (lf := 0)) (cwV 1 hts gX8_copy_X8_failWith rfl rfl rfl (by decide +kernel) ⟨Nat.le_of_ble_eq_true rfl, Nat.le_of_ble_eq_true rfl⟩) (kPreV hP (kD0 hD) hK hN [0] [] rfl rfl (by decide) 0 8 rfl rfl) rfl rfl hl.1 rfl (lv_room (Nat.le_of_ble_eq_true rfl)) dX8_copy_55 ⟨Nat.le_of_ble_eq_true rfl, Nat.le_of_ble_eq_true rfl⟩) hS (fun q _ h => hFc q h) hFc (fun r_11 u t H1 locs ht hvm hw hB hz1 hk1 hS => ?_)
          obtain ⟨hP, hD⟩ := va_join (wr := [(sh, .inl (cS, 4, .inr (.inr (.inr (.inr (va_up (va_up (va_up (va_up (fun _ => none) 0 (some s0)) 1 (some s1)) 2 (some s2)) 3 (some s3))))))), (s0, .inr (5, [.ref e0, .int 0, .int 0, .int 0])), (s1, .inr (5, [.ref e1, .int 0, .int 0, .int 0])), (s2, .inr (5, [.ref e2, .int 0, .int 0, .int 0])), (s3, .inr (5, [.ref e3, .int 0, .int 0, .int 0]))]) (w1 := []) hP hD [0] [1, 2, 3, 4, 5] rfl rfl (by decide) (by decide) hk1 hFc kP0 kDn
          generalize H1 = H at hP hS ⊢
          have hP : va_P D vwCl [(sh, .inl (cS, 4, .inr (.inr (.inr (.inr (va_up (va_up (va_up (va_up (fun _ => none) 0 (some s0)) 1 (some s1)) 2 (some s2)) 3 (some s3))))))), (s0, .inr (5, [.ref e0, .int 0, .int 0, .int 0])), (s1, .inr (5, [.ref e1, .int 0, .int 0, .int 0])), (s2, .inr (5, [.ref e2, .int 0, .int 0, .int 0])), (s3, .inr (5, [.ref e3, .int 0, .int 0, .int 0]))] H := hP
          have hD : va_D A [(sh, .inl (cS, 4, .inr (.inr (.inr (.inr (va_up (va_up (va_up (va_up (fun _ => none) 0 (some s0)) 1 (some s1)) 2 (some s2)) 3 (some s3))))))), (s0, .inr (5, [.ref e0, .int 0, .int 0, .int 0])), (s1, .inr (5, [.ref e1, .int 0, .int 0, .int 0])), (s2, .inr (5, [.ref e2, .int 0, .int 0, .int 0])), (s3, .inr (5, [.ref e3, .int 0, .int 0, .int 0]))] := hD
          refine kn_i ((-10) - 1) hw ?_
          refine kn_i (-11) (by decide) ?_
          exact W.iret (v := (-11)) hx hb hr (fun t ht hW => kQi_of (by first | rfl | (simp only [sp_copy, if_pos k_3, if_pos k_5]; done) | (simp [sp_copy, k_3, k_5]; done)) (hS.F ht)) hS.2.2 dX8_copy_58
        · subst e9
          refine kn_v (.ref s2) rfl ?_
          refine lv_astore (lv' := [(7, .ref s2), (6, .ref s1), (0, .ref h0), (1, .int 1), (2, .int i), (3, .int 2), (4, .int j), (5, .int n)]) hx hb dX8_copy_35 hl (by decide) rfl (fun ls hl => ?_)
          refine lv_aload hx hb dX8_copy_37 (lv_at hl 1 rfl) ?_
          refine va_get (D := D) (ci := 5) (v := .int 0) (C := RX5) (T := TX5) (N := 4) hx hb hts (fun _ h9 => List.mem_cons_of_mem _ (List.mem_append_right _ h9)) hown hK hP 3 rfl rfl 1 (by decide) (hts (.fieldLink RX8 288 "FontRuns$Sheet" "isThere" "Z") (by decide +kernel)) (fun _ h9 => h9) rfl dX8_copy_39 ?_
          refine lv_if_eq (tgt := 53) hx hb dX8_copy_42 (by decide) (fun _ => ?_) (fun c9 => absurd (by decide) c9)
          refine lv_aload_n hx hb dX8_copy_53 rfl (lv_at hl 2 rfl) ?_
          refine lv_iconst (v := 1) hx hb dX8_copy_54 (by decide) ?_
          have hFc := va_free (wc := [(h0, .inr (8, [.ref sh, .ref rd, .ref fr, .ref wr, .ref pf, .ref rc, .ref se, .ref rs, .ref sw, .ref sp, .ref ss, .int ew, .long wc, .int tr, .int 0]))]) hD hS hA [0] rfl
          refine va_calli (va_runV (As := [.int 1]) (rest := []) ⟨hx, hb, hml, hown, hts⟩ (c_X8_failWith l D H.size (f := 1) (h0 := h0) (sh := sh) (rd := rd) (fr := fr) (wr := wr) (pf := pf) (rc := rc) (se := se) (rs := rs) (sw := sw) (sp := sp) (ss := ss) (ew := ew) (wc := wc) (tr := tr) (lf := 0)) (cwV 1 hts gX8_copy_X8_failWith rfl rfl rfl (by decide +kernel) ⟨Nat.le_of_ble_eq_true rfl, Nat.le_of_ble_eq_true rfl⟩) (kPreV hP (kD0 hD) hK hN [0] [] rfl rfl (by decide) 0 8 rfl rfl) rfl rfl hl.1 rfl (lv_room (Nat.le_of_ble_eq_true rfl)) dX8_copy_55 ⟨Nat.le_of_ble_eq_true rfl, Nat.le_of_ble_eq_true rfl⟩) hS (fun q _ h => hFc q h) hFc (fun r_12 u t H1 locs ht hvm hw hB hz1 hk1 hS => ?_)
          obtain ⟨hP, hD⟩ := va_join (wr := [(sh, .inl (cS, 4, .inr (.inr (.inr (.inr (va_up (va_up (va_up (va_up (fun _ => none) 0 (some s0)) 1 (some s1)) 2 (some s2)) 3 (some s3))))))), (s0, .inr (5, [.ref e0, .int 0, .int 0, .int 0])), (s1, .inr (5, [.ref e1, .int 0, .int 0, .int 0])), (s2, .inr (5, [.ref e2, .int 0, .int 0, .int 0])), (s3, .inr (5, [.ref e3, .int 0, .int 0, .int 0]))]) (w1 := []) hP hD [0] [1, 2, 3, 4, 5] rfl rfl (by decide) (by decide) hk1 hFc kP0 kDn
          generalize H1 = H at hP hS ⊢
          have hP : va_P D vwCl [(sh, .inl (cS, 4, .inr (.inr (.inr (.inr (va_up (va_up (va_up (va_up (fun _ => none) 0 (some s0)) 1 (some s1)) 2 (some s2)) 3 (some s3))))))), (s0, .inr (5, [.ref e0, .int 0, .int 0, .int 0])), (s1, .inr (5, [.ref e1, .int 0, .int 0, .int 0])), (s2, .inr (5, [.ref e2, .int 0, .int 0, .int 0])), (s3, .inr (5, [.ref e3, .int 0, .int 0, .int 0]))] H := hP
          have hD : va_D A [(sh, .inl (cS, 4, .inr (.inr (.inr (.inr (va_up (va_up (va_up (va_up (fun _ => none) 0 (some s0)) 1 (some s1)) 2 (some s2)) 3 (some s3))))))), (s0, .inr (5, [.ref e0, .int 0, .int 0, .int 0])), (s1, .inr (5, [.ref e1, .int 0, .int 0, .int 0])), (s2, .inr (5, [.ref e2, .int 0, .int 0, .int 0])), (s3, .inr (5, [.ref e3, .int 0, .int 0, .int 0]))] := hD
          refine kn_i ((-10) - 1) hw ?_
          refine kn_i (-11) (by decide) ?_
          exact W.iret (v := (-11)) hx hb hr (fun t ht hW => kQi_of (by first | rfl | (simp only [sp_copy, if_pos k_3, if_pos k_5]; done) | (simp [sp_copy, k_3, k_5]; done)) (hS.F ht)) hS.2.2 dX8_copy_58
        · subst e9
          refine kn_v (.ref s3) rfl ?_
          refine lv_astore (lv' := [(7, .ref s3), (6, .ref s1), (0, .ref h0), (1, .int 1), (2, .int i), (3, .int 3), (4, .int j), (5, .int n)]) hx hb dX8_copy_35 hl (by decide) rfl (fun ls hl => ?_)
          refine lv_aload hx hb dX8_copy_37 (lv_at hl 1 rfl) ?_
          refine va_get (D := D) (ci := 5) (v := .int 0) (C := RX5) (T := TX5) (N := 4) hx hb hts (fun _ h9 => List.mem_cons_of_mem _ (List.mem_append_right _ h9)) hown hK hP 3 rfl rfl 1 (by decide) (hts (.fieldLink RX8 288 "FontRuns$Sheet" "isThere" "Z") (by decide +kernel)) (fun _ h9 => h9) rfl dX8_copy_39 ?_
          refine lv_if_eq (tgt := 53) hx hb dX8_copy_42 (by decide) (fun _ => ?_) (fun c9 => absurd (by decide) c9)
          refine lv_aload_n hx hb dX8_copy_53 rfl (lv_at hl 2 rfl) ?_
          refine lv_iconst (v := 1) hx hb dX8_copy_54 (by decide) ?_
          have hFc := va_free (wc := [(h0, .inr (8, [.ref sh, .ref rd, .ref fr, .ref wr, .ref pf, .ref rc, .ref se, .ref rs, .ref sw, .ref sp, .ref ss, .int ew, .long wc, .int tr, .int 0]))]) hD hS hA [0] rfl
          refine va_calli (va_runV (As := [.int 1]) (rest := []) ⟨hx, hb, hml, hown, hts⟩ (c_X8_failWith l D H.size (f := 1) (h0 := h0) (sh := sh) (rd := rd) (fr := fr) (wr := wr) (pf := pf) (rc := rc) (se := se) (rs := rs) (sw := sw) (sp := sp) (ss := ss) (ew := ew) (wc := wc) (tr := tr) (lf := 0)) (cwV 1 hts gX8_copy_X8_failWith rfl rfl rfl (by decide +kernel) ⟨Nat.le_of_ble_eq_true rfl, Nat.le_of_ble_eq_true rfl⟩) (kPreV hP (kD0 hD) hK hN [0] [] rfl rfl (by decide) 0 8 rfl rfl) rfl rfl hl.1 rfl (lv_room (Nat.le_of_ble_eq_true rfl)) dX8_copy_55 ⟨Nat.le_of_ble_eq_true rfl, Nat.le_of_ble_eq_true rfl⟩) hS (fun q _ h => hFc q h) hFc (fun r_13 u t H1 locs ht hvm hw hB hz1 hk1 hS => ?_)
          obtain ⟨hP, hD⟩ := va_join (wr := [(sh, .inl (cS, 4, .inr (.inr (.inr (.inr (va_up (va_up (va_up (va_up (fun _ => none) 0 (some s0)) 1 (some s1)) 2 (some s2)) 3 (some s3))))))), (s0, .inr (5, [.ref e0, .int 0, .int 0, .int 0])), (s1, .inr (5, [.ref e1, .int 0, .int 0, .int 0])), (s2, .inr (5, [.ref e2, .int 0, .int 0, .int 0])), (s3, .inr (5, [.ref e3, .int 0, .int 0, .int 0]))]) (w1 := []) hP hD [0] [1, 2, 3, 4, 5] rfl rfl (by decide) (by decide) hk1 hFc kP0 kDn
          generalize H1 = H at hP hS ⊢
          have hP : va_P D vwCl [(sh, .inl (cS, 4, .inr (.inr (.inr (.inr (va_up (va_up (va_up (va_up (fun _ => none) 0 (some s0)) 1 (some s1)) 2 (some s2)) 3 (some s3))))))), (s0, .inr (5, [.ref e0, .int 0, .int 0, .int 0])), (s1, .inr (5, [.ref e1, .int 0, .int 0, .int 0])), (s2, .inr (5, [.ref e2, .int 0, .int 0, .int 0])), (s3, .inr (5, [.ref e3, .int 0, .int 0, .int 0]))] H := hP
          have hD : va_D A [(sh, .inl (cS, 4, .inr (.inr (.inr (.inr (va_up (va_up (va_up (va_up (fun _ => none) 0 (some s0)) 1 (some s1)) 2 (some s2)) 3 (some s3))))))), (s0, .inr (5, [.ref e0, .int 0, .int 0, .int 0])), (s1, .inr (5, [.ref e1, .int 0, .int 0, .int 0])), (s2, .inr (5, [.ref e2, .int 0, .int 0, .int 0])), (s3, .inr (5, [.ref e3, .int 0, .int 0, .int 0]))] := hD
          refine kn_i ((-10) - 1) hw ?_
          refine kn_i (-11) (by decide) ?_
          exact W.iret (v := (-11)) hx hb hr (fun t ht hW => kQi_of (by first | rfl | (simp only [sp_copy, if_pos k_3, if_pos k_5]; done) | (simp [sp_copy, k_3, k_5]; done)) (hS.F ht)) hS.2.2 dX8_copy_58
      · subst e9
        refine kn_v (.ref s2) rfl ?_
        refine lv_astore (lv' := [(6, .ref s2), (0, .ref h0), (1, .int 2), (2, .int i), (3, .int o), (4, .int j), (5, .int n)]) hx hb dX8_copy_27 hl (by decide) rfl (fun ls hl => ?_)
        refine lv_aload_n hx hb dX8_copy_29 rfl (lv_at hl 1 rfl) ?_
        refine va_get (D := D) (ci := 8) (v := .ref sh) (C := RX8) (T := TX8) (N := 15) hx hb hts (fun _ h9 => List.mem_cons_of_mem _ (List.mem_append_left _ (List.mem_append_right _ h9))) hown hK hP 0 rfl rfl 0 (by decide) (hts (.fieldLink RX8 13 "FontRuns" "sheets" "[LFontRuns$Sheet;") (by decide +kernel)) (fun _ h9 => h9) rfl dX8_copy_30 ?_
        refine lv_iload_n hx hb dX8_copy_33 rfl (lv_at hl 4 rfl) ?_
        refine va_aldq hx hb hK hP 1 0 rfl rfl (k4in k_5) dX8_copy_34 ?_
        rcases (k4 k_5) with e9 | e9 | e9 | e9
        · subst e9
          refine kn_v (.ref s0) rfl ?_
          refine lv_astore (lv' := [(7, .ref s0), (6, .ref s2), (0, .ref h0), (1, .int 2), (2, .int i), (3, .int 0), (4, .int j), (5, .int n)]) hx hb dX8_copy_35 hl (by decide) rfl (fun ls hl => ?_)
          refine lv_aload hx hb dX8_copy_37 (lv_at hl 1 rfl) ?_
          refine va_get (D := D) (ci := 5) (v := .int 0) (C := RX5) (T := TX5) (N := 4) hx hb hts (fun _ h9 => List.mem_cons_of_mem _ (List.mem_append_right _ h9)) hown hK hP 4 rfl rfl 1 (by decide) (hts (.fieldLink RX8 288 "FontRuns$Sheet" "isThere" "Z") (by decide +kernel)) (fun _ h9 => h9) rfl dX8_copy_39 ?_
          refine lv_if_eq (tgt := 53) hx hb dX8_copy_42 (by decide) (fun _ => ?_) (fun c9 => absurd (by decide) c9)
          refine lv_aload_n hx hb dX8_copy_53 rfl (lv_at hl 2 rfl) ?_
          refine lv_iconst (v := 1) hx hb dX8_copy_54 (by decide) ?_
          have hFc := va_free (wc := [(h0, .inr (8, [.ref sh, .ref rd, .ref fr, .ref wr, .ref pf, .ref rc, .ref se, .ref rs, .ref sw, .ref sp, .ref ss, .int ew, .long wc, .int tr, .int 0]))]) hD hS hA [0] rfl
          refine va_calli (va_runV (As := [.int 1]) (rest := []) ⟨hx, hb, hml, hown, hts⟩ (c_X8_failWith l D H.size (f := 1) (h0 := h0) (sh := sh) (rd := rd) (fr := fr) (wr := wr) (pf := pf) (rc := rc) (se := se) (rs := rs) (sw := sw) (sp := sp) (ss := ss) (ew := ew) (wc := wc) (tr := tr) (lf := 0)) (cwV 1 hts gX8_copy_X8_failWith rfl rfl rfl (by decide +kernel) ⟨Nat.le_of_ble_eq_true rfl, Nat.le_of_ble_eq_true rfl⟩) (kPreV hP (kD0 hD) hK hN [0] [] rfl rfl (by decide) 0 8 rfl rfl) rfl rfl hl.1 rfl (lv_room (Nat.le_of_ble_eq_true rfl)) dX8_copy_55 ⟨Nat.le_of_ble_eq_true rfl, Nat.le_of_ble_eq_true rfl⟩) hS (fun q _ h => hFc q h) hFc (fun r_14 u t H1 locs ht hvm hw hB hz1 hk1 hS => ?_)
          obtain ⟨hP, hD⟩ := va_join (wr := [(sh, .inl (cS, 4, .inr (.inr (.inr (.inr (va_up (va_up (va_up (va_up (fun _ => none) 0 (some s0)) 1 (some s1)) 2 (some s2)) 3 (some s3))))))), (s0, .inr (5, [.ref e0, .int 0, .int 0, .int 0])), (s1, .inr (5, [.ref e1, .int 0, .int 0, .int 0])), (s2, .inr (5, [.ref e2, .int 0, .int 0, .int 0])), (s3, .inr (5, [.ref e3, .int 0, .int 0, .int 0]))]) (w1 := []) hP hD [0] [1, 2, 3, 4, 5] rfl rfl (by decide) (by decide) hk1 hFc kP0 kDn
          generalize H1 = H at hP hS ⊢
          have hP : va_P D vwCl [(sh, .inl (cS, 4, .inr (.inr (.inr (.inr (va_up (va_up (va_up (va_up (fun _ => none) 0 (some s0)) 1 (some s1)) 2 (some s2)) 3 (some s3))))))), (s0, .inr (5, [.ref e0, .int 0, .int 0, .int 0])), (s1, .inr (5, [.ref e1, .int 0, .int 0, .int 0])), (s2, .inr (5, [.ref e2, .int 0, .int 0, .int 0])), (s3, .inr (5, [.ref e3, .int 0, .int 0, .int 0]))] H := hP
          have hD : va_D A [(sh, .inl (cS, 4, .inr (.inr (.inr (.inr (va_up (va_up (va_up (va_up (fun _ => none) 0 (some s0)) 1 (some s1)) 2 (some s2)) 3 (some s3))))))), (s0, .inr (5, [.ref e0, .int 0, .int 0, .int 0])), (s1, .inr (5, [.ref e1, .int 0, .int 0, .int 0])), (s2, .inr (5, [.ref e2, .int 0, .int 0, .int 0])), (s3, .inr (5, [.ref e3, .int 0, .int 0, .int 0]))] := hD
          refine kn_i ((-10) - 1) hw ?_
          refine kn_i (-11) (by decide) ?_
          exact W.iret (v := (-11)) hx hb hr (fun t ht hW => kQi_of (by first | rfl | (simp only [sp_copy, if_pos k_3, if_pos k_5]; done) | (simp [sp_copy, k_3, k_5]; done)) (hS.F ht)) hS.2.2 dX8_copy_58
        · subst e9
          refine kn_v (.ref s1) rfl ?_
          refine lv_astore (lv' := [(7, .ref s1), (6, .ref s2), (0, .ref h0), (1, .int 2), (2, .int i), (3, .int 1), (4, .int j), (5, .int n)]) hx hb dX8_copy_35 hl (by decide) rfl (fun ls hl => ?_)
          refine lv_aload hx hb dX8_copy_37 (lv_at hl 1 rfl) ?_
          refine va_get (D := D) (ci := 5) (v := .int 0) (C := RX5) (T := TX5) (N := 4) hx hb hts (fun _ h9 => List.mem_cons_of_mem _ (List.mem_append_right _ h9)) hown hK hP 4 rfl rfl 1 (by decide) (hts (.fieldLink RX8 288 "FontRuns$Sheet" "isThere" "Z") (by decide +kernel)) (fun _ h9 => h9) rfl dX8_copy_39 ?_
          refine lv_if_eq (tgt := 53) hx hb dX8_copy_42 (by decide) (fun _ => ?_) (fun c9 => absurd (by decide) c9)
          refine lv_aload_n hx hb dX8_copy_53 rfl (lv_at hl 2 rfl) ?_
          refine lv_iconst (v := 1) hx hb dX8_copy_54 (by decide) ?_
          have hFc := va_free (wc := [(h0, .inr (8, [.ref sh, .ref rd, .ref fr, .ref wr, .ref pf, .ref rc, .ref se, .ref rs, .ref sw, .ref sp, .ref ss, .int ew, .long wc, .int tr, .int 0]))]) hD hS hA [0] rfl
          refine va_calli (va_runV (As := [.int 1]) (rest := []) ⟨hx, hb, hml, hown, hts⟩ (c_X8_failWith l D H.size (f := 1) (h0 := h0) (sh := sh) (rd := rd) (fr := fr) (wr := wr) (pf := pf) (rc := rc) (se := se) (rs := rs) (sw := sw) (sp := sp) (ss := ss) (ew := ew) (wc := wc) (tr := tr) (lf := 0)) (cwV 1 hts gX8_copy_X8_failWith rfl rfl rfl (by decide +kernel) ⟨Nat.le_of_ble_eq_true rfl, Nat.le_of_ble_eq_true rfl⟩) (kPreV hP (kD0 hD) hK hN [0] [] rfl rfl (by decide) 0 8 rfl rfl) rfl rfl hl.1 rfl (lv_room (Nat.le_of_ble_eq_true rfl)) dX8_copy_55 ⟨Nat.le_of_ble_eq_true rfl, Nat.le_of_ble_eq_true rfl⟩) hS (fun q _ h => hFc q h) hFc (fun r_15 u t H1 locs ht hvm hw hB hz1 hk1 hS => ?_)
          obtain ⟨hP, hD⟩ := va_join (wr := [(sh, .inl (cS, 4, .inr (.inr (.inr (.inr (va_up (va_up (va_up (va_up (fun _ => none) 0 (some s0)) 1 (some s1)) 2 (some s2)) 3 (some s3))))))), (s0, .inr (5, [.ref e0, .int 0, .int 0, .int 0])), (s1, .inr (5, [.ref e1, .int 0, .int 0, .int 0])), (s2, .inr (5, [.ref e2, .int 0, .int 0, .int 0])), (s3, .inr (5, [.ref e3, .int 0, .int 0, .int 0]))]) (w1 := []) hP hD [0] [1, 2, 3, 4, 5] rfl rfl (by decide) (by decide) hk1 hFc kP0 kDn
          generalize H1 = H at hP hS ⊢
          have hP : va_P D vwCl [(sh, .inl (cS, 4, .inr (.inr (.inr (.inr (va_up (va_up (va_up (va_up (fun _ => none) 0 (some s0)) 1 (some s1)) 2 (some s2)) 3 (some s3))))))), (s0, .inr (5, [.ref e0, .int 0, .int 0, .int 0])), (s1, .inr (5, [.ref e1, .int 0, .int 0, .int 0])), (s2, .inr (5, [.ref e2, .int 0, .int 0, .int 0])), (s3, .inr (5, [.ref e3, .int 0, .int 0, .int 0]))] H := hP
          have hD : va_D A [(sh, .inl (cS, 4, .inr (.inr (.inr (.inr (va_up (va_up (va_up (va_up (fun _ => none) 0 (some s0)) 1 (some s1)) 2 (some s2)) 3 (some s3))))))), (s0, .inr (5, [.ref e0, .int 0, .int 0, .int 0])), (s1, .inr (5, [.ref e1, .int 0, .int 0, .int 0])), (s2, .inr (5, [.ref e2, .int 0, .int 0, .int 0])), (s3, .inr (5, [.ref e3, .int 0, .int 0, .int 0]))] := hD
          refine kn_i ((-10) - 1) hw ?_
          refine kn_i (-11) (by decide) ?_
          exact W.iret (v := (-11)) hx hb hr (fun t ht hW => kQi_of (by first | rfl | (simp only [sp_copy, if_pos k_3, if_pos k_5]; done) | (simp [sp_copy, k_3, k_5]; done)) (hS.F ht)) hS.2.2 dX8_copy_58
        · subst e9
          refine kn_v (.ref s2) rfl ?_
          refine lv_astore (lv' := [(7, .ref s2), (6, .ref s2), (0, .ref h0), (1, .int 2), (2, .int i), (3, .int 2), (4, .int j), (5, .int n)]) hx hb dX8_copy_35 hl (by decide) rfl (fun ls hl => ?_)
          refine lv_aload hx hb dX8_copy_37 (lv_at hl 1 rfl) ?_
          refine va_get (D := D) (ci := 5) (v := .int 0) (C := RX5) (T := TX5) (N := 4) hx hb hts (fun _ h9 => List.mem_cons_of_mem _ (List.mem_append_right _ h9)) hown hK hP 4 rfl rfl 1 (by decide) (hts (.fieldLink RX8 288 "FontRuns$Sheet" "isThere" "Z") (by decide +kernel)) (fun _ h9 => h9) rfl dX8_copy_39 ?_
          refine lv_if_eq (tgt := 53) hx hb dX8_copy_42 (by decide) (fun _ => ?_) (fun c9 => absurd (by decide) c9)
          refine lv_aload_n hx hb dX8_copy_53 rfl (lv_at hl 2 rfl) ?_
          refine lv_iconst (v := 1) hx hb dX8_copy_54 (by decide) ?_
          have hFc := va_free (wc := [(h0, .inr (8, [.ref sh, .ref rd, .ref fr, .ref wr, .ref pf, .ref rc, .ref se, .ref rs, .ref sw, .ref sp, .ref ss, .int ew, .long wc, .int tr, .int 0]))]) hD hS hA [0] rfl
          refine va_calli (va_runV (As := [.int 1]) (rest := []) ⟨hx, hb, hml, hown, hts⟩ (c_X8_failWith l D H.size (f := 1) (h0 := h0) (sh := sh) (rd := rd) (fr := fr) (wr := wr) (pf := pf) (rc := rc) (se := se) (rs := rs) (sw := sw) (sp := sp) (ss := ss) (ew := ew) (wc := wc) (tr := tr) (lf := 0)) (cwV 1 hts gX8_copy_X8_failWith rfl rfl rfl (by decide +kernel) ⟨Nat.le_of_ble_eq_true rfl, Nat.le_of_ble_eq_true rfl⟩) (kPreV hP (kD0 hD) hK hN [0] [] rfl rfl (by decide) 0 8 rfl rfl) rfl rfl hl.1 rfl (lv_room (Nat.le_of_ble_eq_true rfl)) dX8_copy_55 ⟨Nat.le_of_ble_eq_true rfl, Nat.le_of_ble_eq_true rfl⟩) hS (fun q _ h => hFc q h) hFc (fun r_16 u t H1 locs ht hvm hw hB hz1 hk1 hS => ?_)
          obtain ⟨hP, hD⟩ := va_join (wr := [(sh, .inl (cS, 4, .inr (.inr (.inr (.inr (va_up (va_up (va_up (va_up (fun _ => none) 0 (some s0)) 1 (some s1)) 2 (some s2)) 3 (some s3))))))), (s0, .inr (5, [.ref e0, .int 0, .int 0, .int 0])), (s1, .inr (5, [.ref e1, .int 0, .int 0, .int 0])), (s2, .inr (5, [.ref e2, .int 0, .int 0, .int 0])), (s3, .inr (5, [.ref e3, .int 0, .int 0, .int 0]))]) (w1 := []) hP hD [0] [1, 2, 3, 4, 5] rfl rfl (by decide) (by decide) hk1 hFc kP0 kDn
          generalize H1 = H at hP hS ⊢
          have hP : va_P D vwCl [(sh, .inl (cS, 4, .inr (.inr (.inr (.inr (va_up (va_up (va_up (va_up (fun _ => none) 0 (some s0)) 1 (some s1)) 2 (some s2)) 3 (some s3))))))), (s0, .inr (5, [.ref e0, .int 0, .int 0, .int 0])), (s1, .inr (5, [.ref e1, .int 0, .int 0, .int 0])), (s2, .inr (5, [.ref e2, .int 0, .int 0, .int 0])), (s3, .inr (5, [.ref e3, .int 0, .int 0, .int 0]))] H := hP
          have hD : va_D A [(sh, .inl (cS, 4, .inr (.inr (.inr (.inr (va_up (va_up (va_up (va_up (fun _ => none) 0 (some s0)) 1 (some s1)) 2 (some s2)) 3 (some s3))))))), (s0, .inr (5, [.ref e0, .int 0, .int 0, .int 0])), (s1, .inr (5, [.ref e1, .int 0, .int 0, .int 0])), (s2, .inr (5, [.ref e2, .int 0, .int 0, .int 0])), (s3, .inr (5, [.ref e3, .int 0, .int 0, .int 0]))] := hD
          refine kn_i ((-10) - 1) hw ?_
          refine kn_i (-11) (by decide) ?_
          exact W.iret (v := (-11)) hx hb hr (fun t ht hW => kQi_of (by first | rfl | (simp only [sp_copy, if_pos k_3, if_pos k_5]; done) | (simp [sp_copy, k_3, k_5]; done)) (hS.F ht)) hS.2.2 dX8_copy_58
        · subst e9
          refine kn_v (.ref s3) rfl ?_
          refine lv_astore (lv' := [(7, .ref s3), (6, .ref s2), (0, .ref h0), (1, .int 2), (2, .int i), (3, .int 3), (4, .int j), (5, .int n)]) hx hb dX8_copy_35 hl (by decide) rfl (fun ls hl => ?_)
          refine lv_aload hx hb dX8_copy_37 (lv_at hl 1 rfl) ?_
          refine va_get (D := D) (ci := 5) (v := .int 0) (C := RX5) (T := TX5) (N := 4) hx hb hts (fun _ h9 => List.mem_cons_of_mem _ (List.mem_append_right _ h9)) hown hK hP 4 rfl rfl 1 (by decide) (hts (.fieldLink RX8 288 "FontRuns$Sheet" "isThere" "Z") (by decide +kernel)) (fun _ h9 => h9) rfl dX8_copy_39 ?_
          refine lv_if_eq (tgt := 53) hx hb dX8_copy_42 (by decide) (fun _ => ?_) (fun c9 => absurd (by decide) c9)
          refine lv_aload_n hx hb dX8_copy_53 rfl (lv_at hl 2 rfl) ?_
          refine lv_iconst (v := 1) hx hb dX8_copy_54 (by decide) ?_
          have hFc := va_free (wc := [(h0, .inr (8, [.ref sh, .ref rd, .ref fr, .ref wr, .ref pf, .ref rc, .ref se, .ref rs, .ref sw, .ref sp, .ref ss, .int ew, .long wc, .int tr, .int 0]))]) hD hS hA [0] rfl
          refine va_calli (va_runV (As := [.int 1]) (rest := []) ⟨hx, hb, hml, hown, hts⟩ (c_X8_failWith l D H.size (f := 1) (h0 := h0) (sh := sh) (rd := rd) (fr := fr) (wr := wr) (pf := pf) (rc := rc) (se := se) (rs := rs) (sw := sw) (sp := sp) (ss := ss) (ew := ew) (wc := wc) (tr := tr) (lf := 0)) (cwV 1 hts gX8_copy_X8_failWith rfl rfl rfl (by decide +kernel) ⟨Nat.le_of_ble_eq_true rfl, Nat.le_of_ble_eq_true rfl⟩) (kPreV hP (kD0 hD) hK hN [0] [] rfl rfl (by decide) 0 8 rfl rfl) rfl rfl hl.1 rfl (lv_room (Nat.le_of_ble_eq_true rfl)) dX8_copy_55 ⟨Nat.le_of_ble_eq_true rfl, Nat.le_of_ble_eq_true rfl⟩) hS (fun q _ h => hFc q h) hFc (fun r_17 u t H1 locs ht hvm hw hB hz1 hk1 hS => ?_)
          obtain ⟨hP, hD⟩ := va_join (wr := [(sh, .inl (cS, 4, .inr (.inr (.inr (.inr (va_up (va_up (va_up (va_up (fun _ => none) 0 (some s0)) 1 (some s1)) 2 (some s2)) 3 (some s3))))))), (s0, .inr (5, [.ref e0, .int 0, .int 0, .int 0])), (s1, .inr (5, [.ref e1, .int 0, .int 0, .int 0])), (s2, .inr (5, [.ref e2, .int 0, .int 0, .int 0])), (s3, .inr (5, [.ref e3, .int 0, .int 0, .int 0]))]) (w1 := []) hP hD [0] [1, 2, 3, 4, 5] rfl rfl (by decide) (by decide) hk1 hFc kP0 kDn
          generalize H1 = H at hP hS ⊢
          have hP : va_P D vwCl [(sh, .inl (cS, 4, .inr (.inr (.inr (.inr (va_up (va_up (va_up (va_up (fun _ => none) 0 (some s0)) 1 (some s1)) 2 (some s2)) 3 (some s3))))))), (s0, .inr (5, [.ref e0, .int 0, .int 0, .int 0])), (s1, .inr (5, [.ref e1, .int 0, .int 0, .int 0])), (s2, .inr (5, [.ref e2, .int 0, .int 0, .int 0])), (s3, .inr (5, [.ref e3, .int 0, .int 0, .int 0]))] H := hP
          have hD : va_D A [(sh, .inl (cS, 4, .inr (.inr (.inr (.inr (va_up (va_up (va_up (va_up (fun _ => none) 0 (some s0)) 1 (some s1)) 2 (some s2)) 3 (some s3))))))), (s0, .inr (5, [.ref e0, .int 0, .int 0, .int 0])), (s1, .inr (5, [.ref e1, .int 0, .int 0, .int 0])), (s2, .inr (5, [.ref e2, .int 0, .int 0, .int 0])), (s3, .inr (5, [.ref e3, .int 0, .int 0, .int 0]))] := hD
          refine kn_i ((-10) - 1) hw ?_
          refine kn_i (-11) (by decide) ?_
          exact W.iret (v := (-11)) hx hb hr (fun t ht hW => kQi_of (by first | rfl | (simp only [sp_copy, if_pos k_3, if_pos k_5]; done) | (simp [sp_copy, k_3, k_5]; done)) (hS.F ht)) hS.2.2 dX8_copy_58
      · subst e9
        refine kn_v (.ref s3) rfl ?_
        refine lv_astore (lv' := [(6, .ref s3), (0, .ref h0), (1, .int 3), (2, .int i), (3, .int o), (4, .int j), (5, .int n)]) hx hb dX8_copy_27 hl (by decide) rfl (fun ls hl => ?_)
        refine lv_aload_n hx hb dX8_copy_29 rfl (lv_at hl 1 rfl) ?_
        refine va_get (D := D) (ci := 8) (v := .ref sh) (C := RX8) (T := TX8) (N := 15) hx hb hts (fun _ h9 => List.mem_cons_of_mem _ (List.mem_append_left _ (List.mem_append_right _ h9))) hown hK hP 0 rfl rfl 0 (by decide) (hts (.fieldLink RX8 13 "FontRuns" "sheets" "[LFontRuns$Sheet;") (by decide +kernel)) (fun _ h9 => h9) rfl dX8_copy_30 ?_
        refine lv_iload_n hx hb dX8_copy_33 rfl (lv_at hl 4 rfl) ?_
        refine va_aldq hx hb hK hP 1 0 rfl rfl (k4in k_5) dX8_copy_34 ?_
        rcases (k4 k_5) with e9 | e9 | e9 | e9
        · subst e9
          refine kn_v (.ref s0) rfl ?_
          refine lv_astore (lv' := [(7, .ref s0), (6, .ref s3), (0, .ref h0), (1, .int 3), (2, .int i), (3, .int 0), (4, .int j), (5, .int n)]) hx hb dX8_copy_35 hl (by decide) rfl (fun ls hl => ?_)
          refine lv_aload hx hb dX8_copy_37 (lv_at hl 1 rfl) ?_
          refine va_get (D := D) (ci := 5) (v := .int 0) (C := RX5) (T := TX5) (N := 4) hx hb hts (fun _ h9 => List.mem_cons_of_mem _ (List.mem_append_right _ h9)) hown hK hP 5 rfl rfl 1 (by decide) (hts (.fieldLink RX8 288 "FontRuns$Sheet" "isThere" "Z") (by decide +kernel)) (fun _ h9 => h9) rfl dX8_copy_39 ?_
          refine lv_if_eq (tgt := 53) hx hb dX8_copy_42 (by decide) (fun _ => ?_) (fun c9 => absurd (by decide) c9)
          refine lv_aload_n hx hb dX8_copy_53 rfl (lv_at hl 2 rfl) ?_
          refine lv_iconst (v := 1) hx hb dX8_copy_54 (by decide) ?_
          have hFc := va_free (wc := [(h0, .inr (8, [.ref sh, .ref rd, .ref fr, .ref wr, .ref pf, .ref rc, .ref se, .ref rs, .ref sw, .ref sp, .ref ss, .int ew, .long wc, .int tr, .int 0]))]) hD hS hA [0] rfl
          refine va_calli (va_runV (As := [.int 1]) (rest := []) ⟨hx, hb, hml, hown, hts⟩ (c_X8_failWith l D H.size (f := 1) (h0 := h0) (sh := sh) (rd := rd) (fr := fr) (wr := wr) (pf := pf) (rc := rc) (se := se) (rs := rs) (sw := sw) (sp := sp) (ss := ss) (ew := ew) (wc := wc) (tr := tr) (lf := 0)) (cwV 1 hts gX8_copy_X8_failWith rfl rfl rfl (by decide +kernel) ⟨Nat.le_of_ble_eq_true rfl, Nat.le_of_ble_eq_true rfl⟩) (kPreV hP (kD0 hD) hK hN [0] [] rfl rfl (by decide) 0 8 rfl rfl) rfl rfl hl.1 rfl (lv_room (Nat.le_of_ble_eq_true rfl)) dX8_copy_55 ⟨Nat.le_of_ble_eq_true rfl, Nat.le_of_ble_eq_true rfl⟩) hS (fun q _ h => hFc q h) hFc (fun r_18 u t H1 locs ht hvm hw hB hz1 hk1 hS => ?_)
          obtain ⟨hP, hD⟩ := va_join (wr := [(sh, .inl (cS, 4, .inr (.inr (.inr (.inr (va_up (va_up (va_up (va_up (fun _ => none) 0 (some s0)) 1 (some s1)) 2 (some s2)) 3 (some s3))))))), (s0, .inr (5, [.ref e0, .int 0, .int 0, .int 0])), (s1, .inr (5, [.ref e1, .int 0, .int 0, .int 0])), (s2, .inr (5, [.ref e2, .int 0, .int 0, .int 0])), (s3, .inr (5, [.ref e3, .int 0, .int 0, .int 0]))]) (w1 := []) hP hD [0] [1, 2, 3, 4, 5] rfl rfl (by decide) (by decide) hk1 hFc kP0 kDn
          generalize H1 = H at hP hS ⊢
          have hP : va_P D vwCl [(sh, .inl (cS, 4, .inr (.inr (.inr (.inr (va_up (va_up (va_up (va_up (fun _ => none) 0 (some s0)) 1 (some s1)) 2 (some s2)) 3 (some s3))))))), (s0, .inr (5, [.ref e0, .int 0, .int 0, .int 0])), (s1, .inr (5, [.ref e1, .int 0, .int 0, .int 0])), (s2, .inr (5, [.ref e2, .int 0, .int 0, .int 0])), (s3, .inr (5, [.ref e3, .int 0, .int 0, .int 0]))] H := hP
          have hD : va_D A [(sh, .inl (cS, 4, .inr (.inr (.inr (.inr (va_up (va_up (va_up (va_up (fun _ => none) 0 (some s0)) 1 (some s1)) 2 (some s2)) 3 (some s3))))))), (s0, .inr (5, [.ref e0, .int 0, .int 0, .int 0])), (s1, .inr (5, [.ref e1, .int 0, .int 0, .int 0])), (s2, .inr (5, [.ref e2, .int 0, .int 0, .int 0])), (s3, .inr (5, [.ref e3, .int 0, .int 0, .int 0]))] := hD
          refine kn_i ((-10) - 1) hw ?_
          refine kn_i (-11) (by decide) ?_
          exact W.iret (v := (-11)) hx hb hr (fun t ht hW => kQi_of (by first | rfl | (simp only [sp_copy, if_pos k_3, if_pos k_5]; done) | (simp [sp_copy, k_3, k_5]; done)) (hS.F ht)) hS.2.2 dX8_copy_58
        · subst e9
          refine kn_v (.ref s1) rfl ?_
          refine lv_astore (lv' := [(7, .ref s1), (6, .ref s3), (0, .ref h0), (1, .int 3), (2, .int i), (3, .int 1), (4, .int j), (5, .int n)]) hx hb dX8_copy_35 hl (by decide) rfl (fun ls hl => ?_)
          refine lv_aload hx hb dX8_copy_37 (lv_at hl 1 rfl) ?_
          refine va_get (D := D) (ci := 5) (v := .int 0) (C := RX5) (T := TX5) (N := 4) hx hb hts (fun _ h9 => List.mem_cons_of_mem _ (List.mem_append_right _ h9)) hown hK hP 5 rfl rfl 1 (by decide) (hts (.fieldLink RX8 288 "FontRuns$Sheet" "isThere" "Z") (by decide +kernel)) (fun _ h9 => h9) rfl dX8_copy_39 ?_
          refine lv_if_eq (tgt := 53) hx hb dX8_copy_42 (by decide) (fun _ => ?_) (fun c9 => absurd (by decide) c9)
          refine lv_aload_n hx hb dX8_copy_53 rfl (lv_at hl 2 rfl) ?_
          refine lv_iconst (v := 1) hx hb dX8_copy_54 (by decide) ?_
          have hFc := va_free (wc := [(h0, .inr (8, [.ref sh, .ref rd, .ref fr, .ref wr, .ref pf, .ref rc, .ref se, .ref rs, .ref sw, .ref sp, .ref ss, .int ew, .long wc, .int tr, .int 0]))]) hD hS hA [0] rfl
          refine va_calli (va_runV (As := [.int 1]) (rest := []) ⟨hx, hb, hml, hown, hts⟩ (c_X8_failWith l D H.size (f := 1) (h0 := h0) (sh := sh) (rd := rd) (fr := fr) (wr := wr) (pf := pf) (rc := rc) (se := se) (rs := rs) (sw := sw) (sp := sp) (ss := ss) (ew := ew) (wc := wc) (tr := tr) (lf := 0)) (cwV 1 hts gX8_copy_X8_failWith rfl rfl rfl (by decide +kernel) ⟨Nat.le_of_ble_eq_true rfl, Nat.le_of_ble_eq_true rfl⟩) (kPreV hP (kD0 hD) hK hN [0] [] rfl rfl (by decide) 0 8 rfl rfl) rfl rfl hl.1 rfl (lv_room (Nat.le_of_ble_eq_true rfl)) dX8_copy_55 ⟨Nat.le_of_ble_eq_true rfl, Nat.le_of_ble_eq_true rfl⟩) hS (fun q _ h => hFc q h) hFc (fun r_19 u t H1 locs ht hvm hw hB hz1 hk1 hS => ?_)
          obtain ⟨hP, hD⟩ := va_join (wr := [(sh, .inl (cS, 4, .inr (.inr (.inr (.inr (va_up (va_up (va_up (va_up (fun _ => none) 0 (some s0)) 1 (some s1)) 2 (some s2)) 3 (some s3))))))), (s0, .inr (5, [.ref e0, .int 0, .int 0, .int 0])), (s1, .inr (5, [.ref e1, .int 0, .int 0, .int 0])), (s2, .inr (5, [.ref e2, .int 0, .int 0, .int 0])), (s3, .inr (5, [.ref e3, .int 0, .int 0, .int 0]))]) (w1 := []) hP hD [0] [1, 2, 3, 4, 5] rfl rfl (by decide) (by decide) hk1 hFc kP0 kDn
          generalize H1 = H at hP hS ⊢
          have hP : va_P D vwCl [(sh, .inl (cS, 4, .inr (.inr (.inr (.inr (va_up (va_up (va_up (va_up (fun _ => none) 0 (some s0)) 1 (some s1)) 2 (some s2)) 3 (some s3))))))), (s0, .inr (5, [.ref e0, .int 0, .int 0, .int 0])), (s1, .inr (5, [.ref e1, .int 0, .int 0, .int 0])), (s2, .inr (5, [.ref e2, .int 0, .int 0, .int 0])), (s3, .inr (5, [.ref e3, .int 0, .int 0, .int 0]))] H := hP
          have hD : va_D A [(sh, .inl (cS, 4, .inr (.inr (.inr (.inr (va_up (va_up (va_up (va_up (fun _ => none) 0 (some s0)) 1 (some s1)) 2 (some s2)) 3 (some s3))))))), (s0, .inr (5, [.ref e0, .int 0, .int 0, .int 0])), (s1, .inr (5, [.ref e1, .int 0, .int 0, .int 0])), (s2, .inr (5, [.ref e2, .int 0, .int 0, .int 0])), (s3, .inr (5, [.ref e3, .int 0, .int 0, .int 0]))] := hD
          refine kn_i ((-10) - 1) hw ?_
          refine kn_i (-11) (by decide) ?_
          exact W.iret (v := (-11)) hx hb hr (fun t ht hW => kQi_of (by first | rfl | (simp only [sp_copy, if_pos k_3, if_pos k_5]; done) | (simp [sp_copy, k_3, k_5]; done)) (hS.F ht)) hS.2.2 dX8_copy_58
        · subst e9
          refine kn_v (.ref s2) rfl ?_
          refine lv_astore (lv' := [(7, .ref s2), (6, .ref s3), (0, .ref h0), (1, .int 3), (2, .int i), (3, .int 2), (4, .int j), (5, .int n)]) hx hb dX8_copy_35 hl (by decide) rfl (fun ls hl => ?_)
          refine lv_aload hx hb dX8_copy_37 (lv_at hl 1 rfl) ?_
          refine va_get (D := D) (ci := 5) (v := .int 0) (C := RX5) (T := TX5) (N := 4) hx hb hts (fun _ h9 => List.mem_cons_of_mem _ (List.mem_append_right _ h9)) hown hK hP 5 rfl rfl 1 (by decide) (hts (.fieldLink RX8 288 "FontRuns$Sheet" "isThere" "Z") (by decide +kernel)) (fun _ h9 => h9) rfl dX8_copy_39 ?_
          refine lv_if_eq (tgt := 53) hx hb dX8_copy_42 (by decide) (fun _ => ?_) (fun c9 => absurd (by decide) c9)
          refine lv_aload_n hx hb dX8_copy_53 rfl (lv_at hl 2 rfl) ?_
          refine lv_iconst (v := 1) hx hb dX8_copy_54 (by decide) ?_
          have hFc := va_free (wc := [(h0, .inr (8, [.ref sh, .ref rd, .ref fr, .ref wr, .ref pf, .ref rc, .ref se, .ref rs, .ref sw, .ref sp, .ref ss, .int ew, .long wc, .int tr, .int 0]))]) hD hS hA [0] rfl
          refine va_calli (va_runV (As := [.int 1]) (rest := []) ⟨hx, hb, hml, hown, hts⟩ (c_X8_failWith l D H.size (f := 1) (h0 := h0) (sh := sh) (rd := rd) (fr := fr) (wr := wr) (pf := pf) (rc := rc) (se := se) (rs := rs) (sw := sw) (sp := sp) (ss := ss) (ew := ew) (wc := wc) (tr := tr) (lf := 0)) (cwV 1 hts gX8_copy_X8_failWith rfl rfl rfl (by decide +kernel) ⟨Nat.le_of_ble_eq_true rfl, Nat.le_of_ble_eq_true rfl⟩) (kPreV hP (kD0 hD) hK hN [0] [] rfl rfl (by decide) 0 8 rfl rfl) rfl rfl hl.1 rfl (lv_room (Nat.le_of_ble_eq_true rfl)) dX8_copy_55 ⟨Nat.le_of_ble_eq_true rfl, Nat.le_of_ble_eq_true rfl⟩) hS (fun q _ h => hFc q h) hFc (fun r_20 u t H1 locs ht hvm hw hB hz1 hk1 hS => ?_)
          obtain ⟨hP, hD⟩ := va_join (wr := [(sh, .inl (cS, 4, .inr (.inr (.inr (.inr (va_up (va_up (va_up (va_up (fun _ => none) 0 (some s0)) 1 (some s1)) 2 (some s2)) 3 (some s3))))))), (s0, .inr (5, [.ref e0, .int 0, .int 0, .int 0])), (s1, .inr (5, [.ref e1, .int 0, .int 0, .int 0])), (s2, .inr (5, [.ref e2, .int 0, .int 0, .int 0])), (s3, .inr (5, [.ref e3, .int 0, .int 0, .int 0]))]) (w1 := []) hP hD [0] [1, 2, 3, 4, 5] rfl rfl (by decide) (by decide) hk1 hFc kP0 kDn
          generalize H1 = H at hP hS ⊢
          have hP : va_P D vwCl [(sh, .inl (cS, 4, .inr (.inr (.inr (.inr (va_up (va_up (va_up (va_up (fun _ => none) 0 (some s0)) 1 (some s1)) 2 (some s2)) 3 (some s3))))))), (s0, .inr (5, [.ref e0, .int 0, .int 0, .int 0])), (s1, .inr (5, [.ref e1, .int 0, .int 0, .int 0])), (s2, .inr (5, [.ref e2, .int 0, .int 0, .int 0])), (s3, .inr (5, [.ref e3, .int 0, .int 0, .int 0]))] H := hP
          have hD : va_D A [(sh, .inl (cS, 4, .inr (.inr (.inr (.inr (va_up (va_up (va_up (va_up (fun _ => none) 0 (some s0)) 1 (some s1)) 2 (some s2)) 3 (some s3))))))), (s0, .inr (5, [.ref e0, .int 0, .int 0, .int 0])), (s1, .inr (5, [.ref e1, .int 0, .int 0, .int 0])), (s2, .inr (5, [.ref e2, .int 0, .int 0, .int 0])), (s3, .inr (5, [.ref e3, .int 0, .int 0, .int 0]))] := hD
          refine kn_i ((-10) - 1) hw ?_
          refine kn_i (-11) (by decide) ?_
          exact W.iret (v := (-11)) hx hb hr (fun t ht hW => kQi_of (by first | rfl | (simp only [sp_copy, if_pos k_3, if_pos k_5]; done) | (simp [sp_copy, k_3, k_5]; done)) (hS.F ht)) hS.2.2 dX8_copy_58
        · subst e9
          refine kn_v (.ref s3) rfl ?_
          refine lv_astore (lv' := [(7, .ref s3), (6, .ref s3), (0, .ref h0), (1, .int 3), (2, .int i), (3, .int 3), (4, .int j), (5, .int n)]) hx hb dX8_copy_35 hl (by decide) rfl (fun ls hl => ?_)
          refine lv_aload hx hb dX8_copy_37 (lv_at hl 1 rfl) ?_
          refine va_get (D := D) (ci := 5) (v := .int 0) (C := RX5) (T := TX5) (N := 4) hx hb hts (fun _ h9 => List.mem_cons_of_mem _ (List.mem_append_right _ h9)) hown hK hP 5 rfl rfl 1 (by decide) (hts (.fieldLink RX8 288 "FontRuns$Sheet" "isThere" "Z") (by decide +kernel)) (fun _ h9 => h9) rfl dX8_copy_39 ?_
          refine lv_if_eq (tgt := 53) hx hb dX8_copy_42 (by decide) (fun _ => ?_) (fun c9 => absurd (by decide) c9)
          refine lv_aload_n hx hb dX8_copy_53 rfl (lv_at hl 2 rfl) ?_
          refine lv_iconst (v := 1) hx hb dX8_copy_54 (by decide) ?_
          have hFc := va_free (wc := [(h0, .inr (8, [.ref sh, .ref rd, .ref fr, .ref wr, .ref pf, .ref rc, .ref se, .ref rs, .ref sw, .ref sp, .ref ss, .int ew, .long wc, .int tr, .int 0]))]) hD hS hA [0] rfl
          refine va_calli (va_runV (As := [.int 1]) (rest := []) ⟨hx, hb, hml, hown, hts⟩ (c_X8_failWith l D H.size (f := 1) (h0 := h0) (sh := sh) (rd := rd) (fr := fr) (wr := wr) (pf := pf) (rc := rc) (se := se) (rs := rs) (sw := sw) (sp := sp) (ss := ss) (ew := ew) (wc := wc) (tr := tr) (lf := 0)) (cwV 1 hts gX8_copy_X8_failWith rfl rfl rfl (by decide +kernel) ⟨Nat.le_of_ble_eq_true rfl, Nat.le_of_ble_eq_true rfl⟩) (kPreV hP (kD0 hD) hK hN [0] [] rfl rfl (by decide) 0 8 rfl rfl) rfl rfl hl.1 rfl (lv_room (Nat.le_of_ble_eq_true rfl)) dX8_copy_55 ⟨Nat.le_of_ble_eq_true rfl, Nat.le_of_ble_eq_true rfl⟩) hS (fun q _ h => hFc q h) hFc (fun r_21 u t H1 locs ht hvm hw hB hz1 hk1 hS => ?_)
          obtain ⟨hP, hD⟩ := va_join (wr := [(sh, .inl (cS, 4, .inr (.inr (.inr (.inr (va_up (va_up (va_up (va_up (fun _ => none) 0 (some s0)) 1 (some s1)) 2 (some s2)) 3 (some s3))))))), (s0, .inr (5, [.ref e0, .int 0, .int 0, .int 0])), (s1, .inr (5, [.ref e1, .int 0, .int 0, .int 0])), (s2, .inr (5, [.ref e2, .int 0, .int 0, .int 0])), (s3, .inr (5, [.ref e3, .int 0, .int 0, .int 0]))]) (w1 := []) hP hD [0] [1, 2, 3, 4, 5] rfl rfl (by decide) (by decide) hk1 hFc kP0 kDn
          generalize H1 = H at hP hS ⊢
          have hP : va_P D vwCl [(sh, .inl (cS, 4, .inr (.inr (.inr (.inr (va_up (va_up (va_up (va_up (fun _ => none) 0 (some s0)) 1 (some s1)) 2 (some s2)) 3 (some s3))))))), (s0, .inr (5, [.ref e0, .int 0, .int 0, .int 0])), (s1, .inr (5, [.ref e1, .int 0, .int 0, .int 0])), (s2, .inr (5, [.ref e2, .int 0, .int 0, .int 0])), (s3, .inr (5, [.ref e3, .int 0, .int 0, .int 0]))] H := hP
          have hD : va_D A [(sh, .inl (cS, 4, .inr (.inr (.inr (.inr (va_up (va_up (va_up (va_up (fun _ => none) 0 (some s0)) 1 (some s1)) 2 (some s2)) 3 (some s3))))))), (s0, .inr (5, [.ref e0, .int 0, .int 0, .int 0])), (s1, .inr (5, [.ref e1, .int 0, .int 0, .int 0])), (s2, .inr (5, [.ref e2, .int 0, .int 0, .int 0])), (s3, .inr (5, [.ref e3, .int 0, .int 0, .int 0]))] := hD
          refine kn_i ((-10) - 1) hw ?_
          refine kn_i (-11) (by decide) ?_
          exact W.iret (v := (-11)) hx hb hr (fun t ht hW => kQi_of (by first | rfl | (simp only [sp_copy, if_pos k_3, if_pos k_5]; done) | (simp [sp_copy, k_3, k_5]; done)) (hS.F ht)) hS.2.2 dX8_copy_58
    · have k_22 : ¬ ((0 ≤ o ∧ o ≤ 3)) := b01f c_4
      refine lv_iconst (v := (-1)) hx hb dX8_copy_19 (by decide) ?_
      exact W.iret (v := (-1)) hx hb hr (fun t ht hW => kQi_of (by first | rfl | (simp only [sp_copy, if_pos k_3, if_neg k_22]; done) | (simp [sp_copy, k_3, k_22]; done)) (hS.F ht)) hS.2.2 dX8_copy_20
theorem dX8_many_0 : decode cX8_many 0 = .ok (.iload_n 1, 1) := by decide +kernel
theorem dX8_many_1 : decode cX8_many 1 = .ok (.tableswitch 63 0 3 #[31, 39, 47, 55], 31) := by decide +kernel
theorem dX8_many_32 : decode cX8_many 32 = .ok (.aload_n 0, 1) := by decide +kernel
theorem dX8_many_33 : decode cX8_many 33 = .ok (.getfield 28, 3) := by decide +kernel
theorem dX8_many_36 : decode cX8_many 36 = .ok (.getfield 106, 3) := by decide +kernel
theorem dX8_many_39 : decode cX8_many 39 = .ok (.ireturn, 1) := by decide +kernel
theorem dX8_many_40 : decode cX8_many 40 = .ok (.aload_n 0, 1) := by decide +kernel
theorem dX8_many_41 : decode cX8_many 41 = .ok (.getfield 35, 3) := by decide +kernel
theorem dX8_many_44 : decode cX8_many 44 = .ok (.getfield 139, 3) := by decide +kernel
theorem dX8_many_47 : decode cX8_many 47 = .ok (.ireturn, 1) := by decide +kernel
theorem dX8_many_48 : decode cX8_many 48 = .ok (.aload_n 0, 1) := by decide +kernel
theorem dX8_many_49 : decode cX8_many 49 = .ok (.getfield 56, 3) := by decide +kernel
theorem dX8_many_52 : decode cX8_many 52 = .ok (.getfield 250, 3) := by decide +kernel
theorem dX8_many_55 : decode cX8_many 55 = .ok (.ireturn, 1) := by decide +kernel
theorem dX8_many_56 : decode cX8_many 56 = .ok (.aload_n 0, 1) := by decide +kernel
theorem dX8_many_57 : decode cX8_many 57 = .ok (.getfield 63, 3) := by decide +kernel
theorem dX8_many_60 : decode cX8_many 60 = .ok (.getfield 145, 3) := by decide +kernel
theorem dX8_many_63 : decode cX8_many 63 = .ok (.ireturn, 1) := by decide +kernel
theorem dX8_many_64 : decode cX8_many 64 = .ok (.bipush (-2), 2) := by decide +kernel
theorem dX8_many_66 : decode cX8_many 66 = .ok (.ireturn, 1) := by decide +kernel
set_option maxHeartbeats 4000000 in
set_option maxRecDepth 100000 in
theorem c_X8_many (l : Launch) (D : va_G) (sz : Nat) (k : Int32) (h0 : Nat) (sh : Nat) (rd : Nat) (fr : Nat) (wr : Nat) (pf : Nat) (rc : Nat) (se : Nat) (rs : Nat) (sw : Nat) (sp : Nat) (ss : Nat) (ew : Int32) (wc : Int64) (tr : Int32) (lf : Int32) (k1 : Nat) (k2 : Nat) (k3 : Nat) (w1 : Nat) (g1 : Nat) (g2 : Nat) (g3 : Nat) (g4 : Nat) (g5 : Nat) (g6 : Nat) (g7 : Nat) (z1 : Nat) (z2 : Nat) : Met l yX8_many wsX8_many ({ frames := 0, cells := 0, slots := 0, locals := 0 }) (kPre [.ref h0, .int k] D [(h0, .inr (8, [.ref sh, .ref rd, .ref fr, .ref wr, .ref pf, .ref rc, .ref se, .ref rs, .ref sw, .ref sp, .ref ss, .int ew, .long wc, .int tr, .int lf])), (fr, .inr (0, [.ref k1, .ref k2, .ref k3, .int 0])), (wr, .inr (7, [.ref w1, .int 0])), (se, .inr (4, [.ref g1, .ref g2, .ref g3, .ref g4, .ref g5, .int 0, .int 0, .int 0, .ref g6, .ref g7])), (rs, .inr (2, [.int 0, .ref z1, .ref z2]))] [] sz) (QcRead (sp_many k)) 0 0 (fun _ => False) := by
  refine Met.ofW (cc := cX8_many) (maxL := 2) (ret := (some .int)) (by decide) rfl ?_
  intro p e s m args below meth c s₁ B hml hv
  obtain ⟨rfl, hsz, hP, hK, hD0, hN⟩ := hv
  have hx := B.exec
  have hb := B.bytes
  have hr := B.returns
  have hts := atoms_spec (ws := wsX8_many) B.pre
  have hown : s.vm.findClass RX8 = some m.cls := findClass_of_methodNamed B.named
  have hlocks := B.notSynchronized
  subst hsz
  have hD := hD0
  have hP : va_P D vwCl [(h0, .inr (8, [.ref sh, .ref rd, .ref fr, .ref wr, .ref pf, .ref rc, .ref se, .ref rs, .ref sw, .ref sp, .ref ss, .int ew, .long wc, .int tr, .int lf])), (fr, .inr (0, [.ref k1, .ref k2, .ref k3, .int 0])), (wr, .inr (7, [.ref w1, .int 0])), (se, .inr (4, [.ref g1, .ref g2, .ref g3, .ref g4, .ref g5, .int 0, .int 0, .int 0, .ref g6, .ref g7])), (rs, .inr (2, [.int 0, .ref z1, .ref z2]))] s.heap := hP
  have hl := lv_entry ([.ref h0, .int k]) (n := 2) (Nat.le_of_ble_eq_true rfl)
  rw [lg_entry_eq]
  generalize (lg_sl ([.ref h0, .int k]) ++ List.replicate (2 - (lg_sl ([.ref h0, .int k])).length) Slot.unset).toArray = ls at hl ⊢
  have hl : lv_has ls 2 [(0, .ref h0), (1, .int k)] := hl
  refine lv_iload_n hx hb dX8_many_0 rfl (lv_at hl 1 rfl) ?_
  rcases kT4 k with e9 | e9 | e9 | e9 | e9
  · subst e9
    refine lv_tableIn (tgt := 32) (off := 31) hx hb dX8_many_1 (by decide) (by decide) rfl (by decide) ?_
    refine lv_aload_n hx hb dX8_many_32 rfl (lv_at hl 0 rfl) ?_
    refine va_get (D := D) (ci := 8) (v := .ref fr) (C := RX8) (T := TX8) (N := 15) hx hb hts (fun _ h9 => List.mem_cons_of_mem _ (List.mem_append_left _ (List.mem_append_left _ (List.mem_append_left _ (List.mem_append_left _ (List.mem_append_right _ h9)))))) hown hK hP 0 rfl rfl 2 (by decide) (hts (.fieldLink RX8 28 "FontRuns" "fontRow" "LFontRuns$FontRow;") (by decide +kernel)) (fun _ h9 => h9) rfl dX8_many_33 ?_
    refine va_get (D := D) (ci := 0) (v := .int 0) (C := RX0) (T := TX0) (N := 4) hx hb hts (fun _ h9 => List.mem_cons_of_mem _ (List.mem_append_left _ (List.mem_append_left _ (List.mem_append_left _ (List.mem_append_right _ h9))))) hown hK hP 1 rfl rfl 3 (by decide) (hts (.fieldLink RX8 106 "FontRuns$FontRow" "count" "I") (by decide +kernel)) (fun _ h9 => h9) rfl dX8_many_36 ?_
    exact W.iret (v := 0) hx hb hr (fun t ht hW => kRd (by decide) ht) (fun _ h9 => by cases h9) dX8_many_39
  · subst e9
    refine lv_tableIn (tgt := 40) (off := 39) hx hb dX8_many_1 (by decide) (by decide) rfl (by decide) ?_
    refine lv_aload_n hx hb dX8_many_40 rfl (lv_at hl 0 rfl) ?_
    refine va_get (D := D) (ci := 8) (v := .ref wr) (C := RX8) (T := TX8) (N := 15) hx hb hts (fun _ h9 => List.mem_cons_of_mem _ (List.mem_append_left _ (List.mem_append_left _ (List.mem_append_left _ (List.mem_append_left _ (List.mem_append_right _ h9)))))) hown hK hP 0 rfl rfl 3 (by decide) (hts (.fieldLink RX8 35 "FontRuns" "writing" "LFontRuns$Writing;") (by decide +kernel)) (fun _ h9 => h9) rfl dX8_many_41 ?_
    refine va_get (D := D) (ci := 7) (v := .int 0) (C := RX7) (T := TX7) (N := 2) hx hb hts (fun _ h9 => List.mem_cons_of_mem _ (List.mem_append_left _ (List.mem_append_left _ (List.mem_append_right _ h9)))) hown hK hP 2 rfl rfl 1 (by decide) (hts (.fieldLink RX8 139 "FontRuns$Writing" "count" "I") (by decide +kernel)) (fun _ h9 => h9) rfl dX8_many_44 ?_
    exact W.iret (v := 0) hx hb hr (fun t ht hW => kRd (by decide) ht) (fun _ h9 => by cases h9) dX8_many_47
  · subst e9
    refine lv_tableIn (tgt := 48) (off := 47) hx hb dX8_many_1 (by decide) (by decide) rfl (by decide) ?_
    refine lv_aload_n hx hb dX8_many_48 rfl (lv_at hl 0 rfl) ?_
    refine va_get (D := D) (ci := 8) (v := .ref se) (C := RX8) (T := TX8) (N := 15) hx hb hts (fun _ h9 => List.mem_cons_of_mem _ (List.mem_append_left _ (List.mem_append_left _ (List.mem_append_left _ (List.mem_append_left _ (List.mem_append_right _ h9)))))) hown hK hP 0 rfl rfl 6 (by decide) (hts (.fieldLink RX8 56 "FontRuns" "setting" "LFontRuns$Setting;") (by decide +kernel)) (fun _ h9 => h9) rfl dX8_many_49 ?_
    refine va_get (D := D) (ci := 4) (v := .int 0) (C := RX4) (T := TX4) (N := 10) hx hb hts (fun _ h9 => List.mem_cons_of_mem _ (List.mem_append_left _ (List.mem_append_right _ h9))) hown hK hP 3 rfl rfl 5 (by decide) (hts (.fieldLink RX8 250 "FontRuns$Setting" "count" "I") (by decide +kernel)) (fun _ h9 => h9) rfl dX8_many_52 ?_
    exact W.iret (v := 0) hx hb hr (fun t ht hW => kRd (by decide) ht) (fun _ h9 => by cases h9) dX8_many_55
  · subst e9
    refine lv_tableIn (tgt := 56) (off := 55) hx hb dX8_many_1 (by decide) (by decide) rfl (by decide) ?_
    refine lv_aload_n hx hb dX8_many_56 rfl (lv_at hl 0 rfl) ?_
    refine va_get (D := D) (ci := 8) (v := .ref rs) (C := RX8) (T := TX8) (N := 15) hx hb hts (fun _ h9 => List.mem_cons_of_mem _ (List.mem_append_left _ (List.mem_append_left _ (List.mem_append_left _ (List.mem_append_left _ (List.mem_append_right _ h9)))))) hown hK hP 0 rfl rfl 7 (by decide) (hts (.fieldLink RX8 63 "FontRuns" "readings" "LFontRuns$Readings;") (by decide +kernel)) (fun _ h9 => h9) rfl dX8_many_57 ?_
    refine va_get (D := D) (ci := 2) (v := .int 0) (C := RX2) (T := TX2) (N := 3) hx hb hts (fun _ h9 => List.mem_cons_of_mem _ (List.mem_append_right _ h9)) hown hK hP 4 rfl rfl 0 (by decide) (hts (.fieldLink RX8 145 "FontRuns$Readings" "count" "I") (by decide +kernel)) (fun _ h9 => h9) rfl dX8_many_60 ?_
    exact W.iret (v := 0) hx hb hr (fun t ht hW => kRd (by decide) ht) (fun _ h9 => by cases h9) dX8_many_63
  · refine lv_tableOut (tgt := 64) hx hb dX8_many_1 e9 (by decide) ?_
    refine lv_bipush (v := (-2)) hx hb dX8_many_64 (by decide) ?_
    exact W.iret (v := (-2)) hx hb hr (fun t ht hW => kRd (by exact kmany e9) ht) (fun _ h9 => by cases h9) dX8_many_66
end
section
theorem dX0_all_0 : decode cX0_all 0 = .ok (.iconst 1, 1) := by decide +kernel
theorem dX0_all_1 : decode cX0_all 1 = .ok (.aload_n 0, 1) := by decide +kernel
theorem dX0_all_2 : decode cX0_all 2 = .ok (.getfield 21, 3) := by decide +kernel
theorem dX0_all_5 : decode cX0_all 5 = .ok (.ishl, 1) := by decide +kernel
theorem dX0_all_6 : decode cX0_all 6 = .ok (.iconst 1, 1) := by decide +kernel
theorem dX0_all_7 : decode cX0_all 7 = .ok (.isub, 1) := by decide +kernel
theorem dX0_all_8 : decode cX0_all 8 = .ok (.ireturn, 1) := by decide +kernel
set_option maxHeartbeats 4000000 in
set_option maxRecDepth 100000 in
theorem c_X0_all (l : Launch) (D : va_G) (sz : Nat) (h0 : Nat) (k1 : Nat) (k2 : Nat) (k3 : Nat) : Met l yX0_all wsX0_all ({ frames := 0, cells := 0, slots := 0, locals := 0 }) (kPre [.ref h0] D [(h0, .inr (0, [.ref k1, .ref k2, .ref k3, .int 0]))] [] sz) (QcRead 0) 0 0 (fun _ => False) := by
  refine Met.ofW (cc := cX0_all) (maxL := 1) (ret := (some .int)) (by decide) rfl ?_
  intro p e s m args below meth c s₁ B hml hv
  obtain ⟨rfl, hsz, hP, hK, hD0, hN⟩ := hv
  have hx := B.exec
  have hb := B.bytes
  have hr := B.returns
  have hts := atoms_spec (ws := wsX0_all) B.pre
  have hown : s.vm.findClass RX0 = some m.cls := findClass_of_methodNamed B.named
  have hlocks := B.notSynchronized
  subst hsz
  have hD := hD0
  have hP : va_P D vwCl [(h0, .inr (0, [.ref k1, .ref k2, .ref k3, .int 0]))] s.heap := hP
  have hl := lv_entry ([.ref h0]) (n := 1) (Nat.le_of_ble_eq_true rfl)
  rw [lg_entry_eq]
  generalize (lg_sl ([.ref h0]) ++ List.replicate (1 - (lg_sl ([.ref h0])).length) Slot.unset).toArray = ls at hl ⊢
  have hl : lv_has ls 1 [(0, .ref h0)] := hl
  refine lv_iconst (v := 1) hx hb dX0_all_0 (by decide) ?_
  refine lv_aload_n hx hb dX0_all_1 rfl (lv_at hl 0 rfl) ?_
  refine va_get (D := D) (ci := 0) (v := .int 0) (C := RX0) (T := TX0) (N := 4) hx hb hts (fun _ h9 => List.mem_cons_of_mem _ (List.mem_append_right _ h9)) hown hK hP 0 rfl rfl 3 (by decide) (hts (.fieldLink RX0 21 "FontRuns$FontRow" "count" "I") (by decide +kernel)) (fun _ h9 => h9) rfl dX0_all_2 ?_
  refine lv_ishl hx hb dX0_all_5 ?_
  refine kn_i 1 (by decide) ?_
  refine lv_iconst (v := 1) hx hb dX0_all_6 (by decide) ?_
  refine lv_isub hx hb dX0_all_7 ?_
  refine kn_i 0 (by decide) ?_
  exact W.iret (v := 0) hx hb hr (fun t ht hW => kRd rfl ht) (fun _ h9 => by cases h9) dX0_all_8
theorem dX7_drop_0 : decode cX7_drop 0 = .ok (.iload_n 1, 1) := by decide +kernel
theorem dX7_drop_1 : decode cX7_drop 1 = .ok (.iconst 0, 1) := by decide +kernel
theorem dX7_drop_2 : decode cX7_drop 2 = .ok (.aload_n 0, 1) := by decide +kernel
theorem dX7_drop_3 : decode cX7_drop 3 = .ok (.getfield 15, 3) := by decide +kernel
theorem dX7_drop_6 : decode cX7_drop 6 = .ok (.invokestatic 19, 3) := by decide +kernel
theorem dX7_drop_9 : decode cX7_drop 9 = .ok (.ifCond .ne 5, 3) := by decide +kernel
theorem dX7_drop_14 : decode cX7_drop 14 = .ok (.aload_n 0, 1) := by decide +kernel
theorem dX7_drop_15 : decode cX7_drop 15 = .ok (.dup, 1) := by decide +kernel
theorem dX7_drop_16 : decode cX7_drop 16 = .ok (.getfield 15, 3) := by decide +kernel
theorem dX7_drop_19 : decode cX7_drop 19 = .ok (.iload_n 1, 1) := by decide +kernel
theorem dX7_drop_20 : decode cX7_drop 20 = .ok (.isub, 1) := by decide +kernel
theorem dX7_drop_21 : decode cX7_drop 21 = .ok (.putfield 15, 3) := by decide +kernel
theorem dX7_drop_24 : decode cX7_drop 24 = .ok (.iconst 1, 1) := by decide +kernel
theorem dX7_drop_25 : decode cX7_drop 25 = .ok (.ireturn, 1) := by decide +kernel
set_option maxRecDepth 20000 in
theorem ggX7_drop_X8_isWithin : GoodIn wsX7_drop wsX8_isWithin := goodIn_r _ [4] (by decide +kernel) (by decide +kernel)
set_option maxRecDepth 20000 in
theorem gX7_drop_X8_isWithin_n19 : GoodIn wsX7_drop (wsX8_isWithin) := ggX7_drop_X8_isWithin
set_option maxHeartbeats 4000000 in
set_option maxRecDepth 100000 in
theorem c_X7_drop (l : Launch) (D : va_G) (sz : Nat) (h0 : Nat) (w1 : Nat) : Met l yX7_drop wsX7_drop ({ frames := 1, cells := 0, slots := 0, locals := 22 }) (kPre [.ref h0, .int 0] D [(h0, .inr (7, [.ref w1, .int 0]))] [] sz) (kQiW 1 D [(h0, .inr (7, [.ref w1, .int 0]))] (va_A [(h0, .inr (7, [.ref w1, .int 0]))] sz)) 0 0 (va_A [(h0, .inr (7, [.ref w1, .int 0]))] sz) := by
  refine Met.ofW (cc := cX7_drop) (maxL := 2) (ret := (some .boolean)) (by decide) rfl ?_
  intro p e s m args below meth c s₁ B hml hv
  obtain ⟨rfl, hsz, hP, hK, hD0, hN⟩ := hv
  have hx := B.exec
  have hb := B.bytes
  have hr := B.returns
  have hts := atoms_spec (ws := wsX7_drop) B.pre
  have hown : s.vm.findClass RX7 = some m.cls := findClass_of_methodNamed B.named
  have hlocks := B.notSynchronized
  subst hsz
  have hD := hD0.self (sz := s.heap.size)
  generalize hAe : va_A [(h0, .inr (7, [.ref w1, .int 0]))] s.heap.size = A at hD ⊢
  have hA : ∀ q : Nat, s.heap.size ≤ q → A q := fun q h => by rw [← hAe]; exact Or.inr h
  have hS : va_S A s.heap s.heap [] := va_S.rf
  have hP : va_P D vwCl [(h0, .inr (7, [.ref w1, .int 0]))] s.heap := hP
  have hl := lv_entry ([.ref h0, .int 0]) (n := 2) (Nat.le_of_ble_eq_true rfl)
  rw [lg_entry_eq]
  generalize (lg_sl ([.ref h0, .int 0]) ++ List.replicate (2 - (lg_sl ([.ref h0, .int 0])).length) Slot.unset).toArray = ls at hl ⊢
  have hl : lv_has ls 2 [(0, .ref h0), (1, .int 0)] := hl
  refine lv_iload_n hx hb dX7_drop_0 rfl (lv_at hl 1 rfl) ?_
  refine lv_iconst (v := 0) hx hb dX7_drop_1 (by decide) ?_
  refine lv_aload_n hx hb dX7_drop_2 rfl (lv_at hl 0 rfl) ?_
  refine va_get (D := D) (ci := 7) (v := .int 0) (C := RX7) (T := TX7) (N := 2) hx hb hts (fun _ h9 => List.mem_cons_of_mem _ (List.mem_append_right _ h9)) hown hK hP 0 rfl rfl 1 (by decide) (hts (.fieldLink RX7 15 "FontRuns$Writing" "count" "I") (by decide +kernel)) (fun _ h9 => h9) rfl dX7_drop_3 ?_
  refine k_callR (va_runSN (As := [.int 0, .int 0, .int 0]) (rest := []) ⟨hx, hb, hml, hown, hts⟩ (c_X8_isWithin l D s.heap.size (v := 0) (a := 0) (b := 0)) (⟨va_cnB 3 hts gX7_drop_X8_isWithin_n19 rfl rfl rfl (hN.1 (RX7, 19, yX8_isWithin) (by decide +kernel)) (hts (.initialized RX8) (by decide +kernel)) (by decide +kernel) ⟨Nat.le_of_ble_eq_true rfl, Nat.le_of_ble_eq_true rfl⟩, (hts (.static yX8_isWithin) (by decide +kernel)), trivial⟩) (kPreS hP (kD0 hD) hK hN [] [] rfl rfl (by decide)) rfl rfl hl.1 rfl (lv_room (Nat.le_of_ble_eq_true rfl)) dX7_drop_6 ⟨Nat.le_of_ble_eq_true rfl, Nat.le_of_ble_eq_true rfl⟩) ?_
  refine kn_i 1 (by decide) ?_
  refine lv_if_ne (tgt := 14) hx hb dX7_drop_9 (by decide) (fun _ => ?_) (fun c9 => absurd c9 (by decide))
  refine lv_aload_n hx hb dX7_drop_14 rfl (lv_at hl 0 rfl) ?_
  refine lv_dup hx hb dX7_drop_15 rfl ?_
  refine va_get (D := D) (ci := 7) (v := .int 0) (C := RX7) (T := TX7) (N := 2) hx hb hts (fun _ h9 => List.mem_cons_of_mem _ (List.mem_append_right _ h9)) hown hK hP 0 rfl rfl 1 (by decide) (hts (.fieldLink RX7 15 "FontRuns$Writing" "count" "I") (by decide +kernel)) (fun _ h9 => h9) rfl dX7_drop_16 ?_
  refine lv_iload_n hx hb dX7_drop_19 rfl (lv_at hl 1 rfl) ?_
  refine lv_isub hx hb dX7_drop_20 ?_
  refine kn_i 0 (by decide) ?_
  refine va_put (D := D) (ci := 7) (v := .int 0) (ty := .int) (C := RX7) (T := TX7) (N := 2) hx hb hts (fun _ h9 => List.mem_cons_of_mem _ (List.mem_append_right _ h9)) tyX7 tyX7_ok nmX7 hown hK hP hD hS 0 rfl rfl 1 (by decide) (hts (.fieldLink RX7 15 "FontRuns$Writing" "count" "I") (by decide +kernel)) (fun _ h9 => h9) rfl (by decide +kernel) rfl rfl (Nat.le_of_ble_eq_true rfl) dX7_drop_21 (fun H locs hP hD hS => ?_)
  have hP : va_P D vwCl [(h0, .inr (7, [.ref w1, .int 0]))] H := hP
  have hD : va_D A [(h0, .inr (7, [.ref w1, .int 0]))] := hD
  refine lv_iconst (v := 1) hx hb dX7_drop_24 (by decide) ?_
  have hP9 := hP.sub (ws' := [(h0, .inr (7, [.ref w1, .int 0]))]) [0] rfl
  have hD9 := hD.sub (ws' := [(h0, .inr (7, [.ref w1, .int 0]))]) [0] (by decide) rfl
  exact W.zret (v := 1) hx hb hr rfl (fun t ht hW => kQiW_of rfl (by rw [ht]; exact hP9) hD9 (hS.F ht)) hS.2.2 dX7_drop_25
theorem dX4_cut_0 : decode cX4_cut 0 = .ok (.aload_n 0, 1) := by decide +kernel
theorem dX4_cut_1 : decode cX4_cut 1 = .ok (.iconst 0, 1) := by decide +kernel
theorem dX4_cut_2 : decode cX4_cut 2 = .ok (.putfield 51, 3) := by decide +kernel
theorem dX4_cut_5 : decode cX4_cut 5 = .ok (.iconst 0, 1) := by decide +kernel
theorem dX4_cut_6 : decode cX4_cut 6 = .ok (.istore_n 2, 1) := by decide +kernel
theorem dX4_cut_7 : decode cX4_cut 7 = .ok (.iload_n 2, 1) := by decide +kernel
theorem dX4_cut_8 : decode cX4_cut 8 = .ok (.aload_n 1, 1) := by decide +kernel
theorem dX4_cut_9 : decode cX4_cut 9 = .ok (.getfield 74, 3) := by decide +kernel
theorem dX4_cut_12 : decode cX4_cut 12 = .ok (.if_icmp .ge 101, 3) := by decide +kernel
theorem dX4_cut_113 : decode cX4_cut 113 = .ok (.return_, 1) := by decide +kernel
set_option maxHeartbeats 4000000 in
set_option maxRecDepth 100000 in
theorem c_X4_cut (l : Launch) (D : va_G) (sz : Nat) (wr : Nat) (h0 : Nat) (g1 : Nat) (g2 : Nat) (g3 : Nat) (g4 : Nat) (g5 : Nat) (cn : Int32) (bo : Int32) (ru : Int32) (g6 : Nat) (g7 : Nat) (w1 : Nat) : Met l yX4_cut wsX4_cut ({ frames := 0, cells := 0, slots := 0, locals := 0 }) (kPre [.ref h0, .ref wr] D [(h0, .inr (4, [.ref g1, .ref g2, .ref g3, .ref g4, .ref g5, .int cn, .int bo, .int ru, .ref g6, .ref g7])), (wr, .inr (7, [.ref w1, .int 0]))] [] sz) (kQvW D [(h0, .inr (4, [.ref g1, .ref g2, .ref g3, .ref g4, .ref g5, .int 0, .int bo, .int ru, .ref g6, .ref g7])), (wr, .inr (7, [.ref w1, .int 0]))] (va_A [(h0, .inr (4, [.ref g1, .ref g2, .ref g3, .ref g4, .ref g5, .int cn, .int bo, .int ru, .ref g6, .ref g7])), (wr, .inr (7, [.ref w1, .int 0]))] sz)) 0 0 (va_A [(h0, .inr (4, [.ref g1, .ref g2, .ref g3, .ref g4, .ref g5, .int cn, .int bo, .int ru, .ref g6, .ref g7])), (wr, .inr (7, [.ref w1, .int 0]))] sz) := by
  refine Met.ofW (cc := cX4_cut) (maxL := 4) (ret := none) (by decide) rfl ?_
  intro p e s m args below meth c s₁ B hml hv
  obtain ⟨rfl, hsz, hP, hK, hD0, hN⟩ := hv
  have hx := B.exec
  have hb := B.bytes
  have hr := B.returns
  have hts := atoms_spec (ws := wsX4_cut) B.pre
  have hown : s.vm.findClass RX4 = some m.cls := findClass_of_methodNamed B.named
  have hlocks := B.notSynchronized
  subst hsz
  have hD := hD0.self (sz := s.heap.size)
  generalize hAe : va_A [(h0, .inr (4, [.ref g1, .ref g2, .ref g3, .ref g4, .ref g5, .int cn, .int bo, .int ru, .ref g6, .ref g7])), (wr, .inr (7, [.ref w1, .int 0]))] s.heap.size = A at hD ⊢
  have hA : ∀ q : Nat, s.heap.size ≤ q → A q := fun q h => by rw [← hAe]; exact Or.inr h
  have hS : va_S A s.heap s.heap [] := va_S.rf
  have hP : va_P D vwCl [(h0, .inr (4, [.ref g1, .ref g2, .ref g3, .ref g4, .ref g5, .int cn, .int bo, .int ru, .ref g6, .ref g7])), (wr, .inr (7, [.ref w1, .int 0]))] s.heap := hP
  have hl := lv_entry ([.ref h0, .ref wr]) (n := 4) (Nat.le_of_ble_eq_true rfl)
  rw [lg_entry_eq]
  generalize (lg_sl ([.ref h0, .ref wr]) ++ List.replicate (4 - (lg_sl ([.ref h0, .ref wr])).length) Slot.unset).toArray = ls at hl ⊢
  have hl : lv_has ls 4 [(0, .ref h0), (1, .ref wr)] := hl
  refine lv_aload_n hx hb dX4_cut_0 rfl (lv_at hl 0 rfl) ?_
  refine lv_iconst (v := 0) hx hb dX4_cut_1 (by decide) ?_
  refine va_put (D := D) (ci := 4) (v := .int 0) (ty := .int) (C := RX4) (T := TX4) (N := 10) hx hb hts (fun _ h9 => List.mem_cons_of_mem _ (List.mem_append_left _ (List.mem_append_right _ h9))) tyX4 tyX4_ok nmX4 hown hK hP hD hS 0 rfl rfl 5 (by decide) (hts (.fieldLink RX4 51 "FontRuns$Setting" "count" "I") (by decide +kernel)) (fun _ h9 => h9) rfl (by decide +kernel) rfl rfl (Nat.le_of_ble_eq_true rfl) dX4_cut_2 (fun H locs hP hD hS => ?_)
  have hP : va_P D vwCl [(h0, .inr (4, [.ref g1, .ref g2, .ref g3, .ref g4, .ref g5, .int 0, .int bo, .int ru, .ref g6, .ref g7])), (wr, .inr (7, [.ref w1, .int 0]))] H := hP
  have hD : va_D A [(h0, .inr (4, [.ref g1, .ref g2, .ref g3, .ref g4, .ref g5, .int 0, .int bo, .int ru, .ref g6, .ref g7])), (wr, .inr (7, [.ref w1, .int 0]))] := hD
  refine lv_iconst (v := 0) hx hb dX4_cut_5 (by decide) ?_
  refine lv_istore_n (lv' := [(2, .int 0), (0, .ref h0), (1, .ref wr)]) hx hb dX4_cut_6 rfl hl (by decide) rfl (fun ls hl => ?_)
  refine lv_iload_n hx hb dX4_cut_7 rfl (lv_at hl 0 rfl) ?_
  refine lv_aload_n hx hb dX4_cut_8 rfl (lv_at hl 2 rfl) ?_
  refine va_get (D := D) (ci := 7) (v := .int 0) (C := RX7) (T := TX7) (N := 2) hx hb hts (fun _ h9 => List.mem_cons_of_mem _ (List.mem_append_right _ h9)) hown hK hP 1 rfl rfl 1 (by decide) (hts (.fieldLink RX4 74 "FontRuns$Writing" "count" "I") (by decide +kernel)) (fun _ h9 => h9) rfl dX4_cut_9 ?_
  refine lv_icmp_ge (tgt := 113) hx hb dX4_cut_12 (by decide) (fun _ => ?_) (fun c9 => absurd (by decide) c9)
  have hP9 := hP.sub (ws' := [(h0, .inr (4, [.ref g1, .ref g2, .ref g3, .ref g4, .ref g5, .int 0, .int bo, .int ru, .ref g6, .ref g7])), (wr, .inr (7, [.ref w1, .int 0]))]) [0, 1] rfl
  have hD9 := hD.sub (ws' := [(h0, .inr (4, [.ref g1, .ref g2, .ref g3, .ref g4, .ref g5, .int 0, .int bo, .int ru, .ref g6, .ref g7])), (wr, .inr (7, [.ref w1, .int 0]))]) [0, 1] (by decide) rfl
  exact W.vret hx hb hr (fun t ht hW => kQvW_of (by rw [ht]; exact hP9) hD9 (hS.F ht)) hS.2.2 dX4_cut_113
theorem dX4_findFitting_0 : decode cX4_findFitting 0 = .ok (.aload_n 0, 1) := by decide +kernel
theorem dX4_findFitting_1 : decode cX4_findFitting 1 = .ok (.iconst 0, 1) := by decide +kernel
theorem dX4_findFitting_2 : decode cX4_findFitting 2 = .ok (.putfield 80, 3) := by decide +kernel
theorem dX4_findFitting_5 : decode cX4_findFitting 5 = .ok (.iconst 0, 1) := by decide +kernel
theorem dX4_findFitting_6 : decode cX4_findFitting 6 = .ok (.istore_n 3, 1) := by decide +kernel
theorem dX4_findFitting_7 : decode cX4_findFitting 7 = .ok (.iload_n 3, 1) := by decide +kernel
theorem dX4_findFitting_8 : decode cX4_findFitting 8 = .ok (.aload_n 0, 1) := by decide +kernel
theorem dX4_findFitting_9 : decode cX4_findFitting 9 = .ok (.getfield 51, 3) := by decide +kernel
theorem dX4_findFitting_12 : decode cX4_findFitting 12 = .ok (.if_icmp .ge 46, 3) := by decide +kernel
theorem dX4_findFitting_58 : decode cX4_findFitting 58 = .ok (.return_, 1) := by decide +kernel
set_option maxHeartbeats 4000000 in
set_option maxRecDepth 100000 in
theorem c_X4_findFitting (l : Launch) (D : va_G) (sz : Nat) (fr : Nat) (al : Int32) (h0 : Nat) (g1 : Nat) (g2 : Nat) (g3 : Nat) (g4 : Nat) (g5 : Nat) (bo : Int32) (ru : Int32) (g6 : Nat) (g7 : Nat) : Met l yX4_findFitting wsX4_findFitting ({ frames := 0, cells := 0, slots := 0, locals := 0 }) (kPre [.ref h0, .ref fr, .int al] D [(h0, .inr (4, [.ref g1, .ref g2, .ref g3, .ref g4, .ref g5, .int 0, .int bo, .int ru, .ref g6, .ref g7]))] [] sz) (kQvW D [(h0, .inr (4, [.ref g1, .ref g2, .ref g3, .ref g4, .ref g5, .int 0, .int 0, .int ru, .ref g6, .ref g7]))] (va_A [(h0, .inr (4, [.ref g1, .ref g2, .ref g3, .ref g4, .ref g5, .int 0, .int bo, .int ru, .ref g6, .ref g7]))] sz)) 0 0 (va_A [(h0, .inr (4, [.ref g1, .ref g2, .ref g3, .ref g4, .ref g5, .int 0, .int bo, .int ru, .ref g6, .ref g7]))] sz) := by
  refine Met.ofW (cc := cX4_findFitting) (maxL := 4) (ret := none) (by decide) rfl ?_
  intro p e s m args below meth c s₁ B hml hv
  obtain ⟨rfl, hsz, hP, hK, hD0, hN⟩ := hv
  have hx := B.exec
  have hb := B.bytes
  have hr := B.returns
  have hts := atoms_spec (ws := wsX4_findFitting) B.pre
  have hown : s.vm.findClass RX4 = some m.cls := findClass_of_methodNamed B.named
  have hlocks := B.notSynchronized
  subst hsz
  have hD := hD0.self (sz := s.heap.size)
  generalize hAe : va_A [(h0, .inr (4, [.ref g1, .ref g2, .ref g3, .ref g4, .ref g5, .int 0, .int bo, .int ru, .ref g6, .ref g7]))] s.heap.size = A at hD ⊢
  have hA : ∀ q : Nat, s.heap.size ≤ q → A q := fun q h => by rw [← hAe]; exact Or.inr h
  have hS : va_S A s.heap s.heap [] := va_S.rf
  have hP : va_P D vwCl [(h0, .inr (4, [.ref g1, .ref g2, .ref g3, .ref g4, .ref g5, .int 0, .int bo, .int ru, .ref g6, .ref g7]))] s.heap := hP
  have hl := lv_entry ([.ref h0, .ref fr, .int al]) (n := 4) (Nat.le_of_ble_eq_true rfl)
  rw [lg_entry_eq]
  generalize (lg_sl ([.ref h0, .ref fr, .int al]) ++ List.replicate (4 - (lg_sl ([.ref h0, .ref fr, .int al])).length) Slot.unset).toArray = ls at hl ⊢
  have hl : lv_has ls 4 [(0, .ref h0), (1, .ref fr), (2, .int al)] := hl
  refine lv_aload_n hx hb dX4_findFitting_0 rfl (lv_at hl 0 rfl) ?_
  refine lv_iconst (v := 0) hx hb dX4_findFitting_1 (by decide) ?_
  refine va_put (D := D) (ci := 4) (v := .int 0) (ty := .int) (C := RX4) (T := TX4) (N := 10) hx hb hts (fun _ h9 => List.mem_cons_of_mem _ (List.mem_append_left _ (List.mem_append_right _ h9))) tyX4 tyX4_ok nmX4 hown hK hP hD hS 0 rfl rfl 6 (by decide) (hts (.fieldLink RX4 80 "FontRuns$Setting" "boxes" "I") (by decide +kernel)) (fun _ h9 => h9) rfl (by decide +kernel) rfl rfl (Nat.le_of_ble_eq_true rfl) dX4_findFitting_2 (fun H locs hP hD hS => ?_)
  have hP : va_P D vwCl [(h0, .inr (4, [.ref g1, .ref g2, .ref g3, .ref g4, .ref g5, .int 0, .int 0, .int ru, .ref g6, .ref g7]))] H := hP
  have hD : va_D A [(h0, .inr (4, [.ref g1, .ref g2, .ref g3, .ref g4, .ref g5, .int 0, .int 0, .int ru, .ref g6, .ref g7]))] := hD
  refine lv_iconst (v := 0) hx hb dX4_findFitting_5 (by decide) ?_
  refine lv_istore_n (lv' := [(3, .int 0), (0, .ref h0), (1, .ref fr), (2, .int al)]) hx hb dX4_findFitting_6 rfl hl (by decide) rfl (fun ls hl => ?_)
  refine lv_iload_n hx hb dX4_findFitting_7 rfl (lv_at hl 0 rfl) ?_
  refine lv_aload_n hx hb dX4_findFitting_8 rfl (lv_at hl 1 rfl) ?_
  refine va_get (D := D) (ci := 4) (v := .int 0) (C := RX4) (T := TX4) (N := 10) hx hb hts (fun _ h9 => List.mem_cons_of_mem _ (List.mem_append_left _ (List.mem_append_right _ h9))) hown hK hP 0 rfl rfl 5 (by decide) (hts (.fieldLink RX4 51 "FontRuns$Setting" "count" "I") (by decide +kernel)) (fun _ h9 => h9) rfl dX4_findFitting_9 ?_
  refine lv_icmp_ge (tgt := 58) hx hb dX4_findFitting_12 (by decide) (fun _ => ?_) (fun c9 => absurd (by decide) c9)
  have hP9 := hP.sub (ws' := [(h0, .inr (4, [.ref g1, .ref g2, .ref g3, .ref g4, .ref g5, .int 0, .int 0, .int ru, .ref g6, .ref g7]))]) [0] rfl
  have hD9 := hD.sub (ws' := [(h0, .inr (4, [.ref g1, .ref g2, .ref g3, .ref g4, .ref g5, .int 0, .int 0, .int ru, .ref g6, .ref g7]))]) [0] (by decide) rfl
  exact W.vret hx hb hr (fun t ht hW => kQvW_of (by rw [ht]; exact hP9) hD9 (hS.F ht)) hS.2.2 dX4_findFitting_58
theorem dX4_findBehind_0 : decode cX4_findBehind 0 = .ok (.iconst 0, 1) := by decide +kernel
theorem dX4_findBehind_1 : decode cX4_findBehind 1 = .ok (.istore_n 2, 1) := by decide +kernel
theorem dX4_findBehind_2 : decode cX4_findBehind 2 = .ok (.aload_n 0, 1) := by decide +kernel
theorem dX4_findBehind_3 : decode cX4_findBehind 3 = .ok (.getfield 51, 3) := by decide +kernel
theorem dX4_findBehind_6 : decode cX4_findBehind 6 = .ok (.iconst 1, 1) := by decide +kernel
theorem dX4_findBehind_7 : decode cX4_findBehind 7 = .ok (.isub, 1) := by decide +kernel
theorem dX4_findBehind_8 : decode cX4_findBehind 8 = .ok (.istore_n 3, 1) := by decide +kernel
theorem dX4_findBehind_9 : decode cX4_findBehind 9 = .ok (.iload_n 3, 1) := by decide +kernel
theorem dX4_findBehind_10 : decode cX4_findBehind 10 = .ok (.ifCond .lt 129, 3) := by decide +kernel
theorem dX4_findBehind_139 : decode cX4_findBehind 139 = .ok (.return_, 1) := by decide +kernel
set_option maxHeartbeats 4000000 in
set_option maxRecDepth 100000 in
theorem c_X4_findBehind (l : Launch) (D : va_G) (sz : Nat) (al : Int32) (h0 : Nat) (g1 : Nat) (g2 : Nat) (g3 : Nat) (g4 : Nat) (g5 : Nat) (bo : Int32) (ru : Int32) (g6 : Nat) (g7 : Nat) : Met l yX4_findBehind wsX4_findBehind ({ frames := 0, cells := 0, slots := 0, locals := 0 }) (kPre [.ref h0, .int al] D [(h0, .inr (4, [.ref g1, .ref g2, .ref g3, .ref g4, .ref g5, .int 0, .int bo, .int ru, .ref g6, .ref g7]))] [] sz) (kQvW D [(h0, .inr (4, [.ref g1, .ref g2, .ref g3, .ref g4, .ref g5, .int 0, .int bo, .int ru, .ref g6, .ref g7]))] (va_A [(h0, .inr (4, [.ref g1, .ref g2, .ref g3, .ref g4, .ref g5, .int 0, .int bo, .int ru, .ref g6, .ref g7]))] sz)) 0 0 (va_A [(h0, .inr (4, [.ref g1, .ref g2, .ref g3, .ref g4, .ref g5, .int 0, .int bo, .int ru, .ref g6, .ref g7]))] sz) := by
  refine Met.ofW (cc := cX4_findBehind) (maxL := 8) (ret := none) (by decide) rfl ?_
  intro p e s m args below meth c s₁ B hml hv
  obtain ⟨rfl, hsz, hP, hK, hD0, hN⟩ := hv
  have hx := B.exec
  have hb := B.bytes
  have hr := B.returns
  have hts := atoms_spec (ws := wsX4_findBehind) B.pre
  have hown : s.vm.findClass RX4 = some m.cls := findClass_of_methodNamed B.named
  have hlocks := B.notSynchronized
  subst hsz
  have hD := hD0.self (sz := s.heap.size)
  generalize hAe : va_A [(h0, .inr (4, [.ref g1, .ref g2, .ref g3, .ref g4, .ref g5, .int 0, .int bo, .int ru, .ref g6, .ref g7]))] s.heap.size = A at hD ⊢
  have hA : ∀ q : Nat, s.heap.size ≤ q → A q := fun q h => by rw [← hAe]; exact Or.inr h
  have hS : va_S A s.heap s.heap [] := va_S.rf
  have hP : va_P D vwCl [(h0, .inr (4, [.ref g1, .ref g2, .ref g3, .ref g4, .ref g5, .int 0, .int bo, .int ru, .ref g6, .ref g7]))] s.heap := hP
  have hl := lv_entry ([.ref h0, .int al]) (n := 8) (Nat.le_of_ble_eq_true rfl)
  rw [lg_entry_eq]
  generalize (lg_sl ([.ref h0, .int al]) ++ List.replicate (8 - (lg_sl ([.ref h0, .int al])).length) Slot.unset).toArray = ls at hl ⊢
  have hl : lv_has ls 8 [(0, .ref h0), (1, .int al)] := hl
  refine lv_iconst (v := 0) hx hb dX4_findBehind_0 (by decide) ?_
  refine lv_istore_n (lv' := [(2, .int 0), (0, .ref h0), (1, .int al)]) hx hb dX4_findBehind_1 rfl hl (by decide) rfl (fun ls hl => ?_)
  refine lv_aload_n hx hb dX4_findBehind_2 rfl (lv_at hl 1 rfl) ?_
  refine va_get (D := D) (ci := 4) (v := .int 0) (C := RX4) (T := TX4) (N := 10) hx hb hts (fun _ h9 => List.mem_cons_of_mem _ (List.mem_append_right _ h9)) hown hK hP 0 rfl rfl 5 (by decide) (hts (.fieldLink RX4 51 "FontRuns$Setting" "count" "I") (by decide +kernel)) (fun _ h9 => h9) rfl dX4_findBehind_3 ?_
  refine lv_iconst (v := 1) hx hb dX4_findBehind_6 (by decide) ?_
  refine lv_isub hx hb dX4_findBehind_7 ?_
  refine kn_i (-1) (by decide) ?_
  refine lv_istore_n (lv' := [(3, .int (-1)), (2, .int 0), (0, .ref h0), (1, .int al)]) hx hb dX4_findBehind_8 rfl hl (by decide) rfl (fun ls hl => ?_)
  refine lv_iload_n hx hb dX4_findBehind_9 rfl (lv_at hl 0 rfl) ?_
  refine lv_if_lt (tgt := 139) hx hb dX4_findBehind_10 (by decide) (fun _ => ?_) (fun c9 => absurd (by decide) c9)
  have hP9 := hP.sub (ws' := [(h0, .inr (4, [.ref g1, .ref g2, .ref g3, .ref g4, .ref g5, .int 0, .int bo, .int ru, .ref g6, .ref g7]))]) [0] rfl
  have hD9 := hD.sub (ws' := [(h0, .inr (4, [.ref g1, .ref g2, .ref g3, .ref g4, .ref g5, .int 0, .int bo, .int ru, .ref g6, .ref g7]))]) [0] (by decide) rfl
  exact W.vret hx hb hr (fun t ht hW => kQvW_of (by rw [ht]; exact hP9) hD9 (hS.F ht)) hS.2.2 dX4_findBehind_139
theorem dX4_choose_0 : decode cX4_choose 0 = .ok (.aload_n 0, 1) := by decide +kernel
theorem dX4_choose_1 : decode cX4_choose 1 = .ok (.iconst 0, 1) := by decide +kernel
theorem dX4_choose_2 : decode cX4_choose 2 = .ok (.putfield 59, 3) := by decide +kernel
theorem dX4_choose_5 : decode cX4_choose 5 = .ok (.iconst 0, 1) := by decide +kernel
theorem dX4_choose_6 : decode cX4_choose 6 = .ok (.istore_n 2, 1) := by decide +kernel
theorem dX4_choose_7 : decode cX4_choose 7 = .ok (.iload_n 2, 1) := by decide +kernel
theorem dX4_choose_8 : decode cX4_choose 8 = .ok (.aload_n 0, 1) := by decide +kernel
theorem dX4_choose_9 : decode cX4_choose 9 = .ok (.getfield 51, 3) := by decide +kernel
theorem dX4_choose_12 : decode cX4_choose 12 = .ok (.if_icmp .ge 72, 3) := by decide +kernel
theorem dX4_choose_84 : decode cX4_choose 84 = .ok (.return_, 1) := by decide +kernel
set_option maxHeartbeats 4000000 in
set_option maxRecDepth 100000 in
theorem c_X4_choose (l : Launch) (D : va_G) (sz : Nat) (pf : Nat) (h0 : Nat) (g1 : Nat) (g2 : Nat) (g3 : Nat) (g4 : Nat) (g5 : Nat) (bo : Int32) (ru : Int32) (g6 : Nat) (g7 : Nat) : Met l yX4_choose wsX4_choose ({ frames := 0, cells := 0, slots := 0, locals := 0 }) (kPre [.ref h0, .ref pf] D [(h0, .inr (4, [.ref g1, .ref g2, .ref g3, .ref g4, .ref g5, .int 0, .int bo, .int ru, .ref g6, .ref g7]))] [] sz) (kQvW D [(h0, .inr (4, [.ref g1, .ref g2, .ref g3, .ref g4, .ref g5, .int 0, .int bo, .int 0, .ref g6, .ref g7]))] (va_A [(h0, .inr (4, [.ref g1, .ref g2, .ref g3, .ref g4, .ref g5, .int 0, .int bo, .int ru, .ref g6, .ref g7]))] sz)) 0 0 (va_A [(h0, .inr (4, [.ref g1, .ref g2, .ref g3, .ref g4, .ref g5, .int 0, .int bo, .int ru, .ref g6, .ref g7]))] sz) := by
  refine Met.ofW (cc := cX4_choose) (maxL := 4) (ret := none) (by decide) rfl ?_
  intro p e s m args below meth c s₁ B hml hv
  obtain ⟨rfl, hsz, hP, hK, hD0, hN⟩ := hv
  have hx := B.exec
  have hb := B.bytes
  have hr := B.returns
  have hts := atoms_spec (ws := wsX4_choose) B.pre
  have hown : s.vm.findClass RX4 = some m.cls := findClass_of_methodNamed B.named
  have hlocks := B.notSynchronized
  subst hsz
  have hD := hD0.self (sz := s.heap.size)
  generalize hAe : va_A [(h0, .inr (4, [.ref g1, .ref g2, .ref g3, .ref g4, .ref g5, .int 0, .int bo, .int ru, .ref g6, .ref g7]))] s.heap.size = A at hD ⊢
  have hA : ∀ q : Nat, s.heap.size ≤ q → A q := fun q h => by rw [← hAe]; exact Or.inr h
  have hS : va_S A s.heap s.heap [] := va_S.rf
  have hP : va_P D vwCl [(h0, .inr (4, [.ref g1, .ref g2, .ref g3, .ref g4, .ref g5, .int 0, .int bo, .int ru, .ref g6, .ref g7]))] s.heap := hP
  have hl := lv_entry ([.ref h0, .ref pf]) (n := 4) (Nat.le_of_ble_eq_true rfl)
  rw [lg_entry_eq]
  generalize (lg_sl ([.ref h0, .ref pf]) ++ List.replicate (4 - (lg_sl ([.ref h0, .ref pf])).length) Slot.unset).toArray = ls at hl ⊢
  have hl : lv_has ls 4 [(0, .ref h0), (1, .ref pf)] := hl
  refine lv_aload_n hx hb dX4_choose_0 rfl (lv_at hl 0 rfl) ?_
  refine lv_iconst (v := 0) hx hb dX4_choose_1 (by decide) ?_
  refine va_put (D := D) (ci := 4) (v := .int 0) (ty := .int) (C := RX4) (T := TX4) (N := 10) hx hb hts (fun _ h9 => List.mem_cons_of_mem _ (List.mem_append_left _ (List.mem_append_right _ h9))) tyX4 tyX4_ok nmX4 hown hK hP hD hS 0 rfl rfl 7 (by decide) (hts (.fieldLink RX4 59 "FontRuns$Setting" "runs" "I") (by decide +kernel)) (fun _ h9 => h9) rfl (by decide +kernel) rfl rfl (Nat.le_of_ble_eq_true rfl) dX4_choose_2 (fun H locs hP hD hS => ?_)
  have hP : va_P D vwCl [(h0, .inr (4, [.ref g1, .ref g2, .ref g3, .ref g4, .ref g5, .int 0, .int bo, .int 0, .ref g6, .ref g7]))] H := hP
  have hD : va_D A [(h0, .inr (4, [.ref g1, .ref g2, .ref g3, .ref g4, .ref g5, .int 0, .int bo, .int 0, .ref g6, .ref g7]))] := hD
  refine lv_iconst (v := 0) hx hb dX4_choose_5 (by decide) ?_
  refine lv_istore_n (lv' := [(2, .int 0), (0, .ref h0), (1, .ref pf)]) hx hb dX4_choose_6 rfl hl (by decide) rfl (fun ls hl => ?_)
  refine lv_iload_n hx hb dX4_choose_7 rfl (lv_at hl 0 rfl) ?_
  refine lv_aload_n hx hb dX4_choose_8 rfl (lv_at hl 1 rfl) ?_
  refine va_get (D := D) (ci := 4) (v := .int 0) (C := RX4) (T := TX4) (N := 10) hx hb hts (fun _ h9 => List.mem_cons_of_mem _ (List.mem_append_left _ (List.mem_append_right _ h9))) hown hK hP 0 rfl rfl 5 (by decide) (hts (.fieldLink RX4 51 "FontRuns$Setting" "count" "I") (by decide +kernel)) (fun _ h9 => h9) rfl dX4_choose_9 ?_
  refine lv_icmp_ge (tgt := 84) hx hb dX4_choose_12 (by decide) (fun _ => ?_) (fun c9 => absurd (by decide) c9)
  have hP9 := hP.sub (ws' := [(h0, .inr (4, [.ref g1, .ref g2, .ref g3, .ref g4, .ref g5, .int 0, .int bo, .int 0, .ref g6, .ref g7]))]) [0] rfl
  have hD9 := hD.sub (ws' := [(h0, .inr (4, [.ref g1, .ref g2, .ref g3, .ref g4, .ref g5, .int 0, .int bo, .int 0, .ref g6, .ref g7]))]) [0] (by decide) rfl
  exact W.vret hx hb hr (fun t ht hW => kQvW_of (by rw [ht]; exact hP9) hD9 (hS.F ht)) hS.2.2 dX4_choose_84
theorem dX4_make_0 : decode cX4_make 0 = .ok (.aload_n 0, 1) := by decide +kernel
theorem dX4_make_1 : decode cX4_make 1 = .ok (.aload_n 1, 1) := by decide +kernel
theorem dX4_make_2 : decode cX4_make 2 = .ok (.invokevirtual 35, 3) := by decide +kernel
theorem dX4_make_5 : decode cX4_make 5 = .ok (.aload_n 0, 1) := by decide +kernel
theorem dX4_make_6 : decode cX4_make 6 = .ok (.aload_n 2, 1) := by decide +kernel
theorem dX4_make_7 : decode cX4_make 7 = .ok (.iload 4, 2) := by decide +kernel
theorem dX4_make_9 : decode cX4_make 9 = .ok (.invokevirtual 39, 3) := by decide +kernel
theorem dX4_make_12 : decode cX4_make 12 = .ok (.aload_n 0, 1) := by decide +kernel
theorem dX4_make_13 : decode cX4_make 13 = .ok (.iload 4, 2) := by decide +kernel
theorem dX4_make_15 : decode cX4_make 15 = .ok (.invokevirtual 43, 3) := by decide +kernel
theorem dX4_make_18 : decode cX4_make 18 = .ok (.aload_n 0, 1) := by decide +kernel
theorem dX4_make_19 : decode cX4_make 19 = .ok (.aload_n 3, 1) := by decide +kernel
theorem dX4_make_20 : decode cX4_make 20 = .ok (.invokevirtual 47, 3) := by decide +kernel
theorem dX4_make_23 : decode cX4_make 23 = .ok (.return_, 1) := by decide +kernel
set_option maxRecDepth 20000 in
theorem ggX4_make_X4_choose : GoodIn wsX4_make wsX4_choose := goodIn_r _ [37, 38, 6, 39, 40, 41, 42, 43, 4, 44, 45, 46, 29, 47, 48, 49, 50, 51, 52, 53, 54, 55, 56, 63, 64] (by decide +kernel) (by decide +kernel)
set_option maxRecDepth 20000 in
theorem gX4_make_X4_choose : GoodIn wsX4_make (wsV RX4 47 RX4 yX4_choose wsX4_choose) := goodIn_app (goodIn_of _ (by decide +kernel)) ggX4_make_X4_choose
set_option maxRecDepth 20000 in
theorem ggX4_make_X4_cut : GoodIn wsX4_make wsX4_cut := goodIn_r _ [5, 6, 7, 8, 9, 10, 11, 47, 48, 49, 50, 51, 52, 53, 54, 55, 56, 57, 58] (by decide +kernel) (by decide +kernel)
set_option maxRecDepth 20000 in
theorem gX4_make_X4_cut : GoodIn wsX4_make (wsV RX4 35 RX4 yX4_cut wsX4_cut) := goodIn_app (goodIn_of _ (by decide +kernel)) ggX4_make_X4_cut
set_option maxRecDepth 20000 in
theorem ggX4_make_X4_findBehind : GoodIn wsX4_make wsX4_findBehind := goodIn_r _ [28, 6, 17, 29, 30, 31, 32, 33, 47, 48, 49, 50, 51, 52, 53, 54, 55, 56] (by decide +kernel) (by decide +kernel)
set_option maxRecDepth 20000 in
theorem gX4_make_X4_findBehind : GoodIn wsX4_make (wsV RX4 43 RX4 yX4_findBehind wsX4_findBehind) := goodIn_app (goodIn_of _ (by decide +kernel)) ggX4_make_X4_findBehind
set_option maxRecDepth 20000 in
theorem ggX4_make_X4_findFitting : GoodIn wsX4_make wsX4_findFitting := goodIn_r _ [15, 16, 6, 17, 11, 18, 19, 20, 21, 22, 23, 24, 47, 48, 49, 50, 51, 52, 53, 54, 55, 56, 59, 60, 61, 62] (by decide +kernel) (by decide +kernel)
set_option maxRecDepth 20000 in
theorem gX4_make_X4_findFitting : GoodIn wsX4_make (wsV RX4 39 RX4 yX4_findFitting wsX4_findFitting) := goodIn_app (goodIn_of _ (by decide +kernel)) ggX4_make_X4_findFitting
set_option maxHeartbeats 4000000 in
set_option maxRecDepth 100000 in
theorem c_X4_make (l : Launch) (D : va_G) (sz : Nat) (wr : Nat) (fr : Nat) (pf : Nat) (al : Int32) (h0 : Nat) (g1 : Nat) (g2 : Nat) (g3 : Nat) (g4 : Nat) (g5 : Nat) (cn : Int32) (bo : Int32) (ru : Int32) (g6 : Nat) (g7 : Nat) (w1 : Nat) : Met l yX4_make wsX4_make ({ frames := 1, cells := 0, slots := 0, locals := 27 }) (kPre [.ref h0, .ref wr, .ref fr, .ref pf, .int al] D [(h0, .inr (4, [.ref g1, .ref g2, .ref g3, .ref g4, .ref g5, .int cn, .int bo, .int ru, .ref g6, .ref g7])), (wr, .inr (7, [.ref w1, .int 0]))] [] sz) (kQvW D [(h0, .inr (4, [.ref g1, .ref g2, .ref g3, .ref g4, .ref g5, .int 0, .int 0, .int 0, .ref g6, .ref g7])), (wr, .inr (7, [.ref w1, .int 0]))] (va_A [(h0, .inr (4, [.ref g1, .ref g2, .ref g3, .ref g4, .ref g5, .int cn, .int bo, .int ru, .ref g6, .ref g7])), (wr, .inr (7, [.ref w1, .int 0]))] sz)) 0 0 (va_A [(h0, .inr (4, [.ref g1, .ref g2, .ref g3, .ref g4, .ref g5, .int cn, .int bo, .int ru, .ref g6, .ref g7])), (wr, .inr (7, [.ref w1, .int 0]))] sz) := by
  refine Met.ofW (cc := cX4_make) (maxL := 5) (ret := none) (by decide) rfl ?_
  intro p e s m args below meth c s₁ B hml hv
  obtain ⟨rfl, hsz, hP, hK, hD0, hN⟩ := hv
  have hx := B.exec
  have hb := B.bytes
  have hr := B.returns
  have hts := atoms_spec (ws := wsX4_make) B.pre
  have hown : s.vm.findClass RX4 = some m.cls := findClass_of_methodNamed B.named
  have hlocks := B.notSynchronized
  subst hsz
  have hD := hD0.self (sz := s.heap.size)
  generalize hAe : va_A [(h0, .inr (4, [.ref g1, .ref g2, .ref g3, .ref g4, .ref g5, .int cn, .int bo, .int ru, .ref g6, .ref g7])), (wr, .inr (7, [.ref w1, .int 0]))] s.heap.size = A at hD ⊢
  have hA : ∀ q : Nat, s.heap.size ≤ q → A q := fun q h => by rw [← hAe]; exact Or.inr h
  have hS : va_S A s.heap s.heap [] := va_S.rf
  have hP : va_P D vwCl [(h0, .inr (4, [.ref g1, .ref g2, .ref g3, .ref g4, .ref g5, .int cn, .int bo, .int ru, .ref g6, .ref g7])), (wr, .inr (7, [.ref w1, .int 0]))] s.heap := hP
  have hl := lv_entry ([.ref h0, .ref wr, .ref fr, .ref pf, .int al]) (n := 5) (Nat.le_of_ble_eq_true rfl)
  rw [lg_entry_eq]
  generalize (lg_sl ([.ref h0, .ref wr, .ref fr, .ref pf, .int al]) ++ List.replicate (5 - (lg_sl ([.ref h0, .ref wr, .ref fr, .ref pf, .int al])).length) Slot.unset).toArray = ls at hl ⊢
  have hl : lv_has ls 5 [(0, .ref h0), (1, .ref wr), (2, .ref fr), (3, .ref pf), (4, .int al)] := hl
  refine lv_aload_n hx hb dX4_make_0 rfl (lv_at hl 0 rfl) ?_
  refine lv_aload_n hx hb dX4_make_1 rfl (lv_at hl 1 rfl) ?_
  have hFc := va_free (wc := [(h0, .inr (4, [.ref g1, .ref g2, .ref g3, .ref g4, .ref g5, .int cn, .int bo, .int ru, .ref g6, .ref g7])), (wr, .inr (7, [.ref w1, .int 0]))]) hD hS hA [0, 1] rfl
  refine va_callv (va_runV (As := [.ref wr]) (rest := []) ⟨hx, hb, hml, hown, hts⟩ (c_X4_cut l D s.heap.size (wr := wr) (h0 := h0) (g1 := g1) (g2 := g2) (g3 := g3) (g4 := g4) (g5 := g5) (cn := cn) (bo := bo) (ru := ru) (g6 := g6) (g7 := g7) (w1 := w1)) (cwV 1 hts gX4_make_X4_cut rfl rfl rfl (by decide +kernel) ⟨Nat.le_of_ble_eq_true rfl, Nat.le_of_ble_eq_true rfl⟩) (kPreV hP (kD0 hD) hK hN [0, 1] [] rfl rfl (by decide) 0 4 rfl rfl) rfl rfl hl.1 rfl (lv_room (Nat.le_of_ble_eq_true rfl)) dX4_make_2 ⟨Nat.le_of_ble_eq_true rfl, Nat.le_of_ble_eq_true rfl⟩) hS (fun q _ h => hFc q h) hFc (fun  u t H1 locs ht hvm hw hB hz1 hk1 hS => ?_)
  obtain ⟨hP1, hD1⟩ := hB
  rw [ht] at hP1
  obtain ⟨hP, hD⟩ := va_join (wr := []) (w1 := [(h0, .inr (4, [.ref g1, .ref g2, .ref g3, .ref g4, .ref g5, .int 0, .int bo, .int ru, .ref g6, .ref g7])), (wr, .inr (7, [.ref w1, .int 0]))]) hP hD [0, 1] [] rfl rfl (by decide) (by decide) hk1 hFc hP1 hD1
  generalize H1 = H at hP hS ⊢
  have hP : va_P D vwCl [(h0, .inr (4, [.ref g1, .ref g2, .ref g3, .ref g4, .ref g5, .int 0, .int bo, .int ru, .ref g6, .ref g7])), (wr, .inr (7, [.ref w1, .int 0]))] H := hP
  have hD : va_D A [(h0, .inr (4, [.ref g1, .ref g2, .ref g3, .ref g4, .ref g5, .int 0, .int bo, .int ru, .ref g6, .ref g7])), (wr, .inr (7, [.ref w1, .int 0]))] := hD
  refine lv_aload_n hx hb dX4_make_5 rfl (lv_at hl 0 rfl) ?_
  refine lv_aload_n hx hb dX4_make_6 rfl (lv_at hl 2 rfl) ?_
  refine lv_iload hx hb dX4_make_7 (lv_at hl 4 rfl) ?_
  have hFc := va_free (wc := [(h0, .inr (4, [.ref g1, .ref g2, .ref g3, .ref g4, .ref g5, .int 0, .int bo, .int ru, .ref g6, .ref g7]))]) hD hS hA [0] rfl
  refine va_callv (va_runV (As := [.ref fr, .int al]) (rest := []) ⟨hx, hb, hml, hown, hts⟩ (c_X4_findFitting l D H.size (fr := fr) (al := al) (h0 := h0) (g1 := g1) (g2 := g2) (g3 := g3) (g4 := g4) (g5 := g5) (bo := bo) (ru := ru) (g6 := g6) (g7 := g7)) (cwV 2 hts gX4_make_X4_findFitting rfl rfl rfl (by decide +kernel) ⟨Nat.le_of_ble_eq_true rfl, Nat.le_of_ble_eq_true rfl⟩) (kPreV hP (kD0 hD) hK hN [0] [] rfl rfl (by decide) 0 4 rfl rfl) rfl rfl hl.1 rfl (lv_room (Nat.le_of_ble_eq_true rfl)) dX4_make_9 ⟨Nat.le_of_ble_eq_true rfl, Nat.le_of_ble_eq_true rfl⟩) hS (fun q _ h => hFc q h) hFc (fun  u t H1 locs ht hvm hw hB hz1 hk1 hS => ?_)
  obtain ⟨hP1, hD1⟩ := hB
  rw [ht] at hP1
  obtain ⟨hP, hD⟩ := va_join (wr := [(wr, .inr (7, [.ref w1, .int 0]))]) (w1 := [(h0, .inr (4, [.ref g1, .ref g2, .ref g3, .ref g4, .ref g5, .int 0, .int 0, .int ru, .ref g6, .ref g7]))]) hP hD [0] [1] rfl rfl (by decide) (by decide) hk1 hFc hP1 hD1
  generalize H1 = H at hP hS ⊢
  have hP : va_P D vwCl [(wr, .inr (7, [.ref w1, .int 0])), (h0, .inr (4, [.ref g1, .ref g2, .ref g3, .ref g4, .ref g5, .int 0, .int 0, .int ru, .ref g6, .ref g7]))] H := hP
  have hD : va_D A [(wr, .inr (7, [.ref w1, .int 0])), (h0, .inr (4, [.ref g1, .ref g2, .ref g3, .ref g4, .ref g5, .int 0, .int 0, .int ru, .ref g6, .ref g7]))] := hD
  refine lv_aload_n hx hb dX4_make_12 rfl (lv_at hl 0 rfl) ?_
  refine lv_iload hx hb dX4_make_13 (lv_at hl 4 rfl) ?_
  have hFc := va_free (wc := [(h0, .inr (4, [.ref g1, .ref g2, .ref g3, .ref g4, .ref g5, .int 0, .int 0, .int ru, .ref g6, .ref g7]))]) hD hS hA [1] rfl
  refine va_callv (va_runV (As := [.int al]) (rest := []) ⟨hx, hb, hml, hown, hts⟩ (c_X4_findBehind l D H.size (al := al) (h0 := h0) (g1 := g1) (g2 := g2) (g3 := g3) (g4 := g4) (g5 := g5) (bo := 0) (ru := ru) (g6 := g6) (g7 := g7)) (cwV 1 hts gX4_make_X4_findBehind rfl rfl rfl (by decide +kernel) ⟨Nat.le_of_ble_eq_true rfl, Nat.le_of_ble_eq_true rfl⟩) (kPreV hP (kD0 hD) hK hN [1] [] rfl rfl (by decide) 1 4 rfl rfl) rfl rfl hl.1 rfl (lv_room (Nat.le_of_ble_eq_true rfl)) dX4_make_15 ⟨Nat.le_of_ble_eq_true rfl, Nat.le_of_ble_eq_true rfl⟩) hS (fun q _ h => hFc q h) hFc (fun  u t H1 locs ht hvm hw hB hz1 hk1 hS => ?_)
  obtain ⟨hP1, hD1⟩ := hB
  rw [ht] at hP1
  obtain ⟨hP, hD⟩ := va_join (wr := [(wr, .inr (7, [.ref w1, .int 0]))]) (w1 := [(h0, .inr (4, [.ref g1, .ref g2, .ref g3, .ref g4, .ref g5, .int 0, .int 0, .int ru, .ref g6, .ref g7]))]) hP hD [1] [0] rfl rfl (by decide) (by decide) hk1 hFc hP1 hD1
  generalize H1 = H at hP hS ⊢
  have hP : va_P D vwCl [(wr, .inr (7, [.ref w1, .int 0])), (h0, .inr (4, [.ref g1, .ref g2, .ref g3, .ref g4, .ref g5, .int 0, .int 0, .int ru, .ref g6, .ref g7]))] H := hP
  have hD : va_D A [(wr, .inr (7, [.ref w1, .int 0])), (h0, .inr (4, [.ref g1, .ref g2, .ref g3, .ref g4, .ref g5, .int 0, .int 0, .int ru, .ref g6, .ref g7]))] := hD
  refine lv_aload_n hx hb dX4_make_18 rfl (lv_at hl 0 rfl) ?_
  refine lv_aload_n hx hb dX4_make_19 rfl (lv_at hl 3 rfl) ?_
  have hFc := va_free (wc := [(h0, .inr (4, [.ref g1, .ref g2, .ref g3, .ref g4, .ref g5, .int 0, .int 0, .int ru, .ref g6, .ref g7]))]) hD hS hA [1] rfl
  refine va_callv (va_runV (As := [.ref pf]) (rest := []) ⟨hx, hb, hml, hown, hts⟩ (c_X4_choose l D H.size (pf := pf) (h0 := h0) (g1 := g1) (g2 := g2) (g3 := g3) (g4 := g4) (g5 := g5) (bo := 0) (ru := ru) (g6 := g6) (g7 := g7)) (cwV 1 hts gX4_make_X4_choose rfl rfl rfl (by decide +kernel) ⟨Nat.le_of_ble_eq_true rfl, Nat.le_of_ble_eq_true rfl⟩) (kPreV hP (kD0 hD) hK hN [1] [] rfl rfl (by decide) 1 4 rfl rfl) rfl rfl hl.1 rfl (lv_room (Nat.le_of_ble_eq_true rfl)) dX4_make_20 ⟨Nat.le_of_ble_eq_true rfl, Nat.le_of_ble_eq_true rfl⟩) hS (fun q _ h => hFc q h) hFc (fun  u t H1 locs ht hvm hw hB hz1 hk1 hS => ?_)
  obtain ⟨hP1, hD1⟩ := hB
  rw [ht] at hP1
  obtain ⟨hP, hD⟩ := va_join (wr := [(wr, .inr (7, [.ref w1, .int 0]))]) (w1 := [(h0, .inr (4, [.ref g1, .ref g2, .ref g3, .ref g4, .ref g5, .int 0, .int 0, .int 0, .ref g6, .ref g7]))]) hP hD [1] [0] rfl rfl (by decide) (by decide) hk1 hFc hP1 hD1
  generalize H1 = H at hP hS ⊢
  have hP : va_P D vwCl [(wr, .inr (7, [.ref w1, .int 0])), (h0, .inr (4, [.ref g1, .ref g2, .ref g3, .ref g4, .ref g5, .int 0, .int 0, .int 0, .ref g6, .ref g7]))] H := hP
  have hD : va_D A [(wr, .inr (7, [.ref w1, .int 0])), (h0, .inr (4, [.ref g1, .ref g2, .ref g3, .ref g4, .ref g5, .int 0, .int 0, .int 0, .ref g6, .ref g7]))] := hD
  have hP9 := hP.sub (ws' := [(h0, .inr (4, [.ref g1, .ref g2, .ref g3, .ref g4, .ref g5, .int 0, .int 0, .int 0, .ref g6, .ref g7])), (wr, .inr (7, [.ref w1, .int 0]))]) [1, 0] rfl
  have hD9 := hD.sub (ws' := [(h0, .inr (4, [.ref g1, .ref g2, .ref g3, .ref g4, .ref g5, .int 0, .int 0, .int 0, .ref g6, .ref g7])), (wr, .inr (7, [.ref w1, .int 0]))]) [1, 0] (by decide) rfl
  exact W.vret hx hb hr (fun t ht hW => kQvW_of (by rw [ht]; exact hP9) hD9 (hS.F ht)) hS.2.2 dX4_make_23
theorem dX8_settle_0 : decode cX8_settle 0 = .ok (.aload_n 0, 1) := by decide +kernel
theorem dX8_settle_1 : decode cX8_settle 1 = .ok (.getfield 56, 3) := by decide +kernel
theorem dX8_settle_4 : decode cX8_settle 4 = .ok (.aload_n 0, 1) := by decide +kernel
theorem dX8_settle_5 : decode cX8_settle 5 = .ok (.getfield 35, 3) := by decide +kernel
theorem dX8_settle_8 : decode cX8_settle 8 = .ok (.aload_n 0, 1) := by decide +kernel
theorem dX8_settle_9 : decode cX8_settle 9 = .ok (.getfield 28, 3) := by decide +kernel
theorem dX8_settle_12 : decode cX8_settle 12 = .ok (.aload_n 0, 1) := by decide +kernel
theorem dX8_settle_13 : decode cX8_settle 13 = .ok (.getfield 42, 3) := by decide +kernel
theorem dX8_settle_16 : decode cX8_settle 16 = .ok (.aload_n 0, 1) := by decide +kernel
theorem dX8_settle_17 : decode cX8_settle 17 = .ok (.getfield 28, 3) := by decide +kernel
theorem dX8_settle_20 : decode cX8_settle 20 = .ok (.invokevirtual 227, 3) := by decide +kernel
theorem dX8_settle_23 : decode cX8_settle 23 = .ok (.invokevirtual 231, 3) := by decide +kernel
theorem dX8_settle_26 : decode cX8_settle 26 = .ok (.return_, 1) := by decide +kernel
set_option maxRecDepth 20000 in
theorem ggX8_settle_X0_all : GoodIn wsX8_settle wsX0_all := goodIn_r _ [9, 10, 74, 75, 76, 77] (by decide +kernel) (by decide +kernel)
set_option maxRecDepth 20000 in
theorem gX8_settle_X0_all : GoodIn wsX8_settle (wsV RX8 227 RX0 yX0_all wsX0_all) := goodIn_app (goodIn_of _ (by decide +kernel)) ggX8_settle_X0_all
set_option maxRecDepth 20000 in
theorem ggX8_settle_X4_make : GoodIn wsX8_settle wsX4_make := goodIn_r _ [15, 16, 17, 18, 14, 19, 20, 21, 22, 23, 24, 25, 26, 27, 28, 29, 30, 31, 32, 33, 34, 8, 35, 10, 36, 37, 38, 39, 40, 41, 42, 43, 44, 45, 46, 47, 48, 49, 50, 51, 52, 53, 54, 55, 56, 57, 58, 78, 79, 80, 81, 82, 83, 84, 85, 86, 87, 88, 89, 74, 75, 76, 77, 90, 91] (by decide +kernel) (by decide +kernel)
set_option maxRecDepth 20000 in
theorem gX8_settle_X4_make : GoodIn wsX8_settle (wsV RX8 231 RX4 yX4_make wsX4_make) := goodIn_app (goodIn_of _ (by decide +kernel)) ggX8_settle_X4_make
set_option maxHeartbeats 4000000 in
set_option maxRecDepth 100000 in
theorem c_X8_settle (l : Launch) (D : va_G) (sz : Nat) (h0 : Nat) (sh : Nat) (rd : Nat) (fr : Nat) (wr : Nat) (pf : Nat) (rc : Nat) (se : Nat) (rs : Nat) (sw : Nat) (sp : Nat) (ss : Nat) (ew : Int32) (wc : Int64) (tr : Int32) (lf : Int32) (w1 : Nat) (k1 : Nat) (k2 : Nat) (k3 : Nat) (g1 : Nat) (g2 : Nat) (g3 : Nat) (g4 : Nat) (g5 : Nat) (cn : Int32) (bo : Int32) (ru : Int32) (g6 : Nat) (g7 : Nat) : Met l yX8_settle wsX8_settle ({ frames := 2, cells := 0, slots := 0, locals := 51 }) (kPre [.ref h0] D [(h0, .inr (8, [.ref sh, .ref rd, .ref fr, .ref wr, .ref pf, .ref rc, .ref se, .ref rs, .ref sw, .ref sp, .ref ss, .int ew, .long wc, .int tr, .int lf])), (wr, .inr (7, [.ref w1, .int 0])), (fr, .inr (0, [.ref k1, .ref k2, .ref k3, .int 0])), (se, .inr (4, [.ref g1, .ref g2, .ref g3, .ref g4, .ref g5, .int cn, .int bo, .int ru, .ref g6, .ref g7]))] [] sz) (kQvW D [(h0, .inr (8, [.ref sh, .ref rd, .ref fr, .ref wr, .ref pf, .ref rc, .ref se, .ref rs, .ref sw, .ref sp, .ref ss, .int ew, .long wc, .int tr, .int lf])), (wr, .inr (7, [.ref w1, .int 0])), (fr, .inr (0, [.ref k1, .ref k2, .ref k3, .int 0])), (se, .inr (4, [.ref g1, .ref g2, .ref g3, .ref g4, .ref g5, .int 0, .int 0, .int 0, .ref g6, .ref g7]))] (va_A [(h0, .inr (8, [.ref sh, .ref rd, .ref fr, .ref wr, .ref pf, .ref rc, .ref se, .ref rs, .ref sw, .ref sp, .ref ss, .int ew, .long wc, .int tr, .int lf])), (wr, .inr (7, [.ref w1, .int 0])), (fr, .inr (0, [.ref k1, .ref k2, .ref k3, .int 0])), (se, .inr (4, [.ref g1, .ref g2, .ref g3, .ref g4, .ref g5, .int cn, .int bo, .int ru, .ref g6, .ref g7]))] sz)) 0 0 (va_A [(h0, .inr (8, [.ref sh, .ref rd, .ref fr, .ref wr, .ref pf, .ref rc, .ref se, .ref rs, .ref sw, .ref sp, .ref ss, .int ew, .long wc, .int tr, .int lf])), (wr, .inr (7, [.ref w1, .int 0])), (fr, .inr (0, [.ref k1, .ref k2, .ref k3, .int 0])), (se, .inr (4, [.ref g1, .ref g2, .ref g3, .ref g4, .ref g5, .int cn, .int bo, .int ru, .ref g6, .ref g7]))] sz) := by
  refine Met.ofW (cc := cX8_settle) (maxL := 1) (ret := none) (by decide) rfl ?_
  intro p e s m args below meth c s₁ B hml hv
  obtain ⟨rfl, hsz, hP, hK, hD0, hN⟩ := hv
  have hx := B.exec
  have hb := B.bytes
  have hr := B.returns
  have hts := atoms_spec (ws := wsX8_settle) B.pre
  have hown : s.vm.findClass RX8 = some m.cls := findClass_of_methodNamed B.named
  have hlocks := B.notSynchronized
  subst hsz
  have hD := hD0.self (sz := s.heap.size)
  generalize hAe : va_A [(h0, .inr (8, [.ref sh, .ref rd, .ref fr, .ref wr, .ref pf, .ref rc, .ref se, .ref rs, .ref sw, .ref sp, .ref ss, .int ew, .long wc, .int tr, .int lf])), (wr, .inr (7, [.ref w1, .int 0])), (fr, .inr (0, [.ref k1, .ref k2, .ref k3, .int 0])), (se, .inr (4, [.ref g1, .ref g2, .ref g3, .ref g4, .ref g5, .int cn, .int bo, .int ru, .ref g6, .ref g7]))] s.heap.size = A at hD ⊢
  have hA : ∀ q : Nat, s.heap.size ≤ q → A q := fun q h => by rw [← hAe]; exact Or.inr h
  have hS : va_S A s.heap s.heap [] := va_S.rf
  have hP : va_P D vwCl [(h0, .inr (8, [.ref sh, .ref rd, .ref fr, .ref wr, .ref pf, .ref rc, .ref se, .ref rs, .ref sw, .ref sp, .ref ss, .int ew, .long wc, .int tr, .int lf])), (wr, .inr (7, [.ref w1, .int 0])), (fr, .inr (0, [.ref k1, .ref k2, .ref k3, .int 0])), (se, .inr (4, [.ref g1, .ref g2, .ref g3, .ref g4, .ref g5, .int cn, .int bo, .int ru, .ref g6, .ref g7]))] s.heap := hP
  have hl := lv_entry ([.ref h0]) (n := 1) (Nat.le_of_ble_eq_true rfl)
  rw [lg_entry_eq]
  generalize (lg_sl ([.ref h0]) ++ List.replicate (1 - (lg_sl ([.ref h0])).length) Slot.unset).toArray = ls at hl ⊢
  have hl : lv_has ls 1 [(0, .ref h0)] := hl
  refine lv_aload_n hx hb dX8_settle_0 rfl (lv_at hl 0 rfl) ?_
  refine va_get (D := D) (ci := 8) (v := .ref se) (C := RX8) (T := TX8) (N := 15) hx hb hts (fun _ h9 => List.mem_cons_of_mem _ (List.mem_append_left _ (List.mem_append_left _ (List.mem_append_left _ (List.mem_append_left _ (List.mem_append_right _ h9)))))) hown hK hP 0 rfl rfl 6 (by decide) (hts (.fieldLink RX8 56 "FontRuns" "setting" "LFontRuns$Setting;") (by decide +kernel)) (fun _ h9 => h9) rfl dX8_settle_1 ?_
  refine lv_aload_n hx hb dX8_settle_4 rfl (lv_at hl 0 rfl) ?_
  refine va_get (D := D) (ci := 8) (v := .ref wr) (C := RX8) (T := TX8) (N := 15) hx hb hts (fun _ h9 => List.mem_cons_of_mem _ (List.mem_append_left _ (List.mem_append_left _ (List.mem_append_left _ (List.mem_append_left _ (List.mem_append_right _ h9)))))) hown hK hP 0 rfl rfl 3 (by decide) (hts (.fieldLink RX8 35 "FontRuns" "writing" "LFontRuns$Writing;") (by decide +kernel)) (fun _ h9 => h9) rfl dX8_settle_5 ?_
  refine lv_aload_n hx hb dX8_settle_8 rfl (lv_at hl 0 rfl) ?_
  refine va_get (D := D) (ci := 8) (v := .ref fr) (C := RX8) (T := TX8) (N := 15) hx hb hts (fun _ h9 => List.mem_cons_of_mem _ (List.mem_append_left _ (List.mem_append_left _ (List.mem_append_left _ (List.mem_append_left _ (List.mem_append_right _ h9)))))) hown hK hP 0 rfl rfl 2 (by decide) (hts (.fieldLink RX8 28 "FontRuns" "fontRow" "LFontRuns$FontRow;") (by decide +kernel)) (fun _ h9 => h9) rfl dX8_settle_9 ?_
  refine lv_aload_n hx hb dX8_settle_12 rfl (lv_at hl 0 rfl) ?_
  refine va_get (D := D) (ci := 8) (v := .ref pf) (C := RX8) (T := TX8) (N := 15) hx hb hts (fun _ h9 => List.mem_cons_of_mem _ (List.mem_append_left _ (List.mem_append_left _ (List.mem_append_left _ (List.mem_append_left _ (List.mem_append_right _ h9)))))) hown hK hP 0 rfl rfl 4 (by decide) (hts (.fieldLink RX8 42 "FontRuns" "preference" "LFontRuns$Preference;") (by decide +kernel)) (fun _ h9 => h9) rfl dX8_settle_13 ?_
  refine lv_aload_n hx hb dX8_settle_16 rfl (lv_at hl 0 rfl) ?_
  refine va_get (D := D) (ci := 8) (v := .ref fr) (C := RX8) (T := TX8) (N := 15) hx hb hts (fun _ h9 => List.mem_cons_of_mem _ (List.mem_append_left _ (List.mem_append_left _ (List.mem_append_left _ (List.mem_append_left _ (List.mem_append_right _ h9)))))) hown hK hP 0 rfl rfl 2 (by decide) (hts (.fieldLink RX8 28 "FontRuns" "fontRow" "LFontRuns$FontRow;") (by decide +kernel)) (fun _ h9 => h9) rfl dX8_settle_17 ?_
  refine k_callR (va_runV (As := []) (rest := [.ref pf, .ref fr, .ref wr, .ref se]) ⟨hx, hb, hml, hown, hts⟩ (c_X0_all l D s.heap.size (h0 := fr) (k1 := k1) (k2 := k2) (k3 := k3)) (cwV 0 hts gX8_settle_X0_all rfl rfl rfl (by decide +kernel) ⟨Nat.le_of_ble_eq_true rfl, Nat.le_of_ble_eq_true rfl⟩) (kPreV hP (kD0 hD) hK hN [2] [] rfl rfl (by decide) 2 0 rfl rfl) rfl rfl hl.1 rfl (lv_room (Nat.le_of_ble_eq_true rfl)) dX8_settle_20 ⟨Nat.le_of_ble_eq_true rfl, Nat.le_of_ble_eq_true rfl⟩) ?_
  have hFc := va_free (wc := [(se, .inr (4, [.ref g1, .ref g2, .ref g3, .ref g4, .ref g5, .int cn, .int bo, .int ru, .ref g6, .ref g7])), (wr, .inr (7, [.ref w1, .int 0]))]) hD hS hA [3, 1] rfl
  refine va_callv (va_runV (As := [.ref wr, .ref fr, .ref pf, .int 0]) (rest := []) ⟨hx, hb, hml, hown, hts⟩ (c_X4_make l D s.heap.size (wr := wr) (fr := fr) (pf := pf) (al := 0) (h0 := se) (g1 := g1) (g2 := g2) (g3 := g3) (g4 := g4) (g5 := g5) (cn := cn) (bo := bo) (ru := ru) (g6 := g6) (g7 := g7) (w1 := w1)) (cwV 4 hts gX8_settle_X4_make rfl rfl rfl (by decide +kernel) ⟨Nat.le_of_ble_eq_true rfl, Nat.le_of_ble_eq_true rfl⟩) (kPreV hP (kD0 hD) hK hN [3, 1] [] rfl rfl (by decide) 3 4 rfl rfl) rfl rfl hl.1 rfl (lv_room (Nat.le_of_ble_eq_true rfl)) dX8_settle_23 ⟨Nat.le_of_ble_eq_true rfl, Nat.le_of_ble_eq_true rfl⟩) hS (fun q _ h => hFc q h) hFc (fun  u t H1 locs ht hvm hw hB hz1 hk1 hS => ?_)
  obtain ⟨hP1, hD1⟩ := hB
  rw [ht] at hP1
  obtain ⟨hP, hD⟩ := va_join (wr := [(h0, .inr (8, [.ref sh, .ref rd, .ref fr, .ref wr, .ref pf, .ref rc, .ref se, .ref rs, .ref sw, .ref sp, .ref ss, .int ew, .long wc, .int tr, .int lf])), (fr, .inr (0, [.ref k1, .ref k2, .ref k3, .int 0]))]) (w1 := [(se, .inr (4, [.ref g1, .ref g2, .ref g3, .ref g4, .ref g5, .int 0, .int 0, .int 0, .ref g6, .ref g7])), (wr, .inr (7, [.ref w1, .int 0]))]) hP hD [3, 1] [0, 2] rfl rfl (by decide) (by decide) hk1 hFc hP1 hD1
  generalize H1 = H at hP hS ⊢
  have hP : va_P D vwCl [(h0, .inr (8, [.ref sh, .ref rd, .ref fr, .ref wr, .ref pf, .ref rc, .ref se, .ref rs, .ref sw, .ref sp, .ref ss, .int ew, .long wc, .int tr, .int lf])), (fr, .inr (0, [.ref k1, .ref k2, .ref k3, .int 0])), (se, .inr (4, [.ref g1, .ref g2, .ref g3, .ref g4, .ref g5, .int 0, .int 0, .int 0, .ref g6, .ref g7])), (wr, .inr (7, [.ref w1, .int 0]))] H := hP
  have hD : va_D A [(h0, .inr (8, [.ref sh, .ref rd, .ref fr, .ref wr, .ref pf, .ref rc, .ref se, .ref rs, .ref sw, .ref sp, .ref ss, .int ew, .long wc, .int tr, .int lf])), (fr, .inr (0, [.ref k1, .ref k2, .ref k3, .int 0])), (se, .inr (4, [.ref g1, .ref g2, .ref g3, .ref g4, .ref g5, .int 0, .int 0, .int 0, .ref g6, .ref g7])), (wr, .inr (7, [.ref w1, .int 0]))] := hD
  have hP9 := hP.sub (ws' := [(h0, .inr (8, [.ref sh, .ref rd, .ref fr, .ref wr, .ref pf, .ref rc, .ref se, .ref rs, .ref sw, .ref sp, .ref ss, .int ew, .long wc, .int tr, .int lf])), (wr, .inr (7, [.ref w1, .int 0])), (fr, .inr (0, [.ref k1, .ref k2, .ref k3, .int 0])), (se, .inr (4, [.ref g1, .ref g2, .ref g3, .ref g4, .ref g5, .int 0, .int 0, .int 0, .ref g6, .ref g7]))]) [0, 3, 1, 2] rfl
  have hD9 := hD.sub (ws' := [(h0, .inr (8, [.ref sh, .ref rd, .ref fr, .ref wr, .ref pf, .ref rc, .ref se, .ref rs, .ref sw, .ref sp, .ref ss, .int ew, .long wc, .int tr, .int lf])), (wr, .inr (7, [.ref w1, .int 0])), (fr, .inr (0, [.ref k1, .ref k2, .ref k3, .int 0])), (se, .inr (4, [.ref g1, .ref g2, .ref g3, .ref g4, .ref g5, .int 0, .int 0, .int 0, .ref g6, .ref g7]))]) [0, 3, 1, 2] (by decide) rfl
  exact W.vret hx hb hr (fun t ht hW => kQvW_of (by rw [ht]; exact hP9) hD9 (hS.F ht)) hS.2.2 dX8_settle_26
theorem dX8_erase_0 : decode cX8_erase 0 = .ok (.iload_n 1, 1) := by decide +kernel
theorem dX8_erase_1 : decode cX8_erase 1 = .ok (.iconst 0, 1) := by decide +kernel
theorem dX8_erase_2 : decode cX8_erase 2 = .ok (.aload_n 0, 1) := by decide +kernel
theorem dX8_erase_3 : decode cX8_erase 3 = .ok (.getfield 35, 3) := by decide +kernel
theorem dX8_erase_6 : decode cX8_erase 6 = .ok (.getfield 139, 3) := by decide +kernel
theorem dX8_erase_9 : decode cX8_erase 9 = .ok (.invokestatic 128, 3) := by decide +kernel
theorem dX8_erase_12 : decode cX8_erase 12 = .ok (.ifCond .ne 6, 3) := by decide +kernel
theorem dX8_erase_15 : decode cX8_erase 15 = .ok (.bipush (-2), 2) := by decide +kernel
theorem dX8_erase_17 : decode cX8_erase 17 = .ok (.ireturn, 1) := by decide +kernel
theorem dX8_erase_18 : decode cX8_erase 18 = .ok (.aload_n 0, 1) := by decide +kernel
theorem dX8_erase_19 : decode cX8_erase 19 = .ok (.getfield 35, 3) := by decide +kernel
theorem dX8_erase_22 : decode cX8_erase 22 = .ok (.iload_n 1, 1) := by decide +kernel
theorem dX8_erase_23 : decode cX8_erase 23 = .ok (.invokevirtual 163, 3) := by decide +kernel
theorem dX8_erase_26 : decode cX8_erase 26 = .ok (.pop, 1) := by decide +kernel
theorem dX8_erase_27 : decode cX8_erase 27 = .ok (.aload_n 0, 1) := by decide +kernel
theorem dX8_erase_28 : decode cX8_erase 28 = .ok (.invokevirtual 146, 3) := by decide +kernel
theorem dX8_erase_31 : decode cX8_erase 31 = .ok (.aload_n 0, 1) := by decide +kernel
theorem dX8_erase_32 : decode cX8_erase 32 = .ok (.getfield 35, 3) := by decide +kernel
theorem dX8_erase_35 : decode cX8_erase 35 = .ok (.getfield 139, 3) := by decide +kernel
theorem dX8_erase_38 : decode cX8_erase 38 = .ok (.ireturn, 1) := by decide +kernel
set_option maxRecDepth 20000 in
theorem ggX8_erase_X7_drop : GoodIn wsX8_erase wsX7_drop := goodIn_r _ [11, 12, 4, 5, 6, 89, 90] (by decide +kernel) (by decide +kernel)
set_option maxRecDepth 20000 in
theorem gX8_erase_X7_drop : GoodIn wsX8_erase (wsV RX8 163 RX7 yX7_drop wsX7_drop) := goodIn_app (goodIn_of _ (by decide +kernel)) ggX8_erase_X7_drop
set_option maxRecDepth 20000 in
theorem ggX8_erase_X8_isWithin : GoodIn wsX8_erase wsX8_isWithin := goodIn_r _ [6] (by decide +kernel) (by decide +kernel)
set_option maxRecDepth 20000 in
theorem gX8_erase_X8_isWithin : GoodIn wsX8_erase (va_wsS RX8 128 yX8_isWithin wsX8_isWithin) := goodIn_app (goodIn_of _ (by decide +kernel)) ggX8_erase_X8_isWithin
set_option maxRecDepth 20000 in
theorem ggX8_erase_X8_settle : GoodIn wsX8_erase wsX8_settle := goodIn_r _ [16, 17, 1, 18, 19, 20, 21, 22, 23, 24, 25, 26, 27, 28, 29, 30, 31, 32, 33, 34, 35, 36, 37, 38, 39, 40, 41, 42, 43, 44, 45, 46, 47, 48, 49, 50, 51, 52, 53, 54, 55, 56, 57, 58, 59, 60, 61, 62, 63, 64, 65, 66, 67, 68, 69, 70, 71, 72, 73, 74, 75, 76, 77, 78, 79, 80, 81, 82, 83, 84, 85, 86, 87, 88, 91, 92, 93, 94, 95, 96, 97, 98, 99, 100, 101, 102, 103, 104, 89, 90, 105, 106] (by decide +kernel) (by decide +kernel)
set_option maxRecDepth 20000 in
theorem gX8_erase_X8_settle : GoodIn wsX8_erase (wsV RX8 146 RX8 yX8_settle wsX8_settle) := goodIn_app (goodIn_of _ (by decide +kernel)) ggX8_erase_X8_settle
set_option maxHeartbeats 4000000 in
set_option maxRecDepth 100000 in
theorem c_X8_erase (l : Launch) (D : va_G) (sz : Nat) (n : Int32) (h0 : Nat) (sh : Nat) (rd : Nat) (fr : Nat) (wr : Nat) (pf : Nat) (rc : Nat) (se : Nat) (rs : Nat) (sw : Nat) (sp : Nat) (ss : Nat) (ew : Int32) (wc : Int64) (tr : Int32) (lf : Int32) (w1 : Nat) (k1 : Nat) (k2 : Nat) (k3 : Nat) (g1 : Nat) (g2 : Nat) (g3 : Nat) (g4 : Nat) (g5 : Nat) (cn : Int32) (bo : Int32) (ru : Int32) (g6 : Nat) (g7 : Nat) : Met l yX8_erase wsX8_erase ({ frames := 3, cells := 0, slots := 0, locals := 71 }) (kPre [.ref h0, .int n] D [(h0, .inr (8, [.ref sh, .ref rd, .ref fr, .ref wr, .ref pf, .ref rc, .ref se, .ref rs, .ref sw, .ref sp, .ref ss, .int ew, .long wc, .int tr, .int lf])), (wr, .inr (7, [.ref w1, .int 0])), (fr, .inr (0, [.ref k1, .ref k2, .ref k3, .int 0])), (se, .inr (4, [.ref g1, .ref g2, .ref g3, .ref g4, .ref g5, .int cn, .int bo, .int ru, .ref g6, .ref g7]))] [] sz) (kQi (sp_zero n) (va_A [(h0, .inr (8, [.ref sh, .ref rd, .ref fr, .ref wr, .ref pf, .ref rc, .ref se, .ref rs, .ref sw, .ref sp, .ref ss, .int ew, .long wc, .int tr, .int lf])), (wr, .inr (7, [.ref w1, .int 0])), (fr, .inr (0, [.ref k1, .ref k2, .ref k3, .int 0])), (se, .inr (4, [.ref g1, .ref g2, .ref g3, .ref g4, .ref g5, .int cn, .int bo, .int ru, .ref g6, .ref g7]))] sz)) 0 0 (va_A [(h0, .inr (8, [.ref sh, .ref rd, .ref fr, .ref wr, .ref pf, .ref rc, .ref se, .ref rs, .ref sw, .ref sp, .ref ss, .int ew, .long wc, .int tr, .int lf])), (wr, .inr (7, [.ref w1, .int 0])), (fr, .inr (0, [.ref k1, .ref k2, .ref k3, .int 0])), (se, .inr (4, [.ref g1, .ref g2, .ref g3, .ref g4, .ref g5, .int cn, .int bo, .int ru, .ref g6, .ref g7]))] sz) := by
  refine Met.ofW (cc := cX8_erase) (maxL := 2) (ret := (some .int)) (by decide) rfl ?_
  intro p e s m args below meth c s₁ B hml hv
  obtain ⟨rfl, hsz, hP, hK, hD0, hN⟩ := hv
  have hx := B.exec
  have hb := B.bytes
  have hr := B.returns
  have hts := atoms_spec (ws := wsX8_erase) B.pre
  have hown : s.vm.findClass RX8 = some m.cls := findClass_of_methodNamed B.named
  have hlocks := B.notSynchronized
  subst hsz
  have hD := hD0.self (sz := s.heap.size)
  generalize hAe : va_A [(h0, .inr (8, [.ref sh, .ref rd, .ref fr, .ref wr, .ref pf, .ref rc, .ref se, .ref rs, .ref sw, .ref sp, .ref ss, .int ew, .long wc, .int tr, .int lf])), (wr, .inr (7, [.ref w1, .int 0])), (fr, .inr (0, [.ref k1, .ref k2, .ref k3, .int 0])), (se, .inr (4, [.ref g1, .ref g2, .ref g3, .ref g4, .ref g5, .int cn, .int bo, .int ru, .ref g6, .ref g7]))] s.heap.size = A at hD ⊢
  have hA : ∀ q : Nat, s.heap.size ≤ q → A q := fun q h => by rw [← hAe]; exact Or.inr h
  have hS : va_S A s.heap s.heap [] := va_S.rf
  have hP : va_P D vwCl [(h0, .inr (8, [.ref sh, .ref rd, .ref fr, .ref wr, .ref pf, .ref rc, .ref se, .ref rs, .ref sw, .ref sp, .ref ss, .int ew, .long wc, .int tr, .int lf])), (wr, .inr (7, [.ref w1, .int 0])), (fr, .inr (0, [.ref k1, .ref k2, .ref k3, .int 0])), (se, .inr (4, [.ref g1, .ref g2, .ref g3, .ref g4, .ref g5, .int cn, .int bo, .int ru, .ref g6, .ref g7]))] s.heap := hP
  have hl := lv_entry ([.ref h0, .int n]) (n := 2) (Nat.le_of_ble_eq_true rfl)
  rw [lg_entry_eq]
  generalize (lg_sl ([.ref h0, .int n]) ++ List.replicate (2 - (lg_sl ([.ref h0, .int n])).length) Slot.unset).toArray = ls at hl ⊢
  have hl : lv_has ls 2 [(0, .ref h0), (1, .int n)] := hl
  refine lv_iload_n hx hb dX8_erase_0 rfl (lv_at hl 1 rfl) ?_
  refine lv_iconst (v := 0) hx hb dX8_erase_1 (by decide) ?_
  refine lv_aload_n hx hb dX8_erase_2 rfl (lv_at hl 0 rfl) ?_
  refine va_get (D := D) (ci := 8) (v := .ref wr) (C := RX8) (T := TX8) (N := 15) hx hb hts (fun _ h9 => List.mem_cons_of_mem _ (List.mem_append_left _ (List.mem_append_left _ (List.mem_append_left _ (List.mem_append_left _ (List.mem_append_right _ h9)))))) hown hK hP 0 rfl rfl 3 (by decide) (hts (.fieldLink RX8 35 "FontRuns" "writing" "LFontRuns$Writing;") (by decide +kernel)) (fun _ h9 => h9) rfl dX8_erase_3 ?_
  refine va_get (D := D) (ci := 7) (v := .int 0) (C := RX7) (T := TX7) (N := 2) hx hb hts (fun _ h9 => List.mem_cons_of_mem _ (List.mem_append_left _ (List.mem_append_left _ (List.mem_append_left _ (List.mem_append_right _ h9))))) hown hK hP 1 rfl rfl 1 (by decide) (hts (.fieldLink RX8 139 "FontRuns$Writing" "count" "I") (by decide +kernel)) (fun _ h9 => h9) rfl dX8_erase_6 ?_
  refine k_callR (va_runS (As := [.int n, .int 0, .int 0]) (rest := []) ⟨hx, hb, hml, hown, hts⟩ (c_X8_isWithin l D s.heap.size (v := n) (a := 0) (b := 0)) (va_cwS 3 hts gX8_erase_X8_isWithin rfl rfl rfl (by decide +kernel) ⟨Nat.le_of_ble_eq_true rfl, Nat.le_of_ble_eq_true rfl⟩) (kPreS hP (kD0 hD) hK hN [] [] rfl rfl (by decide)) rfl rfl hl.1 rfl (lv_room (Nat.le_of_ble_eq_true rfl)) dX8_erase_9 ⟨Nat.le_of_ble_eq_true rfl, Nat.le_of_ble_eq_true rfl⟩) ?_
  refine lv_if_ne (tgt := 18) hx hb dX8_erase_12 (by decide) (fun c_1 => ?_) (fun c_1 => ?_)
  · have k_2 : (0 ≤ n ∧ n ≤ 0) := b01t c_1
    have e9 := kz1 k_2
    subst e9
    refine lv_aload_n hx hb dX8_erase_18 rfl (lv_at hl 0 rfl) ?_
    refine va_get (D := D) (ci := 8) (v := .ref wr) (C := RX8) (T := TX8) (N := 15) hx hb hts (fun _ h9 => List.mem_cons_of_mem _ (List.mem_append_left _ (List.mem_append_left _ (List.mem_append_left _ (List.mem_append_left _ (List.mem_append_right _ h9)))))) hown hK hP 0 rfl rfl 3 (by decide) (hts (.fieldLink RX8 35 "FontRuns" "writing" "LFontRuns$Writing;") (by decide +kernel)) (fun _ h9 => h9) rfl dX8_erase_19 ?_
    refine lv_iload_n hx hb dX8_erase_22 rfl (lv_at hl 1 rfl) ?_
    have hFc := va_free (wc := [(wr, .inr (7, [.ref w1, .int 0]))]) hD hS hA [1] rfl
    refine va_calli (va_runV (As := [.int 0]) (rest := []) ⟨hx, hb, hml, hown, hts⟩ (c_X7_drop l D s.heap.size (h0 := wr) (w1 := w1)) (cwV 1 hts gX8_erase_X7_drop rfl rfl rfl (by decide +kernel) ⟨Nat.le_of_ble_eq_true rfl, Nat.le_of_ble_eq_true rfl⟩) (kPreV hP (kD0 hD) hK hN [1] [] rfl rfl (by decide) 1 7 rfl rfl) rfl rfl hl.1 rfl (lv_room (Nat.le_of_ble_eq_true rfl)) dX8_erase_23 ⟨Nat.le_of_ble_eq_true rfl, Nat.le_of_ble_eq_true rfl⟩) hS (fun q _ h => hFc q h) hFc (fun r_3 u t H1 locs ht hvm hw hB hz1 hk1 hS => ?_)
    obtain ⟨hP1, hD1⟩ := hB
    rw [ht] at hP1
    obtain ⟨hP, hD⟩ := va_join (wr := [(h0, .inr (8, [.ref sh, .ref rd, .ref fr, .ref wr, .ref pf, .ref rc, .ref se, .ref rs, .ref sw, .ref sp, .ref ss, .int ew, .long wc, .int tr, .int lf])), (fr, .inr (0, [.ref k1, .ref k2, .ref k3, .int 0])), (se, .inr (4, [.ref g1, .ref g2, .ref g3, .ref g4, .ref g5, .int cn, .int bo, .int ru, .ref g6, .ref g7]))]) (w1 := [(wr, .inr (7, [.ref w1, .int 0]))]) hP hD [1] [0, 2, 3] rfl rfl (by decide) (by decide) hk1 hFc hP1 hD1
    generalize H1 = H at hP hS ⊢
    have hP : va_P D vwCl [(h0, .inr (8, [.ref sh, .ref rd, .ref fr, .ref wr, .ref pf, .ref rc, .ref se, .ref rs, .ref sw, .ref sp, .ref ss, .int ew, .long wc, .int tr, .int lf])), (fr, .inr (0, [.ref k1, .ref k2, .ref k3, .int 0])), (se, .inr (4, [.ref g1, .ref g2, .ref g3, .ref g4, .ref g5, .int cn, .int bo, .int ru, .ref g6, .ref g7])), (wr, .inr (7, [.ref w1, .int 0]))] H := hP
    have hD : va_D A [(h0, .inr (8, [.ref sh, .ref rd, .ref fr, .ref wr, .ref pf, .ref rc, .ref se, .ref rs, .ref sw, .ref sp, .ref ss, .int ew, .long wc, .int tr, .int lf])), (fr, .inr (0, [.ref k1, .ref k2, .ref k3, .int 0])), (se, .inr (4, [.ref g1, .ref g2, .ref g3, .ref g4, .ref g5, .int cn, .int bo, .int ru, .ref g6, .ref g7])), (wr, .inr (7, [.ref w1, .int 0]))] := hD
    refine kn_i 1 hw ?_
    refine lv_pop hx hb dX8_erase_26 rfl ?_
    refine lv_aload_n hx hb dX8_erase_27 rfl (lv_at hl 0 rfl) ?_
    have hFc := va_free (wc := [(h0, .inr (8, [.ref sh, .ref rd, .ref fr, .ref wr, .ref pf, .ref rc, .ref se, .ref rs, .ref sw, .ref sp, .ref ss, .int ew, .long wc, .int tr, .int lf])), (wr, .inr (7, [.ref w1, .int 0])), (fr, .inr (0, [.ref k1, .ref k2, .ref k3, .int 0])), (se, .inr (4, [.ref g1, .ref g2, .ref g3, .ref g4, .ref g5, .int cn, .int bo, .int ru, .ref g6, .ref g7]))]) hD hS hA [0, 3, 1, 2] rfl
    refine va_callv (va_runV (As := []) (rest := []) ⟨hx, hb, hml, hown, hts⟩ (c_X8_settle l D H.size (h0 := h0) (sh := sh) (rd := rd) (fr := fr) (wr := wr) (pf := pf) (rc := rc) (se := se) (rs := rs) (sw := sw) (sp := sp) (ss := ss) (ew := ew) (wc := wc) (tr := tr) (lf := lf) (w1 := w1) (k1 := k1) (k2 := k2) (k3 := k3) (g1 := g1) (g2 := g2) (g3 := g3) (g4 := g4) (g5 := g5) (cn := cn) (bo := bo) (ru := ru) (g6 := g6) (g7 := g7)) (cwV 0 hts gX8_erase_X8_settle rfl rfl rfl (by decide +kernel) ⟨Nat.le_of_ble_eq_true rfl, Nat.le_of_ble_eq_true rfl⟩) (kPreV hP (kD0 hD) hK hN [0, 3, 1, 2] [] rfl rfl (by decide) 0 8 rfl rfl) rfl rfl hl.1 rfl (lv_room (Nat.le_of_ble_eq_true rfl)) dX8_erase_28 ⟨Nat.le_of_ble_eq_true rfl, Nat.le_of_ble_eq_true rfl⟩) hS (fun q _ h => hFc q h) hFc (fun  u t H1 locs ht hvm hw hB hz1 hk1 hS => ?_)
    obtain ⟨hP1, hD1⟩ := hB
    rw [ht] at hP1
    obtain ⟨hP, hD⟩ := va_join (wr := []) (w1 := [(h0, .inr (8, [.ref sh, .ref rd, .ref fr, .ref wr, .ref pf, .ref rc, .ref se, .ref rs, .ref sw, .ref sp, .ref ss, .int ew, .long wc, .int tr, .int lf])), (wr, .inr (7, [.ref w1, .int 0])), (fr, .inr (0, [.ref k1, .ref k2, .ref k3, .int 0])), (se, .inr (4, [.ref g1, .ref g2, .ref g3, .ref g4, .ref g5, .int 0, .int 0, .int 0, .ref g6, .ref g7]))]) hP hD [0, 3, 1, 2] [] rfl rfl (by decide) (by decide) hk1 hFc hP1 hD1
    generalize H1 = H at hP hS ⊢
    have hP : va_P D vwCl [(h0, .inr (8, [.ref sh, .ref rd, .ref fr, .ref wr, .ref pf, .ref rc, .ref se, .ref rs, .ref sw, .ref sp, .ref ss, .int ew, .long wc, .int tr, .int lf])), (wr, .inr (7, [.ref w1, .int 0])), (fr, .inr (0, [.ref k1, .ref k2, .ref k3, .int 0])), (se, .inr (4, [.ref g1, .ref g2, .ref g3, .ref g4, .ref g5, .int 0, .int 0, .int 0, .ref g6, .ref g7]))] H := hP
    have hD : va_D A [(h0, .inr (8, [.ref sh, .ref rd, .ref fr, .ref wr, .ref pf, .ref rc, .ref se, .ref rs, .ref sw, .ref sp, .ref ss, .int ew, .long wc, .int tr, .int lf])), (wr, .inr (7, [.ref w1, .int 0])), (fr, .inr (0, [.ref k1, .ref k2, .ref k3, .int 0])), (se, .inr (4, [.ref g1, .ref g2, .ref g3, .ref g4, .ref g5, .int 0, .int 0, .int 0, .ref g6, .ref g7]))] := hD
    refine lv_aload_n hx hb dX8_erase_31 rfl (lv_at hl 0 rfl) ?_
    refine va_get (D := D) (ci := 8) (v := .ref wr) (C := RX8) (T := TX8) (N := 15) hx hb hts (fun _ h9 => List.mem_cons_of_mem _ (List.mem_append_left _ (List.mem_append_left _ (List.mem_append_left _ (List.mem_append_left _ (List.mem_append_right _ h9)))))) hown hK hP 0 rfl rfl 3 (by decide) (hts (.fieldLink RX8 35 "FontRuns" "writing" "LFontRuns$Writing;") (by decide +kernel)) (fun _ h9 => h9) rfl dX8_erase_32 ?_
    refine va_get (D := D) (ci := 7) (v := .int 0) (C := RX7) (T := TX7) (N := 2) hx hb hts (fun _ h9 => List.mem_cons_of_mem _ (List.mem_append_left _ (List.mem_append_left _ (List.mem_append_left _ (List.mem_append_right _ h9))))) hown hK hP 1 rfl rfl 1 (by decide) (hts (.fieldLink RX8 139 "FontRuns$Writing" "count" "I") (by decide +kernel)) (fun _ h9 => h9) rfl dX8_erase_35 ?_
    exact W.iret (v := 0) hx hb hr (fun t ht hW => kQi_of (by first | rfl | (simp only [sp_zero, if_pos k_2]; done) | (simp [sp_zero, k_2]; done)) (hS.F ht)) hS.2.2 dX8_erase_38
  · have k_4 : ¬ ((0 ≤ n ∧ n ≤ 0)) := b01f c_1
    refine lv_bipush (v := (-2)) hx hb dX8_erase_15 (by decide) ?_
    exact W.iret (v := (-2)) hx hb hr (fun t ht hW => kQi_of (by first | rfl | (simp only [sp_zero, if_neg k_4]; done) | (simp [sp_zero, k_4]; done)) (hS.F ht)) hS.2.2 dX8_erase_17
end
section
theorem dX5_begin_0 : decode cX5_begin 0 = .ok (.iconst 0, 1) := by decide +kernel
theorem dX5_begin_1 : decode cX5_begin 1 = .ok (.istore_n 3, 1) := by decide +kernel
theorem dX5_begin_2 : decode cX5_begin 2 = .ok (.iload_n 3, 1) := by decide +kernel
theorem dX5_begin_3 : decode cX5_begin 3 = .ok (.bipush 60, 2) := by decide +kernel
theorem dX5_begin_5 : decode cX5_begin 5 = .ok (.if_icmp .ge 16, 3) := by decide +kernel
theorem dX5_begin_8 : decode cX5_begin 8 = .ok (.aload_n 0, 1) := by decide +kernel
theorem dX5_begin_9 : decode cX5_begin 9 = .ok (.getfield 9, 3) := by decide +kernel
theorem dX5_begin_12 : decode cX5_begin 12 = .ok (.iload_n 3, 1) := by decide +kernel
theorem dX5_begin_13 : decode cX5_begin 13 = .ok (.iconst 0, 1) := by decide +kernel
theorem dX5_begin_14 : decode cX5_begin 14 = .ok (.iastore, 1) := by decide +kernel
theorem dX5_begin_15 : decode cX5_begin 15 = .ok (.iinc 3 1, 3) := by decide +kernel
theorem dX5_begin_18 : decode cX5_begin 18 = .ok (.goto (-16), 3) := by decide +kernel
theorem dX5_begin_21 : decode cX5_begin 21 = .ok (.aload_n 0, 1) := by decide +kernel
theorem dX5_begin_22 : decode cX5_begin 22 = .ok (.iconst 1, 1) := by decide +kernel
theorem dX5_begin_23 : decode cX5_begin 23 = .ok (.putfield 15, 3) := by decide +kernel
theorem dX5_begin_26 : decode cX5_begin 26 = .ok (.aload_n 0, 1) := by decide +kernel
theorem dX5_begin_27 : decode cX5_begin 27 = .ok (.iload_n 1, 1) := by decide +kernel
theorem dX5_begin_28 : decode cX5_begin 28 = .ok (.putfield 19, 3) := by decide +kernel
theorem dX5_begin_31 : decode cX5_begin 31 = .ok (.aload_n 0, 1) := by decide +kernel
theorem dX5_begin_32 : decode cX5_begin 32 = .ok (.iload_n 2, 1) := by decide +kernel
theorem dX5_begin_33 : decode cX5_begin 33 = .ok (.putfield 23, 3) := by decide +kernel
theorem dX5_begin_36 : decode cX5_begin 36 = .ok (.return_, 1) := by decide +kernel
set_option maxHeartbeats 4000000 in
set_option maxRecDepth 100000 in
theorem c_X5_begin (l : Launch) (D : va_G) (sz : Nat) (la : Int32) (n : Int32) (h0 : Nat) (e0 : Nat) (th : Int32) (ln : Int32) (sz0 : Int32) (ce : ClassId) (f0 : Nat → Int32) : Met l yX5_begin wsX5_begin ({ frames := 0, cells := 0, slots := 0, locals := 0 }) (kPre [.ref h0, .int la, .int n] D [(h0, .inr (5, [.ref e0, .int th, .int ln, .int sz0])), (e0, .inl (ce, 60, .inl f0))] [(ce, .int)] sz) (kQvW D [] (va_A [(h0, .inr (5, [.ref e0, .int th, .int ln, .int sz0])), (e0, .inl (ce, 60, .inl f0))] sz)) 0 0 (va_A [(h0, .inr (5, [.ref e0, .int th, .int ln, .int sz0])), (e0, .inl (ce, 60, .inl f0))] sz) := by
  refine Met.ofW (cc := cX5_begin) (maxL := 4) (ret := none) (by decide) rfl ?_
  intro p e s m args below meth c s₁ B hml hv
  obtain ⟨rfl, hsz, hP, hK, hD0, hN⟩ := hv
  have hx := B.exec
  have hb := B.bytes
  have hr := B.returns
  have hts := atoms_spec (ws := wsX5_begin) B.pre
  have hown : s.vm.findClass RX5 = some m.cls := findClass_of_methodNamed B.named
  have hlocks := B.notSynchronized
  subst hsz
  have hD := hD0.self (sz := s.heap.size)
  generalize hAe : va_A [(h0, .inr (5, [.ref e0, .int th, .int ln, .int sz0])), (e0, .inl (ce, 60, .inl f0))] s.heap.size = A at hD ⊢
  have hA : ∀ q : Nat, s.heap.size ≤ q → A q := fun q h => by rw [← hAe]; exact Or.inr h
  have hS : va_S A s.heap s.heap [] := va_S.rf
  have hP : va_P D vwCl [(h0, .inr (5, [.ref e0, .int th, .int ln, .int sz0])), (e0, .inl (ce, 60, .inl f0))] s.heap := hP
  have hl := lv_entry ([.ref h0, .int la, .int n]) (n := 4) (Nat.le_of_ble_eq_true rfl)
  rw [lg_entry_eq]
  generalize (lg_sl ([.ref h0, .int la, .int n]) ++ List.replicate (4 - (lg_sl ([.ref h0, .int la, .int n])).length) Slot.unset).toArray = ls at hl ⊢
  have hl : lv_has ls 4 [(0, .ref h0), (1, .int la), (2, .int n)] := hl
  refine lv_iconst (v := 0) hx hb dX5_begin_0 (by decide) ?_
  refine lv_istore_n (lv' := [(3, .int 0), (0, .ref h0), (1, .int la), (2, .int n)]) hx hb dX5_begin_1 rfl hl (by decide) rfl (fun ls hl => ?_)
  refine k_loop (I := fun j H locs ls => ∃ f9 : Nat → Int32, va_P D vwCl [(h0, .inr (5, [.ref e0, .int th, .int ln, .int sz0])), (e0, .inl (ce, 60, .inl f9))] H ∧ va_D A [(h0, .inr (5, [.ref e0, .int th, .int ln, .int sz0])), (e0, .inl (ce, 60, .inl f9))] ∧ va_S A s.heap H locs ∧ lv_has ls 4 [(3, .int (nI j)), (0, .ref h0), (1, .int la), (2, .int n)]) 60 ?_ 0 (by decide) ⟨_, hP, hD, hS, by rw [nI_0]; exact hl⟩
  intro j hj ih H locs ls hI
  obtain ⟨f9, hP, hD, hS, hl⟩ := hI
  refine lv_iload_n hx hb dX5_begin_2 rfl (lv_at hl 0 rfl) ?_
  refine lv_bipush (v := 60) hx hb dX5_begin_3 (by decide) ?_
  refine lv_icmp_ge (tgt := 21) hx hb dX5_begin_5 (by decide) (fun c_1 => ?_) (fun c_1 => ?_)
  · refine lv_aload_n hx hb dX5_begin_21 rfl (lv_at hl 1 rfl) ?_
    refine lv_iconst (v := 1) hx hb dX5_begin_22 (by decide) ?_
    refine va_put (D := D) (ci := 5) (v := .int 1) (ty := .boolean) (C := RX5) (T := TX5) (N := 4) hx hb hts (fun _ h9 => List.mem_cons_of_mem _ (List.mem_append_right _ h9)) tyX5 tyX5_ok nmX5 hown hK hP hD hS 0 rfl rfl 1 (by decide) (hts (.fieldLink RX5 15 "FontRuns$Sheet" "isThere" "Z") (by decide +kernel)) (fun _ h9 => h9) rfl (by decide +kernel) rfl rfl (Nat.le_of_ble_eq_true rfl) dX5_begin_23 (fun H locs hP hD hS => ?_)
    have hP : va_P D vwCl [(h0, .inr (5, [.ref e0, .int 1, .int ln, .int sz0])), (e0, .inl (ce, 60, .inl f9))] H := hP
    have hD : va_D A [(h0, .inr (5, [.ref e0, .int 1, .int ln, .int sz0])), (e0, .inl (ce, 60, .inl f9))] := hD
    refine lv_aload_n hx hb dX5_begin_26 rfl (lv_at hl 1 rfl) ?_
    refine lv_iload_n hx hb dX5_begin_27 rfl (lv_at hl 2 rfl) ?_
    refine va_put (D := D) (ci := 5) (v := .int la) (ty := .int) (C := RX5) (T := TX5) (N := 4) hx hb hts (fun _ h9 => List.mem_cons_of_mem _ (List.mem_append_right _ h9)) tyX5 tyX5_ok nmX5 hown hK hP hD hS 0 rfl rfl 2 (by decide) (hts (.fieldLink RX5 19 "FontRuns$Sheet" "lane" "I") (by decide +kernel)) (fun _ h9 => h9) rfl (by decide +kernel) rfl rfl (Nat.le_of_ble_eq_true rfl) dX5_begin_28 (fun H locs hP hD hS => ?_)
    have hP : va_P D vwCl [(h0, .inr (5, [.ref e0, .int 1, .int la, .int sz0])), (e0, .inl (ce, 60, .inl f9))] H := hP
    have hD : va_D A [(h0, .inr (5, [.ref e0, .int 1, .int la, .int sz0])), (e0, .inl (ce, 60, .inl f9))] := hD
    refine lv_aload_n hx hb dX5_begin_31 rfl (lv_at hl 1 rfl) ?_
    refine lv_iload_n hx hb dX5_begin_32 rfl (lv_at hl 3 rfl) ?_
    refine va_put (D := D) (ci := 5) (v := .int n) (ty := .int) (C := RX5) (T := TX5) (N := 4) hx hb hts (fun _ h9 => List.mem_cons_of_mem _ (List.mem_append_right _ h9)) tyX5 tyX5_ok nmX5 hown hK hP hD hS 0 rfl rfl 3 (by decide) (hts (.fieldLink RX5 23 "FontRuns$Sheet" "size" "I") (by decide +kernel)) (fun _ h9 => h9) rfl (by decide +kernel) rfl rfl (Nat.le_of_ble_eq_true rfl) dX5_begin_33 (fun H locs hP hD hS => ?_)
    have hP : va_P D vwCl [(h0, .inr (5, [.ref e0, .int 1, .int la, .int n])), (e0, .inl (ce, 60, .inl f9))] H := hP
    have hD : va_D A [(h0, .inr (5, [.ref e0, .int 1, .int la, .int n])), (e0, .inl (ce, 60, .inl f9))] := hD
    have hP9 := hP.sub (ws' := []) [] rfl
    have hD9 := hD.sub (ws' := []) [] (by decide) rfl
    exact W.vret hx hb hr (fun t ht hW => kQvW_of (by rw [ht]; exact hP9) hD9 (hS.F ht)) hS.2.2 dX5_begin_36
  · refine lv_aload_n hx hb dX5_begin_8 rfl (lv_at hl 1 rfl) ?_
    refine va_get (D := D) (ci := 5) (v := .ref e0) (C := RX5) (T := TX5) (N := 4) hx hb hts (fun _ h9 => List.mem_cons_of_mem _ (List.mem_append_right _ h9)) hown hK hP 0 rfl rfl 0 (by decide) (hts (.fieldLink RX5 9 "FontRuns$Sheet" "cells" "[I") (by decide +kernel)) (fun _ h9 => h9) rfl dX5_begin_9 ?_
    refine lv_iload_n hx hb dX5_begin_12 rfl (lv_at hl 0 rfl) ?_
    refine lv_iconst (v := 0) hx hb dX5_begin_13 (by decide) ?_
    refine va_iast hx hb hK hP hD hS 1 0 rfl rfl (k60in c_1 hj) dX5_begin_14 (fun H locs hP hD hS => ?_)
    have hP : va_P D vwCl [(h0, .inr (5, [.ref e0, .int th, .int ln, .int sz0])), (e0, .inl (ce, 60, .inl (upd (f9) ((nI j)).toNatClampNeg 0)))] H := hP
    have hD : va_D A [(h0, .inr (5, [.ref e0, .int th, .int ln, .int sz0])), (e0, .inl (ce, 60, .inl (upd (f9) ((nI j)).toNatClampNeg 0)))] := hD
    generalize upd (f9) ((nI j)).toNatClampNeg 0 = f_2 at hP hD
    obtain ⟨x_3, ex_3⟩ : ∃ y : Int32, y = (nI j) + 1 := ⟨_, rfl⟩
    refine lv_iinc (v := x_3) (lv' := [(3, .int x_3), (0, .ref h0), (1, .int la), (2, .int n)]) hx hb dX5_begin_15 hl (k := 0) rfl (by rw [ex_3]; rfl) (by decide) rfl (fun ls hl => ?_)
    refine lv_goto (tgt := 2) hx hb dX5_begin_18 (by decide) ?_
    exact ih _ _ _ (klt60 c_1 hj) ⟨_, hP, hD, hS, by rw [← nI_1, ← ex_3]; exact lv_sub hl [0, 1, 2, 3] rfl⟩
theorem dX8_sheet_0 : decode cX8_sheet 0 = .ok (.aload_n 0, 1) := by decide +kernel
theorem dX8_sheet_1 : decode cX8_sheet 1 = .ok (.iconst 0, 1) := by decide +kernel
theorem dX8_sheet_2 : decode cX8_sheet 2 = .ok (.putfield 76, 3) := by decide +kernel
theorem dX8_sheet_5 : decode cX8_sheet 5 = .ok (.iload_n 1, 1) := by decide +kernel
theorem dX8_sheet_6 : decode cX8_sheet 6 = .ok (.invokestatic 80, 3) := by decide +kernel
theorem dX8_sheet_9 : decode cX8_sheet 9 = .ok (.ifCond .ne 5, 3) := by decide +kernel
theorem dX8_sheet_12 : decode cX8_sheet 12 = .ok (.iconst (-1), 1) := by decide +kernel
theorem dX8_sheet_13 : decode cX8_sheet 13 = .ok (.ireturn, 1) := by decide +kernel
theorem dX8_sheet_14 : decode cX8_sheet 14 = .ok (.iload_n 2, 1) := by decide +kernel
theorem dX8_sheet_15 : decode cX8_sheet 15 = .ok (.invokestatic 84, 3) := by decide +kernel
theorem dX8_sheet_18 : decode cX8_sheet 18 = .ok (.ifCond .eq 9, 3) := by decide +kernel
theorem dX8_sheet_21 : decode cX8_sheet 21 = .ok (.iload_n 3, 1) := by decide +kernel
theorem dX8_sheet_22 : decode cX8_sheet 22 = .ok (.bipush 60, 2) := by decide +kernel
theorem dX8_sheet_24 : decode cX8_sheet 24 = .ok (.if_icmp .le 6, 3) := by decide +kernel
theorem dX8_sheet_27 : decode cX8_sheet 27 = .ok (.bipush (-2), 2) := by decide +kernel
theorem dX8_sheet_29 : decode cX8_sheet 29 = .ok (.ireturn, 1) := by decide +kernel
theorem dX8_sheet_30 : decode cX8_sheet 30 = .ok (.iload_n 3, 1) := by decide +kernel
theorem dX8_sheet_31 : decode cX8_sheet 31 = .ok (.ifCond .ge 9, 3) := by decide +kernel
theorem dX8_sheet_34 : decode cX8_sheet 34 = .ok (.aload_n 0, 1) := by decide +kernel
theorem dX8_sheet_35 : decode cX8_sheet 35 = .ok (.iconst 4, 1) := by decide +kernel
theorem dX8_sheet_36 : decode cX8_sheet 36 = .ok (.invokevirtual 95, 3) := by decide +kernel
theorem dX8_sheet_39 : decode cX8_sheet 39 = .ok (.ireturn, 1) := by decide +kernel
theorem dX8_sheet_40 : decode cX8_sheet 40 = .ok (.aload_n 0, 1) := by decide +kernel
theorem dX8_sheet_41 : decode cX8_sheet 41 = .ok (.getfield 13, 3) := by decide +kernel
theorem dX8_sheet_44 : decode cX8_sheet 44 = .ok (.iload_n 1, 1) := by decide +kernel
theorem dX8_sheet_45 : decode cX8_sheet 45 = .ok (.aaload, 1) := by decide +kernel
theorem dX8_sheet_46 : decode cX8_sheet 46 = .ok (.iload_n 2, 1) := by decide +kernel
theorem dX8_sheet_47 : decode cX8_sheet 47 = .ok (.iload_n 3, 1) := by decide +kernel
theorem dX8_sheet_48 : decode cX8_sheet 48 = .ok (.invokevirtual 285, 3) := by decide +kernel
theorem dX8_sheet_51 : decode cX8_sheet 51 = .ok (.iconst 1, 1) := by decide +kernel
theorem dX8_sheet_52 : decode cX8_sheet 52 = .ok (.ireturn, 1) := by decide +kernel
set_option maxRecDepth 20000 in
theorem ggX8_sheet_X5_begin : GoodIn wsX8_sheet wsX5_begin := goodIn_r _ [21, 22, 23, 24, 25, 41, 42, 43, 44] (by decide +kernel) (by decide +kernel)
set_option maxRecDepth 20000 in
theorem gX8_sheet_X5_begin : GoodIn wsX8_sheet (wsV RX8 285 RX5 yX5_begin wsX5_begin) := goodIn_app (goodIn_of _ (by decide +kernel)) ggX8_sheet_X5_begin
set_option maxRecDepth 20000 in
theorem ggX8_sheet_X8_failWith : GoodIn wsX8_sheet wsX8_failWith := goodIn_r _ [16, 1, 26, 27, 28, 29, 30, 31, 32, 33, 34, 35, 36, 37, 38, 39, 40] (by decide +kernel) (by decide +kernel)
set_option maxRecDepth 20000 in
theorem gX8_sheet_X8_failWith : GoodIn wsX8_sheet (wsV RX8 95 RX8 yX8_failWith wsX8_failWith) := goodIn_app (goodIn_of _ (by decide +kernel)) ggX8_sheet_X8_failWith
set_option maxRecDepth 20000 in
theorem ggX8_sheet_X8_isLane : GoodIn wsX8_sheet wsX8_isLane := goodIn_r _ [12, 7, 8, 5, 9] (by decide +kernel) (by decide +kernel)
set_option maxRecDepth 20000 in
theorem gX8_sheet_X8_isLane : GoodIn wsX8_sheet (va_wsS RX8 84 yX8_isLane wsX8_isLane) := goodIn_app (goodIn_of _ (by decide +kernel)) ggX8_sheet_X8_isLane
set_option maxRecDepth 20000 in
theorem ggX8_sheet_X8_isSheet : GoodIn wsX8_sheet wsX8_isSheet := goodIn_r _ [6, 7, 8, 5, 9] (by decide +kernel) (by decide +kernel)
set_option maxRecDepth 20000 in
theorem gX8_sheet_X8_isSheet : GoodIn wsX8_sheet (va_wsS RX8 80 yX8_isSheet wsX8_isSheet) := goodIn_app (goodIn_of _ (by decide +kernel)) ggX8_sheet_X8_isSheet
set_option maxHeartbeats 4000000 in
set_option maxRecDepth 100000 in
theorem c_X8_sheet (l : Launch) (D : va_G) (sz : Nat) (k : Int32) (n : Int32) (z : Int32) (h0 : Nat) (sh : Nat) (rd : Nat) (fr : Nat) (wr : Nat) (pf : Nat) (rc : Nat) (se : Nat) (rs : Nat) (sw : Nat) (sp : Nat) (ss : Nat) (ew : Int32) (wc : Int64) (tr : Int32) (lf : Int32) (cS : ClassId) (s0 : Nat) (s1 : Nat) (s2 : Nat) (s3 : Nat) (e0 : Nat) (e1 : Nat) (e2 : Nat) (e3 : Nat) (ce0 : ClassId) (fe0 : Nat → Int32) (ce1 : ClassId) (fe1 : Nat → Int32) (ce2 : ClassId) (fe2 : Nat → Int32) (ce3 : ClassId) (fe3 : Nat → Int32) : Met l yX8_sheet wsX8_sheet ({ frames := 2, cells := 0, slots := 0, locals := 42 }) (kPre [.ref h0, .int k, .int n, .int z] D [(h0, .inr (8, [.ref sh, .ref rd, .ref fr, .ref wr, .ref pf, .ref rc, .ref se, .ref rs, .ref sw, .ref sp, .ref ss, .int ew, .long wc, .int tr, .int lf])), (sh, .inl (cS, 4, .inr (.inr (.inr (.inr (va_up (va_up (va_up (va_up (fun _ => none) 0 (some s0)) 1 (some s1)) 2 (some s2)) 3 (some s3))))))), (s0, .inr (5, [.ref e0, .int 0, .int 0, .int 0])), (s1, .inr (5, [.ref e1, .int 0, .int 0, .int 0])), (s2, .inr (5, [.ref e2, .int 0, .int 0, .int 0])), (s3, .inr (5, [.ref e3, .int 0, .int 0, .int 0])), (e0, .inl (ce0, 60, .inl fe0)), (e1, .inl (ce1, 60, .inl fe1)), (e2, .inl (ce2, 60, .inl fe2)), (e3, .inl (ce3, 60, .inl fe3))] [(cS, .object RX5), (ce0, .int), (ce1, .int), (ce2, .int), (ce3, .int)] sz) (kQi (sp_sheet k n z) (va_A [(h0, .inr (8, [.ref sh, .ref rd, .ref fr, .ref wr, .ref pf, .ref rc, .ref se, .ref rs, .ref sw, .ref sp, .ref ss, .int ew, .long wc, .int tr, .int lf])), (sh, .inl (cS, 4, .inr (.inr (.inr (.inr (va_up (va_up (va_up (va_up (fun _ => none) 0 (some s0)) 1 (some s1)) 2 (some s2)) 3 (some s3))))))), (s0, .inr (5, [.ref e0, .int 0, .int 0, .int 0])), (s1, .inr (5, [.ref e1, .int 0, .int 0, .int 0])), (s2, .inr (5, [.ref e2, .int 0, .int 0, .int 0])), (s3, .inr (5, [.ref e3, .int 0, .int 0, .int 0])), (e0, .inl (ce0, 60, .inl fe0)), (e1, .inl (ce1, 60, .inl fe1)), (e2, .inl (ce2, 60, .inl fe2)), (e3, .inl (ce3, 60, .inl fe3))] sz)) 0 0 (va_A [(h0, .inr (8, [.ref sh, .ref rd, .ref fr, .ref wr, .ref pf, .ref rc, .ref se, .ref rs, .ref sw, .ref sp, .ref ss, .int ew, .long wc, .int tr, .int lf])), (sh, .inl (cS, 4, .inr (.inr (.inr (.inr (va_up (va_up (va_up (va_up (fun _ => none) 0 (some s0)) 1 (some s1)) 2 (some s2)) 3 (some s3))))))), (s0, .inr (5, [.ref e0, .int 0, .int 0, .int 0])), (s1, .inr (5, [.ref e1, .int 0, .int 0, .int 0])), (s2, .inr (5, [.ref e2, .int 0, .int 0, .int 0])), (s3, .inr (5, [.ref e3, .int 0, .int 0, .int 0])), (e0, .inl (ce0, 60, .inl fe0)), (e1, .inl (ce1, 60, .inl fe1)), (e2, .inl (ce2, 60, .inl fe2)), (e3, .inl (ce3, 60, .inl fe3))] sz) := by
  refine Met.ofW (cc := cX8_sheet) (maxL := 4) (ret := (some .int)) (by decide) rfl ?_
  intro p e s m args below meth c s₁ B hml hv
  obtain ⟨rfl, hsz, hP, hK, hD0, hN⟩ := hv
  have hx := B.exec
  have hb := B.bytes
  have hr := B.returns
  have hts := atoms_spec (ws := wsX8_sheet) B.pre
  have hown : s.vm.findClass RX8 = some m.cls := findClass_of_methodNamed B.named
  have hlocks := B.notSynchronized
  subst hsz
  have hD := hD0.self (sz := s.heap.size)
  generalize hAe : va_A [(h0, .inr (8, [.ref sh, .ref rd, .ref fr, .ref wr, .ref pf, .ref rc, .ref se, .ref rs, .ref sw, .ref sp, .ref ss, .int ew, .long wc, .int tr, .int lf])), (sh, .inl (cS, 4, .inr (.inr (.inr (.inr (va_up (va_up (va_up (va_up (fun _ => none) 0 (some s0)) 1 (some s1)) 2 (some s2)) 3 (some s3))))))), (s0, .inr (5, [.ref e0, .int 0, .int 0, .int 0])), (s1, .inr (5, [.ref e1, .int 0, .int 0, .int 0])), (s2, .inr (5, [.ref e2, .int 0, .int 0, .int 0])), (s3, .inr (5, [.ref e3, .int 0, .int 0, .int 0])), (e0, .inl (ce0, 60, .inl fe0)), (e1, .inl (ce1, 60, .inl fe1)), (e2, .inl (ce2, 60, .inl fe2)), (e3, .inl (ce3, 60, .inl fe3))] s.heap.size = A at hD ⊢
  have hA : ∀ q : Nat, s.heap.size ≤ q → A q := fun q h => by rw [← hAe]; exact Or.inr h
  have hS : va_S A s.heap s.heap [] := va_S.rf
  have hP : va_P D vwCl [(h0, .inr (8, [.ref sh, .ref rd, .ref fr, .ref wr, .ref pf, .ref rc, .ref se, .ref rs, .ref sw, .ref sp, .ref ss, .int ew, .long wc, .int tr, .int lf])), (sh, .inl (cS, 4, .inr (.inr (.inr (.inr (va_up (va_up (va_up (va_up (fun _ => none) 0 (some s0)) 1 (some s1)) 2 (some s2)) 3 (some s3))))))), (s0, .inr (5, [.ref e0, .int 0, .int 0, .int 0])), (s1, .inr (5, [.ref e1, .int 0, .int 0, .int 0])), (s2, .inr (5, [.ref e2, .int 0, .int 0, .int 0])), (s3, .inr (5, [.ref e3, .int 0, .int 0, .int 0])), (e0, .inl (ce0, 60, .inl fe0)), (e1, .inl (ce1, 60, .inl fe1)), (e2, .inl (ce2, 60, .inl fe2)), (e3, .inl (ce3, 60, .inl fe3))] s.heap := hP
  have hl := lv_entry ([.ref h0, .int k, .int n, .int z]) (n := 4) (Nat.le_of_ble_eq_true rfl)
  rw [lg_entry_eq]
  generalize (lg_sl ([.ref h0, .int k, .int n, .int z]) ++ List.replicate (4 - (lg_sl ([.ref h0, .int k, .int n, .int z])).length) Slot.unset).toArray = ls at hl ⊢
  have hl : lv_has ls 4 [(0, .ref h0), (1, .int k), (2, .int n), (3, .int z)] := hl
  refine lv_aload_n hx hb dX8_sheet_0 rfl (lv_at hl 0 rfl) ?_
  refine lv_iconst (v := 0) hx hb dX8_sheet_1 (by decide) ?_
  refine va_put (D := D) (ci := 8) (v := .int 0) (ty := .int) (C := RX8) (T := TX8) (N := 15) hx hb hts (fun _ h9 => List.mem_cons_of_mem _ (List.mem_append_left _ (List.mem_append_right _ h9))) tyX8 tyX8_ok nmX8 hown hK hP hD hS 0 rfl rfl 14 (by decide) (hts (.fieldLink RX8 76 "FontRuns" "latestFault" "I") (by decide +kernel)) (fun _ h9 => h9) rfl (by decide +kernel) rfl rfl (Nat.le_of_ble_eq_true rfl) dX8_sheet_2 (fun H locs hP hD hS => ?_)
  have hP : va_P D vwCl [(h0, .inr (8, [.ref sh, .ref rd, .ref fr, .ref wr, .ref pf, .ref rc, .ref se, .ref rs, .ref sw, .ref sp, .ref ss, .int ew, .long wc, .int tr, .int 0])), (sh, .inl (cS, 4, .inr (.inr (.inr (.inr (va_up (va_up (va_up (va_up (fun _ => none) 0 (some s0)) 1 (some s1)) 2 (some s2)) 3 (some s3))))))), (s0, .inr (5, [.ref e0, .int 0, .int 0, .int 0])), (s1, .inr (5, [.ref e1, .int 0, .int 0, .int 0])), (s2, .inr (5, [.ref e2, .int 0, .int 0, .int 0])), (s3, .inr (5, [.ref e3, .int 0, .int 0, .int 0])), (e0, .inl (ce0, 60, .inl fe0)), (e1, .inl (ce1, 60, .inl fe1)), (e2, .inl (ce2, 60, .inl fe2)), (e3, .inl (ce3, 60, .inl fe3))] H := hP
  have hD : va_D A [(h0, .inr (8, [.ref sh, .ref rd, .ref fr, .ref wr, .ref pf, .ref rc, .ref se, .ref rs, .ref sw, .ref sp, .ref ss, .int ew, .long wc, .int tr, .int 0])), (sh, .inl (cS, 4, .inr (.inr (.inr (.inr (va_up (va_up (va_up (va_up (fun _ => none) 0 (some s0)) 1 (some s1)) 2 (some s2)) 3 (some s3))))))), (s0, .inr (5, [.ref e0, .int 0, .int 0, .int 0])), (s1, .inr (5, [.ref e1, .int 0, .int 0, .int 0])), (s2, .inr (5, [.ref e2, .int 0, .int 0, .int 0])), (s3, .inr (5, [.ref e3, .int 0, .int 0, .int 0])), (e0, .inl (ce0, 60, .inl fe0)), (e1, .inl (ce1, 60, .inl fe1)), (e2, .inl (ce2, 60, .inl fe2)), (e3, .inl (ce3, 60, .inl fe3))] := hD
  refine lv_iload_n hx hb dX8_sheet_5 rfl (lv_at hl 1 rfl) ?_
  refine k_callR (va_runS (As := [.int k]) (rest := []) ⟨hx, hb, hml, hown, hts⟩ (c_X8_isSheet l D H.size (k := k)) (va_cwS 1 hts gX8_sheet_X8_isSheet rfl rfl rfl (by decide +kernel) ⟨Nat.le_of_ble_eq_true rfl, Nat.le_of_ble_eq_true rfl⟩) (kPreS hP (kD0 hD) hK hN [] [] rfl rfl (by decide)) rfl rfl hl.1 rfl (lv_room (Nat.le_of_ble_eq_true rfl)) dX8_sheet_6 ⟨Nat.le_of_ble_eq_true rfl, Nat.le_of_ble_eq_true rfl⟩) ?_
  refine lv_if_ne (tgt := 14) hx hb dX8_sheet_9 (by decide) (fun c_1 => ?_) (fun c_1 => ?_)
  · have k_2 : (0 ≤ k ∧ k ≤ 3) := b01t c_1
    refine lv_iload_n hx hb dX8_sheet_14 rfl (lv_at hl 2 rfl) ?_
    refine k_callR (va_runS (As := [.int n]) (rest := []) ⟨hx, hb, hml, hown, hts⟩ (c_X8_isLane l D H.size (k := n)) (va_cwS 1 hts gX8_sheet_X8_isLane rfl rfl rfl (by decide +kernel) ⟨Nat.le_of_ble_eq_true rfl, Nat.le_of_ble_eq_true rfl⟩) (kPreS hP (kD0 hD) hK hN [] [] rfl rfl (by decide)) rfl rfl hl.1 rfl (lv_room (Nat.le_of_ble_eq_true rfl)) dX8_sheet_15 ⟨Nat.le_of_ble_eq_true rfl, Nat.le_of_ble_eq_true rfl⟩) ?_
    refine lv_if_eq (tgt := 27) hx hb dX8_sheet_18 (by decide) (fun c_3 => ?_) (fun c_3 => ?_)
    · have k_4 : ¬ ((0 ≤ n ∧ n ≤ 2)) := b01f c_3
      refine lv_bipush (v := (-2)) hx hb dX8_sheet_27 (by decide) ?_
      exact W.iret (v := (-2)) hx hb hr (fun t ht hW => kQi_of (by simp only [sp_sheet, if_pos k_2, if_neg k_4]) (hS.F ht)) hS.2.2 dX8_sheet_29
    · have k_5 : (0 ≤ n ∧ n ≤ 2) := b01t c_3
      refine lv_iload_n hx hb dX8_sheet_21 rfl (lv_at hl 3 rfl) ?_
      refine lv_bipush (v := 60) hx hb dX8_sheet_22 (by decide) ?_
      refine lv_icmp_le (tgt := 30) hx hb dX8_sheet_24 (by decide) (fun c_6 => ?_) (fun c_6 => ?_)
      · refine lv_iload_n hx hb dX8_sheet_30 rfl (lv_at hl 3 rfl) ?_
        refine lv_if_ge (tgt := 40) hx hb dX8_sheet_31 (by decide) (fun c_7 => ?_) (fun c_7 => ?_)
        · refine lv_aload_n hx hb dX8_sheet_40 rfl (lv_at hl 0 rfl) ?_
          refine va_get (D := D) (ci := 8) (v := .ref sh) (C := RX8) (T := TX8) (N := 15) hx hb hts (fun _ h9 => List.mem_cons_of_mem _ (List.mem_append_left _ (List.mem_append_right _ h9))) hown hK hP 0 rfl rfl 0 (by decide) (hts (.fieldLink RX8 13 "FontRuns" "sheets" "[LFontRuns$Sheet;") (by decide +kernel)) (fun _ h9 => h9) rfl dX8_sheet_41 ?_
          refine lv_iload_n hx hb dX8_sheet_44 rfl (lv_at hl 1 rfl) ?_
          refine va_aldq hx hb hK hP 1 0 rfl rfl (k4in k_2) dX8_sheet_45 ?_
          rcases (k4 k_2) with e9 | e9 | e9 | e9
          · subst e9
            refine kn_v (.ref s0) rfl ?_
            refine lv_iload_n hx hb dX8_sheet_46 rfl (lv_at hl 2 rfl) ?_
            refine lv_iload_n hx hb dX8_sheet_47 rfl (lv_at hl 3 rfl) ?_
            have hFc := va_free (wc := [(s0, .inr (5, [.ref e0, .int 0, .int 0, .int 0])), (e0, .inl (ce0, 60, .inl fe0))]) hD hS hA [2, 6] rfl
            refine va_callv (va_runV (As := [.int n, .int z]) (rest := []) ⟨hx, hb, hml, hown, hts⟩ (c_X5_begin l D H.size (la := n) (n := z) (h0 := s0) (e0 := e0) (th := 0) (ln := 0) (sz0 := 0) (ce := ce0) (f0 := fe0)) (cwV 2 hts gX8_sheet_X5_begin rfl rfl rfl (by decide +kernel) ⟨Nat.le_of_ble_eq_true rfl, Nat.le_of_ble_eq_true rfl⟩) (kPreV hP (kD0 hD) hK hN [2, 6] [1] rfl rfl (by decide) 2 5 rfl rfl) rfl rfl hl.1 rfl (lv_room (Nat.le_of_ble_eq_true rfl)) dX8_sheet_48 ⟨Nat.le_of_ble_eq_true rfl, Nat.le_of_ble_eq_true rfl⟩) hS (fun q _ h => hFc q h) hFc (fun  u t H1 locs ht hvm hw hB hz1 hk1 hS => ?_)
            obtain ⟨hP1, hD1⟩ := hB
            rw [ht] at hP1
            obtain ⟨hP, hD⟩ := va_join (wr := [(h0, .inr (8, [.ref sh, .ref rd, .ref fr, .ref wr, .ref pf, .ref rc, .ref se, .ref rs, .ref sw, .ref sp, .ref ss, .int ew, .long wc, .int tr, .int 0])), (sh, .inl (cS, 4, .inr (.inr (.inr (.inr (va_up (va_up (va_up (va_up (fun _ => none) 0 (some s0)) 1 (some s1)) 2 (some s2)) 3 (some s3))))))), (s1, .inr (5, [.ref e1, .int 0, .int 0, .int 0])), (s2, .inr (5, [.ref e2, .int 0, .int 0, .int 0])), (s3, .inr (5, [.ref e3, .int 0, .int 0, .int 0])), (e1, .inl (ce1, 60, .inl fe1)), (e2, .inl (ce2, 60, .inl fe2)), (e3, .inl (ce3, 60, .inl fe3))]) (w1 := []) hP hD [2, 6] [0, 1, 3, 4, 5, 7, 8, 9] rfl rfl (by decide) (by decide) hk1 hFc hP1 hD1
            generalize H1 = H at hP hS ⊢
            have hP : va_P D vwCl [(h0, .inr (8, [.ref sh, .ref rd, .ref fr, .ref wr, .ref pf, .ref rc, .ref se, .ref rs, .ref sw, .ref sp, .ref ss, .int ew, .long wc, .int tr, .int 0])), (sh, .inl (cS, 4, .inr (.inr (.inr (.inr (va_up (va_up (va_up (va_up (fun _ => none) 0 (some s0)) 1 (some s1)) 2 (some s2)) 3 (some s3))))))), (s1, .inr (5, [.ref e1, .int 0, .int 0, .int 0])), (s2, .inr (5, [.ref e2, .int 0, .int 0, .int 0])), (s3, .inr (5, [.ref e3, .int 0, .int 0, .int 0])), (e1, .inl (ce1, 60, .inl fe1)), (e2, .inl (ce2, 60, .inl fe2)), (e3, .inl (ce3, 60, .inl fe3))] H := hP
            have hD : va_D A [(h0, .inr (8, [.ref sh, .ref rd, .ref fr, .ref wr, .ref pf, .ref rc, .ref se, .ref rs, .ref sw, .ref sp, .ref ss, .int ew, .long wc, .int tr, .int 0])), (sh, .inl (cS, 4, .inr (.inr (.inr (.inr (va_up (va_up (va_up (va_up (fun _ => none) 0 (some s0)) 1 (some s1)) 2 (some s2)) 3 (some s3))))))), (s1, .inr (5, [.ref e1, .int 0, .int 0, .int 0])), (s2, .inr (5, [.ref e2, .int 0, .int 0, .int 0])), (s3, .inr (5, [.ref e3, .int 0, .int 0, .int 0])), (e1, .inl (ce1, 60, .inl fe1)), (e2, .inl (ce2, 60, .inl fe2)), (e3, .inl (ce3, 60, .inl fe3))] := hD
            refine lv_iconst (v := 1) hx hb dX8_sheet_51 (by decide) ?_
            exact W.iret (v := 1) hx hb hr (fun t ht hW => kQi_of (by simp only [sp_sheet, if_pos k_2, if_pos k_5, if_pos c_6, if_pos c_7]) (hS.F ht)) hS.2.2 dX8_sheet_52
          · subst e9
            refine kn_v (.ref s1) rfl ?_
            refine lv_iload_n hx hb dX8_sheet_46 rfl (lv_at hl 2 rfl) ?_
            refine lv_iload_n hx hb dX8_sheet_47 rfl (lv_at hl 3 rfl) ?_
            have hFc := va_free (wc := [(s1, .inr (5, [.ref e1, .int 0, .int 0, .int 0])), (e1, .inl (ce1, 60, .inl fe1))]) hD hS hA [3, 7] rfl
            refine va_callv (va_runV (As := [.int n, .int z]) (rest := []) ⟨hx, hb, hml, hown, hts⟩ (c_X5_begin l D H.size (la := n) (n := z) (h0 := s1) (e0 := e1) (th := 0) (ln := 0) (sz0 := 0) (ce := ce1) (f0 := fe1)) (cwV 2 hts gX8_sheet_X5_begin rfl rfl rfl (by decide +kernel) ⟨Nat.le_of_ble_eq_true rfl, Nat.le_of_ble_eq_true rfl⟩) (kPreV hP (kD0 hD) hK hN [3, 7] [2] rfl rfl (by decide) 3 5 rfl rfl) rfl rfl hl.1 rfl (lv_room (Nat.le_of_ble_eq_true rfl)) dX8_sheet_48 ⟨Nat.le_of_ble_eq_true rfl, Nat.le_of_ble_eq_true rfl⟩) hS (fun q _ h => hFc q h) hFc (fun  u t H1 locs ht hvm hw hB hz1 hk1 hS => ?_)
            obtain ⟨hP1, hD1⟩ := hB
            rw [ht] at hP1
            obtain ⟨hP, hD⟩ := va_join (wr := [(h0, .inr (8, [.ref sh, .ref rd, .ref fr, .ref wr, .ref pf, .ref rc, .ref se, .ref rs, .ref sw, .ref sp, .ref ss, .int ew, .long wc, .int tr, .int 0])), (sh, .inl (cS, 4, .inr (.inr (.inr (.inr (va_up (va_up (va_up (va_up (fun _ => none) 0 (some s0)) 1 (some s1)) 2 (some s2)) 3 (some s3))))))), (s0, .inr (5, [.ref e0, .int 0, .int 0, .int 0])), (s2, .inr (5, [.ref e2, .int 0, .int 0, .int 0])), (s3, .inr (5, [.ref e3, .int 0, .int 0, .int 0])), (e0, .inl (ce0, 60, .inl fe0)), (e2, .inl (ce2, 60, .inl fe2)), (e3, .inl (ce3, 60, .inl fe3))]) (w1 := []) hP hD [3, 7] [0, 1, 2, 4, 5, 6, 8, 9] rfl rfl (by decide) (by decide) hk1 hFc hP1 hD1
            generalize H1 = H at hP hS ⊢
            have hP : va_P D vwCl [(h0, .inr (8, [.ref sh, .ref rd, .ref fr, .ref wr, .ref pf, .ref rc, .ref se, .ref rs, .ref sw, .ref sp, .ref ss, .int ew, .long wc, .int tr, .int 0])), (sh, .inl (cS, 4, .inr (.inr (.inr (.inr (va_up (va_up (va_up (va_up (fun _ => none) 0 (some s0)) 1 (some s1)) 2 (some s2)) 3 (some s3))))))), (s0, .inr (5, [.ref e0, .int 0, .int 0, .int 0])), (s2, .inr (5, [.ref e2, .int 0, .int 0, .int 0])), (s3, .inr (5, [.ref e3, .int 0, .int 0, .int 0])), (e0, .inl (ce0, 60, .inl fe0)), (e2, .inl (ce2, 60, .inl fe2)), (e3, .inl (ce3, 60, .inl fe3))] H := hP
            have hD : va_D A [(h0, .inr (8, [.ref sh, .ref rd, .ref fr, .ref wr, .ref pf, .ref rc, .ref se, .ref rs, .ref sw, .ref sp, .ref ss, .int ew, .long wc, .int tr, .int 0])), (sh, .inl (cS, 4, .inr (.inr (.inr (.inr (va_up (va_up (va_up (va_up (fun _ => none) 0 (some s0)) 1 (some s1)) 2 (some s2)) 3 (some s3))))))), (s0, .inr (5, [.ref e0, .int 0, .int 0, .int 0])), (s2, .inr (5, [.ref e2, .int 0, .int 0, .int 0])), (s3, .inr (5, [.ref e3, .int 0, .int 0, .int 0])), (e0, .inl (ce0, 60, .inl fe0)), (e2, .inl (ce2, 60, .inl fe2)), (e3, .inl (ce3, 60, .inl fe3))] := hD
            refine lv_iconst (v := 1) hx hb dX8_sheet_51 (by decide) ?_
            exact W.iret (v := 1) hx hb hr (fun t ht hW => kQi_of (by simp only [sp_sheet, if_pos k_2, if_pos k_5, if_pos c_6, if_pos c_7]) (hS.F ht)) hS.2.2 dX8_sheet_52
          · subst e9
            refine kn_v (.ref s2) rfl ?_
            refine lv_iload_n hx hb dX8_sheet_46 rfl (lv_at hl 2 rfl) ?_
            refine lv_iload_n hx hb dX8_sheet_47 rfl (lv_at hl 3 rfl) ?_
            have hFc := va_free (wc := [(s2, .inr (5, [.ref e2, .int 0, .int 0, .int 0])), (e2, .inl (ce2, 60, .inl fe2))]) hD hS hA [4, 8] rfl
            refine va_callv (va_runV (As := [.int n, .int z]) (rest := []) ⟨hx, hb, hml, hown, hts⟩ (c_X5_begin l D H.size (la := n) (n := z) (h0 := s2) (e0 := e2) (th := 0) (ln := 0) (sz0 := 0) (ce := ce2) (f0 := fe2)) (cwV 2 hts gX8_sheet_X5_begin rfl rfl rfl (by decide +kernel) ⟨Nat.le_of_ble_eq_true rfl, Nat.le_of_ble_eq_true rfl⟩) (kPreV hP (kD0 hD) hK hN [4, 8] [3] rfl rfl (by decide) 4 5 rfl rfl) rfl rfl hl.1 rfl (lv_room (Nat.le_of_ble_eq_true rfl)) dX8_sheet_48 ⟨Nat.le_of_ble_eq_true rfl, Nat.le_of_ble_eq_true rfl⟩) hS (fun q _ h => hFc q h) hFc (fun  u t H1 locs ht hvm hw hB hz1 hk1 hS => ?_)
            obtain ⟨hP1, hD1⟩ := hB
            rw [ht] at hP1
            obtain ⟨hP, hD⟩ := va_join (wr := [(h0, .inr (8, [.ref sh, .ref rd, .ref fr, .ref wr, .ref pf, .ref rc, .ref se, .ref rs, .ref sw, .ref sp, .ref ss, .int ew, .long wc, .int tr, .int 0])), (sh, .inl (cS, 4, .inr (.inr (.inr (.inr (va_up (va_up (va_up (va_up (fun _ => none) 0 (some s0)) 1 (some s1)) 2 (some s2)) 3 (some s3))))))), (s0, .inr (5, [.ref e0, .int 0, .int 0, .int 0])), (s1, .inr (5, [.ref e1, .int 0, .int 0, .int 0])), (s3, .inr (5, [.ref e3, .int 0, .int 0, .int 0])), (e0, .inl (ce0, 60, .inl fe0)), (e1, .inl (ce1, 60, .inl fe1)), (e3, .inl (ce3, 60, .inl fe3))]) (w1 := []) hP hD [4, 8] [0, 1, 2, 3, 5, 6, 7, 9] rfl rfl (by decide) (by decide) hk1 hFc hP1 hD1
            generalize H1 = H at hP hS ⊢
            have hP : va_P D vwCl [(h0, .inr (8, [.ref sh, .ref rd, .ref fr, .ref wr, .ref pf, .ref rc, .ref se, .ref rs, .ref sw, .ref sp, .ref ss, .int ew, .long wc, .int tr, .int 0])), (sh, .inl (cS, 4, .inr (.inr (.inr (.inr (va_up (va_up (va_up (va_up (fun _ => none) 0 (some s0)) 1 (some s1)) 2 (some s2)) 3 (some s3))))))), (s0, .inr (5, [.ref e0, .int 0, .int 0, .int 0])), (s1, .inr (5, [.ref e1, .int 0, .int 0, .int 0])), (s3, .inr (5, [.ref e3, .int 0, .int 0, .int 0])), (e0, .inl (ce0, 60, .inl fe0)), (e1, .inl (ce1, 60, .inl fe1)), (e3, .inl (ce3, 60, .inl fe3))] H := hP
            have hD : va_D A [(h0, .inr (8, [.ref sh, .ref rd, .ref fr, .ref wr, .ref pf, .ref rc, .ref se, .ref rs, .ref sw, .ref sp, .ref ss, .int ew, .long wc, .int tr, .int 0])), (sh, .inl (cS, 4, .inr (.inr (.inr (.inr (va_up (va_up (va_up (va_up (fun _ => none) 0 (some s0)) 1 (some s1)) 2 (some s2)) 3 (some s3))))))), (s0, .inr (5, [.ref e0, .int 0, .int 0, .int 0])), (s1, .inr (5, [.ref e1, .int 0, .int 0, .int 0])), (s3, .inr (5, [.ref e3, .int 0, .int 0, .int 0])), (e0, .inl (ce0, 60, .inl fe0)), (e1, .inl (ce1, 60, .inl fe1)), (e3, .inl (ce3, 60, .inl fe3))] := hD
            refine lv_iconst (v := 1) hx hb dX8_sheet_51 (by decide) ?_
            exact W.iret (v := 1) hx hb hr (fun t ht hW => kQi_of (by simp only [sp_sheet, if_pos k_2, if_pos k_5, if_pos c_6, if_pos c_7]) (hS.F ht)) hS.2.2 dX8_sheet_52
          · subst e9
            refine kn_v (.ref s3) rfl ?_
            refine lv_iload_n hx hb dX8_sheet_46 rfl (lv_at hl 2 rfl) ?_
            refine lv_iload_n hx hb dX8_sheet_47 rfl (lv_at hl 3 rfl) ?_
            have hFc := va_free (wc := [(s3, .inr (5, [.ref e3, .int 0, .int 0, .int 0])), (e3, .inl (ce3, 60, .inl fe3))]) hD hS hA [5, 9] rfl
            refine va_callv (va_runV (As := [.int n, .int z]) (rest := []) ⟨hx, hb, hml, hown, hts⟩ (c_X5_begin l D H.size (la := n) (n := z) (h0 := s3) (e0 := e3) (th := 0) (ln := 0) (sz0 := 0) (ce := ce3) (f0 := fe3)) (cwV 2 hts gX8_sheet_X5_begin rfl rfl rfl (by decide +kernel) ⟨Nat.le_of_ble_eq_true rfl, Nat.le_of_ble_eq_true rfl⟩) (kPreV hP (kD0 hD) hK hN [5, 9] [4] rfl rfl (by decide) 5 5 rfl rfl) rfl rfl hl.1 rfl (lv_room (Nat.le_of_ble_eq_true rfl)) dX8_sheet_48 ⟨Nat.le_of_ble_eq_true rfl, Nat.le_of_ble_eq_true rfl⟩) hS (fun q _ h => hFc q h) hFc (fun  u t H1 locs ht hvm hw hB hz1 hk1 hS => ?_)
            obtain ⟨hP1, hD1⟩ := hB
            rw [ht] at hP1
            obtain ⟨hP, hD⟩ := va_join (wr := [(h0, .inr (8, [.ref sh, .ref rd, .ref fr, .ref wr, .ref pf, .ref rc, .ref se, .ref rs, .ref sw, .ref sp, .ref ss, .int ew, .long wc, .int tr, .int 0])), (sh, .inl (cS, 4, .inr (.inr (.inr (.inr (va_up (va_up (va_up (va_up (fun _ => none) 0 (some s0)) 1 (some s1)) 2 (some s2)) 3 (some s3))))))), (s0, .inr (5, [.ref e0, .int 0, .int 0, .int 0])), (s1, .inr (5, [.ref e1, .int 0, .int 0, .int 0])), (s2, .inr (5, [.ref e2, .int 0, .int 0, .int 0])), (e0, .inl (ce0, 60, .inl fe0)), (e1, .inl (ce1, 60, .inl fe1)), (e2, .inl (ce2, 60, .inl fe2))]) (w1 := []) hP hD [5, 9] [0, 1, 2, 3, 4, 6, 7, 8] rfl rfl (by decide) (by decide) hk1 hFc hP1 hD1
            generalize H1 = H at hP hS ⊢
            have hP : va_P D vwCl [(h0, .inr (8, [.ref sh, .ref rd, .ref fr, .ref wr, .ref pf, .ref rc, .ref se, .ref rs, .ref sw, .ref sp, .ref ss, .int ew, .long wc, .int tr, .int 0])), (sh, .inl (cS, 4, .inr (.inr (.inr (.inr (va_up (va_up (va_up (va_up (fun _ => none) 0 (some s0)) 1 (some s1)) 2 (some s2)) 3 (some s3))))))), (s0, .inr (5, [.ref e0, .int 0, .int 0, .int 0])), (s1, .inr (5, [.ref e1, .int 0, .int 0, .int 0])), (s2, .inr (5, [.ref e2, .int 0, .int 0, .int 0])), (e0, .inl (ce0, 60, .inl fe0)), (e1, .inl (ce1, 60, .inl fe1)), (e2, .inl (ce2, 60, .inl fe2))] H := hP
            have hD : va_D A [(h0, .inr (8, [.ref sh, .ref rd, .ref fr, .ref wr, .ref pf, .ref rc, .ref se, .ref rs, .ref sw, .ref sp, .ref ss, .int ew, .long wc, .int tr, .int 0])), (sh, .inl (cS, 4, .inr (.inr (.inr (.inr (va_up (va_up (va_up (va_up (fun _ => none) 0 (some s0)) 1 (some s1)) 2 (some s2)) 3 (some s3))))))), (s0, .inr (5, [.ref e0, .int 0, .int 0, .int 0])), (s1, .inr (5, [.ref e1, .int 0, .int 0, .int 0])), (s2, .inr (5, [.ref e2, .int 0, .int 0, .int 0])), (e0, .inl (ce0, 60, .inl fe0)), (e1, .inl (ce1, 60, .inl fe1)), (e2, .inl (ce2, 60, .inl fe2))] := hD
            refine lv_iconst (v := 1) hx hb dX8_sheet_51 (by decide) ?_
            exact W.iret (v := 1) hx hb hr (fun t ht hW => kQi_of (by simp only [sp_sheet, if_pos k_2, if_pos k_5, if_pos c_6, if_pos c_7]) (hS.F ht)) hS.2.2 dX8_sheet_52
        · refine lv_aload_n hx hb dX8_sheet_34 rfl (lv_at hl 0 rfl) ?_
          refine lv_iconst (v := 4) hx hb dX8_sheet_35 (by decide) ?_
          have hFc := va_free (wc := [(h0, .inr (8, [.ref sh, .ref rd, .ref fr, .ref wr, .ref pf, .ref rc, .ref se, .ref rs, .ref sw, .ref sp, .ref ss, .int ew, .long wc, .int tr, .int 0]))]) hD hS hA [0] rfl
          refine va_calli (va_runV (As := [.int 4]) (rest := []) ⟨hx, hb, hml, hown, hts⟩ (c_X8_failWith l D H.size (f := 4) (h0 := h0) (sh := sh) (rd := rd) (fr := fr) (wr := wr) (pf := pf) (rc := rc) (se := se) (rs := rs) (sw := sw) (sp := sp) (ss := ss) (ew := ew) (wc := wc) (tr := tr) (lf := 0)) (cwV 1 hts gX8_sheet_X8_failWith rfl rfl rfl (by decide +kernel) ⟨Nat.le_of_ble_eq_true rfl, Nat.le_of_ble_eq_true rfl⟩) (kPreV hP (kD0 hD) hK hN [0] [] rfl rfl (by decide) 0 8 rfl rfl) rfl rfl hl.1 rfl (lv_room (Nat.le_of_ble_eq_true rfl)) dX8_sheet_36 ⟨Nat.le_of_ble_eq_true rfl, Nat.le_of_ble_eq_true rfl⟩) hS (fun q _ h => hFc q h) hFc (fun r_8 u t H1 locs ht hvm hw hB hz1 hk1 hS => ?_)
          obtain ⟨hP, hD⟩ := va_join (wr := [(sh, .inl (cS, 4, .inr (.inr (.inr (.inr (va_up (va_up (va_up (va_up (fun _ => none) 0 (some s0)) 1 (some s1)) 2 (some s2)) 3 (some s3))))))), (s0, .inr (5, [.ref e0, .int 0, .int 0, .int 0])), (s1, .inr (5, [.ref e1, .int 0, .int 0, .int 0])), (s2, .inr (5, [.ref e2, .int 0, .int 0, .int 0])), (s3, .inr (5, [.ref e3, .int 0, .int 0, .int 0])), (e0, .inl (ce0, 60, .inl fe0)), (e1, .inl (ce1, 60, .inl fe1)), (e2, .inl (ce2, 60, .inl fe2)), (e3, .inl (ce3, 60, .inl fe3))]) (w1 := []) hP hD [0] [1, 2, 3, 4, 5, 6, 7, 8, 9] rfl rfl (by decide) (by decide) hk1 hFc kP0 kDn
          generalize H1 = H at hP hS ⊢
          have hP : va_P D vwCl [(sh, .inl (cS, 4, .inr (.inr (.inr (.inr (va_up (va_up (va_up (va_up (fun _ => none) 0 (some s0)) 1 (some s1)) 2 (some s2)) 3 (some s3))))))), (s0, .inr (5, [.ref e0, .int 0, .int 0, .int 0])), (s1, .inr (5, [.ref e1, .int 0, .int 0, .int 0])), (s2, .inr (5, [.ref e2, .int 0, .int 0, .int 0])), (s3, .inr (5, [.ref e3, .int 0, .int 0, .int 0])), (e0, .inl (ce0, 60, .inl fe0)), (e1, .inl (ce1, 60, .inl fe1)), (e2, .inl (ce2, 60, .inl fe2)), (e3, .inl (ce3, 60, .inl fe3))] H := hP
          have hD : va_D A [(sh, .inl (cS, 4, .inr (.inr (.inr (.inr (va_up (va_up (va_up (va_up (fun _ => none) 0 (some s0)) 1 (some s1)) 2 (some s2)) 3 (some s3))))))), (s0, .inr (5, [.ref e0, .int 0, .int 0, .int 0])), (s1, .inr (5, [.ref e1, .int 0, .int 0, .int 0])), (s2, .inr (5, [.ref e2, .int 0, .int 0, .int 0])), (s3, .inr (5, [.ref e3, .int 0, .int 0, .int 0])), (e0, .inl (ce0, 60, .inl fe0)), (e1, .inl (ce1, 60, .inl fe1)), (e2, .inl (ce2, 60, .inl fe2)), (e3, .inl (ce3, 60, .inl fe3))] := hD
          refine kn_i ((-10) - 4) hw ?_
          refine kn_i (-14) (by decide) ?_
          exact W.iret (v := (-14)) hx hb hr (fun t ht hW => kQi_of (by simp only [sp_sheet, if_pos k_2, if_pos k_5, if_pos c_6, if_neg c_7]) (hS.F ht)) hS.2.2 dX8_sheet_39
      · refine lv_bipush (v := (-2)) hx hb dX8_sheet_27 (by decide) ?_
        exact W.iret (v := (-2)) hx hb hr (fun t ht hW => kQi_of (by simp only [sp_sheet, if_pos k_2, if_pos k_5, if_neg c_6]) (hS.F ht)) hS.2.2 dX8_sheet_29
  · have k_9 : ¬ ((0 ≤ k ∧ k ≤ 3)) := b01f c_1
    refine lv_iconst (v := (-1)) hx hb dX8_sheet_12 (by decide) ?_
    exact W.iret (v := (-1)) hx hb hr (fun t ht hW => kQi_of (by simp only [sp_sheet, if_neg k_9]) (hS.F ht)) hS.2.2 dX8_sheet_13
end
section
theorem knf {f : Int32} : ¬ (0 ≤ f ∧ f < (0 : Int32)) := by rw [kle, klt]; omega
theorem dX9_isFont_0 : decode cX9_isFont 0 = .ok (.iload_n 1, 1) := by decide +kernel
theorem dX9_isFont_1 : decode cX9_isFont 1 = .ok (.ifCond .lt 15, 3) := by decide +kernel
theorem dX9_isFont_4 : decode cX9_isFont 4 = .ok (.iload_n 1, 1) := by decide +kernel
theorem dX9_isFont_5 : decode cX9_isFont 5 = .ok (.aload_n 0, 1) := by decide +kernel
theorem dX9_isFont_6 : decode cX9_isFont 6 = .ok (.getfield 74, 3) := by decide +kernel
theorem dX9_isFont_9 : decode cX9_isFont 9 = .ok (.if_icmp .ge 7, 3) := by decide +kernel
theorem dX9_isFont_12 : decode cX9_isFont 12 = .ok (.iconst 1, 1) := by decide +kernel
theorem dX9_isFont_13 : decode cX9_isFont 13 = .ok (.goto 4, 3) := by decide +kernel
theorem dX9_isFont_16 : decode cX9_isFont 16 = .ok (.iconst 0, 1) := by decide +kernel
theorem dX9_isFont_17 : decode cX9_isFont 17 = .ok (.ireturn, 1) := by decide +kernel
set_option maxHeartbeats 4000000 in
set_option maxRecDepth 100000 in
theorem c_X9_isFont (l : Launch) (D : va_G) (sz : Nat) (f : Int32) (h0 : Nat) (fa : Int32) (tc : Int32) (so : Nat) (sl : Nat) (ce : Nat) (n : Int32) (kd : Nat) (wd : Nat) (hs : Nat) (pr : Nat) (la : Nat) (wg : Nat) (ta : Int32) (ck : Int64) (at9 : Int32) (rfn : Int32) (rk : Nat) (rw : Nat) (rh : Nat) (cl : Int32) (sa : Nat) (fi : Nat) (bo : Int32) (ch : Nat) (cn : Nat) (ad : Int32) (ru : Int32) (kp : Nat) (rfa : Nat) : Met l yX9_isFont wsX9_isFont ({ frames := 0, cells := 0, slots := 0, locals := 0 }) (kPre [.ref h0, .int f] D [(h0, .inr (9, [.int fa, .int tc, .ref so, .ref sl, .ref ce, .int n, .ref kd, .ref wd, .ref hs, .ref pr, .ref la, .int 0, .ref wg, .int ta, .long ck, .int at9, .int rfn, .ref rk, .ref rw, .ref rh, .int cl, .ref sa, .ref fi, .int bo, .ref ch, .ref cn, .int ad, .int ru, .ref kp, .int 0, .ref rfa]))] [] sz) (QcRead (if (0 ≤ f ∧ f < n) then 1 else 0)) 0 0 (fun _ => False) := by
  refine Met.ofW (cc := cX9_isFont) (maxL := 2) (ret := (some .boolean)) (by decide) rfl ?_
  intro p e s m args below meth c s₁ B hml hv
  obtain ⟨rfl, hsz, hP, hK, hD0, hN⟩ := hv
  have hx := B.exec
  have hb := B.bytes
  have hr := B.returns
  have hts := atoms_spec (ws := wsX9_isFont) B.pre
  have hown : s.vm.findClass RX9 = some m.cls := findClass_of_methodNamed B.named
  have hlocks := B.notSynchronized
  subst hsz
  have hD := hD0
  have hP : va_P D vwCl [(h0, .inr (9, [.int fa, .int tc, .ref so, .ref sl, .ref ce, .int n, .ref kd, .ref wd, .ref hs, .ref pr, .ref la, .int 0, .ref wg, .int ta, .long ck, .int at9, .int rfn, .ref rk, .ref rw, .ref rh, .int cl, .ref sa, .ref fi, .int bo, .ref ch, .ref cn, .int ad, .int ru, .ref kp, .int 0, .ref rfa]))] s.heap := hP
  have hl := lv_entry ([.ref h0, .int f]) (n := 2) (Nat.le_of_ble_eq_true rfl)
  rw [lg_entry_eq]
  generalize (lg_sl ([.ref h0, .int f]) ++ List.replicate (2 - (lg_sl ([.ref h0, .int f])).length) Slot.unset).toArray = ls at hl ⊢
  have hl : lv_has ls 2 [(0, .ref h0), (1, .int f)] := hl
  refine lv_iload_n hx hb dX9_isFont_0 rfl (lv_at hl 1 rfl) ?_
  refine lv_if_lt (tgt := 16) hx hb dX9_isFont_1 (by decide) (fun c_1 => ?_) (fun c_1 => ?_)
  · refine lv_iconst (v := 0) hx hb dX9_isFont_16 (by decide) ?_
    exact W.zret (v := 0) hx hb hr rfl (fun t ht hW => kRd (by first | exact (if_pos ⟨c_1, c_2⟩).symm | exact (if_pos ⟨Int32.not_lt.mp c_1, c_2⟩).symm | exact (if_neg (fun h => absurd h.1 (Int32.not_le.mpr c_1))).symm | exact (if_neg (fun h => absurd h.1 c_1)).symm | exact (if_neg (fun h => absurd h.2 c_2)).symm | exact (if_neg (fun h => absurd h.2 (Int32.not_lt.mpr c_2))).symm) ht) (fun _ h9 => by cases h9) dX9_isFont_17
  · refine lv_iload_n hx hb dX9_isFont_4 rfl (lv_at hl 1 rfl) ?_
    refine lv_aload_n hx hb dX9_isFont_5 rfl (lv_at hl 0 rfl) ?_
    refine va_get (D := D) (ci := 9) (v := .int n) (C := RX9) (T := TX9) (N := 31) hx hb hts (fun _ h9 => List.mem_cons_of_mem _ (List.mem_append_right _ h9)) hown hK hP 0 rfl rfl 5 (by decide) (hts (.fieldLink RX9 74 "FontRunsModel" "fonts" "I") (by decide +kernel)) (fun _ h9 => h9) rfl dX9_isFont_6 ?_
    refine lv_icmp_ge (tgt := 16) hx hb dX9_isFont_9 (by decide) (fun c_2 => ?_) (fun c_2 => ?_)
    · refine lv_iconst (v := 0) hx hb dX9_isFont_16 (by decide) ?_
      exact W.zret (v := 0) hx hb hr rfl (fun t ht hW => kRd (by first | exact (if_pos ⟨c_1, c_2⟩).symm | exact (if_pos ⟨Int32.not_lt.mp c_1, c_2⟩).symm | exact (if_neg (fun h => absurd h.1 (Int32.not_le.mpr c_1))).symm | exact (if_neg (fun h => absurd h.1 c_1)).symm | exact (if_neg (fun h => absurd h.2 c_2)).symm | exact (if_neg (fun h => absurd h.2 (Int32.not_lt.mpr c_2))).symm) ht) (fun _ h9 => by cases h9) dX9_isFont_17
    · refine lv_iconst (v := 1) hx hb dX9_isFont_12 (by decide) ?_
      refine lv_goto (tgt := 17) hx hb dX9_isFont_13 (by decide) ?_
      exact W.zret (v := 1) hx hb hr rfl (fun t ht hW => kRd (by first | exact (if_pos ⟨c_1, c_2⟩).symm | exact (if_pos ⟨Int32.not_lt.mp c_1, c_2⟩).symm | exact (if_neg (fun h => absurd h.1 (Int32.not_le.mpr c_1))).symm | exact (if_neg (fun h => absurd h.1 c_1)).symm | exact (if_neg (fun h => absurd h.2 c_2)).symm | exact (if_neg (fun h => absurd h.2 (Int32.not_lt.mpr c_2))).symm) ht) (fun _ h9 => by cases h9) dX9_isFont_17
theorem dX9_fails_0 : decode cX9_fails 0 = .ok (.aload_n 0, 1) := by decide +kernel
theorem dX9_fails_1 : decode cX9_fails 1 = .ok (.iload_n 1, 1) := by decide +kernel
theorem dX9_fails_2 : decode cX9_fails 2 = .ok (.putfield 64, 3) := by decide +kernel
theorem dX9_fails_5 : decode cX9_fails 5 = .ok (.bipush (-10), 2) := by decide +kernel
theorem dX9_fails_7 : decode cX9_fails 7 = .ok (.iload_n 1, 1) := by decide +kernel
theorem dX9_fails_8 : decode cX9_fails 8 = .ok (.isub, 1) := by decide +kernel
theorem dX9_fails_9 : decode cX9_fails 9 = .ok (.ireturn, 1) := by decide +kernel
set_option maxHeartbeats 4000000 in
set_option maxRecDepth 100000 in
theorem c_X9_fails (l : Launch) (D : va_G) (sz : Nat) (f : Int32) (h0 : Nat) (fa : Int32) (tc : Int32) (so : Nat) (sl : Nat) (ce : Nat) (kd : Nat) (wd : Nat) (hs : Nat) (pr : Nat) (la : Nat) (wg : Nat) (ta : Int32) (ck : Int64) (at9 : Int32) (rfn : Int32) (rk : Nat) (rw : Nat) (rh : Nat) (cl : Int32) (sa : Nat) (fi : Nat) (bo : Int32) (ch : Nat) (cn : Nat) (ad : Int32) (ru : Int32) (kp : Nat) (rfa : Nat) : Met l yX9_fails wsX9_fails ({ frames := 0, cells := 0, slots := 0, locals := 0 }) (kPre [.ref h0, .int f] D [(h0, .inr (9, [.int fa, .int tc, .ref so, .ref sl, .ref ce, .int 0, .ref kd, .ref wd, .ref hs, .ref pr, .ref la, .int 0, .ref wg, .int ta, .long ck, .int at9, .int rfn, .ref rk, .ref rw, .ref rh, .int cl, .ref sa, .ref fi, .int bo, .ref ch, .ref cn, .int ad, .int ru, .ref kp, .int 0, .ref rfa]))] [] sz) (kQi ((-10) - f) (va_A [(h0, .inr (9, [.int fa, .int tc, .ref so, .ref sl, .ref ce, .int 0, .ref kd, .ref wd, .ref hs, .ref pr, .ref la, .int 0, .ref wg, .int ta, .long ck, .int at9, .int rfn, .ref rk, .ref rw, .ref rh, .int cl, .ref sa, .ref fi, .int bo, .ref ch, .ref cn, .int ad, .int ru, .ref kp, .int 0, .ref rfa]))] sz)) 0 0 (va_A [(h0, .inr (9, [.int fa, .int tc, .ref so, .ref sl, .ref ce, .int 0, .ref kd, .ref wd, .ref hs, .ref pr, .ref la, .int 0, .ref wg, .int ta, .long ck, .int at9, .int rfn, .ref rk, .ref rw, .ref rh, .int cl, .ref sa, .ref fi, .int bo, .ref ch, .ref cn, .int ad, .int ru, .ref kp, .int 0, .ref rfa]))] sz) := by
  refine Met.ofW (cc := cX9_fails) (maxL := 2) (ret := (some .int)) (by decide) rfl ?_
  intro p e s m args below meth c s₁ B hml hv
  obtain ⟨rfl, hsz, hP, hK, hD0, hN⟩ := hv
  have hx := B.exec
  have hb := B.bytes
  have hr := B.returns
  have hts := atoms_spec (ws := wsX9_fails) B.pre
  have hown : s.vm.findClass RX9 = some m.cls := findClass_of_methodNamed B.named
  have hlocks := B.notSynchronized
  subst hsz
  have hD := hD0.self (sz := s.heap.size)
  generalize hAe : va_A [(h0, .inr (9, [.int fa, .int tc, .ref so, .ref sl, .ref ce, .int 0, .ref kd, .ref wd, .ref hs, .ref pr, .ref la, .int 0, .ref wg, .int ta, .long ck, .int at9, .int rfn, .ref rk, .ref rw, .ref rh, .int cl, .ref sa, .ref fi, .int bo, .ref ch, .ref cn, .int ad, .int ru, .ref kp, .int 0, .ref rfa]))] s.heap.size = A at hD ⊢
  have hA : ∀ q : Nat, s.heap.size ≤ q → A q := fun q h => by rw [← hAe]; exact Or.inr h
  have hS : va_S A s.heap s.heap [] := va_S.rf
  have hP : va_P D vwCl [(h0, .inr (9, [.int fa, .int tc, .ref so, .ref sl, .ref ce, .int 0, .ref kd, .ref wd, .ref hs, .ref pr, .ref la, .int 0, .ref wg, .int ta, .long ck, .int at9, .int rfn, .ref rk, .ref rw, .ref rh, .int cl, .ref sa, .ref fi, .int bo, .ref ch, .ref cn, .int ad, .int ru, .ref kp, .int 0, .ref rfa]))] s.heap := hP
  have hl := lv_entry ([.ref h0, .int f]) (n := 2) (Nat.le_of_ble_eq_true rfl)
  rw [lg_entry_eq]
  generalize (lg_sl ([.ref h0, .int f]) ++ List.replicate (2 - (lg_sl ([.ref h0, .int f])).length) Slot.unset).toArray = ls at hl ⊢
  have hl : lv_has ls 2 [(0, .ref h0), (1, .int f)] := hl
  refine lv_aload_n hx hb dX9_fails_0 rfl (lv_at hl 0 rfl) ?_
  refine lv_iload_n hx hb dX9_fails_1 rfl (lv_at hl 1 rfl) ?_
  refine va_put (D := D) (ci := 9) (v := .int f) (ty := .int) (C := RX9) (T := TX9) (N := 31) hx hb hts (fun _ h9 => List.mem_cons_of_mem _ (List.mem_append_right _ h9)) tyX9 tyX9_ok nmX9 hown hK hP hD hS 0 rfl rfl 0 (by decide) (hts (.fieldLink RX9 64 "FontRunsModel" "fault" "I") (by decide +kernel)) (fun _ h9 => h9) rfl (by decide +kernel) rfl rfl (Nat.le_of_ble_eq_true rfl) dX9_fails_2 (fun H locs hP hD hS => ?_)
  have hP : va_P D vwCl [(h0, .inr (9, [.int f, .int tc, .ref so, .ref sl, .ref ce, .int 0, .ref kd, .ref wd, .ref hs, .ref pr, .ref la, .int 0, .ref wg, .int ta, .long ck, .int at9, .int rfn, .ref rk, .ref rw, .ref rh, .int cl, .ref sa, .ref fi, .int bo, .ref ch, .ref cn, .int ad, .int ru, .ref kp, .int 0, .ref rfa]))] H := hP
  have hD : va_D A [(h0, .inr (9, [.int f, .int tc, .ref so, .ref sl, .ref ce, .int 0, .ref kd, .ref wd, .ref hs, .ref pr, .ref la, .int 0, .ref wg, .int ta, .long ck, .int at9, .int rfn, .ref rk, .ref rw, .ref rh, .int cl, .ref sa, .ref fi, .int bo, .ref ch, .ref cn, .int ad, .int ru, .ref kp, .int 0, .ref rfa]))] := hD
  refine lv_bipush (v := (-10)) hx hb dX9_fails_5 (by decide) ?_
  refine lv_iload_n hx hb dX9_fails_7 rfl (lv_at hl 1 rfl) ?_
  refine lv_isub hx hb dX9_fails_8 ?_
  exact W.iret (v := ((-10) - f)) hx hb hr (fun t ht hW => kQi_of rfl (hS.F ht)) hS.2.2 dX9_fails_9
theorem dX9_lost_0 : decode cX9_lost 0 = .ok (.aload_n 0, 1) := by decide +kernel
theorem dX9_lost_1 : decode cX9_lost 1 = .ok (.iload_n 1, 1) := by decide +kernel
theorem dX9_lost_2 : decode cX9_lost 2 = .ok (.putfield 64, 3) := by decide +kernel
theorem dX9_lost_5 : decode cX9_lost 5 = .ok (.ldc2_w 68, 3) := by decide +kernel
theorem dX9_lost_8 : decode cX9_lost 8 = .ok (.lreturn, 1) := by decide +kernel
set_option maxHeartbeats 4000000 in
set_option maxRecDepth 100000 in
theorem c_X9_lost (l : Launch) (D : va_G) (sz : Nat) (f : Int32) (h0 : Nat) (fa : Int32) (tc : Int32) (so : Nat) (sl : Nat) (ce : Nat) (kd : Nat) (wd : Nat) (hs : Nat) (pr : Nat) (la : Nat) (wg : Nat) (ta : Int32) (ck : Int64) (at9 : Int32) (rfn : Int32) (rk : Nat) (rw : Nat) (rh : Nat) (cl : Int32) (sa : Nat) (fi : Nat) (bo : Int32) (ch : Nat) (cn : Nat) (ad : Int32) (ru : Int32) (kp : Nat) (rfa : Nat) : Met l yX9_lost wsX9_lost ({ frames := 0, cells := 0, slots := 0, locals := 0 }) (kPre [.ref h0, .int f] D [(h0, .inr (9, [.int fa, .int tc, .ref so, .ref sl, .ref ce, .int 0, .ref kd, .ref wd, .ref hs, .ref pr, .ref la, .int 0, .ref wg, .int ta, .long ck, .int at9, .int rfn, .ref rk, .ref rw, .ref rh, .int cl, .ref sa, .ref fi, .int bo, .ref ch, .ref cn, .int ad, .int ru, .ref kp, .int 0, .ref rfa]))] [] sz) (kQl (-9223372036854775808) (va_A [(h0, .inr (9, [.int fa, .int tc, .ref so, .ref sl, .ref ce, .int 0, .ref kd, .ref wd, .ref hs, .ref pr, .ref la, .int 0, .ref wg, .int ta, .long ck, .int at9, .int rfn, .ref rk, .ref rw, .ref rh, .int cl, .ref sa, .ref fi, .int bo, .ref ch, .ref cn, .int ad, .int ru, .ref kp, .int 0, .ref rfa]))] sz)) 0 0 (va_A [(h0, .inr (9, [.int fa, .int tc, .ref so, .ref sl, .ref ce, .int 0, .ref kd, .ref wd, .ref hs, .ref pr, .ref la, .int 0, .ref wg, .int ta, .long ck, .int at9, .int rfn, .ref rk, .ref rw, .ref rh, .int cl, .ref sa, .ref fi, .int bo, .ref ch, .ref cn, .int ad, .int ru, .ref kp, .int 0, .ref rfa]))] sz) := by
  refine Met.ofW (cc := cX9_lost) (maxL := 2) (ret := (some .long)) (by decide) rfl ?_
  intro p e s m args below meth c s₁ B hml hv
  obtain ⟨rfl, hsz, hP, hK, hD0, hN⟩ := hv
  have hx := B.exec
  have hb := B.bytes
  have hr := B.returns
  have hts := atoms_spec (ws := wsX9_lost) B.pre
  have hown : s.vm.findClass RX9 = some m.cls := findClass_of_methodNamed B.named
  have hlocks := B.notSynchronized
  subst hsz
  have hD := hD0.self (sz := s.heap.size)
  generalize hAe : va_A [(h0, .inr (9, [.int fa, .int tc, .ref so, .ref sl, .ref ce, .int 0, .ref kd, .ref wd, .ref hs, .ref pr, .ref la, .int 0, .ref wg, .int ta, .long ck, .int at9, .int rfn, .ref rk, .ref rw, .ref rh, .int cl, .ref sa, .ref fi, .int bo, .ref ch, .ref cn, .int ad, .int ru, .ref kp, .int 0, .ref rfa]))] s.heap.size = A at hD ⊢
  have hA : ∀ q : Nat, s.heap.size ≤ q → A q := fun q h => by rw [← hAe]; exact Or.inr h
  have hS : va_S A s.heap s.heap [] := va_S.rf
  have hP : va_P D vwCl [(h0, .inr (9, [.int fa, .int tc, .ref so, .ref sl, .ref ce, .int 0, .ref kd, .ref wd, .ref hs, .ref pr, .ref la, .int 0, .ref wg, .int ta, .long ck, .int at9, .int rfn, .ref rk, .ref rw, .ref rh, .int cl, .ref sa, .ref fi, .int bo, .ref ch, .ref cn, .int ad, .int ru, .ref kp, .int 0, .ref rfa]))] s.heap := hP
  have hl := lv_entry ([.ref h0, .int f]) (n := 2) (Nat.le_of_ble_eq_true rfl)
  rw [lg_entry_eq]
  generalize (lg_sl ([.ref h0, .int f]) ++ List.replicate (2 - (lg_sl ([.ref h0, .int f])).length) Slot.unset).toArray = ls at hl ⊢
  have hl : lv_has ls 2 [(0, .ref h0), (1, .int f)] := hl
  refine lv_aload_n hx hb dX9_lost_0 rfl (lv_at hl 0 rfl) ?_
  refine lv_iload_n hx hb dX9_lost_1 rfl (lv_at hl 1 rfl) ?_
  refine va_put (D := D) (ci := 9) (v := .int f) (ty := .int) (C := RX9) (T := TX9) (N := 31) hx hb hts (fun _ h9 => List.mem_cons_of_mem _ (List.mem_append_right _ h9)) tyX9 tyX9_ok nmX9 hown hK hP hD hS 0 rfl rfl 0 (by decide) (hts (.fieldLink RX9 64 "FontRunsModel" "fault" "I") (by decide +kernel)) (fun _ h9 => h9) rfl (by decide +kernel) rfl rfl (Nat.le_of_ble_eq_true rfl) dX9_lost_2 (fun H locs hP hD hS => ?_)
  have hP : va_P D vwCl [(h0, .inr (9, [.int f, .int tc, .ref so, .ref sl, .ref ce, .int 0, .ref kd, .ref wd, .ref hs, .ref pr, .ref la, .int 0, .ref wg, .int ta, .long ck, .int at9, .int rfn, .ref rk, .ref rw, .ref rh, .int cl, .ref sa, .ref fi, .int bo, .ref ch, .ref cn, .int ad, .int ru, .ref kp, .int 0, .ref rfa]))] H := hP
  have hD : va_D A [(h0, .inr (9, [.int f, .int tc, .ref so, .ref sl, .ref ce, .int 0, .ref kd, .ref wd, .ref hs, .ref pr, .ref la, .int 0, .ref wg, .int ta, .long ck, .int at9, .int rfn, .ref rk, .ref rw, .ref rh, .int cl, .ref sa, .ref fi, .int bo, .ref ch, .ref cn, .int ad, .int ru, .ref kp, .int 0, .ref rfa]))] := hD
  refine lv_ldc2 (v := (-9223372036854775808)) hx hb hown (hts (.constantLong RX9 68 (-9223372036854775808)) (by decide +kernel)) dX9_lost_5 ?_
  exact W.lret (v := (-9223372036854775808)) hx hb hr (fun t ht hW => kQl_of rfl (hS.F ht)) hS.2.2 dX9_lost_8
theorem dX9_against_0 : decode cX9_against 0 = .ok (.aload_n 0, 1) := by decide +kernel
theorem dX9_against_1 : decode cX9_against 1 = .ok (.getfield 9, 3) := by decide +kernel
theorem dX9_against_4 : decode cX9_against 4 = .ok (.iload_n 1, 1) := by decide +kernel
theorem dX9_against_5 : decode cX9_against 5 = .ok (.iaload, 1) := by decide +kernel
theorem dX9_against_6 : decode cX9_against 6 = .ok (.bipush (-9), 2) := by decide +kernel
theorem dX9_against_8 : decode cX9_against 8 = .ok (.if_icmp .eq 15, 3) := by decide +kernel
theorem dX9_against_23 : decode cX9_against 23 = .ok (.aload_n 0, 1) := by decide +kernel
theorem dX9_against_24 : decode cX9_against 24 = .ok (.getfield 9, 3) := by decide +kernel
theorem dX9_against_27 : decode cX9_against 27 = .ok (.iload_n 1, 1) := by decide +kernel
theorem dX9_against_28 : decode cX9_against 28 = .ok (.iaload, 1) := by decide +kernel
theorem dX9_against_29 : decode cX9_against 29 = .ok (.bipush (-9), 2) := by decide +kernel
theorem dX9_against_31 : decode cX9_against 31 = .ok (.if_icmp .ne 5, 3) := by decide +kernel
theorem dX9_against_34 : decode cX9_against 34 = .ok (.iconst 1, 1) := by decide +kernel
theorem dX9_against_35 : decode cX9_against 35 = .ok (.ireturn, 1) := by decide +kernel
set_option maxHeartbeats 4000000 in
set_option maxRecDepth 100000 in
theorem c_X9_against (l : Launch) (D : va_G) (sz : Nat) (k : Int32) (n : Int32) (i : Int32) (z : Int32) (h0 : Nat) (fa : Int32) (tc : Int32) (so : Nat) (sl : Nat) (ce : Nat) (kd : Nat) (wd : Nat) (hs : Nat) (pr : Nat) (la : Nat) (wg : Nat) (ta : Int32) (ck : Int64) (at9 : Int32) (rfn : Int32) (rk : Nat) (rw : Nat) (rh : Nat) (cl : Int32) (sa : Nat) (fi : Nat) (bo : Int32) (ch : Nat) (cn : Nat) (ad : Int32) (ru : Int32) (kp : Nat) (rfa : Nat) (cso : ClassId) (kSO : Nat → Int32) (h4 : 0 ≤ k ∧ k ≤ 3) : Met l yX9_against wsX9_against ({ frames := 0, cells := 0, slots := 0, locals := 0 }) (kPre [.ref h0, .int k, .int n, .int i, .int z] D [(h0, .inr (9, [.int fa, .int tc, .ref so, .ref sl, .ref ce, .int 0, .ref kd, .ref wd, .ref hs, .ref pr, .ref la, .int 0, .ref wg, .int ta, .long ck, .int at9, .int rfn, .ref rk, .ref rw, .ref rh, .int cl, .ref sa, .ref fi, .int bo, .ref ch, .ref cn, .int ad, .int ru, .ref kp, .int 0, .ref rfa])), (so, .inl (cso, 4, .inl kSO))] [(cso, .int)] sz) (QcRead 1) 0 0 (fun _ => False) := by
  refine Met.ofW (cc := cX9_against) (maxL := 5) (ret := (some .int)) (by decide) rfl ?_
  intro p e s m args below meth c s₁ B hml hv
  obtain ⟨rfl, hsz, hP, hK, hD0, hN⟩ := hv
  have hx := B.exec
  have hb := B.bytes
  have hr := B.returns
  have hts := atoms_spec (ws := wsX9_against) B.pre
  have hown : s.vm.findClass RX9 = some m.cls := findClass_of_methodNamed B.named
  have hlocks := B.notSynchronized
  subst hsz
  have hD := hD0
  have hP : va_P D vwCl [(h0, .inr (9, [.int fa, .int tc, .ref so, .ref sl, .ref ce, .int 0, .ref kd, .ref wd, .ref hs, .ref pr, .ref la, .int 0, .ref wg, .int ta, .long ck, .int at9, .int rfn, .ref rk, .ref rw, .ref rh, .int cl, .ref sa, .ref fi, .int bo, .ref ch, .ref cn, .int ad, .int ru, .ref kp, .int 0, .ref rfa])), (so, .inl (cso, 4, .inl kSO))] s.heap := hP
  have hl := lv_entry ([.ref h0, .int k, .int n, .int i, .int z]) (n := 5) (Nat.le_of_ble_eq_true rfl)
  rw [lg_entry_eq]
  generalize (lg_sl ([.ref h0, .int k, .int n, .int i, .int z]) ++ List.replicate (5 - (lg_sl ([.ref h0, .int k, .int n, .int i, .int z])).length) Slot.unset).toArray = ls at hl ⊢
  have hl : lv_has ls 5 [(0, .ref h0), (1, .int k), (2, .int n), (3, .int i), (4, .int z)] := hl
  refine lv_aload_n hx hb dX9_against_0 rfl (lv_at hl 0 rfl) ?_
  refine va_get (D := D) (ci := 9) (v := .ref so) (C := RX9) (T := TX9) (N := 31) hx hb hts (fun _ h9 => List.mem_cons_of_mem _ (List.mem_append_right _ h9)) hown hK hP 0 rfl rfl 2 (by decide) (hts (.fieldLink RX9 9 "FontRunsModel" "sorts" "[I") (by decide +kernel)) (fun _ h9 => h9) rfl dX9_against_1 ?_
  refine lv_iload_n hx hb dX9_against_4 rfl (lv_at hl 1 rfl) ?_
  refine va_iald hx hb hK hP 1 0 rfl rfl (k4in h4) dX9_against_5 ?_
  refine kn_i (-9) (kso h4) ?_
  refine lv_bipush (v := (-9)) hx hb dX9_against_6 (by decide) ?_
  refine lv_icmp_eq (tgt := 23) hx hb dX9_against_8 (by decide) (fun _ => ?_) (fun c9 => absurd (by decide) c9)
  refine lv_aload_n hx hb dX9_against_23 rfl (lv_at hl 0 rfl) ?_
  refine va_get (D := D) (ci := 9) (v := .ref so) (C := RX9) (T := TX9) (N := 31) hx hb hts (fun _ h9 => List.mem_cons_of_mem _ (List.mem_append_right _ h9)) hown hK hP 0 rfl rfl 2 (by decide) (hts (.fieldLink RX9 9 "FontRunsModel" "sorts" "[I") (by decide +kernel)) (fun _ h9 => h9) rfl dX9_against_24 ?_
  refine lv_iload_n hx hb dX9_against_27 rfl (lv_at hl 1 rfl) ?_
  refine va_iald hx hb hK hP 1 0 rfl rfl (k4in h4) dX9_against_28 ?_
  refine kn_i (-9) (kso h4) ?_
  refine lv_bipush (v := (-9)) hx hb dX9_against_29 (by decide) ?_
  refine lv_icmp_ne (tgt := 36) hx hb dX9_against_31 (by decide) (fun c9 => absurd (by decide) c9) (fun _ => ?_)
  refine lv_iconst (v := 1) hx hb dX9_against_34 (by decide) ?_
  exact W.iret (v := 1) hx hb hr (fun t ht hW => kRd rfl ht) (fun _ h9 => by cases h9) dX9_against_35
end
