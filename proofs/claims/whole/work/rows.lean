section
-- ===== PART A: goes FIRST, ahead of the names: the tables' words, and 'selects' of the private methods out of them =====
/-- a private method of a class that the tables say can be made, by its rows of tables_1 -/
def lw_okq (q : MethodName × Nat) : Prop := (q.1.cls ≠ "java/lang/invoke/MethodHandle" ∧ q.1.cls ≠ "java/lang/invoke/VarHandle") ∧ Cond.instantiable q.1.cls q.2 ∈ tables_1 ∧ Cond.privateMethod q.1 ∈ tables_1 ∧ Cond.instanceMethod q.1 ∈ tables_1
theorem lw_p0 : lw_okq (⟨"Topplemoor$Moor", "fillTable", "()V"⟩, 4) := ⟨⟨by decide +kernel, by decide +kernel⟩, List.mem_of_getElem? (i := 36) (by decide +kernel), List.mem_of_getElem? (i := 185) (by decide +kernel), List.mem_of_getElem? (i := 186) (by decide +kernel)⟩
theorem lw_p1 : lw_okq (⟨"Topplemoor$Moor", "eliminate", "(IJ)V"⟩, 4) := ⟨⟨by decide +kernel, by decide +kernel⟩, List.mem_of_getElem? (i := 36) (by decide +kernel), List.mem_of_getElem? (i := 189) (by decide +kernel), List.mem_of_getElem? (i := 190) (by decide +kernel)⟩
theorem lw_p2 : lw_okq (⟨"Topplemoor$Heap", "nextToBurn", "(I)I"⟩, 3) := ⟨⟨by decide +kernel, by decide +kernel⟩, List.mem_of_getElem? (i := 72) (by decide +kernel), List.mem_of_getElem? (i := 206) (by decide +kernel), List.mem_of_getElem? (i := 207) (by decide +kernel)⟩
theorem lw_p3 : lw_okq (⟨"Topplemoor", "manyValue", "(I)I"⟩, 11) := ⟨⟨by decide +kernel, by decide +kernel⟩, List.mem_of_getElem? (i := 28) (by decide +kernel), List.mem_of_getElem? (i := 220) (by decide +kernel), List.mem_of_getElem? (i := 221) (by decide +kernel)⟩
theorem lw_p4 : lw_okq (⟨"Topplemoor$Rotors", "leadsToSink", "(I)Z"⟩, 3) := ⟨⟨by decide +kernel, by decide +kernel⟩, List.mem_of_getElem? (i := 91) (by decide +kernel), List.mem_of_getElem? (i := 263) (by decide +kernel), List.mem_of_getElem? (i := 264) (by decide +kernel)⟩
theorem lw_p5 : lw_okq (⟨"Topplemoor", "spotValue", "(II)I"⟩, 11) := ⟨⟨by decide +kernel, by decide +kernel⟩, List.mem_of_getElem? (i := 28) (by decide +kernel), List.mem_of_getElem? (i := 279) (by decide +kernel), List.mem_of_getElem? (i := 280) (by decide +kernel)⟩
theorem lw_p6 : lw_okq (⟨"Topplemoor", "digestNode", "(JI)J"⟩, 11) := ⟨⟨by decide +kernel, by decide +kernel⟩, List.mem_of_getElem? (i := 28) (by decide +kernel), List.mem_of_getElem? (i := 285) (by decide +kernel), List.mem_of_getElem? (i := 286) (by decide +kernel)⟩
theorem lw_p7 : lw_okq (⟨"Topplemoor", "digestKept", "(J)J"⟩, 11) := ⟨⟨by decide +kernel, by decide +kernel⟩, List.mem_of_getElem? (i := 28) (by decide +kernel), List.mem_of_getElem? (i := 289) (by decide +kernel), List.mem_of_getElem? (i := 290) (by decide +kernel)⟩
theorem lw_p8 : lw_okq (⟨"Topplemoor", "digestFast", "(J)J"⟩, 11) := ⟨⟨by decide +kernel, by decide +kernel⟩, List.mem_of_getElem? (i := 28) (by decide +kernel), List.mem_of_getElem? (i := 293) (by decide +kernel), List.mem_of_getElem? (i := 294) (by decide +kernel)⟩
theorem lw_p9 : lw_okq (⟨"Topplemoor", "liesLasting", "()Z"⟩, 11) := ⟨⟨by decide +kernel, by decide +kernel⟩, List.mem_of_getElem? (i := 28) (by decide +kernel), List.mem_of_getElem? (i := 297) (by decide +kernel), List.mem_of_getElem? (i := 298) (by decide +kernel)⟩
theorem lw_p10 : lw_okq (⟨"Topplemoor$Heap", "rollRound", "()Z"⟩, 3) := ⟨⟨by decide +kernel, by decide +kernel⟩, List.mem_of_getElem? (i := 72) (by decide +kernel), List.mem_of_getElem? (i := 318) (by decide +kernel), List.mem_of_getElem? (i := 319) (by decide +kernel)⟩
theorem lw_p11 : lw_okq (⟨"Topplemoor", "rollTrialWith", "(II)V"⟩, 11) := ⟨⟨by decide +kernel, by decide +kernel⟩, List.mem_of_getElem? (i := 28) (by decide +kernel), List.mem_of_getElem? (i := 335) (by decide +kernel), List.mem_of_getElem? (i := 336) (by decide +kernel)⟩
theorem lw_p12 : lw_okq (⟨"Topplemoor$Money", "findLasting", "()V"⟩, 4) := ⟨⟨by decide +kernel, by decide +kernel⟩, List.mem_of_getElem? (i := 109) (by decide +kernel), List.mem_of_getElem? (i := 343) (by decide +kernel), List.mem_of_getElem? (i := 344) (by decide +kernel)⟩
theorem lw_p13 : lw_okq (⟨"Topplemoor$Money", "readOtherWay", "()V"⟩, 4) := ⟨⟨by decide +kernel, by decide +kernel⟩, List.mem_of_getElem? (i := 109) (by decide +kernel), List.mem_of_getElem? (i := 347) (by decide +kernel), List.mem_of_getElem? (i := 348) (by decide +kernel)⟩
theorem lw_p14 : lw_okq (⟨"Topplemoor$Money", "leastNeeded", "(LTopplemoor$Heap;)I"⟩, 4) := ⟨⟨by decide +kernel, by decide +kernel⟩, List.mem_of_getElem? (i := 109) (by decide +kernel), List.mem_of_getElem? (i := 356) (by decide +kernel), List.mem_of_getElem? (i := 357) (by decide +kernel)⟩
theorem lw_p15 : lw_okq (⟨"java/lang/Throwable", "fillInStackTrace", "(I)Ljava/lang/Throwable;"⟩, 6) := ⟨⟨by decide +kernel, by decide +kernel⟩, List.mem_of_getElem? (i := 411) (by decide +kernel), List.mem_of_getElem? (i := 409) (by decide +kernel), List.mem_of_getElem? (i := 410) (by decide +kernel)⟩
def lw_privs_1 : List (MethodName × Nat) := [(⟨"Topplemoor$Moor", "fillTable", "()V"⟩, 4), (⟨"Topplemoor$Moor", "eliminate", "(IJ)V"⟩, 4), (⟨"Topplemoor$Heap", "nextToBurn", "(I)I"⟩, 3), (⟨"Topplemoor", "manyValue", "(I)I"⟩, 11), (⟨"Topplemoor$Rotors", "leadsToSink", "(I)Z"⟩, 3), (⟨"Topplemoor", "spotValue", "(II)I"⟩, 11), (⟨"Topplemoor", "digestNode", "(JI)J"⟩, 11), (⟨"Topplemoor", "digestKept", "(J)J"⟩, 11), (⟨"Topplemoor", "digestFast", "(J)J"⟩, 11), (⟨"Topplemoor", "liesLasting", "()Z"⟩, 11), (⟨"Topplemoor$Heap", "rollRound", "()Z"⟩, 3), (⟨"Topplemoor", "rollTrialWith", "(II)V"⟩, 11), (⟨"Topplemoor$Money", "findLasting", "()V"⟩, 4), (⟨"Topplemoor$Money", "readOtherWay", "()V"⟩, 4), (⟨"Topplemoor$Money", "leastNeeded", "(LTopplemoor$Heap;)I"⟩, 4), (⟨"java/lang/Throwable", "fillInStackTrace", "(I)Ljava/lang/Throwable;"⟩, 6)]
theorem lw_r1 : ∀ q ∈ lw_privs_1, lw_okq q := List.forall_mem_cons.mpr ⟨lw_p0, List.forall_mem_cons.mpr ⟨lw_p1, List.forall_mem_cons.mpr ⟨lw_p2, List.forall_mem_cons.mpr ⟨lw_p3, List.forall_mem_cons.mpr ⟨lw_p4, List.forall_mem_cons.mpr ⟨lw_p5, List.forall_mem_cons.mpr ⟨lw_p6, List.forall_mem_cons.mpr ⟨lw_p7, List.forall_mem_cons.mpr ⟨lw_p8, List.forall_mem_cons.mpr ⟨lw_p9, List.forall_mem_cons.mpr ⟨lw_p10, List.forall_mem_cons.mpr ⟨lw_p11, List.forall_mem_cons.mpr ⟨lw_p12, List.forall_mem_cons.mpr ⟨lw_p13, List.forall_mem_cons.mpr ⟨lw_p14, List.forall_mem_cons.mpr ⟨lw_p15, fun _ h => absurd h List.not_mem_nil⟩⟩⟩⟩⟩⟩⟩⟩⟩⟩⟩⟩⟩⟩⟩⟩
theorem lw_p16 : lw_okq (⟨"Topplemoor", "requireNode", "(I)V"⟩, 11) := ⟨⟨by decide +kernel, by decide +kernel⟩, List.mem_of_getElem? (i := 28) (by decide +kernel), List.mem_of_getElem? (i := 450) (by decide +kernel), List.mem_of_getElem? (i := 451) (by decide +kernel)⟩
theorem lw_p17 : lw_okq (⟨"Topplemoor", "requireSpot", "(I)V"⟩, 11) := ⟨⟨by decide +kernel, by decide +kernel⟩, List.mem_of_getElem? (i := 28) (by decide +kernel), List.mem_of_getElem? (i := 510) (by decide +kernel), List.mem_of_getElem? (i := 511) (by decide +kernel)⟩
theorem lw_p18 : lw_okq (⟨"Topplemoor", "requireFast", "()V"⟩, 11) := ⟨⟨by decide +kernel, by decide +kernel⟩, List.mem_of_getElem? (i := 28) (by decide +kernel), List.mem_of_getElem? (i := 533) (by decide +kernel), List.mem_of_getElem? (i := 534) (by decide +kernel)⟩
theorem lw_p19 : lw_okq (⟨"Topplemoor", "settleLying", "()I"⟩, 11) := ⟨⟨by decide +kernel, by decide +kernel⟩, List.mem_of_getElem? (i := 28) (by decide +kernel), List.mem_of_getElem? (i := 538) (by decide +kernel), List.mem_of_getElem? (i := 539) (by decide +kernel)⟩
theorem lw_p20 : lw_okq (⟨"Topplemoor", "requireHeap", "(I)V"⟩, 11) := ⟨⟨by decide +kernel, by decide +kernel⟩, List.mem_of_getElem? (i := 28) (by decide +kernel), List.mem_of_getElem? (i := 562) (by decide +kernel), List.mem_of_getElem? (i := 563) (by decide +kernel)⟩
theorem lw_p21 : lw_okq (⟨"Topplemoor$Rotors", "turn", "(I)V"⟩, 3) := ⟨⟨by decide +kernel, by decide +kernel⟩, List.mem_of_getElem? (i := 91) (by decide +kernel), List.mem_of_getElem? (i := 583) (by decide +kernel), List.mem_of_getElem? (i := 584) (by decide +kernel)⟩
theorem lw_p22 : lw_okq (⟨"TopplemoorModel", "start", "(ZI)Z"⟩, 11) := ⟨⟨by decide +kernel, by decide +kernel⟩, List.mem_of_getElem? (i := 690) (by decide +kernel), List.mem_of_getElem? (i := 768) (by decide +kernel), List.mem_of_getElem? (i := 769) (by decide +kernel)⟩
theorem lw_p23 : lw_okq (⟨"TopplemoorModel", "refuse", "(ZI)Z"⟩, 11) := ⟨⟨by decide +kernel, by decide +kernel⟩, List.mem_of_getElem? (i := 690) (by decide +kernel), List.mem_of_getElem? (i := 772) (by decide +kernel), List.mem_of_getElem? (i := 773) (by decide +kernel)⟩
theorem lw_p24 : lw_okq (⟨"TopplemoorModel", "isNoNode", "(I)Z"⟩, 11) := ⟨⟨by decide +kernel, by decide +kernel⟩, List.mem_of_getElem? (i := 690) (by decide +kernel), List.mem_of_getElem? (i := 780) (by decide +kernel), List.mem_of_getElem? (i := 781) (by decide +kernel)⟩
theorem lw_p25 : lw_okq (⟨"TopplemoorModel", "isNoSpot", "(I)Z"⟩, 11) := ⟨⟨by decide +kernel, by decide +kernel⟩, List.mem_of_getElem? (i := 690) (by decide +kernel), List.mem_of_getElem? (i := 784) (by decide +kernel), List.mem_of_getElem? (i := 785) (by decide +kernel)⟩
theorem lw_p26 : lw_okq (⟨"TopplemoorModel", "isSteep", "([II)Z"⟩, 11) := ⟨⟨by decide +kernel, by decide +kernel⟩, List.mem_of_getElem? (i := 690) (by decide +kernel), List.mem_of_getElem? (i := 799) (by decide +kernel), List.mem_of_getElem? (i := 800) (by decide +kernel)⟩
theorem lw_p27 : lw_okq (⟨"TopplemoorModel", "degree", "(I)I"⟩, 11) := ⟨⟨by decide +kernel, by decide +kernel⟩, List.mem_of_getElem? (i := 690) (by decide +kernel), List.mem_of_getElem? (i := 803) (by decide +kernel), List.mem_of_getElem? (i := 804) (by decide +kernel)⟩
theorem lw_p28 : lw_okq (⟨"TopplemoorModel", "fall", "([II)V"⟩, 11) := ⟨⟨by decide +kernel, by decide +kernel⟩, List.mem_of_getElem? (i := 690) (by decide +kernel), List.mem_of_getElem? (i := 807) (by decide +kernel), List.mem_of_getElem? (i := 808) (by decide +kernel)⟩
theorem lw_p29 : lw_okq (⟨"TopplemoorModel", "isFast", "()Z"⟩, 11) := ⟨⟨by decide +kernel, by decide +kernel⟩, List.mem_of_getElem? (i := 690) (by decide +kernel), List.mem_of_getElem? (i := 815) (by decide +kernel), List.mem_of_getElem? (i := 816) (by decide +kernel)⟩
theorem lw_p30 : lw_okq (⟨"TopplemoorModel", "settled", "([I)[I"⟩, 11) := ⟨⟨by decide +kernel, by decide +kernel⟩, List.mem_of_getElem? (i := 690) (by decide +kernel), List.mem_of_getElem? (i := 819) (by decide +kernel), List.mem_of_getElem? (i := 820) (by decide +kernel)⟩
theorem lw_p31 : lw_okq (⟨"TopplemoorModel", "steepest", "([I)I"⟩, 11) := ⟨⟨by decide +kernel, by decide +kernel⟩, List.mem_of_getElem? (i := 690) (by decide +kernel), List.mem_of_getElem? (i := 823) (by decide +kernel), List.mem_of_getElem? (i := 824) (by decide +kernel)⟩
def lw_privs_2 : List (MethodName × Nat) := [(⟨"Topplemoor", "requireNode", "(I)V"⟩, 11), (⟨"Topplemoor", "requireSpot", "(I)V"⟩, 11), (⟨"Topplemoor", "requireFast", "()V"⟩, 11), (⟨"Topplemoor", "settleLying", "()I"⟩, 11), (⟨"Topplemoor", "requireHeap", "(I)V"⟩, 11), (⟨"Topplemoor$Rotors", "turn", "(I)V"⟩, 3), (⟨"TopplemoorModel", "start", "(ZI)Z"⟩, 11), (⟨"TopplemoorModel", "refuse", "(ZI)Z"⟩, 11), (⟨"TopplemoorModel", "isNoNode", "(I)Z"⟩, 11), (⟨"TopplemoorModel", "isNoSpot", "(I)Z"⟩, 11), (⟨"TopplemoorModel", "isSteep", "([II)Z"⟩, 11), (⟨"TopplemoorModel", "degree", "(I)I"⟩, 11), (⟨"TopplemoorModel", "fall", "([II)V"⟩, 11), (⟨"TopplemoorModel", "isFast", "()Z"⟩, 11), (⟨"TopplemoorModel", "settled", "([I)[I"⟩, 11), (⟨"TopplemoorModel", "steepest", "([I)I"⟩, 11)]
theorem lw_r2 : ∀ q ∈ lw_privs_2, lw_okq q := List.forall_mem_cons.mpr ⟨lw_p16, List.forall_mem_cons.mpr ⟨lw_p17, List.forall_mem_cons.mpr ⟨lw_p18, List.forall_mem_cons.mpr ⟨lw_p19, List.forall_mem_cons.mpr ⟨lw_p20, List.forall_mem_cons.mpr ⟨lw_p21, List.forall_mem_cons.mpr ⟨lw_p22, List.forall_mem_cons.mpr ⟨lw_p23, List.forall_mem_cons.mpr ⟨lw_p24, List.forall_mem_cons.mpr ⟨lw_p25, List.forall_mem_cons.mpr ⟨lw_p26, List.forall_mem_cons.mpr ⟨lw_p27, List.forall_mem_cons.mpr ⟨lw_p28, List.forall_mem_cons.mpr ⟨lw_p29, List.forall_mem_cons.mpr ⟨lw_p30, List.forall_mem_cons.mpr ⟨lw_p31, fun _ h => absurd h List.not_mem_nil⟩⟩⟩⟩⟩⟩⟩⟩⟩⟩⟩⟩⟩⟩⟩⟩
theorem lw_p32 : lw_okq (⟨"TopplemoorModel", "land", "([I)I"⟩, 11) := ⟨⟨by decide +kernel, by decide +kernel⟩, List.mem_of_getElem? (i := 690) (by decide +kernel), List.mem_of_getElem? (i := 827) (by decide +kernel), List.mem_of_getElem? (i := 828) (by decide +kernel)⟩
theorem lw_p33 : lw_okq (⟨"TopplemoorModel", "swallowedBy", "([I)I"⟩, 11) := ⟨⟨by decide +kernel, by decide +kernel⟩, List.mem_of_getElem? (i := 690) (by decide +kernel), List.mem_of_getElem? (i := 834) (by decide +kernel), List.mem_of_getElem? (i := 835) (by decide +kernel)⟩
theorem lw_p34 : lw_okq (⟨"java/util/ArrayList", "add", "(Ljava/lang/Object;[Ljava/lang/Object;I)V"⟩, 3) := ⟨⟨by decide +kernel, by decide +kernel⟩, List.mem_of_getElem? (i := 697) (by decide +kernel), List.mem_of_getElem? (i := 855) (by decide +kernel), List.mem_of_getElem? (i := 856) (by decide +kernel)⟩
theorem lw_p35 : lw_okq (⟨"java/util/ArrayList", "grow", "()[Ljava/lang/Object;"⟩, 3) := ⟨⟨by decide +kernel, by decide +kernel⟩, List.mem_of_getElem? (i := 697) (by decide +kernel), List.mem_of_getElem? (i := 859) (by decide +kernel), List.mem_of_getElem? (i := 860) (by decide +kernel)⟩
theorem lw_p36 : lw_okq (⟨"java/util/ArrayList", "grow", "(I)[Ljava/lang/Object;"⟩, 3) := ⟨⟨by decide +kernel, by decide +kernel⟩, List.mem_of_getElem? (i := 697) (by decide +kernel), List.mem_of_getElem? (i := 863) (by decide +kernel), List.mem_of_getElem? (i := 864) (by decide +kernel)⟩
theorem lw_p37 : lw_okq (⟨"TopplemoorModel", "pointed", "(II)I"⟩, 11) := ⟨⟨by decide +kernel, by decide +kernel⟩, List.mem_of_getElem? (i := 690) (by decide +kernel), List.mem_of_getElem? (i := 937) (by decide +kernel), List.mem_of_getElem? (i := 938) (by decide +kernel)⟩
theorem lw_p38 : lw_okq (⟨"TopplemoorModel", "give", "([III)V"⟩, 11) := ⟨⟨by decide +kernel, by decide +kernel⟩, List.mem_of_getElem? (i := 690) (by decide +kernel), List.mem_of_getElem? (i := 949) (by decide +kernel), List.mem_of_getElem? (i := 950) (by decide +kernel)⟩
theorem lw_p39 : lw_okq (⟨"TopplemoorModel", "toldOfSpot", "(II)I"⟩, 11) := ⟨⟨by decide +kernel, by decide +kernel⟩, List.mem_of_getElem? (i := 690) (by decide +kernel), List.mem_of_getElem? (i := 957) (by decide +kernel), List.mem_of_getElem? (i := 958) (by decide +kernel)⟩
theorem lw_p40 : lw_okq (⟨"TopplemoorModel", "told", "(I)I"⟩, 11) := ⟨⟨by decide +kernel, by decide +kernel⟩, List.mem_of_getElem? (i := 690) (by decide +kernel), List.mem_of_getElem? (i := 980) (by decide +kernel), List.mem_of_getElem? (i := 981) (by decide +kernel)⟩
theorem lw_p41 : lw_okq (⟨"TopplemoorModel", "isTree", "()Z"⟩, 11) := ⟨⟨by decide +kernel, by decide +kernel⟩, List.mem_of_getElem? (i := 690) (by decide +kernel), List.mem_of_getElem? (i := 984) (by decide +kernel), List.mem_of_getElem? (i := 985) (by decide +kernel)⟩
theorem lw_p42 : lw_okq (⟨"TopplemoorModel", "counted", "()J"⟩, 11) := ⟨⟨by decide +kernel, by decide +kernel⟩, List.mem_of_getElem? (i := 690) (by decide +kernel), List.mem_of_getElem? (i := 992) (by decide +kernel), List.mem_of_getElem? (i := 993) (by decide +kernel)⟩
theorem lw_p43 : lw_okq (⟨"TopplemoorModel", "wouldDo", "(III)I"⟩, 11) := ⟨⟨by decide +kernel, by decide +kernel⟩, List.mem_of_getElem? (i := 690) (by decide +kernel), List.mem_of_getElem? (i := 1029) (by decide +kernel), List.mem_of_getElem? (i := 1030) (by decide +kernel)⟩
theorem lw_p44 : lw_okq (⟨"TopplemoorModel", "isKeptOn", "()Z"⟩, 11) := ⟨⟨by decide +kernel, by decide +kernel⟩, List.mem_of_getElem? (i := 690) (by decide +kernel), List.mem_of_getElem? (i := 1037) (by decide +kernel), List.mem_of_getElem? (i := 1038) (by decide +kernel)⟩
theorem lw_p45 : lw_okq (⟨"TopplemoorModel", "neutral", "()[I"⟩, 11) := ⟨⟨by decide +kernel, by decide +kernel⟩, List.mem_of_getElem? (i := 690) (by decide +kernel), List.mem_of_getElem? (i := 1045) (by decide +kernel), List.mem_of_getElem? (i := 1046) (by decide +kernel)⟩
theorem lw_p46 : lw_okq (⟨"TopplemoorModel", "burnt", "()I"⟩, 11) := ⟨⟨by decide +kernel, by decide +kernel⟩, List.mem_of_getElem? (i := 690) (by decide +kernel), List.mem_of_getElem? (i := 1053) (by decide +kernel), List.mem_of_getElem? (i := 1054) (by decide +kernel)⟩
theorem lw_p47 : lw_okq (⟨"TopplemoorModel", "isPaid", "([I)Z"⟩, 11) := ⟨⟨by decide +kernel, by decide +kernel⟩, List.mem_of_getElem? (i := 690) (by decide +kernel), List.mem_of_getElem? (i := 1068) (by decide +kernel), List.mem_of_getElem? (i := 1069) (by decide +kernel)⟩
def lw_privs_3 : List (MethodName × Nat) := [(⟨"TopplemoorModel", "land", "([I)I"⟩, 11), (⟨"TopplemoorModel", "swallowedBy", "([I)I"⟩, 11), (⟨"java/util/ArrayList", "add", "(Ljava/lang/Object;[Ljava/lang/Object;I)V"⟩, 3), (⟨"java/util/ArrayList", "grow", "()[Ljava/lang/Object;"⟩, 3), (⟨"java/util/ArrayList", "grow", "(I)[Ljava/lang/Object;"⟩, 3), (⟨"TopplemoorModel", "pointed", "(II)I"⟩, 11), (⟨"TopplemoorModel", "give", "([III)V"⟩, 11), (⟨"TopplemoorModel", "toldOfSpot", "(II)I"⟩, 11), (⟨"TopplemoorModel", "told", "(I)I"⟩, 11), (⟨"TopplemoorModel", "isTree", "()Z"⟩, 11), (⟨"TopplemoorModel", "counted", "()J"⟩, 11), (⟨"TopplemoorModel", "wouldDo", "(III)I"⟩, 11), (⟨"TopplemoorModel", "isKeptOn", "()Z"⟩, 11), (⟨"TopplemoorModel", "neutral", "()[I"⟩, 11), (⟨"TopplemoorModel", "burnt", "()I"⟩, 11), (⟨"TopplemoorModel", "isPaid", "([I)Z"⟩, 11)]
theorem lw_r3 : ∀ q ∈ lw_privs_3, lw_okq q := List.forall_mem_cons.mpr ⟨lw_p32, List.forall_mem_cons.mpr ⟨lw_p33, List.forall_mem_cons.mpr ⟨lw_p34, List.forall_mem_cons.mpr ⟨lw_p35, List.forall_mem_cons.mpr ⟨lw_p36, List.forall_mem_cons.mpr ⟨lw_p37, List.forall_mem_cons.mpr ⟨lw_p38, List.forall_mem_cons.mpr ⟨lw_p39, List.forall_mem_cons.mpr ⟨lw_p40, List.forall_mem_cons.mpr ⟨lw_p41, List.forall_mem_cons.mpr ⟨lw_p42, List.forall_mem_cons.mpr ⟨lw_p43, List.forall_mem_cons.mpr ⟨lw_p44, List.forall_mem_cons.mpr ⟨lw_p45, List.forall_mem_cons.mpr ⟨lw_p46, List.forall_mem_cons.mpr ⟨lw_p47, fun _ h => absurd h List.not_mem_nil⟩⟩⟩⟩⟩⟩⟩⟩⟩⟩⟩⟩⟩⟩⟩⟩
theorem lw_p48 : lw_okq (⟨"TopplemoorModel", "weak", "()I"⟩, 11) := ⟨⟨by decide +kernel, by decide +kernel⟩, List.mem_of_getElem? (i := 690) (by decide +kernel), List.mem_of_getElem? (i := 1076) (by decide +kernel), List.mem_of_getElem? (i := 1077) (by decide +kernel)⟩
def lw_privs_4 : List (MethodName × Nat) := [(⟨"TopplemoorModel", "weak", "()I"⟩, 11)]
theorem lw_r4 : ∀ q ∈ lw_privs_4, lw_okq q := List.forall_mem_cons.mpr ⟨lw_p48, fun _ h => absurd h List.not_mem_nil⟩
def lw_privs : List (MethodName × Nat) := lw_privs_1 ++ (lw_privs_2 ++ (lw_privs_3 ++ (lw_privs_4)))
def lw_tbl : List Cond := k2_sels lw_privs ++ tables_1
theorem lw_privs_ok : ∀ q ∈ lw_privs, lw_okq q := by
  show ∀ q ∈ lw_privs_1 ++ (lw_privs_2 ++ (lw_privs_3 ++ (lw_privs_4))), lw_okq q
  exact List.forall_mem_append.mpr ⟨lw_r1, List.forall_mem_append.mpr ⟨lw_r2, List.forall_mem_append.mpr ⟨lw_r3, lw_r4⟩⟩⟩
/-- the streams that the claim lets the run draw from -/
abbrev lw_cs : List Choice := [Jvm.Choice.named "NaN.bits", Jvm.Choice.named "NaN.copy"]
theorem lw_bits : nanBits ∈ lw_cs := by first | decide | exact List.mem_cons_self | simp [lw_cs, nanBits]
-- ===== end of PART A; then your names; then what follows =====
end
section
/-! ===== BEGIN words of one list among another's, by their places ===== -/
theorem goodIn_r {big : List Cond} (ws : List Cond) (ps : List Nat) (hp : ws = ps.filterMap (fun i => big[i]?)) (h : ws.all goodWord = true) : GoodIn big ws := by
  intro w hw
  have h1 := List.all_eq_true.mp h w hw
  rw [hp] at hw
  obtain ⟨i, -, hi⟩ := List.mem_filterMap.mp hw
  have hm : w ∈ big := by first | exact List.mem_of_getElem? hi | exact List.getElem?_mem hi
  exact ⟨hm, good_of_word h1⟩
theorem goodIn_app {big a b : List Cond} (ha : GoodIn big a) (hb : GoodIn big b) : GoodIn big (a ++ b) := fun w h => (List.mem_append.mp h).elim (ha w) (hb w)
theorem goodIn_ca {big a b : List Cond} {c : Cond} (ha : GoodIn big (c :: a)) (hb : GoodIn big b) : GoodIn big (c :: (a ++ b)) := fun w h => (List.mem_cons.mp h).elim (fun e => ha w (List.mem_cons.mpr (Or.inl e))) (fun h => (List.mem_append.mp h).elim (fun h => ha w (List.mem_cons.mpr (Or.inr h))) (hb w))
theorem goodIn_sub {big ws : List Cond} (hm : ∀ w ∈ ws, w ∈ big) (h : ws.all goodWord = true) : GoodIn big ws := fun w hw => ⟨hm w hw, good_of_word (List.all_eq_true.mp h w hw)⟩
/-! ===== END ===== -/

/-! ===== BEGIN new T[n][m]: the outer array a place, the inner ones among the pooled ===== -/
/-- f, but v at every address of l -/
def vr_up {α : Type} (f : Nat → α) (l : List Nat) (v : α) : Nat → α := fun a => if a ∈ l then v else f a
theorem vr_up_in {α : Type} {f : Nat → α} {l : List Nat} {v : α} {a : Nat} (h : a ∈ l) : vr_up f l v a = v := if_pos h
theorem vr_up_ne {α : Type} {f : Nat → α} {l : List Nat} {v : α} {a : Nat} (h : a ∉ l) : vr_up f l v a = f a := if_neg h
theorem vr_rows {L l : List Nat} {f : Nat → va_E} {e : va_E} (h : ∀ a, a ∈ l → a ∉ L) : va_pl L f ++ l.map (fun a => (a, e)) = va_pl (L ++ l) (vr_up f l e) := by
  unfold va_pl
  rw [List.map_append]
  congr 1
  · apply List.map_congr_left
    intro a ha
    rw [vr_up_ne (fun q => h a q ha)]
  · apply List.map_congr_left
    intro a ha
    rw [vr_up_in ha]
theorem vr_lay {X rows : va_W} {x : Nat × va_E} {pl : va_W} {D : va_G} {cl : List vw_C} {H : Heap} (hP : va_P D cl (((X ++ pl) ++ [x]) ++ rows) H) : va_P D cl ((X ++ [x]) ++ (pl ++ rows)) H := by
  rw [List.append_assoc (X ++ pl)] at hP
  have h := va_P.swap hP
  rw [← List.append_assoc X] at h
  have h2 := va_P.swap h
  rw [List.append_assoc (X ++ [x])] at h2
  exact h2
theorem vr_layD {X rows : va_W} {x : Nat × va_E} {pl : va_W} {A : Nat → Prop} (hD : va_D A (((X ++ pl) ++ [x]) ++ rows)) : va_D A ((X ++ [x]) ++ (pl ++ rows)) := by
  rw [List.append_assoc (X ++ pl)] at hD
  have h := va_D.swap hD
  rw [← List.append_assoc X] at h
  have h2 := va_D.swap h
  rw [List.append_assoc (X ++ [x])] at h2
  exact h2
theorem vr_outer (c : ClassId) (N h0 : Nat) : ∀ i : Nat, Jvm.Free.Multi.outerC c N h0 i = arrV c N (fun j => va_rf (if j < i then some (h0 + 1 + j) else none))
  | 0 => by
    show ({ cls := c, slots := Array.replicate N .null, vm := .none } : Cell) = _
    rw [arrV_new]
    refine congrArg (arrV c N) (funext fun j => ?_)
    simp [va_rf]
  | i + 1 => by
    show (Jvm.Free.Multi.outerC c N h0 i).setSlot i (.ref (h0 + 1 + i)) = _
    rw [vr_outer c N h0 i, arrV_store]
    refine congrArg (arrV c N) (funext fun j => ?_)
    by_cases e : j = i
    · subst e
      simp [updV, va_rf]
    · by_cases h : j < i
      · simp [updV, e, h, Nat.lt_succ_of_lt h]
      · simp [updV, e, h, show ¬ j < i + 1 by omega]
def va_AOA (ty : FieldType) (U : State) : Prop := (Cond.arrayOver (.array ty)).before #[] U = true
theorem va_AOA.of {ty : FieldType} {A : Array Value} {U : State} (h : (Cond.arrayOver (.array ty)).before A U = true) : va_AOA ty U := h
theorem va_AOA.use {ty : FieldType} {A : Array Value} {U : State} (h : va_AOA ty U) : (Cond.arrayOver (.array ty)).before A U = true := h
theorem va_AOA.moved {ty : FieldType} {u U : State} (hvm : u.vm.Alike U.vm) (h : va_AOA ty u) : va_AOA ty U := Jvm.Stand.arrayOver_alikeB (args' := #[]) (U := U) (first' := U) (o' := none) (idx' := []) hvm h
section VGM
variable {p : Program} {l : Launch} {e : Env} {R : Room} {s : State} {m : MethodId} {args : Array Value} {below : List Frame} {meth : Method} {c : Code} {H : Heap} {locs : List Loc} {cells slots : Nat} {Q : State → Prop}
variable {cc : ByteArray} {pc : Nat} {ls : Array Slot} {rest : List Value} {D : va_G} {cl : List vw_C} {A : Nat → Prop} {a : Nat} {tys : List (ClassId × FieldType)} {ws : va_W} {H0 : Heap}
theorem va_mna {X : va_W} {L : List Nat} {f : Nat → va_E} {cc : ByteArray} (hexec : p.tables.exec = Jvm.exec) (hb : c.code = cc) {own : String} {index : Nat} {ty : FieldType} {cy : ClassId} (hown : s.vm.findClass own = some m.cls) (hclink : (Cond.classLink own index ("[" ++ (FieldType.array ty).toString)).before args s = true) (hover : va_AOA ty s) (harr : (Cond.arrayClass ty).before args s = true) (hcy : s.vm.findClass (FieldType.array ty).toString = some cy)
    (hK : va_K D cl tys s) (hP : va_P D cl (X ++ va_pl L f) H) (hD : va_D A (X ++ va_pl L f)) (hS : va_S A H0 H locs) (hA : ∀ q, H0.size ≤ q → A q) {n k : Int32} {N' K' : Nat} {z : vp_A} (hn : ¬ n < 0) (hk : ¬ k < 0) (hN : n.toNatClampNeg = N') (hM : k.toNatClampNeg = K')
    (hb1 : N' * 4 ≤ 536870912) (hb2 : K' * componentBytes ty ≤ 536870912) (hb3 : K' ≤ 536870912) (hdf : fits ty (defaultValue ty) = true) (hdd : (defaultValue ty).isDefault = true) (hcells : cells + (1 + N') ≤ R.cells) (hslots : slots + (N' + N' * K') ≤ R.slots) (hz : ∀ c : ClassId, Jvm.Free.Multi.innerC c K' (defaultValue ty) = vp_cell c z) (hdg : decode cc pc = .ok (.multianewarray index 2, 4))
    (kk : ∀ (q : Nat) (r : Nat → Nat) (cA : ClassId) (H1 : Heap), (∀ i j : Nat, i < N' → j < N' → r i = r j → i = j) → (∀ i : Nat, i < N' → r i ∉ L) → va_K D cl (tys ++ [(cA, .array ty)]) s →
      va_P D cl ((X ++ [(q, .inl (cA, N', .inr (.inr (.inr (.inr (fun i => if i < N' then some (r i) else none))))))]) ++ va_pl (L ++ (List.range N').map r) (vr_up f ((List.range N').map r) (.inl (cy, z)))) H1 → va_D A ((X ++ [(q, .inl (cA, N', .inr (.inr (.inr (.inr (fun i => if i < N' then some (r i) else none))))))]) ++ va_pl (L ++ (List.range N').map r) (vr_up f ((List.range N').map r) (.inl (cy, z)))) → va_S A H0 H1 locs →
      W p l e R s m args below meth c H1 locs (cells + 1 + N') (slots + N' + N' * K') Q (F0 m (pc + 4) ls (.ref q :: rest))) : W p l e R s m args below meth c H locs cells slots Q (F0 m pc ls (.int k :: .int n :: rest)) := by
  subst hN
  subst hM
  intro T hT Xs
  obtain ⟨vm₁, cA, comp, -, fA, fC, hO, -, X', step⟩ := Xs.multianewarray2F hexec hown hclink (va_AOA.use hover) harr (g := F0 m pc ls (.int k :: .int n :: rest)) rfl (by rw [hb]; exact hdg) rfl hn hk hb1 hb2 hb3 hdf hdd hcells hslots
  have ec : some cy = some comp := hcy.symm.trans fC
  cases ec
  generalize hF : Jvm.Free.Multi.fill (T.setVm vm₁) cA cy n.toNatClampNeg k.toNatClampNeg (defaultValue ty) n.toNatClampNeg = F at X' step
  have hTh : (T.setVm vm₁).heap = H := hT
  obtain ⟨f1, f2, -, -⟩ := Jvm.Free.Multi.fill_facts (T.setVm vm₁) cA cy n.toNatClampNeg k.toNatClampNeg (defaultValue ty) n.toNatClampNeg
  rw [hF, hTh] at f1 f2
  have hold : ∀ x : Nat, x < H.size → F.heap[x]? = H[x]? := fun x hx => by
    have := Jvm.Free.Multi.fill_old (T.setVm vm₁) cA cy n.toNatClampNeg k.toNatClampNeg (defaultValue ty) (a := x) (by rw [hTh]; exact hx) n.toNatClampNeg
    rw [hF, hTh] at this
    exact this
  have hrow : ∀ j : Nat, j < n.toNatClampNeg → F.heap[H.size + 1 + j]? = some (vp_cell cy z) := fun j hj => by
    have := Jvm.Free.Multi.fill_inner (T.setVm vm₁) cA cy n.toNatClampNeg k.toNatClampNeg (defaultValue ty) n.toNatClampNeg j hj
    rw [hF, hTh, hz] at this
    exact this
  have hout : Jvm.Free.Multi.outerC cA n.toNatClampNeg H.size n.toNatClampNeg = vp_cell cA (n.toNatClampNeg, .inr (.inr (.inr (.inr (fun i => if i < n.toNatClampNeg then some (H.size + 1 + i) else none))))) := by
    rw [vp_cell_q]
    exact vr_outer cA n.toNatClampNeg H.size n.toNatClampNeg
  rw [hout] at f2
  have hlt : ∀ a, a ∈ L → a < H.size := fun a ha => by
    obtain ⟨k9, hk9⟩ := va_pl_get (X := X) (f := f) ha
    exact (hP k9 _ hk9).lt
  have hnl : ∀ i : Nat, i < n.toNatClampNeg → H.size + 1 + i ∉ L := fun i _ h => by
    have := hlt _ h
    omega
  have hnm : ∀ a, a ∈ (List.range n.toNatClampNeg).map (fun i => H.size + 1 + i) → a ∉ L := fun a ha h => by
    obtain ⟨i, -, rfl⟩ := List.mem_map.mp ha
    have := hlt _ h
    omega
  have hP0 : va_P D cl (X ++ va_pl L f) F.heap := hP.kept (fun k9 x hx => hold x.1 ((hP k9 x hx).lt))
  have hP1 : va_P D cl ((X ++ va_pl L f) ++ [(H.size, .inl (cA, n.toNatClampNeg, .inr (.inr (.inr (.inr (fun i => if i < n.toNatClampNeg then some (H.size + 1 + i) else none))))))]) F.heap := hP0.app (fun k9 x hx => by
    have h0 : k9 < 1 := (List.getElem?_eq_some_iff.mp hx).1
    rw [show k9 = 0 by omega] at hx
    cases hx
    exact f2)
  have hP2 : va_P D cl (((X ++ va_pl L f) ++ [(H.size, .inl (cA, n.toNatClampNeg, .inr (.inr (.inr (.inr (fun i => if i < n.toNatClampNeg then some (H.size + 1 + i) else none))))))]) ++ ((List.range n.toNatClampNeg).map (fun i => H.size + 1 + i)).map (fun a => (a, .inl (cy, z)))) F.heap := hP1.app (fun k9 x hx => by
    obtain ⟨a, ha, rfl⟩ := List.mem_map.mp (List.mem_of_getElem? hx)
    obtain ⟨i, hi, rfl⟩ := List.mem_map.mp ha
    exact hrow i (List.mem_range.mp hi))
  have hD2 : va_D A (((X ++ va_pl L f) ++ [(H.size, .inl (cA, n.toNatClampNeg, .inr (.inr (.inr (.inr (fun i => if i < n.toNatClampNeg then some (H.size + 1 + i) else none))))))]) ++ ((List.range n.toNatClampNeg).map (fun i => H.size + 1 + i)).map (fun a => (a, .inl (cy, z)))) := by
    have hD1 := hD.push (e := .inl (cA, n.toNatClampNeg, .inr (.inr (.inr (.inr (fun i => if i < n.toNatClampNeg then some (H.size + 1 + i) else none)))))) hP rfl (hA _ hS.1)
    generalize hW1 : (X ++ va_pl L f) ++ [(H.size, .inl (cA, n.toNatClampNeg, .inr (.inr (.inr (.inr (fun i => if i < n.toNatClampNeg then some (H.size + 1 + i) else none))))))] = W1 at hD1 hP1 ⊢
    have hle : ∀ (k9 : Nat) (x : Nat × va_E), W1[k9]? = some x → x.1 ≤ H.size := fun k9 x hx => by
      rw [← hW1] at hx
      by_cases hl : k9 < (X ++ va_pl L f).length
      · rw [List.getElem?_append_left hl] at hx
        exact Nat.le_of_lt ((hP k9 x hx).lt)
      · rw [List.getElem?_append_right (by omega)] at hx
        have h0 : k9 - (X ++ va_pl L f).length < 1 := (List.getElem?_eq_some_iff.mp hx).1
        rw [show k9 - (X ++ va_pl L f).length = 0 by omega] at hx
        cases hx
        exact Nat.le_refl _
    have hr : ∀ (k9 : Nat) (x : Nat × va_E), (((List.range n.toNatClampNeg).map (fun i => H.size + 1 + i)).map (fun a => ((a, .inl (cy, z)) : Nat × va_E)))[k9]? = some x → x.1 = H.size + 1 + k9 := fun k9 x hx => by
      rw [List.getElem?_map, List.getElem?_map] at hx
      by_cases h9 : k9 < n.toNatClampNeg
      · rw [List.getElem?_range h9] at hx
        cases hx
        rfl
      · have hn0 : (List.range n.toNatClampNeg)[k9]? = none := List.getElem?_eq_none (by rw [List.length_range]; omega)
        rw [hn0] at hx
        cases hx
    refine ⟨fun i j x y hi hj hxy => ?_, fun k9 x hx => ?_⟩
    · by_cases h1 : i < W1.length <;> by_cases h2 : j < W1.length
      · rw [List.getElem?_append_left h1] at hi
        rw [List.getElem?_append_left h2] at hj
        exact hD1.1 i j x y hi hj hxy
      · rw [List.getElem?_append_left h1] at hi
        rw [List.getElem?_append_right (by omega)] at hj
        have := hle _ _ hi
        have := hr _ _ hj
        omega
      · rw [List.getElem?_append_right (by omega)] at hi
        rw [List.getElem?_append_left h2] at hj
        have := hle _ _ hj
        have := hr _ _ hi
        omega
      · rw [List.getElem?_append_right (by omega)] at hi hj
        have := hr _ _ hi
        have := hr _ _ hj
        omega
    · by_cases h1 : k9 < W1.length
      · rw [List.getElem?_append_left h1] at hx
        exact hD1.2 k9 x hx
      · rw [List.getElem?_append_right (by omega)] at hx
        have := hr _ _ hx
        exact hA _ (by have := hS.1; omega)
  have hAr : ArrOfT s cA (.array ty) := fun N9 z9 => by
    obtain ⟨-, k9, hk9, cm9, hkk9⟩ := (hO 0 0 0).1
    exact ⟨(fun q hq => by cases hq), k9, hk9, cm9, hkk9⟩
  have hK2 : va_K D cl (tys ++ [(cA, .array ty)]) s := ⟨hK.1, fun k9 x hx => by
    by_cases hl : k9 < tys.length
    · rw [List.getElem?_append_left hl] at hx
      exact hK.2 k9 x hx
    · rw [List.getElem?_append_right (by omega)] at hx
      have h0 : k9 - tys.length < 1 := (List.getElem?_eq_some_iff.mp hx).1
      rw [show k9 - tys.length = 0 by omega] at hx
      cases hx
      exact ⟨hAr, fA⟩⟩
  obtain ⟨t, a1, b1⟩ := kk H.size (fun i => H.size + 1 + i) cA F.heap (fun i j _ _ h => by have h9 : H.size + 1 + i = H.size + 1 + j := h; omega) hnl hK2 (by rw [← vr_rows hnm]; exact vr_lay hP2) (by rw [← vr_rows hnm]; exact vr_layD hD2) ⟨by rw [f1]; have := hS.1; omega, fun x h1 h2 => (hold x (Nat.lt_of_lt_of_le h1 hS.1)).trans (hS.2.1 x h1 h2), hS.2.2⟩ F rfl X'
  refine ⟨t, step t ?_, b1⟩
  have e : T.heap.size = H.size := by rw [hT]
  rw [e]
  exact a1
end VGM
/-! ===== END ===== -/

/-! ===== BEGIN exceptions that leave a method, and their catching by the caller (launches without stack traces) ===== -/
section VXA
/-! The laws vx_back, vx_callV, vx_callS, vx_callSW, vx_throw0, vx_throwS follow proofs of the library, with one case more: JvmDerived/Free/Laws.lean (Back.of_free), Shelf42/LK1.lean (callV, callS), Shelf/KitTraced.lean (throwNew0V, throwNewS). -/
/-- where a method has thrown q: the class by its name, the cell, what was written, the world -/
def vx_T (XC : String → State → State → Prop) (st : State) (q : Addr) (t : State) (mc ms : Nat) (free : Addr → Prop) : Prop :=
  ∃ (E : String) (ce : Cell) (L : List Loc), XC E st t ∧ t.heap[q]? = some ce ∧ ce.vm = .none ∧ st.vm.findClass E = some ce.cls ∧ st.WarmedH t.vm ∧ st.sameButNew ({ t with vm := st.vm } : State) L mc ms ∧ ∀ z ∈ L, free z.base
def vx_Q (Qc : Array Value → State → Outcome → State → Prop) (XC : String → State → State → Prop) (mc ms : Nat) (free : Addr → Prop) : Array Value → State → Outcome → State → Prop := fun a st o t =>
  (Qc a st o t ∧ ∃ L, FrameEnd st o t L mc ms ∧ ∀ q ∈ L, free q.base) ∨ ∃ q, o = .threw q ∧ vx_T XC st q t mc ms free
/-- a callee that returns or throws -/
def vx_Met (l : Launch) (y : MethodName) (ws : List Cond) (rm : Room) (Pc : Array Value → State → Prop) (Qc : Array Value → State → Outcome → State → Prop) (XC : String → State → State → Prop) (mc ms : Nat) (free : Addr → Prop) : Prop :=
  MetFree l y (headSpec ws rm) Pc (fun _ _ _ _ _ => True) (vx_Q Qc XC mc ms free)
def vx_Post (XC : String → State → State → Prop) (mc ms : Nat) (free : Addr → Prop) : Pt → Array Value → Addr → Pt → Prop := fun A a q B =>
  ∃ (g : JFrame) (mk : MethodId) (t : State) (L : List Loc) (E : String) (ce : Cell), B.U.heap = t.heap ∧ B.U.vm = t.vm ∧ XC E (A.U.calling g mk a) t ∧ t.heap[q]? = some ce ∧ ce.vm = .none ∧ A.U.vm.findClass E = some ce.cls ∧ B.locs = A.locs ++ L ∧ (∀ z ∈ L, free z.base) ∧ B.cells = A.cells + mc ∧ B.slots = A.slots + ms
def vx_Back (l : Launch) (R : Room) (p : Program) (e : Env) (below : List Frame) (s : State) (sargs : Array Value) (y : MethodName) (len W9 : Nat)
    (Pre : Pt → Array Value → Prop) (Post : Pt → Array Value → Option Value → Pt → Prop) (PostX : Pt → Array Value → Addr → Pt → Prop) : Prop :=
  ∀ (m : MethodId) (meth : Method) (c : Code) (A : Pt) (g : JFrame) (ig : Instr) (mk : MethodId) (a : Array Value),
    Stand p l e R s m sargs below meth c A.U A.locs A.cells A.slots → g.method = m → g.locals.size = c.maxLocals → decode c.code g.pc = .ok (ig, len) →
    2 * g.monitorRoom + (g.stack.map fun v => v.category).sum ≤ W9 → A.U.methodNamed? y = some mk → Pre A a →
    (∃ (v : Option Value) (B : Pt), Stand p l e R s m sargs below meth c B.U B.locs B.cells B.slots ∧ Post A a v B ∧
      Steps p.tables e below (doInvoke e (A.U.setTop g) [] mk a).1 (B.U.setTop { g with pc := g.pc + len, stack := v.toList ++ g.stack })) ∨
    (∃ (q : Addr) (B : Pt), Stand p l e R s m sargs below meth c B.U B.locs B.cells B.slots ∧ PostX A a q B ∧
      Steps p.tables e below (doInvoke e (A.U.setTop g) [] mk a).1 ((B.U.setTop g).pushFrame (.throwing q)))
section Payer
variable {l : Launch} {R : Room} {p : Program} {e : Env} {below : List Frame} {s : State} {sargs : Array Value} {y : MethodName} {len W9 : Nat}
theorem vx_back {ws : List Cond} {rm : Room} {Pc : Array Value → State → Prop} {Qc : Array Value → State → Outcome → State → Prop} {XC : String → State → State → Prop} {mc ms : Nat} {free : Addr → Prop} {bytes : ByteArray} {maxL : Nat} {ret : Option FieldType}
    (hM : vx_Met l y ws rm Pc Qc XC mc ms free) (hblind : FrameBlind Pc) (hrc : rm.cells = mc) (hrs : rm.slots = ms)
    (hframes : rm.frames + 1 ≤ R.frames) (hlocals : W9 + (maxL + 11) + rm.locals ≤ R.locals)
    (hws : ∀ w ∈ ws, ∀ a' U, s.WarmedH U.vm → w.before a' U = true) (hcode : Cond.code y bytes maxL ret ∈ ws) (hinit : ∀ a' U, s.WarmedH U.vm → (Cond.initialized y.cls).before a' U = true) :
    vx_Back l R p e below s sargs y len W9 (PreOf R mc ms Pc) (PostOf Qc mc ms free) (vx_Post XC mc ms free) := by
  intro m meth c A g ig mk a X hg hsize hdg hW hn hp
  have h1 : (headSpec ws rm).pre.before a A.U = true := atoms_intro fun w hw => hws w hw _ _ X.warmed
  have h2 : (Cond.code y bytes maxL ret).before a A.U = true := hws _ hcode _ _ X.warmed
  have h3 : (Cond.initialized y.cls).before a A.U = true := hinit _ _ X.warmed
  have h4 : A.cells + (headSpec ws rm).room.cells ≤ R.cells := by rw [show (headSpec ws rm).room.cells = mc from hrc]; exact hp.1
  have h5 : A.slots + (headSpec ws rm).room.slots ≤ R.slots := by rw [show (headSpec ws rm).room.slots = ms from hrs]; exact hp.2.1
  have hPc : Pc a (A.U.calling g mk a) := hblind _ _ _ _ hp.2.2
  obtain ⟨U, Ls, c0, s0⟩ := A
  dsimp only [Pt.U, Pt.locs, Pt.cells, Pt.slots] at h1 h2 h3 h4 h5 X hn hPc ⊢
  obtain ⟨methY, cY, hmY, hcY, -, hlY, -, -, -, -⟩ := Cond.code_spec hn h2
  obtain ⟨kY, hkY, -⟩ := className_of_methodNamed hn
  have hinitY : kY.init = .initialized := Cond.initialized_spec (findClass_of_methodNamed hn) hkY h3
  have h : At U g.method c below := by rw [hg]; exact X.here
  have hlocals9 : W9 + (maxL + 11) + (headSpec ws rm).room.locals ≤ R.locals := hlocals
  have happ : (headSpec ws rm).appliesLoose y e.platform (U.calling g mk a) = true :=
    Spec.appliesLoose_calling (g := g) h hdg hn hkY hinitY
      (X.room_calling (g := g) (R' := (headSpec ws rm).room) hsize hmY hcY hframes (by rw [hlY]; omega) h4 h5) h1
  obtain ⟨mid, hmid⟩ := h.above
  have hfr : (U.setTop g).frames = (.java g :: mid) ++ below := by rw [State.frames_setTop' g h.top, hmid]; rfl
  obtain ⟨o, s₂, hsteps, -, hend, hq⟩ := Steps.callFree hM p X.admits X.cas X.clock (acts := []) hfr happ hPc trivial
  have hq' : vx_Q Qc XC mc ms free a (U.calling g mk a) o s₂ := hq
  rw [State.frames_setTop' g h.top] at hend
  obtain ⟨g₀, hg0⟩ := Option.isSome_iff_exists.mp h.top
  obtain ⟨r, hr⟩ := State.topJava?_eq_some.mp hg0
  have hr' : (({ U with heap := s₂.heap, slotsUsed := s₂.slotsUsed } : State).setVm s₂.vm).frames = .java g₀ :: r := hr
  rcases hq' with ⟨hqc, L, hfe, hL⟩ | ⟨q, rfl, E, ce, L, hx, hce, hcv, hcl, hW₂, hsm, hL⟩
  · obtain ⟨⟨v, rfl⟩, hW₂, e2, q2, q3, q4, q5, q6⟩ := id hfe
    have e3 : s₂ = ({ (U.calling g mk a).setFrames s₂.frames with heap := s₂.heap, slotsUsed := s₂.slotsUsed } : State).setVm s₂.vm := by
      have : s₂ = ({ s₂ with vm := (U.calling g mk a).vm } : State).setVm s₂.vm := rfl
      rw [e2] at this
      exact this
    obtain ⟨c₂, i₂, len₂, hc₂, hd₂, hf₂⟩ := hend
    have hW' : U.WarmedH s₂.vm := hW₂
    have hcc : c₂ = c := by
      have h1 : s₂.code? g.method = U.code? g.method := by
        rw [State.code?_eq, State.code?_eq, hW'.alike.method?]
      exact Option.some.inj (hc₂.symm.trans (h1.trans h.code))
    subst hcc
    have hlen : len₂ = len := by rw [hdg] at hd₂; cases hd₂; rfl
    subst hlen
    have hs₂ : s₂ = (({ U with heap := s₂.heap, slotsUsed := s₂.slotsUsed } : State).setVm s₂.vm).setTop { g with pc := g.pc + len₂, stack := v.toList ++ g.stack } := by
      refine e3.trans ?_
      rw [hf₂, State.calling_eq h.top, State.setFrames_setFrames, State.setTop_of_frames _ hr', hr]
      rfl
    have hsame : U.sameButNew ({ U with heap := s₂.heap, slotsUsed := s₂.slotsUsed } : State) L mc ms := by
      refine ⟨?_, q2, q3, q4, q5, q6⟩
      obtain ⟨t, ht, -⟩ := State.frames_cons hr
      show ({ U with heap := s₂.heap, slotsUsed := s₂.slotsUsed } : State) = { U.setFrames U.frames with heap := s₂.heap, slotsUsed := s₂.slotsUsed }
      rw [State.setFrames_self ht]
    subst hg
    refine Or.inl ⟨v, ⟨(({ U with heap := s₂.heap, slotsUsed := s₂.slotsUsed } : State).setVm s₂.vm), Ls ++ L, c0 + mc, s0 + ms⟩,
      ⟨X.admits, X.cas, X.clock, X.frames, X.room, X.hears, X.method, X.code, (X.here.setHeapUsed s₂.heap s₂.slotsUsed).setVm hW'.alike, X.tail, State.WarmedH.trans X.warmed hW', X.limits, X.bytes, X.same.trans (hsame.setVm s.vm)⟩,
      ⟨g, mk, s₂, L, rfl, rfl, hqc, rfl, hL, rfl, rfl⟩, ?_⟩
    show Steps p.tables e below _ ((({ U with heap := s₂.heap, slotsUsed := s₂.slotsUsed } : State).setVm s₂.vm).setTop { g with pc := g.pc + len₂, stack := v.toList ++ g.stack })
    rw [← hs₂]
    exact hsteps
  · obtain ⟨e2, q2, q3, q4, q5, q6⟩ := id hsm
    have e3 : s₂ = ({ (U.calling g mk a).setFrames s₂.frames with heap := s₂.heap, slotsUsed := s₂.slotsUsed } : State).setVm s₂.vm := by
      have : s₂ = ({ s₂ with vm := (U.calling g mk a).vm } : State).setVm s₂.vm := rfl
      rw [e2] at this
      exact this
    have hf₂ : s₂.frames = .throwing q :: .java g :: U.frames.tail := hend
    have hW' : U.WarmedH s₂.vm := hW₂
    have hs₂ : s₂ = ((({ U with heap := s₂.heap, slotsUsed := s₂.slotsUsed } : State).setVm s₂.vm).setTop g).pushFrame (.throwing q) := by
      refine e3.trans ?_
      rw [hf₂, State.calling_eq h.top, State.setFrames_setFrames, State.pushFrame, State.frames_setTop _ hr', State.setTop_of_frames _ hr', State.setFrames_setFrames, hr]
      rfl
    have hsame : U.sameButNew ({ U with heap := s₂.heap, slotsUsed := s₂.slotsUsed } : State) L mc ms := by
      refine ⟨?_, q2, q3, q4, q5, q6⟩
      obtain ⟨t, ht, -⟩ := State.frames_cons hr
      show ({ U with heap := s₂.heap, slotsUsed := s₂.slotsUsed } : State) = { U.setFrames U.frames with heap := s₂.heap, slotsUsed := s₂.slotsUsed }
      rw [State.setFrames_self ht]
    subst hg
    refine Or.inr ⟨q, ⟨(({ U with heap := s₂.heap, slotsUsed := s₂.slotsUsed } : State).setVm s₂.vm), Ls ++ L, c0 + mc, s0 + ms⟩,
      ⟨X.admits, X.cas, X.clock, X.frames, X.room, X.hears, X.method, X.code, (X.here.setHeapUsed s₂.heap s₂.slotsUsed).setVm hW'.alike, X.tail, State.WarmedH.trans X.warmed hW', X.limits, X.bytes, X.same.trans (hsame.setVm s.vm)⟩,
      ⟨g, mk, s₂, L, E, ce, rfl, rfl, hx, hce, hcv, hcl, rfl, hL, rfl, rfl⟩, ?_⟩
    show Steps p.tables e below _ (((({ U with heap := s₂.heap, slotsUsed := s₂.slotsUsed } : State).setVm s₂.vm).setTop g).pushFrame (.throwing q))
    rw [← hs₂]
    exact hsteps
end Payer
section Calls
variable {p : Program} {l : Launch} {e : Env} {R : Room} {s : State} {m : MethodId} {args : Array Value} {below : List Frame} {meth : Method} {c : Code} {T : State} {locs : List Loc} {cells slots : Nat}
theorem vx_callV (X : Stand p l e R s m args below meth c T locs cells slots) (hexec : p.tables.exec = Jvm.exec) {own C : String} {index : Nat} {y : MethodName} {bytes : ByteArray} {maxL : Nat} {ret : Option FieldType}
    (hown : s.vm.findClass own = some m.cls) (hlink : (Cond.methodLink own index y).before args s = true) (hinst : (Cond.instanceMethod y).before args s = true) (hsel : (Cond.selects C y y).before args s = true)
    (hcode : (Cond.code y bytes maxL ret).before args s = true) (hy : y.cls ≠ "java/lang/invoke/MethodHandle" ∧ y.cls ≠ "java/lang/invoke/VarHandle")
    {W9 : Nat} {Pre : Pt → Array Value → Prop} {Post : Pt → Array Value → Option Value → Pt → Prop} {PostX : Pt → Array Value → Addr → Pt → Prop} (hK : vx_Back l R p e below s args y 3 W9 Pre Post PostX)
    {b : Addr} {cellB : Cell} (hcell : T.heap[b]? = some cellB) (hobj : cellB.vm.isStatics = false) (hcls : s.vm.findClass C = some cellB.cls)
    {g : JFrame} (hg : g.method = m) (hsize : g.locals.size = c.maxLocals) {argsL rest : List Value} (hlen : ∀ sig, parseMethodDescriptor y.desc = some sig → argsL.length = sig.parameters.length)
    (hstack : g.stack = argsL.reverse ++ .ref b :: rest) (hW : 2 * g.monitorRoom + (rest.map fun v => v.category).sum ≤ W9) (hdg : decode c.code g.pc = .ok (.invokevirtual index, 3))
    (hpre : ∀ vm₁, s.WarmedH vm₁ → Pre ⟨T.setVm vm₁, locs, cells, slots⟩ (Value.ref b :: argsL).toArray) :
    (∃ (v : Option Value) (vm₁ : Vm) (B : Pt), s.WarmedH vm₁ ∧ Stand p l e R s m args below meth c B.U B.locs B.cells B.slots ∧ Post ⟨T.setVm vm₁, locs, cells, slots⟩ (Value.ref b :: argsL).toArray v B ∧
      ∀ target, Steps p.tables e below (B.U.setTop { g with pc := g.pc + 3, stack := v.toList ++ rest }) target → Steps p.tables e below (T.setTop g) target) ∨
    (∃ (q : Addr) (vm₁ : Vm) (B : Pt), s.WarmedH vm₁ ∧ Stand p l e R s m args below meth c B.U B.locs B.cells B.slots ∧ PostX ⟨T.setVm vm₁, locs, cells, slots⟩ (Value.ref b :: argsL).toArray q B ∧
      Steps p.tables e below (T.setTop g) ((B.U.setTop { g with stack := rest }).pushFrame (.throwing q))) := by
  obtain ⟨mk, methM, hnamed, hmethM, hstM, habM⟩ := Cond.instanceMethod_spec hinst
  obtain ⟨methM', cM, hmethM', -, -, -, -, -, -, hsigM⟩ := Cond.code_spec hnamed hcode
  cases hmethM.symm.trans hmethM'
  obtain ⟨c2, r2, m2, q1, q2, q3, q4, kP, hkP, hkPi⟩ := Cond.selects_spec hsel
  cases hcls.symm.trans q1
  cases (State.methodFound?_of_named hnamed hy).symm.trans q2
  cases hnamed.symm.trans q3
  have hselP : selectMethod e.platform s.vm cellB.cls mk = .method mk := by rw [Launch.admits_selectMethod X.admits]; exact q4
  obtain ⟨vm₁, X₁, hstep₁⟩ := X.invokevirtual hexec hown hlink hnamed hmethM hstM hkP hkPi hy (a := b) (cell := cellB) hcell
    (fun z h => by rw [h] at hobj; cases hobj) hselP hmethM habM hkP hkPi (g := g) hg (argsL := argsL) (rest := rest) (hlen _ hsigM) hstack hdg
  rcases hK m meth c ⟨T.setVm vm₁, locs, cells, slots⟩ { g with stack := rest } (.invokevirtual index) mk (Value.ref b :: argsL).toArray X₁ hg hsize hdg hW (X₁.named hnamed) (hpre vm₁ X₁.warmed) with ⟨v, B, X', hpost, hsteps⟩ | ⟨q, B, X', hpost, hsteps⟩
  · exact Or.inl ⟨v, vm₁, B, X₁.warmed, X', hpost, fun target h => hstep₁ _ fun acts => by rw [doInvoke_state]; exact hsteps.trans h⟩
  · exact Or.inr ⟨q, vm₁, B, X₁.warmed, X', hpost, hstep₁ _ fun acts => by rw [doInvoke_state]; exact hsteps⟩
theorem vx_callS (X : Stand p l e R s m args below meth c T locs cells slots) (hexec : p.tables.exec = Jvm.exec) {own : String} {index : Nat} {y : MethodName} {bytes : ByteArray} {maxL : Nat} {ret : Option FieldType}
    (hown : s.vm.findClass own = some m.cls) (hlink : (Cond.methodLink own index y).before args s = true) (hstat : (Cond.static y).before args s = true) (hinit : (Cond.initialized y.cls).before args s = true)
    (hcode : (Cond.code y bytes maxL ret).before args s = true) (hy : y.cls ≠ "java/lang/invoke/MethodHandle" ∧ y.cls ≠ "java/lang/invoke/VarHandle")
    {W9 : Nat} {Pre : Pt → Array Value → Prop} {Post : Pt → Array Value → Option Value → Pt → Prop} {PostX : Pt → Array Value → Addr → Pt → Prop} (hK : vx_Back l R p e below s args y 3 W9 Pre Post PostX)
    {g : JFrame} (hg : g.method = m) (hsize : g.locals.size = c.maxLocals) {argsL rest : List Value} (hlen : ∀ sig, parseMethodDescriptor y.desc = some sig → argsL.length = sig.parameters.length)
    (hstack : g.stack = argsL.reverse ++ rest) (hW : 2 * g.monitorRoom + (rest.map fun v => v.category).sum ≤ W9) (hdg : decode c.code g.pc = .ok (.invokestatic index, 3))
    (hpre : ∀ vm₁, s.WarmedH vm₁ → Pre ⟨T.setVm vm₁, locs, cells, slots⟩ argsL.toArray) :
    (∃ (v : Option Value) (vm₁ : Vm) (B : Pt), s.WarmedH vm₁ ∧ Stand p l e R s m args below meth c B.U B.locs B.cells B.slots ∧ Post ⟨T.setVm vm₁, locs, cells, slots⟩ argsL.toArray v B ∧
      ∀ target, Steps p.tables e below (B.U.setTop { g with pc := g.pc + 3, stack := v.toList ++ rest }) target → Steps p.tables e below (T.setTop g) target) ∨
    (∃ (q : Addr) (vm₁ : Vm) (B : Pt), s.WarmedH vm₁ ∧ Stand p l e R s m args below meth c B.U B.locs B.cells B.slots ∧ PostX ⟨T.setVm vm₁, locs, cells, slots⟩ argsL.toArray q B ∧
      Steps p.tables e below (T.setTop g) ((B.U.setTop { g with stack := rest }).pushFrame (.throwing q))) := by
  obtain ⟨mk, hnamed⟩ := Cond.code_named hcode
  obtain ⟨methM, cM, hmethM, -, -, -, -, -, -, hsigM⟩ := Cond.code_spec hnamed hcode
  have hstatic : methM.isStatic = true := Cond.static_spec hnamed hmethM hstat
  obtain ⟨kP, hkP, -⟩ := className_of_methodNamed hnamed
  have hinitP : kP.init = .initialized := Cond.initialized_spec (findClass_of_methodNamed hnamed) hkP hinit
  obtain ⟨vm₁, X₁, hstep₁⟩ := X.invokestatic hexec hown hlink hnamed hmethM hstatic hkP hinitP hy (g := g) hg (argsL := argsL) (rest := rest) (hlen _ hsigM) hstack hdg
  rcases hK m meth c ⟨T.setVm vm₁, locs, cells, slots⟩ { g with stack := rest } (.invokestatic index) mk argsL.toArray X₁ hg hsize hdg hW (X₁.named hnamed) (hpre vm₁ X₁.warmed) with ⟨v, B, X', hpost, hsteps⟩ | ⟨q, B, X', hpost, hsteps⟩
  · exact Or.inl ⟨v, vm₁, B, X₁.warmed, X', hpost, fun target h => hstep₁ _ fun acts => by rw [doInvoke_state]; exact hsteps.trans h⟩
  · exact Or.inr ⟨q, vm₁, B, X₁.warmed, X', hpost, hstep₁ _ fun acts => by rw [doInvoke_state]; exact hsteps⟩
end Calls
theorem vx_cls {s : State} {T : State} {vm₁ : Vm} {E : String} {k : ClassId} (hW : s.WarmedH vm₁) (h : (T.setVm vm₁).vm.findClass E = some k) : s.vm.findClass E = some k := by
  have h1 : vm₁.findClass E = some k := h
  rw [hW.alike.findClass] at h1
  exact h1
/-- the method's frame g, with q thrown over it -/
def vx_W (p : Program) (l : Launch) (e : Env) (R : Room) (s : State) (m : MethodId) (args : Array Value) (below : List Frame) (meth : Method) (c : Code) (H : Heap) (locs : List Loc) (cells slots : Nat) (Q : State → Prop) (g : JFrame) (q : Addr) : Prop :=
  ∀ T : State, T.heap = H → Stand p l e R s m args below meth c T locs cells slots → ∃ t, Steps p.tables e below ((T.setTop g).pushFrame (.throwing q)) t ∧ Q t
def vx_Run (p : Program) (l : Launch) (e : Env) (R : Room) (s : State) (m : MethodId) (args : Array Value) (below : List Frame) (meth : Method) (c : Code) (H : Heap) (locs : List Loc) (cells slots mc ms : Nat) (g : JFrame) (rest : List Value) (Qa : State → Outcome → State → Prop) (XC : String → State → State → Prop) (free : Addr → Prop) : Prop :=
  ∀ T : State, T.heap = H → Stand p l e R s m args below meth c T locs cells slots →
    (∃ (v : Option Value) (st₀ t T' : State) (L : List Loc), st₀.heap = H ∧ Stand p l e R s m args below meth c T' (locs ++ L) (cells + mc) (slots + ms) ∧ (∀ q ∈ L, free q.base) ∧ T'.heap = t.heap ∧ T'.vm = t.vm ∧ Qa st₀ (.returned v) t ∧
      Goes p e below T g T' { g with pc := g.pc + 3, stack := v.toList ++ rest }) ∨
    (∃ (q : Addr) (st₀ t T' : State) (L : List Loc) (E : String) (ce : Cell), st₀.heap = H ∧ Stand p l e R s m args below meth c T' (locs ++ L) (cells + mc) (slots + ms) ∧ (∀ z ∈ L, free z.base) ∧ T'.heap = t.heap ∧ T'.vm = t.vm ∧ XC E st₀ t ∧ t.heap[q]? = some ce ∧ ce.vm = .none ∧ s.vm.findClass E = some ce.cls ∧
      Steps p.tables e below (T.setTop g) ((T'.setTop { g with stack := rest }).pushFrame (.throwing q)))
def vx_X {S : Type} (px : S → Prop) (B : String → S → State → Prop) (A : Nat → Prop) : String → State → State → Prop := fun E st t => ∃ u : S, px u ∧ B E u t ∧ va_F A st t
section Runs
variable {p : Program} {l : Launch} {e : Env} {R : Room} {s : State} {m : MethodId} {args : Array Value} {below : List Frame} {meth : Method} {c : Code} {H : Heap} {locs : List Loc} {cells slots : Nat}
variable {y : MethodName} {bytes cc : ByteArray} {maxL nL mc ms n index : Nat} {ret : Option FieldType} {ws : List Cond} {rm : Room} {Pc : Array Value → State → Prop} {Qc : Array Value → State → Outcome → State → Prop} {XC : String → State → State → Prop} {free : Addr → Prop} {Ts : List Cond} {own C : String} {b : Addr} {As rest : List Value} {g : JFrame}
theorem vx_callBack (cb : CallB R s args own index y bytes maxL ret ws rm mc ms n) (hM : vx_Met l y ws rm Pc Qc XC mc ms free) (hbl : FrameBlind Pc) : vx_Back l R p e below s args y 3 8 (PreOf R mc ms Pc) (PostOf Qc mc ms free) (vx_Post XC mc ms free) := by
  obtain ⟨hrc, hrs, hfr, hlo, hws, hcw, -, hini, -⟩ := cb
  exact vx_back (bytes := bytes) (maxL := maxL) (ret := ret) hM hbl hrc hrs hfr hlo hws hcw (fun a' U hW => word_at hW (Or.inl (by first | rfl | simp [Cond.onTables, Cond.keeps, Cond.steady])) hini)
theorem vx_runV (S : CallFix p m c cc nL s args Ts own) (hM : vx_Met l y ws rm Pc Qc XC mc ms free) (cw : CallW R s args own C index y bytes maxL ret ws rm mc ms n) (hp : PreV s H C b Pc As)
    (hg : g.method = m) (hn : As.length = n) (hsize : g.locals.size = nL) (hstack : g.stack = As.reverse ++ .ref b :: rest) (hW : 2 * g.monitorRoom + (rest.map fun v => v.category).sum ≤ 8) (hdg : decode cc g.pc = .ok (.invokevirtual index, 3)) (hf : cells + mc ≤ R.cells ∧ slots + ms ≤ R.slots) :
    vx_Run p l e R s m args below meth c H locs cells slots mc ms g rest (Qc (Value.ref b :: As).toArray) XC free := by
  have hK : vx_Back l R p e below s args y 3 8 (PreOf R mc ms Pc) (PostOf Qc mc ms free) (vx_Post XC mc ms free) := vx_callBack cw.1 hM hp.1
  obtain ⟨⟨-, -, -, -, -, -, hcode, -, hy, hlen, hl⟩, hin, hse⟩ := cw
  obtain ⟨hx, hb, hml, ho, -⟩ := S
  obtain ⟨-, ⟨cellB, hcB, hoB, hclB⟩, hPc⟩ := hp
  intro T hT X
  rcases vx_callV X hx (C := C) (bytes := bytes) (maxL := maxL) (ret := ret) ho hl hin hse hcode hy hK (by rw [hT]; exact hcB) hoB hclB hg (hsize.trans hml.symm) (argsL := As) (rest := rest) (fun sig h => hn.trans (hlen sig h)) hstack hW (by rw [hb]; exact hdg)
    (fun vm₁ hW₁ => ⟨hf.1, hf.2, hPc (T.setVm vm₁) hT hW₁⟩) with ⟨v, vm₁, ⟨U', l2, c2, s2⟩, hW₁, X', ⟨g', mk, t, L, e1, e2, hq, h1, hL, h2, h3⟩, st⟩ | ⟨q, vm₁, ⟨U', l2, c2, s2⟩, hW₁, X', ⟨g', mk, t, L, E, ce, e1, e2, hq, hce, hcv, hcl, h1, hL, h2, h3⟩, st⟩
  · dsimp only [Pt.U, Pt.locs, Pt.cells, Pt.slots] at X' e1 e2 h1 h2 h3 st
    subst h1; subst h2; subst h3
    exact Or.inl ⟨v, (T.setVm vm₁).calling g' mk (Value.ref b :: As).toArray, t, U', L, hT, X', hL, e1, e2, hq, st⟩
  · dsimp only [Pt.U, Pt.locs, Pt.cells, Pt.slots] at X' e1 e2 h1 h2 h3 st hcl
    subst h1; subst h2; subst h3
    exact Or.inr ⟨q, (T.setVm vm₁).calling g' mk (Value.ref b :: As).toArray, t, U', L, E, ce, hT, X', hL, e1, e2, hq, hce, hcv, vx_cls hW₁ hcl, st⟩
theorem vx_runS (S : CallFix p m c cc nL s args Ts own) (hM : vx_Met l y ws rm Pc Qc XC mc ms free) (cw : CallB R s args own index y bytes maxL ret ws rm mc ms n ∧ (Cond.static y).before args s = true) (hp : PreS s H Pc As)
    (hg : g.method = m) (hn : As.length = n) (hsize : g.locals.size = nL) (hstack : g.stack = As.reverse ++ rest) (hW : 2 * g.monitorRoom + (rest.map fun v => v.category).sum ≤ 8) (hdg : decode cc g.pc = .ok (.invokestatic index, 3)) (hf : cells + mc ≤ R.cells ∧ slots + ms ≤ R.slots) :
    vx_Run p l e R s m args below meth c H locs cells slots mc ms g rest (Qc As.toArray) XC free := by
  have hK : vx_Back l R p e below s args y 3 8 (PreOf R mc ms Pc) (PostOf Qc mc ms free) (vx_Post XC mc ms free) := vx_callBack cw.1 hM hp.1
  obtain ⟨⟨-, -, -, -, -, -, hcode, hini, hy, hlen, hl⟩, hstt⟩ := cw
  obtain ⟨hx, hb, hml, ho, -⟩ := S
  intro T hT X
  rcases vx_callS X hx (bytes := bytes) (maxL := maxL) (ret := ret) ho hl hstt hini hcode hy hK hg (hsize.trans hml.symm) (argsL := As) (rest := rest) (fun sig h => hn.trans (hlen sig h)) hstack hW (by rw [hb]; exact hdg)
    (fun vm₁ hW₁ => ⟨hf.1, hf.2, hp.2 (T.setVm vm₁) hT hW₁⟩) with ⟨v, vm₁, ⟨U', l2, c2, s2⟩, hW₁, X', ⟨g', mk, t, L, e1, e2, hq, h1, hL, h2, h3⟩, st⟩ | ⟨q, vm₁, ⟨U', l2, c2, s2⟩, hW₁, X', ⟨g', mk, t, L, E, ce, e1, e2, hq, hce, hcv, hcl, h1, hL, h2, h3⟩, st⟩
  · dsimp only [Pt.U, Pt.locs, Pt.cells, Pt.slots] at X' e1 e2 h1 h2 h3 st
    subst h1; subst h2; subst h3
    exact Or.inl ⟨v, (T.setVm vm₁).calling g' mk As.toArray, t, U', L, hT, X', hL, e1, e2, hq, st⟩
  · dsimp only [Pt.U, Pt.locs, Pt.cells, Pt.slots] at X' e1 e2 h1 h2 h3 st hcl
    subst h1; subst h2; subst h3
    exact Or.inr ⟨q, (T.setVm vm₁).calling g' mk As.toArray, t, U', L, E, ce, hT, X', hL, e1, e2, hq, hce, hcv, vx_cls hW₁ hcl, st⟩
end Runs
section Rows
variable {p : Program} {l : Launch} {e : Env} {R : Room} {s : State} {m : MethodId} {args : Array Value} {below : List Frame} {meth : Method} {c : Code} {H : Heap} {locs : List Loc} {cells slots : Nat} {Q : State → Prop}
variable {mc ms : Nat} {free : Addr → Prop} {A0 A1 : Nat → Prop} {H0 : Heap} {a : Array Value} {pc : Nat} {ls : Array Slot} {st0 rest : List Value}
theorem vx_keep {st₀ t T' : State} {L : List Loc} (h0 : st₀.heap = H) (e1 : T'.heap = t.heap) (hS : va_S A0 H0 H locs) (hA : ∀ q, q < H.size → A1 q → A0 q) (hf : ∀ q, free q → A0 q) (hL : ∀ q ∈ L, free q.base) (hF : va_F A1 st₀ t) :
    H.size ≤ T'.heap.size ∧ (∀ q : Nat, q < H.size → ¬ A1 q → T'.heap[q]? = H[q]?) ∧ va_S A0 H0 T'.heap (locs ++ L) := by
  obtain ⟨hz, hk⟩ := hF
  rw [h0] at hz hk
  exact ⟨by rw [e1]; exact hz, fun q h1 h2 => by rw [e1]; exact hk q h1 h2,
    ⟨Nat.le_trans hS.1 (by rw [e1]; exact hz), fun q h1 h2 => by rw [e1, hk q (Nat.lt_of_lt_of_le h1 hS.1) (fun z => h2 (hA q (Nat.lt_of_lt_of_le h1 hS.1) z))]; exact hS.2.1 q h1 h2, fun q hq => by
      rcases List.mem_append.mp hq with h | h
      · exact hS.2.2 q h
      · exact hf _ (hL q h)⟩⟩
theorem vx_calli {S SX : Type} {post : Int32 → S → Prop} {px : SX → Prop} {B : S → State → Prop} {BX : String → SX → State → Prop} {AX : Nat → Prop} (hr : vx_Run p l e R s m args below meth c H locs cells slots mc ms (F0 m pc ls st0) rest (va_Qi post B A1 a) (vx_X px BX AX) free) (hS : va_S A0 H0 H locs) (hA : ∀ q, q < H.size → A1 q → A0 q) (hf : ∀ q, free q → A0 q) (hAX : ∀ q, q < H.size → AX q → A0 q)
    (kx : ∀ (E : String) (ce : Cell) (q9 : Addr) (u : SX) (t : State) (H1 : Heap) (locs1 : List Loc), t.heap = H1 → s.vm.Alike t.vm → px u → BX E u t → H.size ≤ H1.size → (∀ q : Nat, q < H.size → ¬ AX q → H1[q]? = H[q]?) → va_S A0 H0 H1 locs1 → H1[q9]? = some ce → ce.vm = .none → s.vm.findClass E = some ce.cls → vx_W p l e R s m args below meth c H1 locs1 (cells + mc) (slots + ms) Q (F0 m pc ls rest) q9)
    (kk : ∀ (r : Int32) (u : S) (t : State) (H1 : Heap) (locs1 : List Loc), t.heap = H1 → s.vm.Alike t.vm → post r u → B u t → H.size ≤ H1.size → (∀ q : Nat, q < H.size → ¬ A1 q → H1[q]? = H[q]?) → va_S A0 H0 H1 locs1 → W p l e R s m args below meth c H1 locs1 (cells + mc) (slots + ms) Q (F0 m (pc + 3) ls (.int r :: rest))) : W p l e R s m args below meth c H locs cells slots Q (F0 m pc ls st0) := by
  intro T hT X
  rcases hr T hT X with ⟨v, st₀, t, T', L, h0, X', hL, e1, e2, ⟨⟨r, u, hv, hp, hb⟩, hF⟩, st⟩ | ⟨q, st₀, t, T', L, E, ce, h0, X', hL, e1, e2, ⟨u, hp, hb, hF⟩, hce, hcv, hcl, st⟩
  · cases hv
    obtain ⟨k1, k2, k3⟩ := vx_keep h0 e1 hS hA hf hL hF
    obtain ⟨t2, a1, b1⟩ := kk r u t T'.heap (locs ++ L) e1.symm (by rw [← e2]; exact X'.warmed.alike) hp hb k1 k2 k3 T' rfl X'
    exact ⟨t2, st t2 a1, b1⟩
  · obtain ⟨k1, k2, k3⟩ := vx_keep h0 e1 hS hAX hf hL hF
    obtain ⟨t2, a1, b1⟩ := kx E ce q u t T'.heap (locs ++ L) e1.symm (by rw [← e2]; exact X'.warmed.alike) hp hb k1 k2 k3 (by rw [e1]; exact hce) hcv hcl T' rfl X'
    exact ⟨t2, st.trans a1, b1⟩
theorem vx_calll {S SX : Type} {post : Int64 → S → Prop} {px : SX → Prop} {B : S → State → Prop} {BX : String → SX → State → Prop} {AX : Nat → Prop} (hr : vx_Run p l e R s m args below meth c H locs cells slots mc ms (F0 m pc ls st0) rest (va_Ql post B A1 a) (vx_X px BX AX) free) (hS : va_S A0 H0 H locs) (hA : ∀ q, q < H.size → A1 q → A0 q) (hf : ∀ q, free q → A0 q) (hAX : ∀ q, q < H.size → AX q → A0 q)
    (kx : ∀ (E : String) (ce : Cell) (q9 : Addr) (u : SX) (t : State) (H1 : Heap) (locs1 : List Loc), t.heap = H1 → s.vm.Alike t.vm → px u → BX E u t → H.size ≤ H1.size → (∀ q : Nat, q < H.size → ¬ AX q → H1[q]? = H[q]?) → va_S A0 H0 H1 locs1 → H1[q9]? = some ce → ce.vm = .none → s.vm.findClass E = some ce.cls → vx_W p l e R s m args below meth c H1 locs1 (cells + mc) (slots + ms) Q (F0 m pc ls rest) q9)
    (kk : ∀ (r : Int64) (u : S) (t : State) (H1 : Heap) (locs1 : List Loc), t.heap = H1 → s.vm.Alike t.vm → post r u → B u t → H.size ≤ H1.size → (∀ q : Nat, q < H.size → ¬ A1 q → H1[q]? = H[q]?) → va_S A0 H0 H1 locs1 → W p l e R s m args below meth c H1 locs1 (cells + mc) (slots + ms) Q (F0 m (pc + 3) ls (.long r :: rest))) : W p l e R s m args below meth c H locs cells slots Q (F0 m pc ls st0) := by
  intro T hT X
  rcases hr T hT X with ⟨v, st₀, t, T', L, h0, X', hL, e1, e2, ⟨⟨r, u, hv, hp, hb⟩, hF⟩, st⟩ | ⟨q, st₀, t, T', L, E, ce, h0, X', hL, e1, e2, ⟨u, hp, hb, hF⟩, hce, hcv, hcl, st⟩
  · cases hv
    obtain ⟨k1, k2, k3⟩ := vx_keep h0 e1 hS hA hf hL hF
    obtain ⟨t2, a1, b1⟩ := kk r u t T'.heap (locs ++ L) e1.symm (by rw [← e2]; exact X'.warmed.alike) hp hb k1 k2 k3 T' rfl X'
    exact ⟨t2, st t2 a1, b1⟩
  · obtain ⟨k1, k2, k3⟩ := vx_keep h0 e1 hS hAX hf hL hF
    obtain ⟨t2, a1, b1⟩ := kx E ce q u t T'.heap (locs ++ L) e1.symm (by rw [← e2]; exact X'.warmed.alike) hp hb k1 k2 k3 (by rw [e1]; exact hce) hcv hcl T' rfl X'
    exact ⟨t2, st.trans a1, b1⟩
theorem vx_callf {S SX : Type} {post : UInt32 → S → Prop} {px : SX → Prop} {B : S → State → Prop} {BX : String → SX → State → Prop} {AX : Nat → Prop} (hr : vx_Run p l e R s m args below meth c H locs cells slots mc ms (F0 m pc ls st0) rest (va_Qf post B A1 a) (vx_X px BX AX) free) (hS : va_S A0 H0 H locs) (hA : ∀ q, q < H.size → A1 q → A0 q) (hf : ∀ q, free q → A0 q) (hAX : ∀ q, q < H.size → AX q → A0 q)
    (kx : ∀ (E : String) (ce : Cell) (q9 : Addr) (u : SX) (t : State) (H1 : Heap) (locs1 : List Loc), t.heap = H1 → s.vm.Alike t.vm → px u → BX E u t → H.size ≤ H1.size → (∀ q : Nat, q < H.size → ¬ AX q → H1[q]? = H[q]?) → va_S A0 H0 H1 locs1 → H1[q9]? = some ce → ce.vm = .none → s.vm.findClass E = some ce.cls → vx_W p l e R s m args below meth c H1 locs1 (cells + mc) (slots + ms) Q (F0 m pc ls rest) q9)
    (kk : ∀ (r : UInt32) (u : S) (t : State) (H1 : Heap) (locs1 : List Loc), t.heap = H1 → s.vm.Alike t.vm → post r u → B u t → H.size ≤ H1.size → (∀ q : Nat, q < H.size → ¬ A1 q → H1[q]? = H[q]?) → va_S A0 H0 H1 locs1 → W p l e R s m args below meth c H1 locs1 (cells + mc) (slots + ms) Q (F0 m (pc + 3) ls (.float r :: rest))) : W p l e R s m args below meth c H locs cells slots Q (F0 m pc ls st0) := by
  intro T hT X
  rcases hr T hT X with ⟨v, st₀, t, T', L, h0, X', hL, e1, e2, ⟨⟨r, u, hv, hp, hb⟩, hF⟩, st⟩ | ⟨q, st₀, t, T', L, E, ce, h0, X', hL, e1, e2, ⟨u, hp, hb, hF⟩, hce, hcv, hcl, st⟩
  · cases hv
    obtain ⟨k1, k2, k3⟩ := vx_keep h0 e1 hS hA hf hL hF
    obtain ⟨t2, a1, b1⟩ := kk r u t T'.heap (locs ++ L) e1.symm (by rw [← e2]; exact X'.warmed.alike) hp hb k1 k2 k3 T' rfl X'
    exact ⟨t2, st t2 a1, b1⟩
  · obtain ⟨k1, k2, k3⟩ := vx_keep h0 e1 hS hAX hf hL hF
    obtain ⟨t2, a1, b1⟩ := kx E ce q u t T'.heap (locs ++ L) e1.symm (by rw [← e2]; exact X'.warmed.alike) hp hb k1 k2 k3 (by rw [e1]; exact hce) hcv hcl T' rfl X'
    exact ⟨t2, st.trans a1, b1⟩
theorem vx_calld {S SX : Type} {post : UInt64 → S → Prop} {px : SX → Prop} {B : S → State → Prop} {BX : String → SX → State → Prop} {AX : Nat → Prop} (hr : vx_Run p l e R s m args below meth c H locs cells slots mc ms (F0 m pc ls st0) rest (va_Qd post B A1 a) (vx_X px BX AX) free) (hS : va_S A0 H0 H locs) (hA : ∀ q, q < H.size → A1 q → A0 q) (hf : ∀ q, free q → A0 q) (hAX : ∀ q, q < H.size → AX q → A0 q)
    (kx : ∀ (E : String) (ce : Cell) (q9 : Addr) (u : SX) (t : State) (H1 : Heap) (locs1 : List Loc), t.heap = H1 → s.vm.Alike t.vm → px u → BX E u t → H.size ≤ H1.size → (∀ q : Nat, q < H.size → ¬ AX q → H1[q]? = H[q]?) → va_S A0 H0 H1 locs1 → H1[q9]? = some ce → ce.vm = .none → s.vm.findClass E = some ce.cls → vx_W p l e R s m args below meth c H1 locs1 (cells + mc) (slots + ms) Q (F0 m pc ls rest) q9)
    (kk : ∀ (r : UInt64) (u : S) (t : State) (H1 : Heap) (locs1 : List Loc), t.heap = H1 → s.vm.Alike t.vm → post r u → B u t → H.size ≤ H1.size → (∀ q : Nat, q < H.size → ¬ A1 q → H1[q]? = H[q]?) → va_S A0 H0 H1 locs1 → W p l e R s m args below meth c H1 locs1 (cells + mc) (slots + ms) Q (F0 m (pc + 3) ls (.double r :: rest))) : W p l e R s m args below meth c H locs cells slots Q (F0 m pc ls st0) := by
  intro T hT X
  rcases hr T hT X with ⟨v, st₀, t, T', L, h0, X', hL, e1, e2, ⟨⟨r, u, hv, hp, hb⟩, hF⟩, st⟩ | ⟨q, st₀, t, T', L, E, ce, h0, X', hL, e1, e2, ⟨u, hp, hb, hF⟩, hce, hcv, hcl, st⟩
  · cases hv
    obtain ⟨k1, k2, k3⟩ := vx_keep h0 e1 hS hA hf hL hF
    obtain ⟨t2, a1, b1⟩ := kk r u t T'.heap (locs ++ L) e1.symm (by rw [← e2]; exact X'.warmed.alike) hp hb k1 k2 k3 T' rfl X'
    exact ⟨t2, st t2 a1, b1⟩
  · obtain ⟨k1, k2, k3⟩ := vx_keep h0 e1 hS hAX hf hL hF
    obtain ⟨t2, a1, b1⟩ := kx E ce q u t T'.heap (locs ++ L) e1.symm (by rw [← e2]; exact X'.warmed.alike) hp hb k1 k2 k3 (by rw [e1]; exact hce) hcv hcl T' rfl X'
    exact ⟨t2, st.trans a1, b1⟩
theorem vx_callv {S SX : Type} {post : S → Prop} {px : SX → Prop} {B : S → State → Prop} {BX : String → SX → State → Prop} {AX : Nat → Prop} (hr : vx_Run p l e R s m args below meth c H locs cells slots mc ms (F0 m pc ls st0) rest (va_Qv post B A1 a) (vx_X px BX AX) free) (hS : va_S A0 H0 H locs) (hA : ∀ q, q < H.size → A1 q → A0 q) (hf : ∀ q, free q → A0 q) (hAX : ∀ q, q < H.size → AX q → A0 q)
    (kx : ∀ (E : String) (ce : Cell) (q9 : Addr) (u : SX) (t : State) (H1 : Heap) (locs1 : List Loc), t.heap = H1 → s.vm.Alike t.vm → px u → BX E u t → H.size ≤ H1.size → (∀ q : Nat, q < H.size → ¬ AX q → H1[q]? = H[q]?) → va_S A0 H0 H1 locs1 → H1[q9]? = some ce → ce.vm = .none → s.vm.findClass E = some ce.cls → vx_W p l e R s m args below meth c H1 locs1 (cells + mc) (slots + ms) Q (F0 m pc ls rest) q9)
    (kk : ∀ (u : S) (t : State) (H1 : Heap) (locs1 : List Loc), t.heap = H1 → s.vm.Alike t.vm → post u → B u t → H.size ≤ H1.size → (∀ q : Nat, q < H.size → ¬ A1 q → H1[q]? = H[q]?) → va_S A0 H0 H1 locs1 → W p l e R s m args below meth c H1 locs1 (cells + mc) (slots + ms) Q (F0 m (pc + 3) ls (rest))) : W p l e R s m args below meth c H locs cells slots Q (F0 m pc ls st0) := by
  intro T hT X
  rcases hr T hT X with ⟨v, st₀, t, T', L, h0, X', hL, e1, e2, ⟨⟨u, hv, hp, hb⟩, hF⟩, st⟩ | ⟨q, st₀, t, T', L, E, ce, h0, X', hL, e1, e2, ⟨u, hp, hb, hF⟩, hce, hcv, hcl, st⟩
  · cases hv
    obtain ⟨k1, k2, k3⟩ := vx_keep h0 e1 hS hA hf hL hF
    obtain ⟨t2, a1, b1⟩ := kk u t T'.heap (locs ++ L) e1.symm (by rw [← e2]; exact X'.warmed.alike) hp hb k1 k2 k3 T' rfl X'
    exact ⟨t2, st t2 a1, b1⟩
  · obtain ⟨k1, k2, k3⟩ := vx_keep h0 e1 hS hAX hf hL hF
    obtain ⟨t2, a1, b1⟩ := kx E ce q u t T'.heap (locs ++ L) e1.symm (by rw [← e2]; exact X'.warmed.alike) hp hb k1 k2 k3 (by rw [e1]; exact hce) hcv hcl T' rfl X'
    exact ⟨t2, st.trans a1, b1⟩
/-- caught by the row x of this method's table; the rows ahead don't take it -/
theorem vx_catch {own name : String} {E : String} {ce : Cell} {q : Addr} (hown : s.vm.findClass own = some m.cls) (pre : List ExceptionTableEntry) (x : ExceptionTableEntry) (suf : List ExceptionTableEntry) (hsplit : c.exceptionTable.toList = pre ++ x :: suf)
    (hpass : ∀ z ∈ pre, covers z pc = false ∨ (z.catchType ≠ 0 ∧ ∃ nm : String, (Cond.classLink own z.catchType nm).before args s = true ∧ va_Nc E nm s)) (hx : covers x pc = true) (h0 : x.catchType ≠ 0)
    (hlink : (Cond.classLink own x.catchType name).before args s = true) (hcast : (Cond.castable E name).before args s = true) (hcell : H[q]? = some ce) (hv : ce.vm = .none) (hcl : s.vm.findClass E = some ce.cls)
    (kk : W p l e R s m args below meth c H locs cells slots Q (F0 m x.handlerPc ls [.ref q])) : vx_W p l e R s m args below meth c H locs cells slots Q (F0 m pc ls rest) q := by
  intro T hT X
  have hpl : e.platform.magicAccessors = ({} : Platform).magicAccessors := by rw [X.admits.platform]
  obtain ⟨c3, c4, hc3, hc4, hasg⟩ := Cond.castable_spec hcast
  cases Option.some.inj (hc3.symm.trans hcl)
  obtain ⟨c5, hc5, hcl5⟩ := Cond.classLink_spec hown hlink e.platform hpl
  cases Option.some.inj (hc4.symm.trans hc5)
  obtain ⟨vm', X', st⟩ := X.thenCaughtThrough q (g := F0 m pc ls rest) rfl (Steps.refl _) (by rw [hT]; exact hcell) (by rw [hv]; rfl) (by obtain ⟨k9, h9, -⟩ := Vm.findClass_spec hcl; exact ⟨k9, h9⟩) pre x suf hsplit
    (fun z hz => by
      rcases hpass z hz with h | ⟨hz0, nm, hl1, hn1⟩
      · exact Or.inl h
      · obtain ⟨c6, hc6, hcl6⟩ := Cond.classLink_spec hown hl1 e.platform hpl
        obtain ⟨a8, b8, h1, h2, h3⟩ := hn1
        cases Option.some.inj (h1.symm.trans hcl)
        cases Option.some.inj (h2.symm.trans hc6)
        exact Or.inr ⟨hz0, _, hcl6, h3⟩) hx (Or.inr ⟨h0, c4, hcl5, hasg⟩)
  obtain ⟨t, a1, b1⟩ := kk (T.setVm vm') hT X'
  exact ⟨t, st.trans a1, b1⟩
end Rows
section Ends
variable {p : Program} {l : Launch} {e : Env} {R : Room} {s : State} {m : MethodId} {args : Array Value} {below : List Frame} {meth : Method} {c : Code} {H : Heap} {locs : List Loc} {cells slots : Nat} {Q : State → Prop}
variable {mc ms : Nat} {free : Addr → Prop} {A0 A1 : Nat → Prop} {H0 : Heap} {a : Array Value} {ls : Array Slot} {st0 rest : List Value}
variable {Qc : Array Value → State → Outcome → State → Prop} {XC : String → State → State → Prop}
/-- what a body that may throw owes at its end -/
def vx_MQ (below : List Frame) (Qc : Array Value → State → Outcome → State → Prop) (XC : String → State → State → Prop) (a : Array Value) (s : State) (mc ms : Nat) (free : Addr → Prop) : State → Prop := fun t =>
  ∃ o, t.status = .running ∧ Ended t below o ∧ vx_Q Qc XC mc ms free a s o t
theorem vx_ret {g : JFrame} {mc ms : Nat} (k : W p l e R s m args below meth c H locs cells slots (MQ below Qc args s mc ms free) g) : W p l e R s m args below meth c H locs cells slots (vx_MQ below Qc XC args s mc ms free) g := by
  intro T hT X
  obtain ⟨t, a1, o, b1, b2, b3, b4⟩ := k T hT X
  exact ⟨t, a1, o, b1, b2, Or.inl ⟨b3, b4⟩⟩
/-- not caught here: it goes on to the caller -/
theorem vx_widen {g : JFrame} {q : Addr} {k n : Nat} (h1 : cells ≤ k) (h2 : slots ≤ n) (kk : vx_W p l e R s m args below meth c H locs k n Q g q) : vx_W p l e R s m args below meth c H locs cells slots Q g q := fun T hT X => kk T hT (stand_widen X h1 h2)
theorem vx_out {pc : Nat} {E : String} {ce : Cell} {q : Addr} {mc ms : Nat} (hout : ∀ x ∈ c.exceptionTable.toList, covers x pc = false) (hlocks : meth.locks = false) (hcell : H[q]? = some ce) (hv : ce.vm = .none) (hcl : s.vm.findClass E = some ce.cls)
    (hx : ∀ t : State, t.heap = H → s.vm.Alike t.vm → XC E s t) (hf : ∀ z ∈ locs, free z.base) (hc : cells ≤ mc) (hs : slots ≤ ms) :
    vx_W p l e R s m args below meth c H locs cells slots (vx_MQ below Qc XC args s mc ms free) (F0 m pc ls rest) q := by
  intro T hT X
  obtain ⟨st1, hrun, hend, hW, hsm⟩ := X.leaveThrown q (g := F0 m pc ls rest) rfl rfl rfl hout hlocks
  have hcell9 : (T.setFrames (.throwing q :: below)).heap[q]? = some ce := by
    show T.heap[q]? = some ce
    rw [hT]; exact hcell
  exact ⟨_, st1, .threw q, hrun, hend, Or.inr ⟨q, rfl, E, ce, locs, hx _ hT hW.alike, hcell9, hv, hcl, hW, hsm.mono hc hs, hf⟩⟩
theorem vx_frame {U : State} {k n : Nat} (h : s.sameButNew ({ U with vm := s.vm } : State) locs k n) : s.heap.size ≤ U.heap.size ∧ ∀ q : Nat, q < s.heap.size → (∀ z ∈ locs, z.base ≠ q) → U.heap[q]? = s.heap[q]? := by
  obtain ⟨-, h2, -, -, -, h6⟩ := h
  refine ⟨h2, fun q hq hz => ?_⟩
  obtain ⟨c9, e1, e2, e3, e4⟩ := h6 q _ (Array.getElem?_eq_getElem hq)
  have hs : c9.slots = (s.heap[q]).slots := Array.ext_getElem? fun i => e4 i fun hm => hz _ hm rfl
  have h9 : c9 = s.heap[q] := by
    rw [hs] at e2
    exact e2
  have e5 : U.heap[q]? = some c9 := e1
  rw [e5, h9, Array.getElem?_eq_getElem hq]
/-- the words of a throw but the four that speak of the heap -/
def vx_no (w : Cond) : Bool := decide (w ≠ .isRef (.static Bundle.tN "UNASSIGNED_STACK" Bundle.steD)) && decide (w ≠ .isRef (.static Bundle.tN "SUPPRESSED_SENTINEL" Bundle.listD)) && decide (w ≠ .laysStatic Bundle.tN "UNASSIGNED_STACK" Bundle.steD) && decide (w ≠ .laysStatic Bundle.tN "SUPPRESSED_SENTINEL" Bundle.listD)
def vx_at0 (own : String) (ic : Nat) (X : String) (names : List String) : List Cond := (Bundle.ownAtoms0 own ic X names).filter vx_no
def vx_atS (own : String) (ic : Nat) (X : String) (names : List String) : List Cond := (Bundle.ownAtoms own ic X names).filter vx_no
/-- a word that the tables alone decide, or a good one -/
def vx_ot (w : Cond) : Bool := w.onTables || goodWord w
theorem vx_ot_at {args a' : Array Value} {s U : State} {w : Cond} (hW : s.WarmedH U.vm) (hvm : s.vm = U.vm) (hg : vx_ot w = true) (h : w.before args s = true) : w.before a' U = true := by
  simp only [vx_ot, Bool.or_eq_true] at hg
  rcases hg with hg | hg
  · exact va_tabs hg hvm h
  · exact word_at hW (good_of_word hg) h
/-- a list's words: the good ones out of the method's own list, the others by premises of their own -/
theorem vx_hat {args : Array Value} {s : State} {L B : List Cond} (h1 : ∀ w ∈ L.filter goodWord, w.before args s = true) (h2 : ∀ w ∈ L.filter (fun w => !goodWord w), w ∈ B) (h3 : ∀ w ∈ B, w.before args s = true) : ∀ w ∈ L, w.before args s = true := by
  intro w hw
  by_cases g : goodWord w = true
  · exact h1 w (List.mem_filter.mpr ⟨hw, g⟩)
  · refine h3 w (h2 w (List.mem_filter.mpr ⟨hw, ?_⟩))
    show (!goodWord w) = true
    cases hgw : goodWord w
    · rfl
    · exact absurd hgw g
theorem vx_c {args : Array Value} {s : State} {w : Cond} {B : List Cond} (h : w.before args s = true) (t : ∀ w ∈ B, w.before args s = true) : ∀ w' ∈ w :: B, w'.before args s = true := fun w' h' => (List.mem_cons.mp h').elim (fun e => by rw [e]; exact h) (t w')
theorem vx_n {args : Array Value} {s : State} : ∀ w ∈ ([] : List Cond), w.before args s = true := fun _ h => nomatch h
theorem vx_own {args : Array Value} {s : State} {L : List Cond} (h1 : ∀ w ∈ L.filter vx_no, w.before args s = true)
    (hU : (Cond.isRef (.static Bundle.tN "UNASSIGNED_STACK" Bundle.steD)).before args s = true) (hN : (Cond.isRef (.static Bundle.tN "SUPPRESSED_SENTINEL" Bundle.listD)).before args s = true)
    (lU : (Cond.laysStatic Bundle.tN "UNASSIGNED_STACK" Bundle.steD).before args s = true) (lN : (Cond.laysStatic Bundle.tN "SUPPRESSED_SENTINEL" Bundle.listD).before args s = true) : ∀ w ∈ L, w.before args s = true := by
  intro w hw
  by_cases e1 : w = .isRef (.static Bundle.tN "UNASSIGNED_STACK" Bundle.steD)
  · rw [e1]; exact hU
  · by_cases e2 : w = .isRef (.static Bundle.tN "SUPPRESSED_SENTINEL" Bundle.listD)
    · rw [e2]; exact hN
    · by_cases e3 : w = .laysStatic Bundle.tN "UNASSIGNED_STACK" Bundle.steD
      · rw [e3]; exact lU
      · by_cases e4 : w = .laysStatic Bundle.tN "SUPPRESSED_SENTINEL" Bundle.listD
        · rw [e4]; exact lN
        · exact h1 w (List.mem_filter.mpr ⟨hw, by unfold vx_no; rw [decide_eq_true e1, decide_eq_true e2, decide_eq_true e3, decide_eq_true e4]; rfl⟩)
/-- where a static field lies, its class's statics cell in H -/
def vx_L (C n d : String) (A : Nat → Prop) (U : State) (H : Heap) : Prop := ∃ (c : ClassId) (k : Class) (i : Nat) (f : Field) (a : Nat) (cell : Cell), U.vm.findClass C = some c ∧ U.fieldFound? C n d = some (c, k, i, f) ∧ f.isStatic = true ∧ k.statics = some a ∧ H[a]? = some cell ∧ cell.vm.isStatics = true ∧ cell.cls = c ∧ f.slot < cell.slots.size ∧ k.staticTypes[f.slot]? = some f.type ∧ ¬ A a
theorem vx_L.moved {C n d : String} {A : Nat → Prop} {u U : State} {H : Heap} (hvm : u.vm.Alike U.vm) (h : vx_L C n d A u H) : vx_L C n d A U H := by
  obtain ⟨c, k, i, f, a, cell, h1, h2, h3, h4, h5, h6, h7, h8, h9, h10⟩ := h
  obtain ⟨k', hi', he⟩ := State.fieldFound?_setVm hvm h2
  exact ⟨c, k', i, f, a, cell, by rw [hvm.findClass]; exact h1, hi', h3, by rw [he]; exact h4, h5, h6, h7, h8, by rw [he]; exact h9, h10⟩
theorem vx_L.kept {C n d : String} {A : Nat → Prop} {U : State} {H H1 : Heap} (h : vx_L C n d A U H) (hq : ∀ a : Nat, a < H.size → ¬ A a → H1[a]? = H[a]?) : vx_L C n d A U H1 := by
  obtain ⟨c, k, i, f, a, cell, h1, h2, h3, h4, h5, h6, h7, h8, h9, h10⟩ := h
  exact ⟨c, k, i, f, a, cell, h1, h2, h3, h4, by rw [hq a (Array.getElem?_eq_some_iff.mp h5).1 h10]; exact h5, h6, h7, h8, h9, h10⟩
theorem vx_L.narrow {C n d : String} {A B : Nat → Prop} {U : State} {H : Heap} (h : vx_L C n d A U H) (hAB : ∀ q, B q → A q) : vx_L C n d B U H := by
  obtain ⟨c, k, i, f, a, cell, h1, h2, h3, h4, h5, h6, h7, h8, h9, h10⟩ := h
  exact ⟨c, k, i, f, a, cell, h1, h2, h3, h4, h5, h6, h7, h8, h9, fun z => h10 (hAB _ z)⟩
theorem vx_L.word {C n d : String} {A : Nat → Prop} {s : State} {args : Array Value} (h : vx_L C n d A s s.heap) : (Cond.laysStatic C n d).before args s = true := by
  obtain ⟨c, k, i, f, a, cell, h1, h2, h3, h4, h5, h6, h7, h8, h9, -⟩ := h
  show (Cond.laysStatic C n d).holds args s none s [] = true
  exact Cond.laysStatic_of h1 h2 h3 h4 h5 h6 h7 h8 h9
/-- .. and what it holds: null or some reference -/
def vx_Zq (C n d : String) (A : Nat → Prop) (U : State) (H : Heap) : Prop := va_Zq C n d A U H ∧ vx_L C n d A U H
theorem vx_Zq.moved {C n d : String} {A : Nat → Prop} {u U : State} {H : Heap} (hvm : u.vm.Alike U.vm) (h : vx_Zq C n d A u H) : vx_Zq C n d A U H := ⟨va_Zq.moved hvm h.1, vx_L.moved hvm h.2⟩
theorem vx_Zq.kept {C n d : String} {A : Nat → Prop} {U : State} {H H1 : Heap} (h : vx_Zq C n d A U H) (hq : ∀ a : Nat, a < H.size → ¬ A a → H1[a]? = H[a]?) : vx_Zq C n d A U H1 := ⟨va_Zq.kept h.1 hq, vx_L.kept h.2 hq⟩
theorem vx_Zq.narrow {C n d : String} {A B : Nat → Prop} {U : State} {H : Heap} (h : vx_Zq C n d A U H) (hAB : ∀ q, B q → A q) : vx_Zq C n d B U H := ⟨va_Zq.narrow h.1 hAB, vx_L.narrow h.2 hAB⟩
theorem vx_Zqof {args : Array Value} {s : State} {C n d : String} {A : Nat → Prop} (hl : (Cond.laysStatic C n d).before args s = true) (hini : (Cond.initialized C).before args s = true) (h : (Cond.isRef (.static C n d)).before args s = true) (hA : ∀ a : Nat, a < s.heap.size → ¬ A a) : vx_Zq C n d A s s.heap := by
  refine ⟨va_Zqof hl hini h hA, ?_⟩
  obtain ⟨c, k, i, f, a, cell, h1, h2, h3, h4, h5, h6, h7, h8, h9⟩ := Cond.laysStatic_spec hl
  exact ⟨c, k, i, f, a, cell, h1, h2, h3, h4, h5, h6, h7, h8, h9, hA a (Array.getElem?_eq_some_iff.mp h5).1⟩
theorem vx_isRef {C n d : String} {v : Value} {A : Nat → Prop} {s : State} {args : Array Value} (h : va_Z C n d v A s s.heap) (hv : v.isRef = true) : (Cond.isRef (.static C n d)).before args s = true := by
  obtain ⟨cf, kf, fi, f, a, cell, h1, h2, h3, h4, h5, h6, h7, -⟩ := h
  have he : (Term.static C n d).eval args s none [] s = some v := by
    simp [Term.eval, State.fieldNamed?, h1, h2, h4, h5, h6, h7]
  simp only [Cond.before, Cond.holds, Cond.value, he]
  cases v <;> simp_all [Value.isRef]
theorem vx_isRefq {C n d : String} {A : Nat → Prop} {s : State} {args : Array Value} (h : va_Zq C n d A s s.heap) : (Cond.isRef (.static C n d)).before args s = true := by
  rcases h with h | ⟨t, h⟩
  · exact vx_isRef h rfl
  · exact vx_isRef h rfl
/-- the same frame, seen from here: as if the method were called anew in this heap -/
theorem vx_rebase {T : State} (X : Stand p l e R s m args below meth c T locs cells slots) {R' : Room} (hf : R'.frames ≤ R.frames) (hl : R'.locals ≤ R.locals) (hc : cells + R'.cells ≤ R.cells) (hs : slots + R'.slots ≤ R.slots) :
    Stand p l e R' ((T.setVm s.vm).setFrames (.invoking m args :: below)) m args below meth c T [] 0 0 := by
  have htop : (T.setVm s.vm).topJava?.isSome := X.here.top
  have hF : ((T.setVm s.vm).setFrames (.invoking m args :: below)).frames = .invoking m args :: below := State.frames_setFrames _ (State.cur_lt_of_top htop)
  obtain ⟨g₀, hg0⟩ := Option.isSome_iff_exists.mp htop
  obtain ⟨r, hr⟩ := State.topJava?_eq_some.mp hg0
  have hl9 : e.platform.stackLimits (T.setVm s.vm).me = e.platform.stackLimits s.me := X.limits
  have hb9 : (T.setVm s.vm).me.stackBytes = s.me.stackBytes := X.bytes
  refine ⟨X.admits, X.cas, X.clock, hF, ?_, X.hears, X.method, X.code, X.here, X.tail, X.warmed, ?_, ?_, ?_⟩
  · have h := X.room
    have hU : ((T.setVm s.vm).setFrames (.invoking m args :: below)).localsInUse = s.localsInUse := by
      rw [State.localsInUse_invoking hF (meth := meth) (c := c) X.method X.code, State.localsInUse_invoking X.frames X.method X.code]
    simp only [State.hasRoom, Bool.and_eq_true, decide_eq_true_eq] at h ⊢
    obtain ⟨⟨⟨⟨h1, h2, h3, h4, h5, h6⟩, h7⟩, h8⟩, h9⟩ := h
    rw [X.frames, List.length_cons] at h2 h3
    have q1 := X.heapSize
    have q2 := X.used
    simp only [hF, hU, List.length_cons, State.stackLimits_setFrames, State.stackBytes_setFrames, hl9, hb9]
    refine ⟨⟨⟨⟨by omega, by omega, by omega, by omega, by omega, h6⟩, ?_⟩, ?_⟩, X.book⟩
    · show T.heap.size + R'.cells ≤ e.platform.maxCells
      omega
    · show T.slotsUsed + R'.slots ≤ e.platform.maxSlots
      omega
  · rw [State.stackLimits_setFrames]; rfl
  · rw [State.stackBytes_setFrames]; rfl
  · refine ⟨?_, Nat.le_refl _, Nat.le_refl _, ?_, ?_, fun a c9 h9 => ⟨c9, h9, rfl, rfl, fun _ _ => rfl⟩⟩
    · obtain ⟨t, ht, -⟩ := State.frames_cons hr
      show T.setVm s.vm = { ((T.setVm s.vm).setFrames (.invoking m args :: below)).setFrames (T.setVm s.vm).frames with heap := T.heap, slotsUsed := T.slotsUsed }
      rw [State.setFrames_setFrames, State.setFrames_self ht]
      rfl
    · show T.slotsUsed = T.slotsUsed + ((T.heap.toList.drop T.heap.size).map (·.slots.size)).sum
      rw [List.drop_eq_nil_of_le (Nat.le_of_eq Array.length_toList)]
      rfl
    · show ((T.heap.toList.drop T.heap.size).map (·.slots.size)).sum ≤ 0
      rw [List.drop_eq_nil_of_le (Nat.le_of_eq Array.length_toList)]
      exact Nat.le_refl _
/-- 'throw new E()': new; dup; invokespecial; athrow -/
theorem vx_throw0 {cc : ByteArray} {pc : Nat} (hexec : p.tables.exec = Jvm.exec) (hb : c.code = cc) (hl : l.stackTraces = false) {own cls : String} {names : List String} {ik ic mc ms : Nat} {A : Nat → Prop}
    (hown : s.vm.findClass own = some m.cls) (hcls : Bundle.fit cls = true) (hnames : ∀ n ∈ names, Bundle.fit n = true)
    (hk : (Cond.classLink own ik cls).before args s = true) (hini : (Cond.initialized cls).before args s = true) (hat : ∀ w ∈ vx_at0 own ic cls names, w.before args s = true)
    (hgood : ∀ w ∈ Cond.classLink own ik cls :: Cond.initialized cls :: vx_at0 own ic cls names, vx_ot w = true)
    (hU : vx_Zq Bundle.tN "UNASSIGNED_STACK" Bundle.steD A s s.heap) (hN : vx_Zq Bundle.tN "SUPPRESSED_SENTINEL" Bundle.listD A s s.heap) (hS : va_S A s.heap H locs) (hsize : ls.size = c.maxLocals)
    (d0 : decode cc pc = .ok (.new ik, 3)) (d3 : decode cc (pc + 3) = .ok (.dup, 1)) (d4 : decode cc (pc + 4) = .ok (.invokespecial ic, 3)) (d7 : decode cc (pc + 7) = .ok (.athrow, 1))
    (hout : ∀ x ∈ c.exceptionTable.toList, covers x (pc + 7) = false)
    (hRframes : names.length + 3 < R.frames) (hRlocals : (rest.map fun v => v.category).sum + (13 * (names.length + 1) + 42) ≤ R.locals) (hRcells : cells + 1 ≤ R.cells) (hRslots : slots + 6 ≤ R.slots) (hlocks : meth.locks = false)
    (hx : ∀ t : State, s.vm.Alike t.vm → H.size ≤ t.heap.size → (∀ q : Nat, q < H.size → t.heap[q]? = H[q]?) → XC cls s t)
    (hf : ∀ z ∈ locs, free z.base) (hc : cells + 1 ≤ mc) (hs : slots + 6 ≤ ms) :
    W p l e R s m args below meth c H locs cells slots (vx_MQ below Qc XC args s mc ms free) (F0 m pc ls rest) := by
  intro T hT X
  have htr : e.platform.stackTraces = false := (show e.platform.stackTraces = l.stackTraces by rw [X.admits.platform]).trans hl
  have Y := vx_rebase X (R' := { frames := R.frames, locals := R.locals, cells := 1, slots := 6 }) (Nat.le_refl _) (Nat.le_refl _) hRcells hRslots
  obtain ⟨s', hA⟩ : ∃ z, z = (T.setVm s.vm).setFrames (.invoking m args :: below) := ⟨_, rfl⟩
  rw [← hA] at Y
  have hvm : s'.vm = s.vm := by rw [hA]; rfl
  have hhp : s'.heap = H := by rw [hA]; exact hT
  have hW0 : s.WarmedH s'.vm := by rw [hvm]; exact State.WarmedH.refl s
  have hat' : ∀ w ∈ vx_at0 own ic cls names, w.before args s' = true := fun w hw => vx_ot_at hW0 hvm.symm (hgood w (List.mem_cons_of_mem _ (List.mem_cons_of_mem _ hw))) (hat w hw)
  have hk' : (Cond.classLink own ik cls).before args s' = true := vx_ot_at hW0 hvm.symm (hgood _ List.mem_cons_self) hk
  have hini' : (Cond.initialized cls).before args s' = true := vx_ot_at hW0 hvm.symm (hgood _ (List.mem_cons_of_mem _ List.mem_cons_self)) hini
  have hU' : vx_Zq Bundle.tN "UNASSIGNED_STACK" Bundle.steD A s' s'.heap := by rw [hhp]; exact vx_Zq.moved hW0.alike (hU.kept hS.2.1)
  have hN' : vx_Zq Bundle.tN "SUPPRESSED_SENTINEL" Bundle.listD A s' s'.heap := by rw [hhp]; exact vx_Zq.moved hW0.alike (hN.kept hS.2.1)
  have h : ∀ w ∈ Bundle.ownAtoms0 own ic cls names, w.before args s' = true := vx_own hat' (vx_isRefq hU'.1) (vx_isRefq hN'.1) hU'.2.word hN'.2.word
  have hown' : s'.vm.findClass own = some m.cls := by rw [hvm]; exact hown
  have hins : (Cond.instantiable cls 6).before args s' = true := h _ (by simp [Bundle.ownAtoms0])
  obtain ⟨vm₁, cX, kX, hfX, hkX, -, -, X₁, st1⟩ := Y.newCold hexec (own := own) (C := cls) (index := ik) (n := 6) hown' hk' hins hini'
    (g := F0 m pc ls rest) rfl (by rw [hb]; exact d0) (Nat.le_refl _) (Nat.le_refl _)
  generalize hT1 : (T.setVm vm₁).pushCell { cls := cX, slots := kX.instanceTypes.map defaultValue, vm := .none } = T1 at X₁ st1
  have hcat : (Value.ref T.heap.size).category = 1 := rfl
  have hcellA : T1.heap[T.heap.size]? = some (freshCell cX kX) := by rw [← hT1]; exact State.heap_pushCell_size _ _
  have d3' : decode c.code (pc + 3) = .ok (.dup, 1) := by rw [hb]; exact d3
  obtain ⟨U, hsteps, hrun, hend, hW, hsame, ce, hce, hO⟩ := X₁.ctorThrow0 hexec htr (own := own) (cls := cls) (names := names) (ic := ic) hown' hcls hnames h (fun x hx => nomatch hx) hfX hkX hcellA (by rw [hhp, hT]; exact Nat.le_refl _)
    (g := { method := m, pc := pc + 4, locals := ls, stack := .ref T.heap.size :: .ref T.heap.size :: rest, locked := none }) rfl hsize rfl rfl (rest := rest) rfl
    (by rw [hb]; exact d4) (by rw [hb]; exact d7) hout hRframes (by simp only [List.map_cons, List.sum_cons, hcat]; omega) hlocks
  obtain ⟨f1, f2⟩ := vx_frame hsame
  rw [hhp] at f1 f2
  have hWs : s.WarmedH U.vm := State.WarmedH.trans hW0 hW
  have hcl : s.vm.findClass cls = some ce.cls := by
    have h9 := hO.cls
    rw [hvm] at h9
    exact h9
  have hall : s.sameButNew ({ U with vm := s.vm } : State) locs mc ms := by
    subst hA
    obtain ⟨e1, e2⟩ := hsame
    rw [State.setFrames_setFrames] at e1
    have h2 : (T.setVm s.vm).sameButNew ({ U with vm := s.vm } : State) [] (0 + 1) (0 + 6) := ⟨e1, e2⟩
    have h3 := X.same.trans h2
    rw [List.append_nil] at h3
    exact h3.mono hc hs
  refine ⟨U, ?_, .threw T.heap.size, hrun, hend, Or.inr ⟨T.heap.size, rfl, cls, ce, locs, hx U hWs.alike f1 (fun q hq => f2 q hq (fun z hz => nomatch hz)), hce, hO.vm, hcl, hWs, hall, hf⟩⟩
  refine st1 _ ?_
  show Steps p.tables e below (T1.setTop { method := m, pc := pc + 3, locals := ls, stack := .ref T.heap.size :: rest, locked := none }) _
  jvm_step X₁.here [X₁.here.top, hexec, d3', Value.category]
  exact hsteps
/-- 'throw new E("text")': new; dup; ldc; invokespecial; athrow -/
theorem vx_throwS {cc : ByteArray} {pc : Nat} (hexec : p.tables.exec = Jvm.exec) (hb : c.code = cc) (hl : l.stackTraces = false) {own cls text : String} {names : List String} {ik is ic mc ms sa : Nat} {A : Nat → Prop}
    (hown : s.vm.findClass own = some m.cls) (hcls : Bundle.fit cls = true) (hnames : ∀ n ∈ names, Bundle.fit n = true)
    (hk : (Cond.classLink own ik cls).before args s = true) (hini : (Cond.initialized cls).before args s = true) (hstr : vk_R own is text sa s) (hat : ∀ w ∈ vx_atS own ic cls names, w.before args s = true)
    (hgood : ∀ w ∈ Cond.classLink own ik cls :: Cond.initialized cls :: vx_atS own ic cls names, vx_ot w = true)
    (hU : vx_Zq Bundle.tN "UNASSIGNED_STACK" Bundle.steD A s s.heap) (hN : vx_Zq Bundle.tN "SUPPRESSED_SENTINEL" Bundle.listD A s s.heap) (hS : va_S A s.heap H locs) (hsize : ls.size = c.maxLocals)
    (d0 : decode cc pc = .ok (.new ik, 3)) (d3 : decode cc (pc + 3) = .ok (.dup, 1)) (d4 : decode cc (pc + 4) = .ok (.ldc is, 2)) (d6 : decode cc (pc + 6) = .ok (.invokespecial ic, 3)) (d9 : decode cc (pc + 9) = .ok (.athrow, 1))
    (hout : ∀ x ∈ c.exceptionTable.toList, covers x (pc + 9) = false)
    (hRframes : names.length + 3 < R.frames) (hRlocals : (rest.map fun v => v.category).sum + (13 * (names.length + 1) + 43) ≤ R.locals) (hRcells : cells + 1 ≤ R.cells) (hRslots : slots + 6 ≤ R.slots) (hlocks : meth.locks = false)
    (hx : ∀ t : State, s.vm.Alike t.vm → H.size ≤ t.heap.size → (∀ q : Nat, q < H.size → t.heap[q]? = H[q]?) → XC cls s t)
    (hf : ∀ z ∈ locs, free z.base) (hc : cells + 1 ≤ mc) (hs : slots + 6 ≤ ms) :
    W p l e R s m args below meth c H locs cells slots (vx_MQ below Qc XC args s mc ms free) (F0 m pc ls rest) := by
  intro T hT X
  have htr : e.platform.stackTraces = false := (show e.platform.stackTraces = l.stackTraces by rw [X.admits.platform]).trans hl
  have Y := vx_rebase X (R' := { frames := R.frames, locals := R.locals, cells := 1, slots := 6 }) (Nat.le_refl _) (Nat.le_refl _) hRcells hRslots
  obtain ⟨s', hA⟩ : ∃ z, z = (T.setVm s.vm).setFrames (.invoking m args :: below) := ⟨_, rfl⟩
  rw [← hA] at Y
  have hvm : s'.vm = s.vm := by rw [hA]; rfl
  have hhp : s'.heap = H := by rw [hA]; exact hT
  have hW0 : s.WarmedH s'.vm := by rw [hvm]; exact State.WarmedH.refl s
  have hat' : ∀ w ∈ vx_atS own ic cls names, w.before args s' = true := fun w hw => vx_ot_at hW0 hvm.symm (hgood w (List.mem_cons_of_mem _ (List.mem_cons_of_mem _ hw))) (hat w hw)
  have hk' : (Cond.classLink own ik cls).before args s' = true := vx_ot_at hW0 hvm.symm (hgood _ List.mem_cons_self) hk
  have hini' : (Cond.initialized cls).before args s' = true := vx_ot_at hW0 hvm.symm (hgood _ (List.mem_cons_of_mem _ List.mem_cons_self)) hini
  have hU' : vx_Zq Bundle.tN "UNASSIGNED_STACK" Bundle.steD A s' s'.heap := by rw [hhp]; exact vx_Zq.moved hW0.alike (hU.kept hS.2.1)
  have hN' : vx_Zq Bundle.tN "SUPPRESSED_SENTINEL" Bundle.listD A s' s'.heap := by rw [hhp]; exact vx_Zq.moved hW0.alike (hN.kept hS.2.1)
  have h : ∀ w ∈ Bundle.ownAtoms own ic cls names, w.before args s' = true := vx_own hat' (vx_isRefq hU'.1) (vx_isRefq hN'.1) hU'.2.word hN'.2.word
  have hown' : s'.vm.findClass own = some m.cls := by rw [hvm]; exact hown
  have hins : (Cond.instantiable cls 6).before args s' = true := h _ (by simp [Bundle.ownAtoms])
  obtain ⟨vm₁, cX, kX, hfX, hkX, -, -, X₁, st1⟩ := Y.newCold hexec (own := own) (C := cls) (index := ik) (n := 6) hown' hk' hins hini'
    (g := F0 m pc ls rest) rfl (by rw [hb]; exact d0) (Nat.le_refl _) (Nat.le_refl _)
  generalize hT1 : (T.setVm vm₁).pushCell { cls := cX, slots := kX.instanceTypes.map defaultValue, vm := .none } = T1 at X₁ st1
  have hcat : (Value.ref T.heap.size).category = 1 := rfl
  have hcellA : T1.heap[T.heap.size]? = some (freshCell cX kX) := by rw [← hT1]; exact State.heap_pushCell_size _ _
  have d3' : decode c.code (pc + 3) = .ok (.dup, 1) := by rw [hb]; exact d3
  have d4' : decode c.code (pc + 4) = .ok (.ldc is, 2) := by rw [hb]; exact d4
  have hstr' : vk_R own is text sa s' := vk_R.warm hW0 hstr
  obtain ⟨U, hsteps, hrun, hend, hW, hsame, ce, hce, hO⟩ := X₁.ctorThrowS hexec htr (own := own) (cls := cls) (names := names) (ic := ic) hown' hcls hnames h (fun x hx => nomatch hx) hfX hkX hcellA (by rw [hhp, hT]; exact Nat.le_refl _) (msg := .ref sa) rfl
    (g := { method := m, pc := pc + 6, locals := ls, stack := .ref sa :: .ref T.heap.size :: .ref T.heap.size :: rest, locked := none }) rfl hsize rfl rfl (rest := rest) rfl
    (by rw [hb]; exact d6) (by rw [hb]; exact d9) hout hRframes (by simp only [List.map_cons, List.sum_cons, hcat]; omega) hlocks
  obtain ⟨f1, f2⟩ := vx_frame hsame
  rw [hhp] at f1 f2
  have hWs : s.WarmedH U.vm := State.WarmedH.trans hW0 hW
  have hcl : s.vm.findClass cls = some ce.cls := by
    have h9 := hO.cls
    rw [hvm] at h9
    exact h9
  have hall : s.sameButNew ({ U with vm := s.vm } : State) locs mc ms := by
    subst hA
    obtain ⟨e1, e2⟩ := hsame
    rw [State.setFrames_setFrames] at e1
    have h2 : (T.setVm s.vm).sameButNew ({ U with vm := s.vm } : State) [] (0 + 1) (0 + 6) := ⟨e1, e2⟩
    have h3 := X.same.trans h2
    rw [List.append_nil] at h3
    exact h3.mono hc hs
  refine ⟨U, ?_, .threw T.heap.size, hrun, hend, Or.inr ⟨T.heap.size, rfl, cls, ce, locs, hx U hWs.alike f1 (fun q hq => f2 q hq (fun z hz => nomatch hz)), hce, hO.vm, hcl, hWs, hall, hf⟩⟩
  refine st1 _ ?_
  show Steps p.tables e below (T1.setTop { method := m, pc := pc + 3, locals := ls, stack := .ref T.heap.size :: rest, locked := none }) _
  jvm_step X₁.here [X₁.here.top, hexec, d3', Value.category]
  exact X₁.ldcString hexec (own := own) (text := text) (index := is) (a := sa) hown' hstr'.1 hstr'.2
    (g := { method := m, pc := pc + 4, locals := ls, stack := .ref T.heap.size :: .ref T.heap.size :: rest, locked := none }) rfl d4' _ hsteps
/-- 'throw new E("text")', the text by a wide index -/
theorem vx_throwSW {cc : ByteArray} {pc : Nat} (hexec : p.tables.exec = Jvm.exec) (hb : c.code = cc) (hl : l.stackTraces = false) {own cls text : String} {names : List String} {ik is ic mc ms sa : Nat} {A : Nat → Prop}
    (hown : s.vm.findClass own = some m.cls) (hcls : Bundle.fit cls = true) (hnames : ∀ n ∈ names, Bundle.fit n = true)
    (hk : (Cond.classLink own ik cls).before args s = true) (hini : (Cond.initialized cls).before args s = true) (hstr : vk_R own is text sa s) (hat : ∀ w ∈ vx_atS own ic cls names, w.before args s = true)
    (hgood : ∀ w ∈ Cond.classLink own ik cls :: Cond.initialized cls :: vx_atS own ic cls names, vx_ot w = true)
    (hU : vx_Zq Bundle.tN "UNASSIGNED_STACK" Bundle.steD A s s.heap) (hN : vx_Zq Bundle.tN "SUPPRESSED_SENTINEL" Bundle.listD A s s.heap) (hS : va_S A s.heap H locs) (hsize : ls.size = c.maxLocals)
    (d0 : decode cc pc = .ok (.new ik, 3)) (d3 : decode cc (pc + 3) = .ok (.dup, 1)) (d4 : decode cc (pc + 4) = .ok (.ldc_w is, 3)) (d7 : decode cc (pc + 7) = .ok (.invokespecial ic, 3)) (d10 : decode cc (pc + 10) = .ok (.athrow, 1))
    (hout : ∀ x ∈ c.exceptionTable.toList, covers x (pc + 10) = false)
    (hRframes : names.length + 3 < R.frames) (hRlocals : (rest.map fun v => v.category).sum + (13 * (names.length + 1) + 43) ≤ R.locals) (hRcells : cells + 1 ≤ R.cells) (hRslots : slots + 6 ≤ R.slots) (hlocks : meth.locks = false)
    (hx : ∀ t : State, s.vm.Alike t.vm → H.size ≤ t.heap.size → (∀ q : Nat, q < H.size → t.heap[q]? = H[q]?) → XC cls s t)
    (hf : ∀ z ∈ locs, free z.base) (hc : cells + 1 ≤ mc) (hs : slots + 6 ≤ ms) :
    W p l e R s m args below meth c H locs cells slots (vx_MQ below Qc XC args s mc ms free) (F0 m pc ls rest) := by
  intro T hT X
  have htr : e.platform.stackTraces = false := (show e.platform.stackTraces = l.stackTraces by rw [X.admits.platform]).trans hl
  have Y := vx_rebase X (R' := { frames := R.frames, locals := R.locals, cells := 1, slots := 6 }) (Nat.le_refl _) (Nat.le_refl _) hRcells hRslots
  obtain ⟨s', hA⟩ : ∃ z, z = (T.setVm s.vm).setFrames (.invoking m args :: below) := ⟨_, rfl⟩
  rw [← hA] at Y
  have hvm : s'.vm = s.vm := by rw [hA]; rfl
  have hhp : s'.heap = H := by rw [hA]; exact hT
  have hW0 : s.WarmedH s'.vm := by rw [hvm]; exact State.WarmedH.refl s
  have hat' : ∀ w ∈ vx_atS own ic cls names, w.before args s' = true := fun w hw => vx_ot_at hW0 hvm.symm (hgood w (List.mem_cons_of_mem _ (List.mem_cons_of_mem _ hw))) (hat w hw)
  have hk' : (Cond.classLink own ik cls).before args s' = true := vx_ot_at hW0 hvm.symm (hgood _ List.mem_cons_self) hk
  have hini' : (Cond.initialized cls).before args s' = true := vx_ot_at hW0 hvm.symm (hgood _ (List.mem_cons_of_mem _ List.mem_cons_self)) hini
  have hU' : vx_Zq Bundle.tN "UNASSIGNED_STACK" Bundle.steD A s' s'.heap := by rw [hhp]; exact vx_Zq.moved hW0.alike (hU.kept hS.2.1)
  have hN' : vx_Zq Bundle.tN "SUPPRESSED_SENTINEL" Bundle.listD A s' s'.heap := by rw [hhp]; exact vx_Zq.moved hW0.alike (hN.kept hS.2.1)
  have h : ∀ w ∈ Bundle.ownAtoms own ic cls names, w.before args s' = true := vx_own hat' (vx_isRefq hU'.1) (vx_isRefq hN'.1) hU'.2.word hN'.2.word
  have hown' : s'.vm.findClass own = some m.cls := by rw [hvm]; exact hown
  have hins : (Cond.instantiable cls 6).before args s' = true := h _ (by simp [Bundle.ownAtoms])
  obtain ⟨vm₁, cX, kX, hfX, hkX, -, -, X₁, st1⟩ := Y.newCold hexec (own := own) (C := cls) (index := ik) (n := 6) hown' hk' hins hini'
    (g := F0 m pc ls rest) rfl (by rw [hb]; exact d0) (Nat.le_refl _) (Nat.le_refl _)
  generalize hT1 : (T.setVm vm₁).pushCell { cls := cX, slots := kX.instanceTypes.map defaultValue, vm := .none } = T1 at X₁ st1
  have hcat : (Value.ref T.heap.size).category = 1 := rfl
  have hcellA : T1.heap[T.heap.size]? = some (freshCell cX kX) := by rw [← hT1]; exact State.heap_pushCell_size _ _
  have d3' : decode c.code (pc + 3) = .ok (.dup, 1) := by rw [hb]; exact d3
  have d4' : decode c.code (pc + 4) = .ok (.ldc_w is, 3) := by rw [hb]; exact d4
  have hstr' : vk_R own is text sa s' := vk_R.warm hW0 hstr
  obtain ⟨U, hsteps, hrun, hend, hW, hsame, ce, hce, hO⟩ := X₁.ctorThrowS hexec htr (own := own) (cls := cls) (names := names) (ic := ic) hown' hcls hnames h (fun x hx => nomatch hx) hfX hkX hcellA (by rw [hhp, hT]; exact Nat.le_refl _) (msg := .ref sa) rfl
    (g := { method := m, pc := pc + 7, locals := ls, stack := .ref sa :: .ref T.heap.size :: .ref T.heap.size :: rest, locked := none }) rfl hsize rfl rfl (rest := rest) rfl
    (by rw [hb]; exact d7) (by rw [hb]; exact d10) hout hRframes (by simp only [List.map_cons, List.sum_cons, hcat]; omega) hlocks
  obtain ⟨f1, f2⟩ := vx_frame hsame
  rw [hhp] at f1 f2
  have hWs : s.WarmedH U.vm := State.WarmedH.trans hW0 hW
  have hcl : s.vm.findClass cls = some ce.cls := by
    have h9 := hO.cls
    rw [hvm] at h9
    exact h9
  have hall : s.sameButNew ({ U with vm := s.vm } : State) locs mc ms := by
    subst hA
    obtain ⟨e1, e2⟩ := hsame
    rw [State.setFrames_setFrames] at e1
    have h2 : (T.setVm s.vm).sameButNew ({ U with vm := s.vm } : State) [] (0 + 1) (0 + 6) := ⟨e1, e2⟩
    have h3 := X.same.trans h2
    rw [List.append_nil] at h3
    exact h3.mono hc hs
  refine ⟨U, ?_, .threw T.heap.size, hrun, hend, Or.inr ⟨T.heap.size, rfl, cls, ce, locs, hx U hWs.alike f1 (fun q hq => f2 q hq (fun z hz => nomatch hz)), hce, hO.vm, hcl, hWs, hall, hf⟩⟩
  refine st1 _ ?_
  show Steps p.tables e below (T1.setTop { method := m, pc := pc + 3, locals := ls, stack := .ref T.heap.size :: rest, locked := none }) _
  jvm_step X₁.here [X₁.here.top, hexec, d3', Value.category]
  exact X₁.ldcStringW hexec (own := own) (text := text) (index := is) (a := sa) hown' hstr'.1 hstr'.2
    (g := { method := m, pc := pc + 4, locals := ls, stack := .ref T.heap.size :: .ref T.heap.size :: rest, locked := none }) rfl d4' _ hsteps
end Ends
section Bodies
variable {l : Launch}
theorem vx_ofW {y : MethodName} {ws ws' : List Cond} {rm : Room} {Pc : Array Value → State → Prop} {Qc : Array Value → State → Outcome → State → Prop} {XC : String → State → State → Prop} {mc ms : Nat} {free : Addr → Prop} {cc : ByteArray} {maxL : Nat} {ret : Option FieldType}
    (hy : plainName y.cls = true) (hw : ws = Cond.code y cc maxL ret :: ws')
    (body : ∀ p e s m args below meth c s₁, BodyLoose p l y (headSpec ws rm) cc maxL ret e s m args below meth c s₁ → c.maxLocals = maxL → (∀ x ∈ c.exceptionTable.toList, False) → Pc args s →
      W p l e (headSpec ws rm).room s m args below meth c s.heap [] 0 0 (vx_MQ below Qc XC args s mc ms free) (entryFrame m args maxL)) : vx_Met l y ws rm Pc Qc XC mc ms free := by
  refine MetFree.of_bodyS (code := cc) (maxLocals := maxL) (ret := ret) hy ?_ ?_
  · intro args s m h hn
    obtain ⟨meth, c, h1, h2, h3, h4, h5, h6, -, -⟩ := Cond.code_spec hn (atoms_spec (ws := ws) h _ (by rw [hw]; exact List.mem_cons_self))
    exact ⟨meth, c, h1, h2, h3, h4, h5, h6⟩
  · intro p e s m args below meth c s₁ B hml hP _
    have hh0 : s₁.heap = s.heap := by rw [B.state]; rfl
    have ht : ∀ x ∈ c.exceptionTable.toList, False := by
      obtain ⟨meth9, c9, h1, h2, -, -, -, -, h7, -⟩ := Cond.code_spec B.named (atoms_spec (ws := ws) B.pre _ (by rw [hw]; exact List.mem_cons_self))
      cases Option.some.inj (h1.symm.trans B.method)
      cases Option.some.inj (h2.symm.trans (Stand.of_body B).code)
      intro x hx
      rw [Array.isEmpty_iff.mp h7] at hx
      cases hx
    obtain ⟨t, a1, o, b1, b2, b3⟩ := body p e s m args below meth c s₁ B hml ht hP s₁ hh0 (Stand.of_body B)
    exact ⟨t, o, a1, b1, b2, b3⟩
/-- the table of a body with handlers -/
theorem vx_table {p : Program} {x y : MethodName} {S : Spec} {cc bytes : ByteArray} {maxL maxL' : Nat} {ret ret' : Option FieldType} {e : Env} {s s₁ : State} {m : MethodId} {args : Array Value} {below : List Frame} {meth : Method} {c : Code} {hh : List (Nat × Nat × Nat × Nat)}
    (B : BodyLoose p l y S cc maxL ret e s m args below meth c s₁) (h : (Cond.codeWith y bytes maxL' ret' hh).before args s = true) : c.exceptionTable.toList = tableOf hh := by
  obtain ⟨m9, meth9, c9, hn9, h1, h2, -, -, h6, -⟩ := Cond.codeWith_spec h
  cases Option.some.inj (hn9.symm.trans B.named)
  cases Option.some.inj (h1.symm.trans B.method)
  cases Option.some.inj (h2.symm.trans (Stand.of_body B).code)
  rw [← h6, table_eq]
end Bodies
end VXA
/-! ===== END ===== -/
/-! ===== BEGIN a static call of a method with an exception table ===== -/
section VXS
variable {p : Program} {l : Launch} {e : Env} {R : Room} {s : State} {m : MethodId} {args : Array Value} {below : List Frame} {meth : Method} {c : Code} {T : State} {H : Heap} {locs : List Loc} {cells slots : Nat}
abbrev vx_CSW (R : Room) (s : State) (args : Array Value) (own : String) (index : Nat) (y : MethodName) (bytes : ByteArray) (maxL : Nat) (ret : Option FieldType) (hh : List (Nat × Nat × Nat × Nat)) (ws : List Cond) (rm : Room) (mc ms n : Nat) : Prop :=
  (rm.cells = mc ∧ rm.slots = ms ∧ rm.frames + 1 ≤ R.frames ∧ 8 + (maxL + 11) + rm.locals ≤ R.locals ∧ (∀ w ∈ ws, ∀ (a' : Array Value) (U : State), s.WarmedH U.vm → w.before a' U = true) ∧ Cond.codeWith y bytes maxL ret hh ∈ ws) ∧
  (Cond.codeWith y bytes maxL ret hh).before args s = true ∧ (Cond.initialized y.cls).before args s = true ∧ (y.cls ≠ "java/lang/invoke/MethodHandle" ∧ y.cls ≠ "java/lang/invoke/VarHandle") ∧
  (∀ sig, parseMethodDescriptor y.desc = some sig → n = sig.parameters.length) ∧ (Cond.methodLink own index y).before args s = true ∧ (Cond.static y).before args s = true
theorem vx_cwSW {own : String} {index maxL mc ms : Nat} {y : MethodName} {bytes : ByteArray} {ret : Option FieldType} {hh : List (Nat × Nat × Nat × Nat)} {Ts ws ws' : List Cond} {rm : Room} (n : Nat) (ht : ∀ w ∈ Ts, w.before args s = true) (hT : GoodIn Ts (va_wsS own index y ws)) (hw : ws = Cond.codeWith y bytes maxL ret hh :: ws') (hrc : rm.cells = mc) (hrs : rm.slots = ms)
    (hd : y.cls ≠ "java/lang/invoke/MethodHandle" ∧ y.cls ≠ "java/lang/invoke/VarHandle" ∧ (parseMethodDescriptor y.desc).map (fun d => d.parameters.length) = some n) (hR : rm.frames + 1 ≤ R.frames ∧ 8 + (maxL + 11) + rm.locals ≤ R.locals) :
    vx_CSW R s args own index y bytes maxL ret hh ws rm mc ms n := by
  have ok : ∀ w ∈ va_wsS own index y ws, w.before args s = true := fun w h => ht w (hT w h).1
  have hG : GoodIn Ts ws := fun w h => hT w (by unfold va_wsS; exact List.mem_append_right _ h)
  have hc : Cond.codeWith y bytes maxL ret hh ∈ ws := by rw [hw]; exact List.mem_cons_self
  refine ⟨⟨hrc, hrs, hR.1, hR.2, pay_in ht hG, hc⟩, ht _ (hG _ hc).1, ok _ (by simp [va_wsS]), ⟨hd.1, hd.2.1⟩, fun sig h => ?_, ok _ (by simp [va_wsS]), ok _ (by simp [va_wsS])⟩
  have h2 := hd.2.2
  rw [h] at h2
  exact (Option.some.inj h2).symm
theorem vx_callSW (X : Stand p l e R s m args below meth c T locs cells slots) (hexec : p.tables.exec = Jvm.exec) {own : String} {index : Nat} {y : MethodName} {bytes : ByteArray} {maxL : Nat} {ret : Option FieldType} {hh : List (Nat × Nat × Nat × Nat)}
    (hown : s.vm.findClass own = some m.cls) (hlink : (Cond.methodLink own index y).before args s = true) (hstat : (Cond.static y).before args s = true) (hinit : (Cond.initialized y.cls).before args s = true)
    (hcode : (Cond.codeWith y bytes maxL ret hh).before args s = true) (hy : y.cls ≠ "java/lang/invoke/MethodHandle" ∧ y.cls ≠ "java/lang/invoke/VarHandle")
    {W9 : Nat} {Pre : Pt → Array Value → Prop} {Post : Pt → Array Value → Option Value → Pt → Prop} (hK : Back l R p e below s args y 3 W9 Pre Post)
    {g : JFrame} (hg : g.method = m) (hsize : g.locals.size = c.maxLocals) {argsL rest : List Value} (hlen : ∀ sig, parseMethodDescriptor y.desc = some sig → argsL.length = sig.parameters.length)
    (hstack : g.stack = argsL.reverse ++ rest) (hW : 2 * g.monitorRoom + (rest.map fun v => v.category).sum ≤ W9) (hdg : decode c.code g.pc = .ok (.invokestatic index, 3))
    (hpre : ∀ vm₁, s.WarmedH vm₁ → Pre ⟨T.setVm vm₁, locs, cells, slots⟩ argsL.toArray) :
    ∃ (v : Option Value) (vm₁ : Vm) (B : Pt), s.WarmedH vm₁ ∧ Stand p l e R s m args below meth c B.U B.locs B.cells B.slots ∧ Post ⟨T.setVm vm₁, locs, cells, slots⟩ argsL.toArray v B ∧
      ∀ target, Steps p.tables e below (B.U.setTop { g with pc := g.pc + 3, stack := v.toList ++ rest }) target → Steps p.tables e below (T.setTop g) target := by
  obtain ⟨mk, methM, cM, hnamed, hmethM, -, -, -, -, -, -, hsigM⟩ := Cond.codeWith_spec hcode
  have hstatic : methM.isStatic = true := Cond.static_spec hnamed hmethM hstat
  obtain ⟨kP, hkP, -⟩ := className_of_methodNamed hnamed
  have hinitP : kP.init = .initialized := Cond.initialized_spec (findClass_of_methodNamed hnamed) hkP hinit
  obtain ⟨vm₁, X₁, hstep₁⟩ := X.invokestatic hexec hown hlink hnamed hmethM hstatic hkP hinitP hy (g := g) hg (argsL := argsL) (rest := rest) (hlen _ hsigM) hstack hdg
  obtain ⟨v, B, X', hpost, hsteps⟩ := hK m meth c ⟨T.setVm vm₁, locs, cells, slots⟩ { g with stack := rest } (.invokestatic index) mk argsL.toArray X₁ hg hsize hdg hW (X₁.named hnamed) (hpre vm₁ X₁.warmed)
  exact ⟨v, vm₁, B, X₁.warmed, X', hpost, fun target h => hstep₁ _ fun acts => by rw [doInvoke_state]; exact hsteps.trans h⟩
theorem vx_runSW {y : MethodName} {bytes cc : ByteArray} {maxL nL mc ms n index : Nat} {ret : Option FieldType} {hh : List (Nat × Nat × Nat × Nat)} {ws : List Cond} {rm : Room} {Pc : Array Value → State → Prop} {Qc : Array Value → State → Outcome → State → Prop} {free : Addr → Prop} {Ts : List Cond} {own : String} {As rest : List Value} {g : JFrame}
    (S : CallFix p m c cc nL s args Ts own) (hM : Met l y ws rm Pc Qc mc ms free) (cw : vx_CSW R s args own index y bytes maxL ret hh ws rm mc ms n) (hp : PreS s H Pc As)
    (hg : g.method = m) (hn : As.length = n) (hsize : g.locals.size = nL) (hstack : g.stack = As.reverse ++ rest) (hW : 2 * g.monitorRoom + (rest.map fun v => v.category).sum ≤ 8) (hdg : decode cc g.pc = .ok (.invokestatic index, 3)) (hf : cells + mc ≤ R.cells ∧ slots + ms ≤ R.slots) :
    va_Run p l e R s m args below meth c H locs cells slots mc ms g rest (Qc As.toArray) (free) := by
  obtain ⟨⟨hrc, hrs, hfr, hlo, hws, hcw⟩, hcode, hini, hy, hlen, hl, hstt⟩ := cw
  have hK : Back l R p e below s args y 3 8 (PreOf R mc ms Pc) (PostOf Qc mc ms free) := va_backW (hh := hh) (bytes := bytes) (maxL := maxL) (ret := ret) hM hp.1 hrc hrs hfr hlo hws hcw (fun a' U hW => word_at hW (Or.inl (by first | rfl | simp [Cond.onTables, Cond.keeps, Cond.steady])) hini)
  obtain ⟨hx, hb, hml, ho, -⟩ := S
  intro T hT X
  obtain ⟨v, vm₁, ⟨U', l2, c2, s2⟩, hW₁, X', ⟨g', mk, t, L, e1, e2, hq, h1, hL, h2, h3⟩, st⟩ := vx_callSW X hx (hh := hh) (bytes := bytes) (maxL := maxL) (ret := ret) ho hl hstt hini hcode hy hK hg (hsize.trans hml.symm) (argsL := As) (rest := rest) (fun sig h => hn.trans (hlen sig h)) hstack hW (by rw [hb]; exact hdg)
    (fun vm₁ hW₁ => ⟨hf.1, hf.2, hp.2 (T.setVm vm₁) hT hW₁⟩)
  dsimp only [Pt.U, Pt.locs, Pt.cells, Pt.slots] at X' e1 e2 h1 h2 h3 st
  subst h1; subst h2; subst h3
  exact ⟨v, (T.setVm vm₁).calling g' mk As.toArray, t, U', L, hT, X', hL, e1, e2, hq, st⟩
/-- not caught here, past rows that name other classes: it goes on to the caller -/
theorem vx_outP {p : Program} {l : Launch} {e : Env} {R : Room} {s : State} {m : MethodId} {args : Array Value} {below : List Frame} {meth : Method} {c : Code} {H : Heap} {locs : List Loc} {cells slots : Nat} {free : Addr → Prop} {ls : Array Slot} {rest : List Value} {Qc : Array Value → State → Outcome → State → Prop} {XC : String → State → State → Prop}
    {pc : Nat} {own E : String} {ce : Cell} {q : Addr} {mc ms : Nat} (hown : s.vm.findClass own = some m.cls) (hlocks : meth.locks = false)
    (hpass : ∀ z ∈ c.exceptionTable.toList, covers z pc = false ∨ (z.catchType ≠ 0 ∧ ∃ nm : String, (Cond.classLink own z.catchType nm).before args s = true ∧ va_Nc E nm s)) (hcell : H[q]? = some ce) (hv : ce.vm = .none) (hcl : s.vm.findClass E = some ce.cls)
    (hx : ∀ t : State, t.heap = H → s.vm.Alike t.vm → XC E s t) (hf : ∀ z ∈ locs, free z.base) (hc : cells ≤ mc) (hs : slots ≤ ms) :
    vx_W p l e R s m args below meth c H locs cells slots (vx_MQ below Qc XC args s mc ms free) (F0 m pc ls rest) q := by
  intro T hT X
  have hpl : e.platform.magicAccessors = ({} : Platform).magicAccessors := by rw [X.admits.platform]
  obtain ⟨vm', hW', X', st⟩ := X.outThrough hlocks q (g := F0 m pc ls rest) rfl rfl rfl (cell := ce) (by rw [hT]; exact hcell) (by rw [hv]; rfl)
    (by obtain ⟨k9, h9, -⟩ := Vm.findClass_spec hcl; exact ⟨k9, h9⟩) (fun z hz => by
      rcases hpass z hz with h | ⟨hz0, nm, hl1, hn1⟩
      · exact Or.inl h
      · obtain ⟨c6, hc6, hcl6⟩ := Cond.classLink_spec hown hl1 e.platform hpl
        obtain ⟨a8, b8, h1, h2, h3⟩ := hn1
        cases Option.some.inj (h1.symm.trans hcl)
        cases Option.some.inj (h2.symm.trans hc6)
        exact Or.inr ⟨hz0, _, hcl6, h3⟩)
  obtain ⟨g₀, hfr⟩ := X'.frames_eq
  have hcell9 : ((T.setVm vm').setFrames (.throwing q :: below)).heap[q]? = some ce := by
    show T.heap[q]? = some ce
    rw [hT]; exact hcell
  have hend : Ended ((T.setVm vm').setFrames (.throwing q :: below)) below (.threw q) := State.frames_setFrames _ (State.cur_lt_of_frames hfr)
  refine ⟨(T.setVm vm').setFrames (.throwing q :: below), ?_, .threw q, X'.here.running, hend, Or.inr ⟨q, rfl, E, ce, locs, hx _ hT (X'.ends _).1.alike, hcell9, hv, hcl, (X'.ends _).1, (X'.ends _).2.mono hc hs, hf⟩⟩
  rw [X.pushThrowing_eq]
  exact st
/-- a thing of a world lies in the heap -/
theorem vx_lt {D : va_G} {cl : List vw_C} {ws : va_W} {H1 : Heap} (h : va_P D cl ws H1) {k : Nat} {q : Nat × va_E} (hk : ws[k]? = some q) : q.1 < H1.size := (h k q hk).lt
end VXS
/-! ===== END ===== -/
/-! ===== BEGIN methods with a table of their own: called by a name, returning or throwing ===== -/
section VXH
/-! vx_backW, vx_callVX, vx_callSX, vx_callVW, vx_runVW, vx_runVX, vx_runSX, vx_ofWH follow the same proofs as their sisters above (Free/Laws.lean, Shelf42/LK1.lean); vx_outP calls Shelf42/NT130.lean (outThrough). -/
section
variable {l : Launch} {R : Room} {p : Program} {e : Env} {below : List Frame} {s : State} {sargs : Array Value} {y : MethodName} {len W9 : Nat}
theorem vx_backW {ws : List Cond} {rm : Room} {Pc : Array Value → State → Prop} {Qc : Array Value → State → Outcome → State → Prop} {XC : String → State → State → Prop} {mc ms : Nat} {free : Addr → Prop} {bytes : ByteArray} {maxL : Nat} {ret : Option FieldType} {hh : List (Nat × Nat × Nat × Nat)}
    (hM : vx_Met l y ws rm Pc Qc XC mc ms free) (hblind : FrameBlind Pc) (hrc : rm.cells = mc) (hrs : rm.slots = ms)
    (hframes : rm.frames + 1 ≤ R.frames) (hlocals : W9 + (maxL + 11) + rm.locals ≤ R.locals)
    (hws : ∀ w ∈ ws, ∀ a' U, s.WarmedH U.vm → w.before a' U = true) (hcode : Cond.codeWith y bytes maxL ret hh ∈ ws) (hinit : ∀ a' U, s.WarmedH U.vm → (Cond.initialized y.cls).before a' U = true) :
    vx_Back l R p e below s sargs y len W9 (PreOf R mc ms Pc) (PostOf Qc mc ms free) (vx_Post XC mc ms free) := by
  intro m meth c A g ig mk a X hg hsize hdg hW hn hp
  have h1 : (headSpec ws rm).pre.before a A.U = true := atoms_intro fun w hw => hws w hw _ _ X.warmed
  have h2 : (Cond.codeWith y bytes maxL ret hh).before a A.U = true := hws _ hcode _ _ X.warmed
  have h3 : (Cond.initialized y.cls).before a A.U = true := hinit _ _ X.warmed
  have h4 : A.cells + (headSpec ws rm).room.cells ≤ R.cells := by rw [show (headSpec ws rm).room.cells = mc from hrc]; exact hp.1
  have h5 : A.slots + (headSpec ws rm).room.slots ≤ R.slots := by rw [show (headSpec ws rm).room.slots = ms from hrs]; exact hp.2.1
  have hPc : Pc a (A.U.calling g mk a) := hblind _ _ _ _ hp.2.2
  obtain ⟨U, Ls, c0, s0⟩ := A
  dsimp only [Pt.U, Pt.locs, Pt.cells, Pt.slots] at h1 h2 h3 h4 h5 X hn hPc ⊢
  obtain ⟨m9, methY, cY, hn9, hmY, hcY, -, hlY, -⟩ := Cond.codeWith_spec h2
  cases Option.some.inj (hn9.symm.trans hn)
  obtain ⟨kY, hkY, -⟩ := className_of_methodNamed hn
  have hinitY : kY.init = .initialized := Cond.initialized_spec (findClass_of_methodNamed hn) hkY h3
  have h : At U g.method c below := by rw [hg]; exact X.here
  have hlocals9 : W9 + (maxL + 11) + (headSpec ws rm).room.locals ≤ R.locals := hlocals
  have happ : (headSpec ws rm).appliesLoose y e.platform (U.calling g mk a) = true :=
    Spec.appliesLoose_calling (g := g) h hdg hn hkY hinitY
      (X.room_calling (g := g) (R' := (headSpec ws rm).room) hsize hmY hcY hframes (by rw [hlY]; omega) h4 h5) h1
  obtain ⟨mid, hmid⟩ := h.above
  have hfr : (U.setTop g).frames = (.java g :: mid) ++ below := by rw [State.frames_setTop' g h.top, hmid]; rfl
  obtain ⟨o, s₂, hsteps, -, hend, hq⟩ := Steps.callFree hM p X.admits X.cas X.clock (acts := []) hfr happ hPc trivial
  have hq' : vx_Q Qc XC mc ms free a (U.calling g mk a) o s₂ := hq
  rw [State.frames_setTop' g h.top] at hend
  obtain ⟨g₀, hg0⟩ := Option.isSome_iff_exists.mp h.top
  obtain ⟨r, hr⟩ := State.topJava?_eq_some.mp hg0
  have hr' : (({ U with heap := s₂.heap, slotsUsed := s₂.slotsUsed } : State).setVm s₂.vm).frames = .java g₀ :: r := hr
  rcases hq' with ⟨hqc, L, hfe, hL⟩ | ⟨q, rfl, E, ce, L, hx, hce, hcv, hcl, hW₂, hsm, hL⟩
  · obtain ⟨⟨v, rfl⟩, hW₂, e2, q2, q3, q4, q5, q6⟩ := id hfe
    have e3 : s₂ = ({ (U.calling g mk a).setFrames s₂.frames with heap := s₂.heap, slotsUsed := s₂.slotsUsed } : State).setVm s₂.vm := by
      have : s₂ = ({ s₂ with vm := (U.calling g mk a).vm } : State).setVm s₂.vm := rfl
      rw [e2] at this
      exact this
    obtain ⟨c₂, i₂, len₂, hc₂, hd₂, hf₂⟩ := hend
    have hW' : U.WarmedH s₂.vm := hW₂
    have hcc : c₂ = c := by
      have h1 : s₂.code? g.method = U.code? g.method := by
        rw [State.code?_eq, State.code?_eq, hW'.alike.method?]
      exact Option.some.inj (hc₂.symm.trans (h1.trans h.code))
    subst hcc
    have hlen : len₂ = len := by rw [hdg] at hd₂; cases hd₂; rfl
    subst hlen
    have hs₂ : s₂ = (({ U with heap := s₂.heap, slotsUsed := s₂.slotsUsed } : State).setVm s₂.vm).setTop { g with pc := g.pc + len₂, stack := v.toList ++ g.stack } := by
      refine e3.trans ?_
      rw [hf₂, State.calling_eq h.top, State.setFrames_setFrames, State.setTop_of_frames _ hr', hr]
      rfl
    have hsame : U.sameButNew ({ U with heap := s₂.heap, slotsUsed := s₂.slotsUsed } : State) L mc ms := by
      refine ⟨?_, q2, q3, q4, q5, q6⟩
      obtain ⟨t, ht, -⟩ := State.frames_cons hr
      show ({ U with heap := s₂.heap, slotsUsed := s₂.slotsUsed } : State) = { U.setFrames U.frames with heap := s₂.heap, slotsUsed := s₂.slotsUsed }
      rw [State.setFrames_self ht]
    subst hg
    refine Or.inl ⟨v, ⟨(({ U with heap := s₂.heap, slotsUsed := s₂.slotsUsed } : State).setVm s₂.vm), Ls ++ L, c0 + mc, s0 + ms⟩,
      ⟨X.admits, X.cas, X.clock, X.frames, X.room, X.hears, X.method, X.code, (X.here.setHeapUsed s₂.heap s₂.slotsUsed).setVm hW'.alike, X.tail, State.WarmedH.trans X.warmed hW', X.limits, X.bytes, X.same.trans (hsame.setVm s.vm)⟩,
      ⟨g, mk, s₂, L, rfl, rfl, hqc, rfl, hL, rfl, rfl⟩, ?_⟩
    show Steps p.tables e below _ ((({ U with heap := s₂.heap, slotsUsed := s₂.slotsUsed } : State).setVm s₂.vm).setTop { g with pc := g.pc + len₂, stack := v.toList ++ g.stack })
    rw [← hs₂]
    exact hsteps
  · obtain ⟨e2, q2, q3, q4, q5, q6⟩ := id hsm
    have e3 : s₂ = ({ (U.calling g mk a).setFrames s₂.frames with heap := s₂.heap, slotsUsed := s₂.slotsUsed } : State).setVm s₂.vm := by
      have : s₂ = ({ s₂ with vm := (U.calling g mk a).vm } : State).setVm s₂.vm := rfl
      rw [e2] at this
      exact this
    have hf₂ : s₂.frames = .throwing q :: .java g :: U.frames.tail := hend
    have hW' : U.WarmedH s₂.vm := hW₂
    have hs₂ : s₂ = ((({ U with heap := s₂.heap, slotsUsed := s₂.slotsUsed } : State).setVm s₂.vm).setTop g).pushFrame (.throwing q) := by
      refine e3.trans ?_
      rw [hf₂, State.calling_eq h.top, State.setFrames_setFrames, State.pushFrame, State.frames_setTop _ hr', State.setTop_of_frames _ hr', State.setFrames_setFrames, hr]
      rfl
    have hsame : U.sameButNew ({ U with heap := s₂.heap, slotsUsed := s₂.slotsUsed } : State) L mc ms := by
      refine ⟨?_, q2, q3, q4, q5, q6⟩
      obtain ⟨t, ht, -⟩ := State.frames_cons hr
      show ({ U with heap := s₂.heap, slotsUsed := s₂.slotsUsed } : State) = { U.setFrames U.frames with heap := s₂.heap, slotsUsed := s₂.slotsUsed }
      rw [State.setFrames_self ht]
    subst hg
    refine Or.inr ⟨q, ⟨(({ U with heap := s₂.heap, slotsUsed := s₂.slotsUsed } : State).setVm s₂.vm), Ls ++ L, c0 + mc, s0 + ms⟩,
      ⟨X.admits, X.cas, X.clock, X.frames, X.room, X.hears, X.method, X.code, (X.here.setHeapUsed s₂.heap s₂.slotsUsed).setVm hW'.alike, X.tail, State.WarmedH.trans X.warmed hW', X.limits, X.bytes, X.same.trans (hsame.setVm s.vm)⟩,
      ⟨g, mk, s₂, L, E, ce, rfl, rfl, hx, hce, hcv, hcl, rfl, hL, rfl, rfl⟩, ?_⟩
    show Steps p.tables e below _ (((({ U with heap := s₂.heap, slotsUsed := s₂.slotsUsed } : State).setVm s₂.vm).setTop g).pushFrame (.throwing q))
    rw [← hs₂]
    exact hsteps
end
variable {p : Program} {l : Launch} {e : Env} {R : Room} {s : State} {m : MethodId} {args : Array Value} {below : List Frame} {meth : Method} {c : Code} {T : State} {H : Heap} {locs : List Loc} {cells slots : Nat}
theorem vx_callVX (X : Stand p l e R s m args below meth c T locs cells slots) (hexec : p.tables.exec = Jvm.exec) {own C : String} {index : Nat} {y : MethodName} {bytes : ByteArray} {maxL : Nat} {ret : Option FieldType} {hh : List (Nat × Nat × Nat × Nat)}
    (hown : s.vm.findClass own = some m.cls) (hlink : (Cond.methodLink own index y).before args s = true) (hinst : (Cond.instanceMethod y).before args s = true) (hsel : (Cond.selects C y y).before args s = true)
    (hcode : (Cond.codeWith y bytes maxL ret hh).before args s = true) (hy : y.cls ≠ "java/lang/invoke/MethodHandle" ∧ y.cls ≠ "java/lang/invoke/VarHandle")
    {W9 : Nat} {Pre : Pt → Array Value → Prop} {Post : Pt → Array Value → Option Value → Pt → Prop} {PostX : Pt → Array Value → Addr → Pt → Prop} (hK : vx_Back l R p e below s args y 3 W9 Pre Post PostX)
    {b : Addr} {cellB : Cell} (hcell : T.heap[b]? = some cellB) (hobj : cellB.vm.isStatics = false) (hcls : s.vm.findClass C = some cellB.cls)
    {g : JFrame} (hg : g.method = m) (hsize : g.locals.size = c.maxLocals) {argsL rest : List Value} (hlen : ∀ sig, parseMethodDescriptor y.desc = some sig → argsL.length = sig.parameters.length)
    (hstack : g.stack = argsL.reverse ++ .ref b :: rest) (hW : 2 * g.monitorRoom + (rest.map fun v => v.category).sum ≤ W9) (hdg : decode c.code g.pc = .ok (.invokevirtual index, 3))
    (hpre : ∀ vm₁, s.WarmedH vm₁ → Pre ⟨T.setVm vm₁, locs, cells, slots⟩ (Value.ref b :: argsL).toArray) :
    (∃ (v : Option Value) (vm₁ : Vm) (B : Pt), s.WarmedH vm₁ ∧ Stand p l e R s m args below meth c B.U B.locs B.cells B.slots ∧ Post ⟨T.setVm vm₁, locs, cells, slots⟩ (Value.ref b :: argsL).toArray v B ∧
      ∀ target, Steps p.tables e below (B.U.setTop { g with pc := g.pc + 3, stack := v.toList ++ rest }) target → Steps p.tables e below (T.setTop g) target) ∨
    (∃ (q : Addr) (vm₁ : Vm) (B : Pt), s.WarmedH vm₁ ∧ Stand p l e R s m args below meth c B.U B.locs B.cells B.slots ∧ PostX ⟨T.setVm vm₁, locs, cells, slots⟩ (Value.ref b :: argsL).toArray q B ∧
      Steps p.tables e below (T.setTop g) ((B.U.setTop { g with stack := rest }).pushFrame (.throwing q))) := by
  obtain ⟨mk, methM, hnamed, hmethM, hstM, habM⟩ := Cond.instanceMethod_spec hinst
  obtain ⟨m8, methM', cM, hn8, hmethM', -, -, -, -, -, -, hsigM⟩ := Cond.codeWith_spec hcode
  cases Option.some.inj (hn8.symm.trans hnamed)
  cases hmethM.symm.trans hmethM'
  obtain ⟨c2, r2, m2, q1, q2, q3, q4, kP, hkP, hkPi⟩ := Cond.selects_spec hsel
  cases hcls.symm.trans q1
  cases (State.methodFound?_of_named hnamed hy).symm.trans q2
  cases hnamed.symm.trans q3
  have hselP : selectMethod e.platform s.vm cellB.cls mk = .method mk := by rw [Launch.admits_selectMethod X.admits]; exact q4
  obtain ⟨vm₁, X₁, hstep₁⟩ := X.invokevirtual hexec hown hlink hnamed hmethM hstM hkP hkPi hy (a := b) (cell := cellB) hcell
    (fun z h => by rw [h] at hobj; cases hobj) hselP hmethM habM hkP hkPi (g := g) hg (argsL := argsL) (rest := rest) (hlen _ hsigM) hstack hdg
  rcases hK m meth c ⟨T.setVm vm₁, locs, cells, slots⟩ { g with stack := rest } (.invokevirtual index) mk (Value.ref b :: argsL).toArray X₁ hg hsize hdg hW (X₁.named hnamed) (hpre vm₁ X₁.warmed) with ⟨v, B, X', hpost, hsteps⟩ | ⟨q, B, X', hpost, hsteps⟩
  · exact Or.inl ⟨v, vm₁, B, X₁.warmed, X', hpost, fun target h => hstep₁ _ fun acts => by rw [doInvoke_state]; exact hsteps.trans h⟩
  · exact Or.inr ⟨q, vm₁, B, X₁.warmed, X', hpost, hstep₁ _ fun acts => by rw [doInvoke_state]; exact hsteps⟩
theorem vx_callSX (X : Stand p l e R s m args below meth c T locs cells slots) (hexec : p.tables.exec = Jvm.exec) {own : String} {index : Nat} {y : MethodName} {bytes : ByteArray} {maxL : Nat} {ret : Option FieldType} {hh : List (Nat × Nat × Nat × Nat)}
    (hown : s.vm.findClass own = some m.cls) (hlink : (Cond.methodLink own index y).before args s = true) (hstat : (Cond.static y).before args s = true) (hinit : (Cond.initialized y.cls).before args s = true)
    (hcode : (Cond.codeWith y bytes maxL ret hh).before args s = true) (hy : y.cls ≠ "java/lang/invoke/MethodHandle" ∧ y.cls ≠ "java/lang/invoke/VarHandle")
    {W9 : Nat} {Pre : Pt → Array Value → Prop} {Post : Pt → Array Value → Option Value → Pt → Prop} {PostX : Pt → Array Value → Addr → Pt → Prop} (hK : vx_Back l R p e below s args y 3 W9 Pre Post PostX)
    {g : JFrame} (hg : g.method = m) (hsize : g.locals.size = c.maxLocals) {argsL rest : List Value} (hlen : ∀ sig, parseMethodDescriptor y.desc = some sig → argsL.length = sig.parameters.length)
    (hstack : g.stack = argsL.reverse ++ rest) (hW : 2 * g.monitorRoom + (rest.map fun v => v.category).sum ≤ W9) (hdg : decode c.code g.pc = .ok (.invokestatic index, 3))
    (hpre : ∀ vm₁, s.WarmedH vm₁ → Pre ⟨T.setVm vm₁, locs, cells, slots⟩ argsL.toArray) :
    (∃ (v : Option Value) (vm₁ : Vm) (B : Pt), s.WarmedH vm₁ ∧ Stand p l e R s m args below meth c B.U B.locs B.cells B.slots ∧ Post ⟨T.setVm vm₁, locs, cells, slots⟩ argsL.toArray v B ∧
      ∀ target, Steps p.tables e below (B.U.setTop { g with pc := g.pc + 3, stack := v.toList ++ rest }) target → Steps p.tables e below (T.setTop g) target) ∨
    (∃ (q : Addr) (vm₁ : Vm) (B : Pt), s.WarmedH vm₁ ∧ Stand p l e R s m args below meth c B.U B.locs B.cells B.slots ∧ PostX ⟨T.setVm vm₁, locs, cells, slots⟩ argsL.toArray q B ∧
      Steps p.tables e below (T.setTop g) ((B.U.setTop { g with stack := rest }).pushFrame (.throwing q))) := by
  obtain ⟨mk, methM, cM, hnamed, hmethM, -, -, -, -, -, -, hsigM⟩ := Cond.codeWith_spec hcode
  have hstatic : methM.isStatic = true := Cond.static_spec hnamed hmethM hstat
  obtain ⟨kP, hkP, -⟩ := className_of_methodNamed hnamed
  have hinitP : kP.init = .initialized := Cond.initialized_spec (findClass_of_methodNamed hnamed) hkP hinit
  obtain ⟨vm₁, X₁, hstep₁⟩ := X.invokestatic hexec hown hlink hnamed hmethM hstatic hkP hinitP hy (g := g) hg (argsL := argsL) (rest := rest) (hlen _ hsigM) hstack hdg
  rcases hK m meth c ⟨T.setVm vm₁, locs, cells, slots⟩ { g with stack := rest } (.invokestatic index) mk argsL.toArray X₁ hg hsize hdg hW (X₁.named hnamed) (hpre vm₁ X₁.warmed) with ⟨v, B, X', hpost, hsteps⟩ | ⟨q, B, X', hpost, hsteps⟩
  · exact Or.inl ⟨v, vm₁, B, X₁.warmed, X', hpost, fun target h => hstep₁ _ fun acts => by rw [doInvoke_state]; exact hsteps.trans h⟩
  · exact Or.inr ⟨q, vm₁, B, X₁.warmed, X', hpost, hstep₁ _ fun acts => by rw [doInvoke_state]; exact hsteps⟩
theorem vx_callVW (X : Stand p l e R s m args below meth c T locs cells slots) (hexec : p.tables.exec = Jvm.exec) {own C : String} {index : Nat} {y : MethodName} {bytes : ByteArray} {maxL : Nat} {ret : Option FieldType} {hh : List (Nat × Nat × Nat × Nat)}
    (hown : s.vm.findClass own = some m.cls) (hlink : (Cond.methodLink own index y).before args s = true) (hinst : (Cond.instanceMethod y).before args s = true) (hsel : (Cond.selects C y y).before args s = true)
    (hcode : (Cond.codeWith y bytes maxL ret hh).before args s = true) (hy : y.cls ≠ "java/lang/invoke/MethodHandle" ∧ y.cls ≠ "java/lang/invoke/VarHandle")
    {W9 : Nat} {Pre : Pt → Array Value → Prop} {Post : Pt → Array Value → Option Value → Pt → Prop} (hK : Back l R p e below s args y 3 W9 Pre Post)
    {b : Addr} {cellB : Cell} (hcell : T.heap[b]? = some cellB) (hobj : cellB.vm.isStatics = false) (hcls : s.vm.findClass C = some cellB.cls)
    {g : JFrame} (hg : g.method = m) (hsize : g.locals.size = c.maxLocals) {argsL rest : List Value} (hlen : ∀ sig, parseMethodDescriptor y.desc = some sig → argsL.length = sig.parameters.length)
    (hstack : g.stack = argsL.reverse ++ .ref b :: rest) (hW : 2 * g.monitorRoom + (rest.map fun v => v.category).sum ≤ W9) (hdg : decode c.code g.pc = .ok (.invokevirtual index, 3))
    (hpre : ∀ vm₁, s.WarmedH vm₁ → Pre ⟨T.setVm vm₁, locs, cells, slots⟩ (Value.ref b :: argsL).toArray) :
    ∃ (v : Option Value) (vm₁ : Vm) (B : Pt), s.WarmedH vm₁ ∧ Stand p l e R s m args below meth c B.U B.locs B.cells B.slots ∧ Post ⟨T.setVm vm₁, locs, cells, slots⟩ (Value.ref b :: argsL).toArray v B ∧
      ∀ target, Steps p.tables e below (B.U.setTop { g with pc := g.pc + 3, stack := v.toList ++ rest }) target → Steps p.tables e below (T.setTop g) target := by
  obtain ⟨mk, methM, hnamed, hmethM, hstM, habM⟩ := Cond.instanceMethod_spec hinst
  obtain ⟨m8, methM', cM, hn8, hmethM', -, -, -, -, -, -, hsigM⟩ := Cond.codeWith_spec hcode
  cases Option.some.inj (hn8.symm.trans hnamed)
  cases hmethM.symm.trans hmethM'
  obtain ⟨c2, r2, m2, q1, q2, q3, q4, kP, hkP, hkPi⟩ := Cond.selects_spec hsel
  cases hcls.symm.trans q1
  cases (State.methodFound?_of_named hnamed hy).symm.trans q2
  cases hnamed.symm.trans q3
  have hselP : selectMethod e.platform s.vm cellB.cls mk = .method mk := by rw [Launch.admits_selectMethod X.admits]; exact q4
  obtain ⟨vm₁, X₁, hstep₁⟩ := X.invokevirtual hexec hown hlink hnamed hmethM hstM hkP hkPi hy (a := b) (cell := cellB) hcell
    (fun z h => by rw [h] at hobj; cases hobj) hselP hmethM habM hkP hkPi (g := g) hg (argsL := argsL) (rest := rest) (hlen _ hsigM) hstack hdg
  obtain ⟨v, B, X', hpost, hsteps⟩ := hK m meth c ⟨T.setVm vm₁, locs, cells, slots⟩ { g with stack := rest } (.invokevirtual index) mk (Value.ref b :: argsL).toArray X₁ hg hsize hdg hW (X₁.named hnamed) (hpre vm₁ X₁.warmed)
  exact ⟨v, vm₁, B, X₁.warmed, X', hpost, fun target h => hstep₁ _ fun acts => by rw [doInvoke_state]; exact hsteps.trans h⟩
abbrev vx_CVW (R : Room) (s : State) (args : Array Value) (own C : String) (index : Nat) (y : MethodName) (bytes : ByteArray) (maxL : Nat) (ret : Option FieldType) (hh : List (Nat × Nat × Nat × Nat)) (ws : List Cond) (rm : Room) (mc ms n : Nat) : Prop :=
  (rm.cells = mc ∧ rm.slots = ms ∧ rm.frames + 1 ≤ R.frames ∧ 8 + (maxL + 11) + rm.locals ≤ R.locals ∧ (∀ w ∈ ws, ∀ (a' : Array Value) (U : State), s.WarmedH U.vm → w.before a' U = true) ∧ Cond.codeWith y bytes maxL ret hh ∈ ws) ∧
  (Cond.codeWith y bytes maxL ret hh).before args s = true ∧ (Cond.initialized y.cls).before args s = true ∧ (y.cls ≠ "java/lang/invoke/MethodHandle" ∧ y.cls ≠ "java/lang/invoke/VarHandle") ∧
  (∀ sig, parseMethodDescriptor y.desc = some sig → n = sig.parameters.length) ∧ (Cond.methodLink own index y).before args s = true ∧ (Cond.instanceMethod y).before args s = true ∧ (Cond.selects C y y).before args s = true
theorem vx_cwVW {own C : String} {index maxL mc ms : Nat} {y : MethodName} {bytes : ByteArray} {ret : Option FieldType} {hh : List (Nat × Nat × Nat × Nat)} {Ts ws ws' : List Cond} {rm : Room} (n : Nat) (ht : ∀ w ∈ Ts, w.before args s = true) (hT : GoodIn Ts (wsV own index C y ws)) (hw : ws = Cond.codeWith y bytes maxL ret hh :: ws') (hrc : rm.cells = mc) (hrs : rm.slots = ms)
    (hd : y.cls = C ∧ y.cls ≠ "java/lang/invoke/MethodHandle" ∧ y.cls ≠ "java/lang/invoke/VarHandle" ∧ (parseMethodDescriptor y.desc).map (fun d => d.parameters.length) = some n) (hR : rm.frames + 1 ≤ R.frames ∧ 8 + (maxL + 11) + rm.locals ≤ R.locals) :
    vx_CVW R s args own C index y bytes maxL ret hh ws rm mc ms n := by
  obtain ⟨hC, hd⟩ := hd
  subst hC
  have ok : ∀ w ∈ wsV own index y.cls y ws, w.before args s = true := fun w h => ht w (hT w h).1
  have hG : GoodIn Ts ws := fun w h => hT w (by unfold wsV; exact List.mem_append_right _ h)
  have hc : Cond.codeWith y bytes maxL ret hh ∈ ws := by rw [hw]; exact List.mem_cons_self
  refine ⟨⟨hrc, hrs, hR.1, hR.2, pay_in ht hG, hc⟩, ht _ (hG _ hc).1, ok _ (by simp [wsV]), ⟨hd.1, hd.2.1⟩, fun sig h => ?_, ok _ (by simp [wsV]), ok _ (by simp [wsV]), ok _ (by simp [wsV])⟩
  have h2 := hd.2.2
  rw [h] at h2
  exact (Option.some.inj h2).symm
theorem vx_runVW {y : MethodName} {bytes cc : ByteArray} {maxL nL mc ms n index : Nat} {ret : Option FieldType} {hh : List (Nat × Nat × Nat × Nat)} {ws : List Cond} {rm : Room} {Pc : Array Value → State → Prop} {Qc : Array Value → State → Outcome → State → Prop} {free : Addr → Prop} {Ts : List Cond} {own C : String} {b : Addr} {As rest : List Value} {g : JFrame}
    (S : CallFix p m c cc nL s args Ts own) (hM : Met l y ws rm Pc Qc mc ms free) (cw : vx_CVW R s args own C index y bytes maxL ret hh ws rm mc ms n) (hp : PreV s H C b Pc As)
    (hg : g.method = m) (hn : As.length = n) (hsize : g.locals.size = nL) (hstack : g.stack = As.reverse ++ .ref b :: rest) (hW : 2 * g.monitorRoom + (rest.map fun v => v.category).sum ≤ 8) (hdg : decode cc g.pc = .ok (.invokevirtual index, 3)) (hf : cells + mc ≤ R.cells ∧ slots + ms ≤ R.slots) :
    va_Run p l e R s m args below meth c H locs cells slots mc ms g rest (Qc (Value.ref b :: As).toArray) free := by
  obtain ⟨⟨hrc, hrs, hfr, hlo, hws, hcw⟩, hcode, hini, hy, hlen, hl, hin, hse⟩ := cw
  have hK : Back l R p e below s args y 3 8 (PreOf R mc ms Pc) (PostOf Qc mc ms free) := va_backW (hh := hh) (bytes := bytes) (maxL := maxL) (ret := ret) hM hp.1 hrc hrs hfr hlo hws hcw (fun a' U hW => word_at hW (Or.inl (by first | rfl | simp [Cond.onTables, Cond.keeps, Cond.steady])) hini)
  obtain ⟨hx, hb, hml, ho, -⟩ := S
  obtain ⟨-, ⟨cellB, hcB, hoB, hclB⟩, hPc⟩ := hp
  intro T hT X
  obtain ⟨v, vm₁, ⟨U', l2, c2, s2⟩, hW₁, X', ⟨g', mk, t, L, e1, e2, hq, h1, hL, h2, h3⟩, st⟩ := vx_callVW X hx (C := C) (hh := hh) (bytes := bytes) (maxL := maxL) (ret := ret) ho hl hin hse hcode hy hK (by rw [hT]; exact hcB) hoB hclB hg (hsize.trans hml.symm) (argsL := As) (rest := rest) (fun sig h => hn.trans (hlen sig h)) hstack hW (by rw [hb]; exact hdg)
    (fun vm₁ hW₁ => ⟨hf.1, hf.2, hPc (T.setVm vm₁) hT hW₁⟩)
  dsimp only [Pt.U, Pt.locs, Pt.cells, Pt.slots] at X' e1 e2 h1 h2 h3 st
  subst h1; subst h2; subst h3
  exact ⟨v, (T.setVm vm₁).calling g' mk (Value.ref b :: As).toArray, t, U', L, hT, X', hL, e1, e2, hq, st⟩
section
variable {y : MethodName} {bytes cc : ByteArray} {maxL nL mc ms n index : Nat} {ret : Option FieldType} {ws : List Cond} {rm : Room} {Pc : Array Value → State → Prop} {Qc : Array Value → State → Outcome → State → Prop} {XC : String → State → State → Prop} {free : Addr → Prop} {Ts : List Cond} {own C : String} {b : Addr} {As rest : List Value} {g : JFrame}
theorem vx_runVX {hh : List (Nat × Nat × Nat × Nat)} (S : CallFix p m c cc nL s args Ts own) (hM : vx_Met l y ws rm Pc Qc XC mc ms free) (cw : vx_CVW R s args own C index y bytes maxL ret hh ws rm mc ms n) (hp : PreV s H C b Pc As)
    (hg : g.method = m) (hn : As.length = n) (hsize : g.locals.size = nL) (hstack : g.stack = As.reverse ++ .ref b :: rest) (hW : 2 * g.monitorRoom + (rest.map fun v => v.category).sum ≤ 8) (hdg : decode cc g.pc = .ok (.invokevirtual index, 3)) (hf : cells + mc ≤ R.cells ∧ slots + ms ≤ R.slots) :
    vx_Run p l e R s m args below meth c H locs cells slots mc ms g rest (Qc (Value.ref b :: As).toArray) XC free := by
  obtain ⟨⟨hrc, hrs, hfr, hlo, hws, hcw⟩, hcode, hini, hy, hlen, hl, hin, hse⟩ := cw
  have hK : vx_Back l R p e below s args y 3 8 (PreOf R mc ms Pc) (PostOf Qc mc ms free) (vx_Post XC mc ms free) := vx_backW (hh := hh) (bytes := bytes) (maxL := maxL) (ret := ret) hM hp.1 hrc hrs hfr hlo hws hcw (fun a' U hW => word_at hW (Or.inl (by first | rfl | simp [Cond.onTables, Cond.keeps, Cond.steady])) hini)
  obtain ⟨hx, hb, hml, ho, -⟩ := S
  obtain ⟨-, ⟨cellB, hcB, hoB, hclB⟩, hPc⟩ := hp
  intro T hT X
  rcases vx_callVX X hx (C := C) (hh := hh) (bytes := bytes) (maxL := maxL) (ret := ret) ho hl hin hse hcode hy hK (by rw [hT]; exact hcB) hoB hclB hg (hsize.trans hml.symm) (argsL := As) (rest := rest) (fun sig h => hn.trans (hlen sig h)) hstack hW (by rw [hb]; exact hdg)
    (fun vm₁ hW₁ => ⟨hf.1, hf.2, hPc (T.setVm vm₁) hT hW₁⟩) with ⟨v, vm₁, ⟨U', l2, c2, s2⟩, hW₁, X', ⟨g', mk, t, L, e1, e2, hq, h1, hL, h2, h3⟩, st⟩ | ⟨q, vm₁, ⟨U', l2, c2, s2⟩, hW₁, X', ⟨g', mk, t, L, E, ce, e1, e2, hq, hce, hcv, hcl, h1, hL, h2, h3⟩, st⟩
  · dsimp only [Pt.U, Pt.locs, Pt.cells, Pt.slots] at X' e1 e2 h1 h2 h3 st
    subst h1; subst h2; subst h3
    exact Or.inl ⟨v, (T.setVm vm₁).calling g' mk (Value.ref b :: As).toArray, t, U', L, hT, X', hL, e1, e2, hq, st⟩
  · dsimp only [Pt.U, Pt.locs, Pt.cells, Pt.slots] at X' e1 e2 h1 h2 h3 st hcl
    subst h1; subst h2; subst h3
    exact Or.inr ⟨q, (T.setVm vm₁).calling g' mk (Value.ref b :: As).toArray, t, U', L, E, ce, hT, X', hL, e1, e2, hq, hce, hcv, vx_cls hW₁ hcl, st⟩
theorem vx_runSX {hh : List (Nat × Nat × Nat × Nat)} (S : CallFix p m c cc nL s args Ts own) (hM : vx_Met l y ws rm Pc Qc XC mc ms free) (cw : vx_CSW R s args own index y bytes maxL ret hh ws rm mc ms n) (hp : PreS s H Pc As)
    (hg : g.method = m) (hn : As.length = n) (hsize : g.locals.size = nL) (hstack : g.stack = As.reverse ++ rest) (hW : 2 * g.monitorRoom + (rest.map fun v => v.category).sum ≤ 8) (hdg : decode cc g.pc = .ok (.invokestatic index, 3)) (hf : cells + mc ≤ R.cells ∧ slots + ms ≤ R.slots) :
    vx_Run p l e R s m args below meth c H locs cells slots mc ms g rest (Qc As.toArray) XC free := by
  obtain ⟨⟨hrc, hrs, hfr, hlo, hws, hcw⟩, hcode, hini, hy, hlen, hl, hstt⟩ := cw
  have hK : vx_Back l R p e below s args y 3 8 (PreOf R mc ms Pc) (PostOf Qc mc ms free) (vx_Post XC mc ms free) := vx_backW (hh := hh) (bytes := bytes) (maxL := maxL) (ret := ret) hM hp.1 hrc hrs hfr hlo hws hcw (fun a' U hW => word_at hW (Or.inl (by first | rfl | simp [Cond.onTables, Cond.keeps, Cond.steady])) hini)
  obtain ⟨hx, hb, hml, ho, -⟩ := S
  intro T hT X
  rcases vx_callSX X hx (hh := hh) (bytes := bytes) (maxL := maxL) (ret := ret) ho hl hstt hini hcode hy hK hg (hsize.trans hml.symm) (argsL := As) (rest := rest) (fun sig h => hn.trans (hlen sig h)) hstack hW (by rw [hb]; exact hdg)
    (fun vm₁ hW₁ => ⟨hf.1, hf.2, hp.2 (T.setVm vm₁) hT hW₁⟩) with ⟨v, vm₁, ⟨U', l2, c2, s2⟩, hW₁, X', ⟨g', mk, t, L, e1, e2, hq, h1, hL, h2, h3⟩, st⟩ | ⟨q, vm₁, ⟨U', l2, c2, s2⟩, hW₁, X', ⟨g', mk, t, L, E, ce, e1, e2, hq, hce, hcv, hcl, h1, hL, h2, h3⟩, st⟩
  · dsimp only [Pt.U, Pt.locs, Pt.cells, Pt.slots] at X' e1 e2 h1 h2 h3 st
    subst h1; subst h2; subst h3
    exact Or.inl ⟨v, (T.setVm vm₁).calling g' mk As.toArray, t, U', L, hT, X', hL, e1, e2, hq, st⟩
  · dsimp only [Pt.U, Pt.locs, Pt.cells, Pt.slots] at X' e1 e2 h1 h2 h3 st hcl
    subst h1; subst h2; subst h3
    exact Or.inr ⟨q, (T.setVm vm₁).calling g' mk As.toArray, t, U', L, E, ce, hT, X', hL, e1, e2, hq, hce, hcv, vx_cls hW₁ hcl, st⟩
end
end VXH
theorem vx_ofWH {l : Launch} {y : MethodName} {ws ws' : List Cond} {rm : Room} {Pc : Array Value → State → Prop} {Qc : Array Value → State → Outcome → State → Prop} {XC : String → State → State → Prop} {mc ms : Nat} {free : Addr → Prop} {cc : ByteArray} {maxL : Nat} {ret : Option FieldType} {hh : List (Nat × Nat × Nat × Nat)}
    (hy : plainName y.cls = true) (hw : ws = Cond.codeWith y cc maxL ret hh :: ws')
    (body : ∀ p e s m args below meth c s₁, BodyLoose p l y (headSpec ws rm) cc maxL ret e s m args below meth c s₁ → c.maxLocals = maxL → Pc args s →
      W p l e (headSpec ws rm).room s m args below meth c s.heap [] 0 0 (vx_MQ below Qc XC args s mc ms free) (entryFrame m args maxL)) : vx_Met l y ws rm Pc Qc XC mc ms free := by
  refine MetFree.of_bodyS (code := cc) (maxLocals := maxL) (ret := ret) hy ?_ ?_
  · intro args s m h hn
    obtain ⟨m9, meth, c, hn9, h1, h2, h3, h4, -, h5, h6, -⟩ := Cond.codeWith_spec (atoms_spec (ws := ws) h _ (by rw [hw]; exact List.mem_cons_self))
    cases hn.symm.trans hn9
    exact ⟨meth, c, h1, h2, h3, h4, h5, h6⟩
  · intro p e s m args below meth c s₁ B hml hP _
    have hh0 : s₁.heap = s.heap := by rw [B.state]; rfl
    obtain ⟨t, a1, o, b1, b2, b3⟩ := body p e s m args below meth c s₁ B hml hP s₁ hh0 (Stand.of_body B)
    exact ⟨t, o, a1, b1, b2, b3⟩
/-! ===== END ===== -/
end
section
/-! ===== BEGIN printed: names, fields, word lists, decode rows ===== -/
def RX0 : String := "Topplemoor$Heap"
def TX0 : u_T := fun k => match k with
  | 0 => ("Topplemoor$Heap", "grains", "[I", true)
  | 1 => ("Topplemoor$Heap", "times", "[I", true)
  | _ => ("Topplemoor$Heap", "moor", "LTopplemoor$Moor;", true)
def tyX0 : Nat → FieldType := fun k => match k with
  | 0 => .array .int
  | 1 => .array .int
  | _ => .object "Topplemoor$Moor"
abbrev wsX00 : List Cond := u_ws RX0 TX0 3
theorem nmX0 : ∀ a, a < 3 → ∀ b, b < 3 → a ≠ b → (TX0 a).2.1 ≠ (TX0 b).2.1 := by decide +kernel
theorem tyX0_ok : ∀ k, k < 3 → parseFieldDescriptor (TX0 k).2.2.1 = some (tyX0 k) := by decide +kernel
abbrev cX0_init : ByteArray := prog_2_method_1_code
def yX0_init : MethodName := ⟨RX0, "<init>", "(LTopplemoor$Moor;)V"⟩
abbrev cX0_copyRow : ByteArray := prog_2_method_2_code
def yX0_copyRow : MethodName := ⟨RX0, "copyRow", "([I)V"⟩
abbrev cX0_addRow : ByteArray := prog_2_method_3_code
def yX0_addRow : MethodName := ⟨RX0, "addRow", "([I)V"⟩
abbrev cX0_addFromSink : ByteArray := prog_2_method_4_code
def yX0_addFromSink : MethodName := ⟨RX0, "addFromSink", "()V"⟩
abbrev cX0_isLike : ByteArray := prog_2_method_5_code
def yX0_isLike : MethodName := ⟨RX0, "isLike", "([I)Z"⟩
abbrev cX0_allGrains : ByteArray := prog_2_method_6_code
def yX0_allGrains : MethodName := ⟨RX0, "allGrains", "()I"⟩
abbrev cX0_isSteep : ByteArray := prog_2_method_7_code
def yX0_isSteep : MethodName := ⟨RX0, "isSteep", "(I)Z"⟩
abbrev cX0_steepSet : ByteArray := prog_2_method_8_code
def yX0_steepSet : MethodName := ⟨RX0, "steepSet", "()I"⟩
abbrev cX0_tip : ByteArray := prog_2_method_9_code
def yX0_tip : MethodName := ⟨RX0, "tip", "(II)V"⟩
abbrev cX0_roll : ByteArray := prog_2_method_10_code
def yX0_roll : MethodName := ⟨RX0, "roll", "()V"⟩
abbrev cX0_rollRound : ByteArray := prog_2_method_11_code
def yX0_rollRound : MethodName := ⟨RX0, "rollRound", "()Z"⟩
abbrev cX0_allTimes : ByteArray := prog_2_method_12_code
def yX0_allTimes : MethodName := ⟨RX0, "allTimes", "()I"⟩
abbrev cX0_swallowedByRoll : ByteArray := prog_2_method_13_code
def yX0_swallowedByRoll : MethodName := ⟨RX0, "swallowedByRoll", "()I"⟩
abbrev cX0_toppledSet : ByteArray := prog_2_method_14_code
def yX0_toppledSet : MethodName := ⟨RX0, "toppledSet", "()I"⟩
abbrev cX0_hasEachToppledOnce : ByteArray := prog_2_method_15_code
def yX0_hasEachToppledOnce : MethodName := ⟨RX0, "hasEachToppledOnce", "()Z"⟩
abbrev cX0_becomeNeutral : ByteArray := prog_2_method_16_code
def yX0_becomeNeutral : MethodName := ⟨RX0, "becomeNeutral", "()V"⟩
abbrev cX0_burningOrder : ByteArray := prog_2_method_17_code
def yX0_burningOrder : MethodName := ⟨RX0, "burningOrder", "()I"⟩
abbrev cX0_nextToBurn : ByteArray := prog_2_method_18_code
def yX0_nextToBurn : MethodName := ⟨RX0, "nextToBurn", "(I)I"⟩
def RX1 : String := "Topplemoor$Money"
def TX1 : u_T := fun k => match k with
  | 0 => ("Topplemoor$Money", "coins", "[I", true)
  | 1 => ("Topplemoor$Money", "moor", "LTopplemoor$Moor;", true)
  | 2 => ("Topplemoor$Money", "lasting", "LTopplemoor$Heap;", true)
  | _ => ("Topplemoor$Money", "poorer", "LTopplemoor$Heap;", true)
def tyX1 : Nat → FieldType := fun k => match k with
  | 0 => .array .int
  | 1 => .object "Topplemoor$Moor"
  | 2 => .object "Topplemoor$Heap"
  | _ => .object "Topplemoor$Heap"
abbrev wsX10 : List Cond := u_ws RX1 TX1 4
theorem nmX1 : ∀ a, a < 4 → ∀ b, b < 4 → a ≠ b → (TX1 a).2.1 ≠ (TX1 b).2.1 := by decide +kernel
theorem tyX1_ok : ∀ k, k < 4 → parseFieldDescriptor (TX1 k).2.2.1 = some (tyX1 k) := by decide +kernel
abbrev cX1_init : ByteArray := prog_3_method_1_code
def yX1_init : MethodName := ⟨RX1, "<init>", "(LTopplemoor$Moor;)V"⟩
abbrev cX1_give : ByteArray := prog_3_method_2_code
def yX1_give : MethodName := ⟨RX1, "give", "(II)V"⟩
abbrev cX1_allCoins : ByteArray := prog_3_method_3_code
def yX1_allCoins : MethodName := ⟨RX1, "allCoins", "()I"⟩
abbrev cX1_debtors : ByteArray := prog_3_method_4_code
def yX1_debtors : MethodName := ⟨RX1, "debtors", "()I"⟩
abbrev cX1_isPayable : ByteArray := prog_3_method_5_code
def yX1_isPayable : MethodName := ⟨RX1, "isPayable", "()Z"⟩
abbrev cX1_weakestNode : ByteArray := prog_3_method_6_code
def yX1_weakestNode : MethodName := ⟨RX1, "weakestNode", "()I"⟩
abbrev cX1_findLasting : ByteArray := prog_3_method_7_code
def yX1_findLasting : MethodName := ⟨RX1, "findLasting", "()V"⟩
abbrev cX1_readOtherWay : ByteArray := prog_3_method_8_code
def yX1_readOtherWay : MethodName := ⟨RX1, "readOtherWay", "()V"⟩
abbrev cX1_leastNeeded : ByteArray := prog_3_method_9_code
def yX1_leastNeeded : MethodName := ⟨RX1, "leastNeeded", "(LTopplemoor$Heap;)I"⟩
def RX2 : String := "Topplemoor$Moor"
def TX2 : u_T := fun k => match k with
  | 0 => ("Topplemoor$Moor", "spots", "I", false)
  | 1 => ("Topplemoor$Moor", "edges", "[[I", true)
  | 2 => ("Topplemoor$Moor", "degrees", "[I", true)
  | _ => ("Topplemoor$Moor", "table", "[[J", true)
def tyX2 : Nat → FieldType := fun k => match k with
  | 0 => .int
  | 1 => .array (.array .int)
  | 2 => .array .int
  | _ => .array (.array .long)
abbrev wsX20 : List Cond := u_ws RX2 TX2 4
theorem nmX2 : ∀ a, a < 4 → ∀ b, b < 4 → a ≠ b → (TX2 a).2.1 ≠ (TX2 b).2.1 := by decide +kernel
theorem tyX2_ok : ∀ k, k < 4 → parseFieldDescriptor (TX2 k).2.2.1 = some (tyX2 k) := by decide +kernel
abbrev cX2_init : ByteArray := prog_4_method_1_code
def yX2_init : MethodName := ⟨RX2, "<init>", "()V"⟩
abbrev cX2_isSpot : ByteArray := prog_4_method_2_code
def yX2_isSpot : MethodName := ⟨RX2, "isSpot", "(I)Z"⟩
abbrev cX2_isNode : ByteArray := prog_4_method_3_code
def yX2_isNode : MethodName := ⟨RX2, "isNode", "(I)Z"⟩
abbrev cX2_lay : ByteArray := prog_4_method_4_code
def yX2_lay : MethodName := ⟨RX2, "lay", "(III)V"⟩
abbrev cX2_allEdges : ByteArray := prog_4_method_5_code
def yX2_allEdges : MethodName := ⟨RX2, "allEdges", "()I"⟩
abbrev cX2_edgesInto : ByteArray := prog_4_method_6_code
def yX2_edgesInto : MethodName := ⟨RX2, "edgesInto", "(II)I"⟩
abbrev cX2_isFast : ByteArray := prog_4_method_7_code
def yX2_isFast : MethodName := ⟨RX2, "isFast", "()Z"⟩
abbrev cX2_neighbourAt : ByteArray := prog_4_method_8_code
def yX2_neighbourAt : MethodName := ⟨RX2, "neighbourAt", "(II)I"⟩
abbrev cX2_trees : ByteArray := prog_4_method_9_code
def yX2_trees : MethodName := ⟨RX2, "trees", "()J"⟩
abbrev cX2_fillTable : ByteArray := prog_4_method_10_code
def yX2_fillTable : MethodName := ⟨RX2, "fillTable", "()V"⟩
abbrev cX2_eliminate : ByteArray := prog_4_method_11_code
def yX2_eliminate : MethodName := ⟨RX2, "eliminate", "(IJ)V"⟩
def RX3 : String := "Topplemoor$Rotors"
def TX3 : u_T := fun k => match k with
  | 0 => ("Topplemoor$Rotors", "places", "[I", true)
  | 1 => ("Topplemoor$Rotors", "steps", "I", false)
  | _ => ("Topplemoor$Rotors", "moor", "LTopplemoor$Moor;", true)
def tyX3 : Nat → FieldType := fun k => match k with
  | 0 => .array .int
  | 1 => .int
  | _ => .object "Topplemoor$Moor"
abbrev wsX30 : List Cond := u_ws RX3 TX3 3
theorem nmX3 : ∀ a, a < 3 → ∀ b, b < 3 → a ≠ b → (TX3 a).2.1 ≠ (TX3 b).2.1 := by decide +kernel
theorem tyX3_ok : ∀ k, k < 3 → parseFieldDescriptor (TX3 k).2.2.1 = some (tyX3 k) := by decide +kernel
abbrev cX3_init : ByteArray := prog_5_method_1_code
def yX3_init : MethodName := ⟨RX3, "<init>", "(LTopplemoor$Moor;)V"⟩
abbrev cX3_reset : ByteArray := prog_5_method_2_code
def yX3_reset : MethodName := ⟨RX3, "reset", "(I)V"⟩
abbrev cX3_pointedFrom : ByteArray := prog_5_method_3_code
def yX3_pointedFrom : MethodName := ⟨RX3, "pointedFrom", "(I)I"⟩
abbrev cX3_send : ByteArray := prog_5_method_4_code
def yX3_send : MethodName := ⟨RX3, "send", "(I)I"⟩
abbrev cX3_turn : ByteArray := prog_5_method_5_code
def yX3_turn : MethodName := ⟨RX3, "turn", "(I)V"⟩
abbrev cX3_areTree : ByteArray := prog_5_method_6_code
def yX3_areTree : MethodName := ⟨RX3, "areTree", "()Z"⟩
abbrev cX3_leadsToSink : ByteArray := prog_5_method_7_code
def yX3_leadsToSink : MethodName := ⟨RX3, "leadsToSink", "(I)Z"⟩
def RX4 : String := "Topplemoor"
def TX4 : u_T := fun k => match k with
  | 0 => ("Topplemoor", "moor", "LTopplemoor$Moor;", true)
  | 1 => ("Topplemoor", "lying", "LTopplemoor$Heap;", true)
  | 2 => ("Topplemoor", "trial", "LTopplemoor$Heap;", true)
  | 3 => ("Topplemoor", "neutralHeap", "LTopplemoor$Heap;", true)
  | 4 => ("Topplemoor", "sum", "LTopplemoor$Heap;", true)
  | 5 => ("Topplemoor", "rotors", "LTopplemoor$Rotors;", true)
  | 6 => ("Topplemoor", "money", "LTopplemoor$Money;", true)
  | 7 => ("Topplemoor", "keptHeaps", "[[I", true)
  | 8 => ("Topplemoor", "keptMany", "I", false)
  | 9 => ("Topplemoor", "swallowed", "I", false)
  | _ => ("Topplemoor", "topples", "I", false)
def tyX4 : Nat → FieldType := fun k => match k with
  | 0 => .object "Topplemoor$Moor"
  | 1 => .object "Topplemoor$Heap"
  | 2 => .object "Topplemoor$Heap"
  | 3 => .object "Topplemoor$Heap"
  | 4 => .object "Topplemoor$Heap"
  | 5 => .object "Topplemoor$Rotors"
  | 6 => .object "Topplemoor$Money"
  | 7 => .array (.array .int)
  | 8 => .int
  | 9 => .int
  | _ => .int
abbrev wsX40 : List Cond := u_ws RX4 TX4 11
theorem nmX4 : ∀ a, a < 11 → ∀ b, b < 11 → a ≠ b → (TX4 a).2.1 ≠ (TX4 b).2.1 := by decide +kernel
theorem tyX4_ok : ∀ k, k < 11 → parseFieldDescriptor (TX4 k).2.2.1 = some (tyX4 k) := by decide +kernel
abbrev cX4_init : ByteArray := prog_1_method_1_code
def yX4_init : MethodName := ⟨RX4, "<init>", "()V"⟩
abbrev cX4_spot : ByteArray := prog_1_method_2_code
def yX4_spot : MethodName := ⟨RX4, "spot", "()I"⟩
abbrev cX4_edge : ByteArray := prog_1_method_3_code
def yX4_edge : MethodName := ⟨RX4, "edge", "(III)I"⟩
abbrev cX4_drop : ByteArray := prog_1_method_4_code
def yX4_drop : MethodName := ⟨RX4, "drop", "(II)I"⟩
abbrev cX4_topple : ByteArray := prog_1_method_5_code
def yX4_topple : MethodName := ⟨RX4, "topple", "(I)I"⟩
abbrev cX4_settle : ByteArray := prog_1_method_6_code
def yX4_settle : MethodName := ⟨RX4, "settle", "()I"⟩
abbrev cX4_keep : ByteArray := prog_1_method_7_code
def yX4_keep : MethodName := ⟨RX4, "keep", "()I"⟩
abbrev cX4_add : ByteArray := prog_1_method_8_code
def yX4_add : MethodName := ⟨RX4, "add", "(I)I"⟩
abbrev cX4_sweep : ByteArray := prog_1_method_9_code
def yX4_sweep : MethodName := ⟨RX4, "sweep", "()I"⟩
abbrev cX4_walk : ByteArray := prog_1_method_10_code
def yX4_walk : MethodName := ⟨RX4, "walk", "(I)I"⟩
abbrev cX4_pay : ByteArray := prog_1_method_11_code
def yX4_pay : MethodName := ⟨RX4, "pay", "(II)I"⟩
abbrev cX4_lend : ByteArray := prog_1_method_12_code
def yX4_lend : MethodName := ⟨RX4, "lend", "(IZ)I"⟩
abbrev cX4_ofSpot : ByteArray := prog_1_method_13_code
def yX4_ofSpot : MethodName := ⟨RX4, "ofSpot", "(II)I"⟩
abbrev cX4_between : ByteArray := prog_1_method_14_code
def yX4_between : MethodName := ⟨RX4, "between", "(II)I"⟩
abbrev cX4_coins : ByteArray := prog_1_method_15_code
def yX4_coins : MethodName := ⟨RX4, "coins", "(I)I"⟩
abbrev cX4_kept : ByteArray := prog_1_method_16_code
def yX4_kept : MethodName := ⟨RX4, "kept", "(II)I"⟩
abbrev cX4_many : ByteArray := prog_1_method_17_code
def yX4_many : MethodName := ⟨RX4, "many", "(I)I"⟩
abbrev cX4_count : ByteArray := prog_1_method_18_code
def yX4_count : MethodName := ⟨RX4, "count", "()J"⟩
abbrev cX4_density : ByteArray := prog_1_method_19_code
def yX4_density : MethodName := ⟨RX4, "density", "()D"⟩
abbrev cX4_would : ByteArray := prog_1_method_20_code
def yX4_would : MethodName := ⟨RX4, "would", "(III)I"⟩
abbrev cX4_isLasting : ByteArray := prog_1_method_21_code
def yX4_isLasting : MethodName := ⟨RX4, "isLasting", "()Z"⟩
abbrev cX4_neutral : ByteArray := prog_1_method_22_code
def yX4_neutral : MethodName := ⟨RX4, "neutral", "(I)I"⟩
abbrev cX4_fire : ByteArray := prog_1_method_23_code
def yX4_fire : MethodName := ⟨RX4, "fire", "()I"⟩
abbrev cX4_order : ByteArray := prog_1_method_24_code
def yX4_order : MethodName := ⟨RX4, "order", "()I"⟩
abbrev cX4_canPay : ByteArray := prog_1_method_25_code
def yX4_canPay : MethodName := ⟨RX4, "canPay", "()Z"⟩
abbrev cX4_weakest : ByteArray := prog_1_method_26_code
def yX4_weakest : MethodName := ⟨RX4, "weakest", "()I"⟩
abbrev cX4_digest : ByteArray := prog_1_method_27_code
def yX4_digest : MethodName := ⟨RX4, "digest", "()J"⟩
abbrev cX4_requireSpot : ByteArray := prog_1_method_28_code
def yX4_requireSpot : MethodName := ⟨RX4, "requireSpot", "(I)V"⟩
abbrev cX4_requireNode : ByteArray := prog_1_method_29_code
def yX4_requireNode : MethodName := ⟨RX4, "requireNode", "(I)V"⟩
abbrev cX4_requireHeap : ByteArray := prog_1_method_30_code
def yX4_requireHeap : MethodName := ⟨RX4, "requireHeap", "(I)V"⟩
abbrev cX4_requireFast : ByteArray := prog_1_method_31_code
def yX4_requireFast : MethodName := ⟨RX4, "requireFast", "()V"⟩
abbrev cX4_requireWithin : ByteArray := prog_1_method_32_code
def yX4_requireWithin : MethodName := ⟨RX4, "requireWithin", "(III)V"⟩
abbrev cX4_settleLying : ByteArray := prog_1_method_33_code
def yX4_settleLying : MethodName := ⟨RX4, "settleLying", "()I"⟩
abbrev cX4_rollTrialWith : ByteArray := prog_1_method_34_code
def yX4_rollTrialWith : MethodName := ⟨RX4, "rollTrialWith", "(II)V"⟩
abbrev cX4_liesLasting : ByteArray := prog_1_method_35_code
def yX4_liesLasting : MethodName := ⟨RX4, "liesLasting", "()Z"⟩
abbrev cX4_spotValue : ByteArray := prog_1_method_36_code
def yX4_spotValue : MethodName := ⟨RX4, "spotValue", "(II)I"⟩
abbrev cX4_manyValue : ByteArray := prog_1_method_37_code
def yX4_manyValue : MethodName := ⟨RX4, "manyValue", "(I)I"⟩
abbrev cX4_digestNode : ByteArray := prog_1_method_38_code
def yX4_digestNode : MethodName := ⟨RX4, "digestNode", "(JI)J"⟩
abbrev cX4_digestKept : ByteArray := prog_1_method_39_code
def yX4_digestKept : MethodName := ⟨RX4, "digestKept", "(J)J"⟩
abbrev cX4_digestFast : ByteArray := prog_1_method_40_code
def yX4_digestFast : MethodName := ⟨RX4, "digestFast", "(J)J"⟩
def RX5 : String := "TopplemoorModel"
def TX5 : u_T := fun k => match k with
  | 0 => ("TopplemoorModel", "thrown", "I", false)
  | 1 => ("TopplemoorModel", "spots", "I", false)
  | 2 => ("TopplemoorModel", "edges", "[[I", true)
  | 3 => ("TopplemoorModel", "grains", "[I", false)
  | 4 => ("TopplemoorModel", "avalanche", "[I", false)
  | 5 => ("TopplemoorModel", "rotors", "[I", true)
  | 6 => ("TopplemoorModel", "coins", "[I", true)
  | 7 => ("TopplemoorModel", "kept", "Ljava/util/ArrayList;", true)
  | 8 => ("TopplemoorModel", "swallowed", "I", false)
  | 9 => ("TopplemoorModel", "topples", "I", false)
  | _ => ("TopplemoorModel", "walked", "I", false)
def tyX5 : Nat → FieldType := fun k => match k with
  | 0 => .int
  | 1 => .int
  | 2 => .array (.array .int)
  | 3 => .array .int
  | 4 => .array .int
  | 5 => .array .int
  | 6 => .array .int
  | 7 => .object "java/util/ArrayList"
  | 8 => .int
  | 9 => .int
  | _ => .int
abbrev wsX50 : List Cond := u_ws RX5 TX5 11
theorem nmX5 : ∀ a, a < 11 → ∀ b, b < 11 → a ≠ b → (TX5 a).2.1 ≠ (TX5 b).2.1 := by decide +kernel
theorem tyX5_ok : ∀ k, k < 11 → parseFieldDescriptor (TX5 k).2.2.1 = some (tyX5 k) := by decide +kernel
abbrev cX5_init : ByteArray := prog_7_method_1_code
def yX5_init : MethodName := ⟨RX5, "<init>", "()V"⟩
abbrev cX5_thrown : ByteArray := prog_7_method_2_code
def yX5_thrown : MethodName := ⟨RX5, "thrown", "()I"⟩
abbrev cX5_refuse : ByteArray := prog_7_method_3_code
def yX5_refuse : MethodName := ⟨RX5, "refuse", "(ZI)Z"⟩
abbrev cX5_start : ByteArray := prog_7_method_4_code
def yX5_start : MethodName := ⟨RX5, "start", "(ZI)Z"⟩
abbrev cX5_isIn : ByteArray := prog_7_method_5_code
def yX5_isIn : MethodName := ⟨RX5, "isIn", "(III)Z"⟩
abbrev cX5_one : ByteArray := prog_7_method_6_code
def yX5_one : MethodName := ⟨RX5, "one", "(Z)I"⟩
abbrev cX5_isNoSpot : ByteArray := prog_7_method_7_code
def yX5_isNoSpot : MethodName := ⟨RX5, "isNoSpot", "(I)Z"⟩
abbrev cX5_isNoNode : ByteArray := prog_7_method_8_code
def yX5_isNoNode : MethodName := ⟨RX5, "isNoNode", "(I)Z"⟩
abbrev cX5_degree : ByteArray := prog_7_method_9_code
def yX5_degree : MethodName := ⟨RX5, "degree", "(I)I"⟩
abbrev cX5_isFast : ByteArray := prog_7_method_10_code
def yX5_isFast : MethodName := ⟨RX5, "isFast", "()Z"⟩
abbrev cX5_spot : ByteArray := prog_7_method_11_code
def yX5_spot : MethodName := ⟨RX5, "spot", "()I"⟩
abbrev cX5_edge : ByteArray := prog_7_method_12_code
def yX5_edge : MethodName := ⟨RX5, "edge", "(III)I"⟩
abbrev cX5_sum : ByteArray := prog_7_method_13_code
def yX5_sum : MethodName := ⟨RX5, "sum", "([I)I"⟩
abbrev cX5_isSteep : ByteArray := prog_7_method_14_code
def yX5_isSteep : MethodName := ⟨RX5, "isSteep", "([II)Z"⟩
abbrev cX5_steepest : ByteArray := prog_7_method_15_code
def yX5_steepest : MethodName := ⟨RX5, "steepest", "([I)I"⟩
abbrev cX5_fall : ByteArray := prog_7_method_16_code
def yX5_fall : MethodName := ⟨RX5, "fall", "([II)V"⟩
abbrev cX5_settled : ByteArray := prog_7_method_17_code
def yX5_settled : MethodName := ⟨RX5, "settled", "([I)[I"⟩
abbrev cX5_swallowedBy : ByteArray := prog_7_method_18_code
def yX5_swallowedBy : MethodName := ⟨RX5, "swallowedBy", "([I)I"⟩
abbrev cX5_land : ByteArray := prog_7_method_19_code
def yX5_land : MethodName := ⟨RX5, "land", "([I)I"⟩
abbrev cX5_drop : ByteArray := prog_7_method_20_code
def yX5_drop : MethodName := ⟨RX5, "drop", "(II)I"⟩
abbrev cX5_topple : ByteArray := prog_7_method_21_code
def yX5_topple : MethodName := ⟨RX5, "topple", "(I)I"⟩
abbrev cX5_settle : ByteArray := prog_7_method_22_code
def yX5_settle : MethodName := ⟨RX5, "settle", "()I"⟩
abbrev cX5_copy : ByteArray := prog_7_method_23_code
def yX5_copy : MethodName := ⟨RX5, "copy", "([I)[I"⟩
abbrev cX5_keep : ByteArray := prog_7_method_24_code
def yX5_keep : MethodName := ⟨RX5, "keep", "()I"⟩
abbrev cX5_plus : ByteArray := prog_7_method_25_code
def yX5_plus : MethodName := ⟨RX5, "plus", "([I[I)[I"⟩
abbrev cX5_add : ByteArray := prog_7_method_26_code
def yX5_add : MethodName := ⟨RX5, "add", "(I)I"⟩
abbrev cX5_sweep : ByteArray := prog_7_method_27_code
def yX5_sweep : MethodName := ⟨RX5, "sweep", "()I"⟩
abbrev cX5_pointed : ByteArray := prog_7_method_28_code
def yX5_pointed : MethodName := ⟨RX5, "pointed", "(II)I"⟩
abbrev cX5_walk : ByteArray := prog_7_method_29_code
def yX5_walk : MethodName := ⟨RX5, "walk", "(I)I"⟩
abbrev cX5_isTree : ByteArray := prog_7_method_30_code
def yX5_isTree : MethodName := ⟨RX5, "isTree", "()Z"⟩
abbrev cX5_pay : ByteArray := prog_7_method_31_code
def yX5_pay : MethodName := ⟨RX5, "pay", "(II)I"⟩
abbrev cX5_give : ByteArray := prog_7_method_32_code
def yX5_give : MethodName := ⟨RX5, "give", "([III)V"⟩
abbrev cX5_lend : ByteArray := prog_7_method_33_code
def yX5_lend : MethodName := ⟨RX5, "lend", "(IZ)I"⟩
abbrev cX5_isPaid : ByteArray := prog_7_method_34_code
def yX5_isPaid : MethodName := ⟨RX5, "isPaid", "([I)Z"⟩
abbrev cX5_toldOfSpot : ByteArray := prog_7_method_35_code
def yX5_toldOfSpot : MethodName := ⟨RX5, "toldOfSpot", "(II)I"⟩
abbrev cX5_ofSpot : ByteArray := prog_7_method_36_code
def yX5_ofSpot : MethodName := ⟨RX5, "ofSpot", "(II)I"⟩
abbrev cX5_between : ByteArray := prog_7_method_37_code
def yX5_between : MethodName := ⟨RX5, "between", "(II)I"⟩
abbrev cX5_coins : ByteArray := prog_7_method_38_code
def yX5_coins : MethodName := ⟨RX5, "coins", "(I)I"⟩
abbrev cX5_kept : ByteArray := prog_7_method_39_code
def yX5_kept : MethodName := ⟨RX5, "kept", "(II)I"⟩
abbrev cX5_told : ByteArray := prog_7_method_40_code
def yX5_told : MethodName := ⟨RX5, "told", "(I)I"⟩
abbrev cX5_many : ByteArray := prog_7_method_41_code
def yX5_many : MethodName := ⟨RX5, "many", "(I)I"⟩
abbrev cX5_determinant : ByteArray := prog_7_method_42_code
def yX5_determinant : MethodName := ⟨RX5, "determinant", "([[III)J"⟩
abbrev cX5_counted : ByteArray := prog_7_method_43_code
def yX5_counted : MethodName := ⟨RX5, "counted", "()J"⟩
abbrev cX5_count : ByteArray := prog_7_method_44_code
def yX5_count : MethodName := ⟨RX5, "count", "()J"⟩
abbrev cX5_density : ByteArray := prog_7_method_45_code
def yX5_density : MethodName := ⟨RX5, "density", "()D"⟩
abbrev cX5_wouldDo : ByteArray := prog_7_method_46_code
def yX5_wouldDo : MethodName := ⟨RX5, "wouldDo", "(III)I"⟩
abbrev cX5_would : ByteArray := prog_7_method_47_code
def yX5_would : MethodName := ⟨RX5, "would", "(III)I"⟩
abbrev cX5_isKeptOn : ByteArray := prog_7_method_48_code
def yX5_isKeptOn : MethodName := ⟨RX5, "isKeptOn", "()Z"⟩
abbrev cX5_isLasting : ByteArray := prog_7_method_49_code
def yX5_isLasting : MethodName := ⟨RX5, "isLasting", "()Z"⟩
abbrev cX5_neutral : ByteArray := prog_7_method_50_code
def yX5_neutral : MethodName := ⟨RX5, "neutral", "()[I"⟩
abbrev cX5_neutral_ : ByteArray := prog_7_method_51_code
def yX5_neutral_ : MethodName := ⟨RX5, "neutral", "(I)I"⟩
abbrev cX5_burnt : ByteArray := prog_7_method_52_code
def yX5_burnt : MethodName := ⟨RX5, "burnt", "()I"⟩
abbrev cX5_fire : ByteArray := prog_7_method_53_code
def yX5_fire : MethodName := ⟨RX5, "fire", "()I"⟩
abbrev cX5_isSame : ByteArray := prog_7_method_54_code
def yX5_isSame : MethodName := ⟨RX5, "isSame", "([I[I)Z"⟩
abbrev cX5_order : ByteArray := prog_7_method_55_code
def yX5_order : MethodName := ⟨RX5, "order", "()I"⟩
abbrev cX5_canPay : ByteArray := prog_7_method_56_code
def yX5_canPay : MethodName := ⟨RX5, "canPay", "()Z"⟩
abbrev cX5_weak : ByteArray := prog_7_method_57_code
def yX5_weak : MethodName := ⟨RX5, "weak", "()I"⟩
abbrev cX5_weakest : ByteArray := prog_7_method_58_code
def yX5_weakest : MethodName := ⟨RX5, "weakest", "()I"⟩
abbrev cX5_add_ : ByteArray := prog_7_method_59_code
def yX5_add_ : MethodName := ⟨RX5, "add", "(JJ)J"⟩
abbrev cX5_digest : ByteArray := prog_7_method_60_code
def yX5_digest : MethodName := ⟨RX5, "digest", "()J"⟩
def RJx145de : String := "java/io/Serializable"
def TJx145de : u_T := fun k => match k with
  | _ => ("", "", "", false)
def tyJx145de : Nat → FieldType := fun k => match k with
  | _ => .int
abbrev wsJx145de0 : List Cond := u_ws RJx145de TJx145de 0
theorem nmJx145de : ∀ a, a < 0 → ∀ b, b < 0 → a ≠ b → (TJx145de a).2.1 ≠ (TJx145de b).2.1 := by decide +kernel
theorem tyJx145de_ok : ∀ k, k < 0 → parseFieldDescriptor (TJx145de k).2.2.1 = some (tyJx145de k) := by decide +kernel
def RJx8e188 : String := "java/lang/Cloneable"
def TJx8e188 : u_T := fun k => match k with
  | _ => ("", "", "", false)
def tyJx8e188 : Nat → FieldType := fun k => match k with
  | _ => .int
abbrev wsJx8e1880 : List Cond := u_ws RJx8e188 TJx8e188 0
theorem nmJx8e188 : ∀ a, a < 0 → ∀ b, b < 0 → a ≠ b → (TJx8e188 a).2.1 ≠ (TJx8e188 b).2.1 := by decide +kernel
theorem tyJx8e188_ok : ∀ k, k < 0 → parseFieldDescriptor (TJx8e188 k).2.2.1 = some (tyJx8e188 k) := by decide +kernel
def RJxb160c : String := "java/lang/Comparable"
def TJxb160c : u_T := fun k => match k with
  | _ => ("", "", "", false)
def tyJxb160c : Nat → FieldType := fun k => match k with
  | _ => .int
abbrev wsJxb160c0 : List Cond := u_ws RJxb160c TJxb160c 0
theorem nmJxb160c : ∀ a, a < 0 → ∀ b, b < 0 → a ≠ b → (TJxb160c a).2.1 ≠ (TJxb160c b).2.1 := by decide +kernel
theorem tyJxb160c_ok : ∀ k, k < 0 → parseFieldDescriptor (TJxb160c k).2.2.1 = some (tyJxb160c k) := by decide +kernel
def RJxe99ae : String := "java/lang/Double"
def TJxe99ae : u_T := fun k => match k with
  | _ => ("", "", "", false)
def tyJxe99ae : Nat → FieldType := fun k => match k with
  | _ => .int
abbrev wsJxe99ae0 : List Cond := u_ws RJxe99ae TJxe99ae 0
theorem nmJxe99ae : ∀ a, a < 0 → ∀ b, b < 0 → a ≠ b → (TJxe99ae a).2.1 ≠ (TJxe99ae b).2.1 := by decide +kernel
theorem tyJxe99ae_ok : ∀ k, k < 0 → parseFieldDescriptor (TJxe99ae k).2.2.1 = some (tyJxe99ae k) := by decide +kernel
def RJ6 : String := "java/lang/Integer"
def TJ6 : u_T := fun k => match k with
  | _ => ("", "", "", false)
def tyJ6 : Nat → FieldType := fun k => match k with
  | _ => .int
abbrev wsJ60 : List Cond := u_ws RJ6 TJ6 0
theorem nmJ6 : ∀ a, a < 0 → ∀ b, b < 0 → a ≠ b → (TJ6 a).2.1 ≠ (TJ6 b).2.1 := by decide +kernel
theorem tyJ6_ok : ∀ k, k < 0 → parseFieldDescriptor (TJ6 k).2.2.1 = some (tyJ6 k) := by decide +kernel
abbrev cJ6_bitCount_0f7a4 : ByteArray := prog_16_method_49_code
def yJ6_bitCount_0f7a4 : MethodName := ⟨RJ6, "bitCount", "(I)I"⟩
def RJxab1ab : String := "java/lang/Iterable"
def TJxab1ab : u_T := fun k => match k with
  | _ => ("", "", "", false)
def tyJxab1ab : Nat → FieldType := fun k => match k with
  | _ => .int
abbrev wsJxab1ab0 : List Cond := u_ws RJxab1ab TJxab1ab 0
theorem nmJxab1ab : ∀ a, a < 0 → ∀ b, b < 0 → a ≠ b → (TJxab1ab a).2.1 ≠ (TJxab1ab b).2.1 := by decide +kernel
theorem tyJxab1ab_ok : ∀ k, k < 0 → parseFieldDescriptor (TJxab1ab k).2.2.1 = some (tyJxab1ab k) := by decide +kernel
def RJ9 : String := "java/lang/Math"
def TJ9 : u_T := fun k => match k with
  | _ => ("", "", "", false)
def tyJ9 : Nat → FieldType := fun k => match k with
  | _ => .int
abbrev wsJ90 : List Cond := u_ws RJ9 TJ9 0
theorem nmJ9 : ∀ a, a < 0 → ∀ b, b < 0 → a ≠ b → (TJ9 a).2.1 ≠ (TJ9 b).2.1 := by decide +kernel
theorem tyJ9_ok : ∀ k, k < 0 → parseFieldDescriptor (TJ9 k).2.2.1 = some (tyJ9 k) := by decide +kernel
abbrev cJ9_rint_294c1 : ByteArray := prog_18_method_18_code
def yJ9_rint_294c1 : MethodName := ⟨RJ9, "rint", "(D)D"⟩
abbrev cJ9_abs_294c1 : ByteArray := prog_18_method_64_code
def yJ9_abs_294c1 : MethodName := ⟨RJ9, "abs", "(D)D"⟩
abbrev cJ9_max_7cf53 : ByteArray := prog_18_method_65_code
def yJ9_max_7cf53 : MethodName := ⟨RJ9, "max", "(II)I"⟩
abbrev cJ9_min_7cf53 : ByteArray := prog_18_method_69_code
def yJ9_min_7cf53 : MethodName := ⟨RJ9, "min", "(II)I"⟩
abbrev cJ9_copySign_eb370 : ByteArray := prog_18_method_89_code
def yJ9_copySign_eb370 : MethodName := ⟨RJ9, "copySign", "(DD)D"⟩
def RJxd2413 : String := "java/lang/Number"
def TJxd2413 : u_T := fun k => match k with
  | _ => ("", "", "", false)
def tyJxd2413 : Nat → FieldType := fun k => match k with
  | _ => .int
abbrev wsJxd24130 : List Cond := u_ws RJxd2413 TJxd2413 0
theorem nmJxd2413 : ∀ a, a < 0 → ∀ b, b < 0 → a ≠ b → (TJxd2413 a).2.1 ≠ (TJxd2413 b).2.1 := by decide +kernel
theorem tyJxd2413_ok : ∀ k, k < 0 → parseFieldDescriptor (TJxd2413 k).2.2.1 = some (tyJxd2413 k) := by decide +kernel
def RJxfc994 : String := "java/lang/StrictMath"
def TJxfc994 : u_T := fun k => match k with
  | _ => ("", "", "", false)
def tyJxfc994 : Nat → FieldType := fun k => match k with
  | _ => .int
abbrev wsJxfc9940 : List Cond := u_ws RJxfc994 TJxfc994 0
theorem nmJxfc994 : ∀ a, a < 0 → ∀ b, b < 0 → a ≠ b → (TJxfc994 a).2.1 ≠ (TJxfc994 b).2.1 := by decide +kernel
theorem tyJxfc994_ok : ∀ k, k < 0 → parseFieldDescriptor (TJxfc994 k).2.2.1 = some (tyJxfc994 k) := by decide +kernel
abbrev cJxfc994_rint_294c1 : ByteArray := prog_21_method_19_code
def yJxfc994_rint_294c1 : MethodName := ⟨RJxfc994, "rint", "(D)D"⟩
def RJ0 : String := "java/lang/String"
def TJ0 : u_T := fun k => match k with
  | _ => ("", "", "", false)
def tyJ0 : Nat → FieldType := fun k => match k with
  | _ => .int
abbrev wsJ00 : List Cond := u_ws RJ0 TJ0 0
theorem nmJ0 : ∀ a, a < 0 → ∀ b, b < 0 → a ≠ b → (TJ0 a).2.1 ≠ (TJ0 b).2.1 := by decide +kernel
theorem tyJ0_ok : ∀ k, k < 0 → parseFieldDescriptor (TJ0 k).2.2.1 = some (tyJ0 k) := by decide +kernel
def RJ10 : String := "java/lang/System"
def TJ10 : u_T := fun k => match k with
  | _ => ("", "", "", false)
def tyJ10 : Nat → FieldType := fun k => match k with
  | _ => .int
abbrev wsJ100 : List Cond := u_ws RJ10 TJ10 0
theorem nmJ10 : ∀ a, a < 0 → ∀ b, b < 0 → a ≠ b → (TJ10 a).2.1 ≠ (TJ10 b).2.1 := by decide +kernel
theorem tyJ10_ok : ∀ k, k < 0 → parseFieldDescriptor (TJ10 k).2.2.1 = some (tyJ10 k) := by decide +kernel
def RJxfd54e : String := "java/lang/constant/Constable"
def TJxfd54e : u_T := fun k => match k with
  | _ => ("", "", "", false)
def tyJxfd54e : Nat → FieldType := fun k => match k with
  | _ => .int
abbrev wsJxfd54e0 : List Cond := u_ws RJxfd54e TJxfd54e 0
theorem nmJxfd54e : ∀ a, a < 0 → ∀ b, b < 0 → a ≠ b → (TJxfd54e a).2.1 ≠ (TJxfd54e b).2.1 := by decide +kernel
theorem tyJxfd54e_ok : ∀ k, k < 0 → parseFieldDescriptor (TJxfd54e k).2.2.1 = some (tyJxfd54e k) := by decide +kernel
def RJx3cf43 : String := "java/lang/constant/ConstantDesc"
def TJx3cf43 : u_T := fun k => match k with
  | _ => ("", "", "", false)
def tyJx3cf43 : Nat → FieldType := fun k => match k with
  | _ => .int
abbrev wsJx3cf430 : List Cond := u_ws RJx3cf43 TJx3cf43 0
theorem nmJx3cf43 : ∀ a, a < 0 → ∀ b, b < 0 → a ≠ b → (TJx3cf43 a).2.1 ≠ (TJx3cf43 b).2.1 := by decide +kernel
theorem tyJx3cf43_ok : ∀ k, k < 0 → parseFieldDescriptor (TJx3cf43 k).2.2.1 = some (tyJx3cf43 k) := by decide +kernel
def RJxa1e45 : String := "java/util/AbstractCollection"
def TJxa1e45 : u_T := fun k => match k with
  | _ => ("", "", "", false)
def tyJxa1e45 : Nat → FieldType := fun k => match k with
  | _ => .int
abbrev wsJxa1e450 : List Cond := u_ws RJxa1e45 TJxa1e45 0
theorem nmJxa1e45 : ∀ a, a < 0 → ∀ b, b < 0 → a ≠ b → (TJxa1e45 a).2.1 ≠ (TJxa1e45 b).2.1 := by decide +kernel
theorem tyJxa1e45_ok : ∀ k, k < 0 → parseFieldDescriptor (TJxa1e45 k).2.2.1 = some (tyJxa1e45 k) := by decide +kernel
abbrev cJxa1e45_init_da8c8 : ByteArray := prog_27_method_1_code
def yJxa1e45_init_da8c8 : MethodName := ⟨RJxa1e45, "<init>", "()V"⟩
def RJxc12de : String := "java/util/AbstractList"
def TJxc12de : u_T := fun k => match k with
  | _ => ("", "", "", false)
def tyJxc12de : Nat → FieldType := fun k => match k with
  | _ => .int
abbrev wsJxc12de0 : List Cond := u_ws RJxc12de TJxc12de 0
theorem nmJxc12de : ∀ a, a < 0 → ∀ b, b < 0 → a ≠ b → (TJxc12de a).2.1 ≠ (TJxc12de b).2.1 := by decide +kernel
theorem tyJxc12de_ok : ∀ k, k < 0 → parseFieldDescriptor (TJxc12de k).2.2.1 = some (tyJxc12de k) := by decide +kernel
abbrev cJxc12de_init_da8c8 : ByteArray := prog_28_method_1_code
def yJxc12de_init_da8c8 : MethodName := ⟨RJxc12de, "<init>", "()V"⟩
def RJx35411 : String := "java/util/ArrayList$Itr"
def TJx35411 : u_T := fun k => match k with
  | 0 => ("java/util/ArrayList$Itr", "cursor", "I", false)
  | 1 => ("java/util/ArrayList$Itr", "lastRet", "I", false)
  | 2 => ("java/util/ArrayList$Itr", "expectedModCount", "I", false)
  | _ => ("java/util/ArrayList$Itr", "this$0", "Ljava/util/ArrayList;", true)
def tyJx35411 : Nat → FieldType := fun k => match k with
  | 0 => .int
  | 1 => .int
  | 2 => .int
  | _ => .object "java/util/ArrayList"
abbrev wsJx354110 : List Cond := u_ws RJx35411 TJx35411 4
theorem nmJx35411 : ∀ a, a < 4 → ∀ b, b < 4 → a ≠ b → (TJx35411 a).2.1 ≠ (TJx35411 b).2.1 := by decide +kernel
theorem tyJx35411_ok : ∀ k, k < 4 → parseFieldDescriptor (TJx35411 k).2.2.1 = some (tyJx35411 k) := by decide +kernel
abbrev cJx35411_init_45d68 : ByteArray := prog_30_method_1_code
def yJx35411_init_45d68 : MethodName := ⟨RJx35411, "<init>", "(Ljava/util/ArrayList;)V"⟩
abbrev cJx35411_hasNext_aae02 : ByteArray := prog_30_method_2_code
def yJx35411_hasNext_aae02 : MethodName := ⟨RJx35411, "hasNext", "()Z"⟩
abbrev cJx35411_next_0502b : ByteArray := prog_30_method_3_code
def yJx35411_next_0502b : MethodName := ⟨RJx35411, "next", "()Ljava/lang/Object;"⟩
abbrev cJx35411_checkForComodification_da8c8 : ByteArray := prog_30_method_6_code
def yJx35411_checkForComodification_da8c8 : MethodName := ⟨RJx35411, "checkForComodification", "()V"⟩
def RJx4a65c : String := "java/util/ArrayList"
def TJx4a65c : u_T := fun k => match k with
  | 0 => ("java/util/AbstractList", "modCount", "I", false)
  | 1 => ("java/util/ArrayList", "elementData", "[Ljava/lang/Object;", false)
  | _ => ("java/util/ArrayList", "size", "I", false)
def tyJx4a65c : Nat → FieldType := fun k => match k with
  | 0 => .int
  | 1 => .array (.object "java/lang/Object")
  | _ => .int
abbrev wsJx4a65c0 : List Cond := u_ws RJx4a65c TJx4a65c 3
theorem nmJx4a65c : ∀ a, a < 3 → ∀ b, b < 3 → a ≠ b → (TJx4a65c a).2.1 ≠ (TJx4a65c b).2.1 := by decide +kernel
theorem tyJx4a65c_ok : ∀ k, k < 3 → parseFieldDescriptor (TJx4a65c k).2.2.1 = some (tyJx4a65c k) := by decide +kernel
abbrev cJx4a65c_init_da8c8 : ByteArray := prog_29_method_2_code
def yJx4a65c_init_da8c8 : MethodName := ⟨RJx4a65c, "<init>", "()V"⟩
abbrev cJx4a65c_grow_92f84 : ByteArray := prog_29_method_6_code
def yJx4a65c_grow_92f84 : MethodName := ⟨RJx4a65c, "grow", "(I)[Ljava/lang/Object;"⟩
abbrev cJx4a65c_grow_d5877 : ByteArray := prog_29_method_7_code
def yJx4a65c_grow_d5877 : MethodName := ⟨RJx4a65c, "grow", "()[Ljava/lang/Object;"⟩
abbrev cJx4a65c_size_8abf5 : ByteArray := prog_29_method_8_code
def yJx4a65c_size_8abf5 : MethodName := ⟨RJx4a65c, "size", "()I"⟩
abbrev cJx4a65c_elementData_915e3 : ByteArray := prog_29_method_18_code
def yJx4a65c_elementData_915e3 : MethodName := ⟨RJx4a65c, "elementData", "(I)Ljava/lang/Object;"⟩
abbrev cJx4a65c_get_915e3 : ByteArray := prog_29_method_20_code
def yJx4a65c_get_915e3 : MethodName := ⟨RJx4a65c, "get", "(I)Ljava/lang/Object;"⟩
abbrev cJx4a65c_add_72be8 : ByteArray := prog_29_method_24_code
def yJx4a65c_add_72be8 : MethodName := ⟨RJx4a65c, "add", "(Ljava/lang/Object;[Ljava/lang/Object;I)V"⟩
abbrev cJx4a65c_add_9ea2d : ByteArray := prog_29_method_25_code
def yJx4a65c_add_9ea2d : MethodName := ⟨RJx4a65c, "add", "(Ljava/lang/Object;)Z"⟩
abbrev cJx4a65c_iterator_32c93 : ByteArray := prog_29_method_55_code
def yJx4a65c_iterator_32c93 : MethodName := ⟨RJx4a65c, "iterator", "()Ljava/util/Iterator;"⟩
def RJ7 : String := "java/util/Arrays"
def TJ7 : u_T := fun k => match k with
  | _ => ("", "", "", false)
def tyJ7 : Nat → FieldType := fun k => match k with
  | _ => .int
abbrev wsJ70 : List Cond := u_ws RJ7 TJ7 0
theorem nmJ7 : ∀ a, a < 0 → ∀ b, b < 0 → a ≠ b → (TJ7 a).2.1 ≠ (TJ7 b).2.1 := by decide +kernel
theorem tyJ7_ok : ∀ k, k < 0 → parseFieldDescriptor (TJ7 k).2.2.1 = some (tyJ7 k) := by decide +kernel
abbrev cJ7_fill_53178 : ByteArray := prog_31_method_103_code
def yJ7_fill_53178 : MethodName := ⟨RJ7, "fill", "([II)V"⟩
abbrev cJ7_copyOf_1904c : ByteArray := prog_31_method_119_code
def yJ7_copyOf_1904c : MethodName := ⟨RJ7, "copyOf", "([Ljava/lang/Object;I)[Ljava/lang/Object;"⟩
abbrev cJ7_copyOf_6403c : ByteArray := prog_31_method_120_code
def yJ7_copyOf_6403c : MethodName := ⟨RJ7, "copyOf", "([Ljava/lang/Object;ILjava/lang/Class;)[Ljava/lang/Object;"⟩
def RJx5ef63 : String := "java/util/Collection"
def TJx5ef63 : u_T := fun k => match k with
  | _ => ("", "", "", false)
def tyJx5ef63 : Nat → FieldType := fun k => match k with
  | _ => .int
abbrev wsJx5ef630 : List Cond := u_ws RJx5ef63 TJx5ef63 0
theorem nmJx5ef63 : ∀ a, a < 0 → ∀ b, b < 0 → a ≠ b → (TJx5ef63 a).2.1 ≠ (TJx5ef63 b).2.1 := by decide +kernel
theorem tyJx5ef63_ok : ∀ k, k < 0 → parseFieldDescriptor (TJx5ef63 k).2.2.1 = some (tyJx5ef63 k) := by decide +kernel
def RJx4d0d8 : String := "java/util/Iterator"
def TJx4d0d8 : u_T := fun k => match k with
  | _ => ("", "", "", false)
def tyJx4d0d8 : Nat → FieldType := fun k => match k with
  | _ => .int
abbrev wsJx4d0d80 : List Cond := u_ws RJx4d0d8 TJx4d0d8 0
theorem nmJx4d0d8 : ∀ a, a < 0 → ∀ b, b < 0 → a ≠ b → (TJx4d0d8 a).2.1 ≠ (TJx4d0d8 b).2.1 := by decide +kernel
theorem tyJx4d0d8_ok : ∀ k, k < 0 → parseFieldDescriptor (TJx4d0d8 k).2.2.1 = some (tyJx4d0d8 k) := by decide +kernel
def RJxbd725 : String := "java/util/List"
def TJxbd725 : u_T := fun k => match k with
  | _ => ("", "", "", false)
def tyJxbd725 : Nat → FieldType := fun k => match k with
  | _ => .int
abbrev wsJxbd7250 : List Cond := u_ws RJxbd725 TJxbd725 0
theorem nmJxbd725 : ∀ a, a < 0 → ∀ b, b < 0 → a ≠ b → (TJxbd725 a).2.1 ≠ (TJxbd725 b).2.1 := by decide +kernel
theorem tyJxbd725_ok : ∀ k, k < 0 → parseFieldDescriptor (TJxbd725 k).2.2.1 = some (tyJxbd725 k) := by decide +kernel
def RJ15 : String := "java/util/Objects"
def TJ15 : u_T := fun k => match k with
  | _ => ("", "", "", false)
def tyJ15 : Nat → FieldType := fun k => match k with
  | _ => .int
abbrev wsJ150 : List Cond := u_ws RJ15 TJ15 0
theorem nmJ15 : ∀ a, a < 0 → ∀ b, b < 0 → a ≠ b → (TJ15 a).2.1 ≠ (TJ15 b).2.1 := by decide +kernel
theorem tyJ15_ok : ∀ k, k < 0 → parseFieldDescriptor (TJ15 k).2.2.1 = some (tyJ15 k) := by decide +kernel
abbrev cJ15_checkIndex_7cf53 : ByteArray := prog_35_method_17_code
def yJ15_checkIndex_7cf53 : MethodName := ⟨RJ15, "checkIndex", "(II)I"⟩
def RJxf0a74 : String := "java/util/RandomAccess"
def TJxf0a74 : u_T := fun k => match k with
  | _ => ("", "", "", false)
def tyJxf0a74 : Nat → FieldType := fun k => match k with
  | _ => .int
abbrev wsJxf0a740 : List Cond := u_ws RJxf0a74 TJxf0a74 0
theorem nmJxf0a74 : ∀ a, a < 0 → ∀ b, b < 0 → a ≠ b → (TJxf0a74 a).2.1 ≠ (TJxf0a74 b).2.1 := by decide +kernel
theorem tyJxf0a74_ok : ∀ k, k < 0 → parseFieldDescriptor (TJxf0a74 k).2.2.1 = some (tyJxf0a74 k) := by decide +kernel
def RJxa66e6 : String := "java/util/SequencedCollection"
def TJxa66e6 : u_T := fun k => match k with
  | _ => ("", "", "", false)
def tyJxa66e6 : Nat → FieldType := fun k => match k with
  | _ => .int
abbrev wsJxa66e60 : List Cond := u_ws RJxa66e6 TJxa66e6 0
theorem nmJxa66e6 : ∀ a, a < 0 → ∀ b, b < 0 → a ≠ b → (TJxa66e6 a).2.1 ≠ (TJxa66e6 b).2.1 := by decide +kernel
theorem tyJxa66e6_ok : ∀ k, k < 0 → parseFieldDescriptor (TJxa66e6 k).2.2.1 = some (tyJxa66e6 k) := by decide +kernel
def RJ8 : String := "jdk/internal/util/ArraysSupport"
def TJ8 : u_T := fun k => match k with
  | _ => ("", "", "", false)
def tyJ8 : Nat → FieldType := fun k => match k with
  | _ => .int
abbrev wsJ80 : List Cond := u_ws RJ8 TJ8 0
theorem nmJ8 : ∀ a, a < 0 → ∀ b, b < 0 → a ≠ b → (TJ8 a).2.1 ≠ (TJ8 b).2.1 := by decide +kernel
theorem tyJ8_ok : ∀ k, k < 0 → parseFieldDescriptor (TJ8 k).2.2.1 = some (tyJ8 k) := by decide +kernel
abbrev cJ8_newLength_cabcc : ByteArray := prog_38_method_27_code
def yJ8_newLength_cabcc : MethodName := ⟨RJ8, "newLength", "(III)I"⟩
abbrev cJ8_hugeLength_7cf53 : ByteArray := prog_38_method_28_code
def yJ8_hugeLength_7cf53 : MethodName := ⟨RJ8, "hugeLength", "(II)I"⟩
def RJ3 : String := "jdk/internal/util/Preconditions"
def TJ3 : u_T := fun k => match k with
  | _ => ("", "", "", false)
def tyJ3 : Nat → FieldType := fun k => match k with
  | _ => .int
abbrev wsJ30 : List Cond := u_ws RJ3 TJ3 0
theorem nmJ3 : ∀ a, a < 0 → ∀ b, b < 0 → a ≠ b → (TJ3 a).2.1 ≠ (TJ3 b).2.1 := by decide +kernel
theorem tyJ3_ok : ∀ k, k < 0 → parseFieldDescriptor (TJ3 k).2.2.1 = some (tyJ3 k) := by decide +kernel
abbrev cJ3_checkIndex_8e157 : ByteArray := prog_39_method_11_code
def yJ3_checkIndex_8e157 : MethodName := ⟨RJ3, "checkIndex", "(IILjava/util/function/BiFunction;)I"⟩
def RL : String := "TopplemoorLaw"
abbrev cL_spot : ByteArray := method_3_code
def yL_spot : MethodName := ⟨RL, "spot", "(LTopplemoor;[J)I"⟩
abbrev cL_edge : ByteArray := method_4_code
def yL_edge : MethodName := ⟨RL, "edge", "(LTopplemoor;III[J)I"⟩
abbrev cL_drop : ByteArray := method_5_code
def yL_drop : MethodName := ⟨RL, "drop", "(LTopplemoor;II[J)I"⟩
abbrev cL_topple : ByteArray := method_6_code
def yL_topple : MethodName := ⟨RL, "topple", "(LTopplemoor;I[J)I"⟩
abbrev cL_settle : ByteArray := method_7_code
def yL_settle : MethodName := ⟨RL, "settle", "(LTopplemoor;[J)I"⟩
abbrev cL_keep : ByteArray := method_8_code
def yL_keep : MethodName := ⟨RL, "keep", "(LTopplemoor;[J)I"⟩
abbrev cL_add : ByteArray := method_9_code
def yL_add : MethodName := ⟨RL, "add", "(LTopplemoor;I[J)I"⟩
abbrev cL_walk : ByteArray := method_10_code
def yL_walk : MethodName := ⟨RL, "walk", "(LTopplemoor;I[J)I"⟩
abbrev cL_pay : ByteArray := method_11_code
def yL_pay : MethodName := ⟨RL, "pay", "(LTopplemoor;II[J)I"⟩
abbrev cL_lend : ByteArray := method_12_code
def yL_lend : MethodName := ⟨RL, "lend", "(LTopplemoor;IZ[J)I"⟩
abbrev cL_ofSpot : ByteArray := method_13_code
def yL_ofSpot : MethodName := ⟨RL, "ofSpot", "(LTopplemoor;II[J)I"⟩
abbrev cL_between : ByteArray := method_14_code
def yL_between : MethodName := ⟨RL, "between", "(LTopplemoor;II[J)I"⟩
abbrev cL_coins : ByteArray := method_15_code
def yL_coins : MethodName := ⟨RL, "coins", "(LTopplemoor;I[J)I"⟩
abbrev cL_kept : ByteArray := method_16_code
def yL_kept : MethodName := ⟨RL, "kept", "(LTopplemoor;II[J)I"⟩
abbrev cL_many : ByteArray := method_17_code
def yL_many : MethodName := ⟨RL, "many", "(LTopplemoor;I[J)I"⟩
abbrev cL_would : ByteArray := method_18_code
def yL_would : MethodName := ⟨RL, "would", "(LTopplemoor;III[J)I"⟩
abbrev cL_isLasting : ByteArray := method_19_code
def yL_isLasting : MethodName := ⟨RL, "isLasting", "(LTopplemoor;[J)I"⟩
abbrev cL_neutral : ByteArray := method_20_code
def yL_neutral : MethodName := ⟨RL, "neutral", "(LTopplemoor;I[J)I"⟩
abbrev cL_order : ByteArray := method_21_code
def yL_order : MethodName := ⟨RL, "order", "(LTopplemoor;[J)I"⟩
abbrev cL_canPay : ByteArray := method_22_code
def yL_canPay : MethodName := ⟨RL, "canPay", "(LTopplemoor;[J)I"⟩
abbrev cL_weakest : ByteArray := method_23_code
def yL_weakest : MethodName := ⟨RL, "weakest", "(LTopplemoor;[J)I"⟩
abbrev cL_law : ByteArray := code
def yL_law : MethodName := ⟨RL, "law", "([I)Z"⟩
def wsX0_init : List Cond := .code yX0_init cX0_init 2 none :: ([.methodLink RX0 3 objectInit, .instanceMethod objectInit, .code objectInit ⟨#[0xb1]⟩ 1 none, .arrayClass .int, .fieldLink RX0 9 "Topplemoor$Heap" "grains" "[I", .fieldLink RX0 15 "Topplemoor$Heap" "times" "[I", .fieldLink RX0 18 "Topplemoor$Heap" "moor" "LTopplemoor$Moor;"] ++ wsX00)
def wsX0_copyRow : List Cond := .code yX0_copyRow cX0_copyRow 2 none :: ([.fieldLink RX0 9 "Topplemoor$Heap" "grains" "[I", .methodLink RX0 22 arraycopyName, .native arraycopyName, .static arraycopyName, .initialized "java/lang/System"] ++ wsX00)
def wsX0_addRow : List Cond := .code yX0_addRow cX0_addRow 3 none :: ([.fieldLink RX0 18 "Topplemoor$Heap" "moor" "LTopplemoor$Moor;", .fieldLink RX0 28 "Topplemoor$Moor" "spots" "I", .fieldLink RX0 9 "Topplemoor$Heap" "grains" "[I"] ++ wsX00 ++ wsX20)
def wsX0_addFromSink : List Cond := .code yX0_addFromSink cX0_addFromSink 2 none :: ([.fieldLink RX0 18 "Topplemoor$Heap" "moor" "LTopplemoor$Moor;", .fieldLink RX0 28 "Topplemoor$Moor" "spots" "I", .fieldLink RX0 9 "Topplemoor$Heap" "grains" "[I", .fieldLink RX0 34 "Topplemoor$Moor" "edges" "[[I"] ++ wsX00 ++ wsX20)
def wsX0_isLike : List Cond := .code yX0_isLike cX0_isLike 3 (some .boolean) :: ([.fieldLink RX0 18 "Topplemoor$Heap" "moor" "LTopplemoor$Moor;", .fieldLink RX0 28 "Topplemoor$Moor" "spots" "I", .fieldLink RX0 9 "Topplemoor$Heap" "grains" "[I"] ++ wsX00 ++ wsX20)
def wsX0_allGrains : List Cond := .code yX0_allGrains cX0_allGrains 3 (some .int) :: ([.fieldLink RX0 18 "Topplemoor$Heap" "moor" "LTopplemoor$Moor;", .fieldLink RX0 28 "Topplemoor$Moor" "spots" "I", .fieldLink RX0 9 "Topplemoor$Heap" "grains" "[I"] ++ wsX00 ++ wsX20)
def wsX0_isSteep : List Cond := .code yX0_isSteep cX0_isSteep 2 (some .boolean) :: ([.fieldLink RX0 18 "Topplemoor$Heap" "moor" "LTopplemoor$Moor;", .fieldLink RX0 38 "Topplemoor$Moor" "degrees" "[I", .fieldLink RX0 9 "Topplemoor$Heap" "grains" "[I"] ++ wsX00 ++ wsX20)
def wsX0_steepSet : List Cond := .code yX0_steepSet cX0_steepSet 3 (some .int) :: ([.fieldLink RX0 18 "Topplemoor$Heap" "moor" "LTopplemoor$Moor;", .fieldLink RX0 28 "Topplemoor$Moor" "spots" "I", .methodLink RX0 41 yX0_isSteep, .instanceMethod yX0_isSteep, .selects RX0 yX0_isSteep yX0_isSteep, .initialized RX0, .code yX0_isSteep cX0_isSteep 2 (some .boolean), .fieldLink RX0 38 "Topplemoor$Moor" "degrees" "[I", .fieldLink RX0 9 "Topplemoor$Heap" "grains" "[I"] ++ wsX00 ++ wsX20)
def wsX0_tip : List Cond := .code yX0_tip cX0_tip 4 none :: ([.fieldLink RX0 9 "Topplemoor$Heap" "grains" "[I", .fieldLink RX0 18 "Topplemoor$Heap" "moor" "LTopplemoor$Moor;", .fieldLink RX0 38 "Topplemoor$Moor" "degrees" "[I", .fieldLink RX0 28 "Topplemoor$Moor" "spots" "I", .fieldLink RX0 34 "Topplemoor$Moor" "edges" "[[I"] ++ wsX00 ++ wsX20)
def wsJ7_fill_53178 : List Cond := .code yJ7_fill_53178 cJ7_fill_53178 4 none :: ([])
def wsX0_rollRound : List Cond := .code yX0_rollRound cX0_rollRound 5 (some .boolean) :: ([.fieldLink RX0 18 "Topplemoor$Heap" "moor" "LTopplemoor$Moor;", .fieldLink RX0 28 "Topplemoor$Moor" "spots" "I", .fieldLink RX0 38 "Topplemoor$Moor" "degrees" "[I", .fieldLink RX0 9 "Topplemoor$Heap" "grains" "[I", .fieldLink RX0 15 "Topplemoor$Heap" "times" "[I", .methodLink RX0 56 yX0_tip, .instanceMethod yX0_tip, .selects RX0 yX0_tip yX0_tip, .initialized RX0, .code yX0_tip cX0_tip 4 none, .fieldLink RX0 34 "Topplemoor$Moor" "edges" "[[I"] ++ wsX00 ++ wsX20)
def wsX0_roll : List Cond := .code yX0_roll cX0_roll 3 none :: ([.fieldLink RX0 15 "Topplemoor$Heap" "times" "[I", .constant RX0 51 (1000000), .methodLink RX0 45 yJ7_fill_53178, .static yJ7_fill_53178, .initialized RJ7, .code yJ7_fill_53178 cJ7_fill_53178 4 none, .methodLink RX0 52 yX0_rollRound, .instanceMethod yX0_rollRound, .selects RX0 yX0_rollRound yX0_rollRound, .initialized RX0, .code yX0_rollRound cX0_rollRound 5 (some .boolean), .fieldLink RX0 18 "Topplemoor$Heap" "moor" "LTopplemoor$Moor;", .fieldLink RX0 28 "Topplemoor$Moor" "spots" "I", .fieldLink RX0 38 "Topplemoor$Moor" "degrees" "[I", .fieldLink RX0 9 "Topplemoor$Heap" "grains" "[I", .methodLink RX0 56 yX0_tip, .instanceMethod yX0_tip, .selects RX0 yX0_tip yX0_tip, .code yX0_tip cX0_tip 4 none, .fieldLink RX0 34 "Topplemoor$Moor" "edges" "[[I"] ++ wsX00 ++ wsX20)
def wsX0_allTimes : List Cond := .code yX0_allTimes cX0_allTimes 3 (some .int) :: ([.fieldLink RX0 18 "Topplemoor$Heap" "moor" "LTopplemoor$Moor;", .fieldLink RX0 28 "Topplemoor$Moor" "spots" "I", .fieldLink RX0 15 "Topplemoor$Heap" "times" "[I"] ++ wsX00 ++ wsX20)
def wsX0_swallowedByRoll : List Cond := .code yX0_swallowedByRoll cX0_swallowedByRoll 3 (some .int) :: ([.fieldLink RX0 18 "Topplemoor$Heap" "moor" "LTopplemoor$Moor;", .fieldLink RX0 28 "Topplemoor$Moor" "spots" "I", .fieldLink RX0 15 "Topplemoor$Heap" "times" "[I", .fieldLink RX0 34 "Topplemoor$Moor" "edges" "[[I"] ++ wsX00 ++ wsX20)
def wsX0_toppledSet : List Cond := .code yX0_toppledSet cX0_toppledSet 3 (some .int) :: ([.fieldLink RX0 18 "Topplemoor$Heap" "moor" "LTopplemoor$Moor;", .fieldLink RX0 28 "Topplemoor$Moor" "spots" "I", .fieldLink RX0 15 "Topplemoor$Heap" "times" "[I"] ++ wsX00 ++ wsX20)
def wsX0_hasEachToppledOnce : List Cond := .code yX0_hasEachToppledOnce cX0_hasEachToppledOnce 2 (some .boolean) :: ([.fieldLink RX0 18 "Topplemoor$Heap" "moor" "LTopplemoor$Moor;", .fieldLink RX0 28 "Topplemoor$Moor" "spots" "I", .fieldLink RX0 15 "Topplemoor$Heap" "times" "[I"] ++ wsX00 ++ wsX20)
def wsX0_becomeNeutral : List Cond := .code yX0_becomeNeutral cX0_becomeNeutral 2 none :: ([.fieldLink RX0 18 "Topplemoor$Heap" "moor" "LTopplemoor$Moor;", .fieldLink RX0 28 "Topplemoor$Moor" "spots" "I", .fieldLink RX0 9 "Topplemoor$Heap" "grains" "[I", .fieldLink RX0 38 "Topplemoor$Moor" "degrees" "[I", .methodLink RX0 60 yX0_roll, .instanceMethod yX0_roll, .selects RX0 yX0_roll yX0_roll, .initialized RX0, .code yX0_roll cX0_roll 3 none, .fieldLink RX0 15 "Topplemoor$Heap" "times" "[I", .constant RX0 51 (1000000), .methodLink RX0 45 yJ7_fill_53178, .static yJ7_fill_53178, .initialized RJ7, .code yJ7_fill_53178 cJ7_fill_53178 4 none, .methodLink RX0 52 yX0_rollRound, .instanceMethod yX0_rollRound, .selects RX0 yX0_rollRound yX0_rollRound, .code yX0_rollRound cX0_rollRound 5 (some .boolean), .methodLink RX0 56 yX0_tip, .instanceMethod yX0_tip, .selects RX0 yX0_tip yX0_tip, .code yX0_tip cX0_tip 4 none, .fieldLink RX0 34 "Topplemoor$Moor" "edges" "[[I"] ++ wsX00 ++ wsX20)
def wsX2_edgesInto : List Cond := .code yX2_edgesInto cX2_edgesInto 5 (some .int) :: ([.fieldLink RX2 11 "Topplemoor$Moor" "edges" "[[I"] ++ wsX20)
def wsX0_nextToBurn : List Cond := .code yX0_nextToBurn cX0_nextToBurn 4 (some .int) :: ([.fieldLink RX0 18 "Topplemoor$Heap" "moor" "LTopplemoor$Moor;", .fieldLink RX0 28 "Topplemoor$Moor" "spots" "I", .fieldLink RX0 9 "Topplemoor$Heap" "grains" "[I", .methodLink RX0 67 yX2_edgesInto, .instanceMethod yX2_edgesInto, .selects RX2 yX2_edgesInto yX2_edgesInto, .initialized RX2, .code yX2_edgesInto cX2_edgesInto 5 (some .int), .fieldLink RX2 11 "Topplemoor$Moor" "edges" "[[I"] ++ wsX00 ++ wsX20)
def wsX0_burningOrder : List Cond := .code yX0_burningOrder cX0_burningOrder 5 (some .int) :: ([.fieldLink RX0 18 "Topplemoor$Heap" "moor" "LTopplemoor$Moor;", .fieldLink RX0 28 "Topplemoor$Moor" "spots" "I", .methodLink RX0 63 yX0_nextToBurn, .instanceMethod yX0_nextToBurn, .selects RX0 yX0_nextToBurn yX0_nextToBurn, .initialized RX0, .code yX0_nextToBurn cX0_nextToBurn 4 (some .int), .fieldLink RX0 9 "Topplemoor$Heap" "grains" "[I", .methodLink RX0 67 yX2_edgesInto, .instanceMethod yX2_edgesInto, .selects RX2 yX2_edgesInto yX2_edgesInto, .initialized RX2, .code yX2_edgesInto cX2_edgesInto 5 (some .int), .fieldLink RX2 11 "Topplemoor$Moor" "edges" "[[I"] ++ wsX00 ++ wsX20)
def wsX1_init : List Cond := .code yX1_init cX1_init 2 none :: ([.methodLink RX1 3 objectInit, .instanceMethod objectInit, .code objectInit ⟨#[0xb1]⟩ 1 none, .arrayClass .int, .fieldLink RX1 9 "Topplemoor$Money" "coins" "[I", .fieldLink RX1 15 "Topplemoor$Money" "moor" "LTopplemoor$Moor;", .classLink RX1 19 RX0, .instantiable RX0 3, .initialized RX0, .fieldLink RX1 24 "Topplemoor$Money" "lasting" "LTopplemoor$Heap;", .fieldLink RX1 28 "Topplemoor$Money" "poorer" "LTopplemoor$Heap;", .methodLink RX1 21 yX0_init, .instanceMethod yX0_init, .code yX0_init cX0_init 2 none, .methodLink RX0 3 objectInit, .fieldLink RX0 9 "Topplemoor$Heap" "grains" "[I", .fieldLink RX0 15 "Topplemoor$Heap" "times" "[I", .fieldLink RX0 18 "Topplemoor$Heap" "moor" "LTopplemoor$Moor;"] ++ wsX10 ++ wsX00)
def wsX1_give : List Cond := .code yX1_give cX1_give 4 none :: ([.fieldLink RX1 9 "Topplemoor$Money" "coins" "[I", .fieldLink RX1 15 "Topplemoor$Money" "moor" "LTopplemoor$Moor;", .fieldLink RX1 31 "Topplemoor$Moor" "degrees" "[I", .fieldLink RX1 36 "Topplemoor$Moor" "edges" "[[I"] ++ wsX10 ++ wsX20)
def wsX1_allCoins : List Cond := .code yX1_allCoins cX1_allCoins 3 (some .int) :: ([.fieldLink RX1 9 "Topplemoor$Money" "coins" "[I"] ++ wsX10)
def wsX1_debtors : List Cond := .code yX1_debtors cX1_debtors 3 (some .int) :: ([.fieldLink RX1 9 "Topplemoor$Money" "coins" "[I"] ++ wsX10)
def wsX1_readOtherWay : List Cond := .code yX1_readOtherWay cX1_readOtherWay 2 none :: ([.fieldLink RX1 15 "Topplemoor$Money" "moor" "LTopplemoor$Moor;", .fieldLink RX1 51 "Topplemoor$Moor" "spots" "I", .fieldLink RX1 24 "Topplemoor$Money" "lasting" "LTopplemoor$Heap;", .fieldLink RX1 55 "Topplemoor$Heap" "grains" "[I", .fieldLink RX1 31 "Topplemoor$Moor" "degrees" "[I"] ++ wsX10 ++ wsX20 ++ wsX00)
def wsX1_findLasting_r1 : List Cond := [Cond.fieldLink RX1 15 "Topplemoor$Money" "moor" "LTopplemoor$Moor;", Cond.fieldLink RX1 51 "Topplemoor$Moor" "spots" "I", Cond.fieldLink RX1 24 "Topplemoor$Money" "lasting" "LTopplemoor$Heap;", Cond.fieldLink RX1 55 "Topplemoor$Heap" "grains" "[I", Cond.fieldLink RX1 9 "Topplemoor$Money" "coins" "[I", Cond.constant RX1 68 (1000000), Cond.methodLink RX1 65 yX1_readOtherWay, Cond.instanceMethod yX1_readOtherWay, Cond.selects RX1 yX1_readOtherWay yX1_readOtherWay, Cond.initialized RX1, Cond.code yX1_readOtherWay cX1_readOtherWay 2 none, Cond.fieldLink RX1 31 "Topplemoor$Moor" "degrees" "[I", Cond.methodLink RX1 62 yX0_roll, Cond.instanceMethod yX0_roll, Cond.selects RX0 yX0_roll yX0_roll, Cond.initialized RX0, Cond.code yX0_roll cX0_roll 3 none, Cond.fieldLink RX0 15 "Topplemoor$Heap" "times" "[I", Cond.constant RX0 51 (1000000), Cond.methodLink RX0 45 yJ7_fill_53178, Cond.static yJ7_fill_53178, Cond.initialized RJ7, Cond.code yJ7_fill_53178 cJ7_fill_53178 4 none, Cond.methodLink RX0 52 yX0_rollRound]
def wsX1_findLasting_r2 : List Cond := [Cond.instanceMethod yX0_rollRound, Cond.selects RX0 yX0_rollRound yX0_rollRound, Cond.code yX0_rollRound cX0_rollRound 5 (some .boolean), Cond.fieldLink RX0 18 "Topplemoor$Heap" "moor" "LTopplemoor$Moor;", Cond.fieldLink RX0 28 "Topplemoor$Moor" "spots" "I", Cond.fieldLink RX0 38 "Topplemoor$Moor" "degrees" "[I", Cond.fieldLink RX0 9 "Topplemoor$Heap" "grains" "[I", Cond.methodLink RX0 56 yX0_tip, Cond.instanceMethod yX0_tip, Cond.selects RX0 yX0_tip yX0_tip, Cond.code yX0_tip cX0_tip 4 none, Cond.fieldLink RX0 34 "Topplemoor$Moor" "edges" "[[I", Cond.methodLink RX1 69 yX0_addFromSink, Cond.instanceMethod yX0_addFromSink, Cond.selects RX0 yX0_addFromSink yX0_addFromSink, Cond.code yX0_addFromSink cX0_addFromSink 2 none, Cond.methodLink RX1 72 yX0_hasEachToppledOnce, Cond.instanceMethod yX0_hasEachToppledOnce, Cond.selects RX0 yX0_hasEachToppledOnce yX0_hasEachToppledOnce, Cond.code yX0_hasEachToppledOnce cX0_hasEachToppledOnce 2 (some .boolean)]
def wsX1_findLasting : List Cond := .code yX1_findLasting cX1_findLasting 3 none :: ((wsX1_findLasting_r1 ++ wsX1_findLasting_r2) ++ wsX10 ++ wsX20 ++ wsX00)
def wsX1_leastNeeded : List Cond := .code yX1_leastNeeded cX1_leastNeeded 4 (some .int) :: ([.fieldLink RX1 15 "Topplemoor$Money" "moor" "LTopplemoor$Moor;", .fieldLink RX1 51 "Topplemoor$Moor" "spots" "I", .fieldLink RX1 31 "Topplemoor$Moor" "degrees" "[I", .fieldLink RX1 55 "Topplemoor$Heap" "grains" "[I"] ++ wsX10 ++ wsX20 ++ wsX00)
def wsX1_isPayable_r1 : List Cond := [Cond.fieldLink RX1 24 "Topplemoor$Money" "lasting" "LTopplemoor$Heap;", Cond.methodLink RX1 40 yX1_findLasting, Cond.instanceMethod yX1_findLasting, Cond.selects RX1 yX1_findLasting yX1_findLasting, Cond.initialized RX1, Cond.code yX1_findLasting cX1_findLasting 3 none, Cond.fieldLink RX1 15 "Topplemoor$Money" "moor" "LTopplemoor$Moor;", Cond.fieldLink RX1 51 "Topplemoor$Moor" "spots" "I", Cond.fieldLink RX1 55 "Topplemoor$Heap" "grains" "[I", Cond.fieldLink RX1 9 "Topplemoor$Money" "coins" "[I", Cond.constant RX1 68 (1000000), Cond.methodLink RX1 65 yX1_readOtherWay, Cond.instanceMethod yX1_readOtherWay, Cond.selects RX1 yX1_readOtherWay yX1_readOtherWay, Cond.code yX1_readOtherWay cX1_readOtherWay 2 none, Cond.fieldLink RX1 31 "Topplemoor$Moor" "degrees" "[I", Cond.methodLink RX1 62 yX0_roll, Cond.instanceMethod yX0_roll, Cond.selects RX0 yX0_roll yX0_roll, Cond.initialized RX0, Cond.code yX0_roll cX0_roll 3 none, Cond.fieldLink RX0 15 "Topplemoor$Heap" "times" "[I", Cond.constant RX0 51 (1000000), Cond.methodLink RX0 45 yJ7_fill_53178]
def wsX1_isPayable_r2 : List Cond := [Cond.static yJ7_fill_53178, Cond.initialized RJ7, Cond.code yJ7_fill_53178 cJ7_fill_53178 4 none, Cond.methodLink RX0 52 yX0_rollRound, Cond.instanceMethod yX0_rollRound, Cond.selects RX0 yX0_rollRound yX0_rollRound, Cond.code yX0_rollRound cX0_rollRound 5 (some .boolean), Cond.fieldLink RX0 18 "Topplemoor$Heap" "moor" "LTopplemoor$Moor;", Cond.fieldLink RX0 28 "Topplemoor$Moor" "spots" "I", Cond.fieldLink RX0 38 "Topplemoor$Moor" "degrees" "[I", Cond.fieldLink RX0 9 "Topplemoor$Heap" "grains" "[I", Cond.methodLink RX0 56 yX0_tip, Cond.instanceMethod yX0_tip, Cond.selects RX0 yX0_tip yX0_tip, Cond.code yX0_tip cX0_tip 4 none, Cond.fieldLink RX0 34 "Topplemoor$Moor" "edges" "[[I", Cond.methodLink RX1 69 yX0_addFromSink, Cond.instanceMethod yX0_addFromSink, Cond.selects RX0 yX0_addFromSink yX0_addFromSink, Cond.code yX0_addFromSink cX0_addFromSink 2 none, Cond.methodLink RX1 72 yX0_hasEachToppledOnce, Cond.instanceMethod yX0_hasEachToppledOnce, Cond.selects RX0 yX0_hasEachToppledOnce yX0_hasEachToppledOnce, Cond.code yX0_hasEachToppledOnce cX0_hasEachToppledOnce 2 (some .boolean)]
def wsX1_isPayable_r3 : List Cond := [Cond.methodLink RX1 43 yX1_allCoins, Cond.instanceMethod yX1_allCoins, Cond.selects RX1 yX1_allCoins yX1_allCoins, Cond.code yX1_allCoins cX1_allCoins 3 (some .int), Cond.methodLink RX1 47 yX1_leastNeeded, Cond.instanceMethod yX1_leastNeeded, Cond.selects RX1 yX1_leastNeeded yX1_leastNeeded, Cond.code yX1_leastNeeded cX1_leastNeeded 4 (some .int)]
def wsX1_isPayable : List Cond := .code yX1_isPayable cX1_isPayable 1 (some .boolean) :: ((wsX1_isPayable_r1 ++ (wsX1_isPayable_r2 ++ wsX1_isPayable_r3)) ++ wsX10 ++ wsX20 ++ wsX00)
def wsX1_weakestNode_r1 : List Cond := [Cond.fieldLink RX1 15 "Topplemoor$Money" "moor" "LTopplemoor$Moor;", Cond.fieldLink RX1 51 "Topplemoor$Moor" "spots" "I", Cond.fieldLink RX1 28 "Topplemoor$Money" "poorer" "LTopplemoor$Heap;", Cond.fieldLink RX1 24 "Topplemoor$Money" "lasting" "LTopplemoor$Heap;", Cond.fieldLink RX1 55 "Topplemoor$Heap" "grains" "[I", Cond.methodLink RX1 40 yX1_findLasting, Cond.instanceMethod yX1_findLasting, Cond.selects RX1 yX1_findLasting yX1_findLasting, Cond.initialized RX1, Cond.code yX1_findLasting cX1_findLasting 3 none, Cond.fieldLink RX1 9 "Topplemoor$Money" "coins" "[I", Cond.constant RX1 68 (1000000), Cond.methodLink RX1 65 yX1_readOtherWay, Cond.instanceMethod yX1_readOtherWay, Cond.selects RX1 yX1_readOtherWay yX1_readOtherWay, Cond.code yX1_readOtherWay cX1_readOtherWay 2 none, Cond.fieldLink RX1 31 "Topplemoor$Moor" "degrees" "[I", Cond.methodLink RX1 62 yX0_roll, Cond.instanceMethod yX0_roll, Cond.selects RX0 yX0_roll yX0_roll, Cond.initialized RX0, Cond.code yX0_roll cX0_roll 3 none, Cond.fieldLink RX0 15 "Topplemoor$Heap" "times" "[I", Cond.constant RX0 51 (1000000)]
def wsX1_weakestNode_r2 : List Cond := [Cond.methodLink RX0 45 yJ7_fill_53178, Cond.static yJ7_fill_53178, Cond.initialized RJ7, Cond.code yJ7_fill_53178 cJ7_fill_53178 4 none, Cond.methodLink RX0 52 yX0_rollRound, Cond.instanceMethod yX0_rollRound, Cond.selects RX0 yX0_rollRound yX0_rollRound, Cond.code yX0_rollRound cX0_rollRound 5 (some .boolean), Cond.fieldLink RX0 18 "Topplemoor$Heap" "moor" "LTopplemoor$Moor;", Cond.fieldLink RX0 28 "Topplemoor$Moor" "spots" "I", Cond.fieldLink RX0 38 "Topplemoor$Moor" "degrees" "[I", Cond.fieldLink RX0 9 "Topplemoor$Heap" "grains" "[I", Cond.methodLink RX0 56 yX0_tip, Cond.instanceMethod yX0_tip, Cond.selects RX0 yX0_tip yX0_tip, Cond.code yX0_tip cX0_tip 4 none, Cond.fieldLink RX0 34 "Topplemoor$Moor" "edges" "[[I", Cond.methodLink RX1 69 yX0_addFromSink, Cond.instanceMethod yX0_addFromSink, Cond.selects RX0 yX0_addFromSink yX0_addFromSink, Cond.code yX0_addFromSink cX0_addFromSink 2 none, Cond.methodLink RX1 72 yX0_hasEachToppledOnce, Cond.instanceMethod yX0_hasEachToppledOnce, Cond.selects RX0 yX0_hasEachToppledOnce yX0_hasEachToppledOnce]
def wsX1_weakestNode_r3 : List Cond := [Cond.code yX0_hasEachToppledOnce cX0_hasEachToppledOnce 2 (some .boolean), Cond.methodLink RX1 43 yX1_allCoins, Cond.instanceMethod yX1_allCoins, Cond.selects RX1 yX1_allCoins yX1_allCoins, Cond.code yX1_allCoins cX1_allCoins 3 (some .int), Cond.methodLink RX1 58 yX0_copyRow, Cond.instanceMethod yX0_copyRow, Cond.selects RX0 yX0_copyRow yX0_copyRow, Cond.code yX0_copyRow cX0_copyRow 2 none, Cond.methodLink RX0 22 arraycopyName, Cond.native arraycopyName, Cond.static arraycopyName, Cond.initialized "java/lang/System", Cond.methodLink RX1 47 yX1_leastNeeded, Cond.instanceMethod yX1_leastNeeded, Cond.selects RX1 yX1_leastNeeded yX1_leastNeeded, Cond.code yX1_leastNeeded cX1_leastNeeded 4 (some .int)]
def wsX1_weakestNode : List Cond := .code yX1_weakestNode cX1_weakestNode 3 (some .int) :: ((wsX1_weakestNode_r1 ++ (wsX1_weakestNode_r2 ++ wsX1_weakestNode_r3)) ++ wsX10 ++ wsX20 ++ wsX00)
def wsX2_init : List Cond := .code yX2_init cX2_init 1 none :: ([.methodLink RX2 3 objectInit, .instanceMethod objectInit, .code objectInit ⟨#[0xb1]⟩ 1 none, .classLink RX2 9 "[[I", .arrayClass .int, .fieldLink RX2 11 "Topplemoor$Moor" "edges" "[[I", .fieldLink RX2 16 "Topplemoor$Moor" "degrees" "[I", .classLink RX2 20 "[[J", .arrayClass .long, .fieldLink RX2 22 "Topplemoor$Moor" "table" "[[J"] ++ wsX20)
def wsX2_isSpot : List Cond := .code yX2_isSpot cX2_isSpot 2 (some .boolean) :: ([.fieldLink RX2 25 "Topplemoor$Moor" "spots" "I"] ++ wsX20)
def wsX2_isNode : List Cond := .code yX2_isNode cX2_isNode 2 (some .boolean) :: ([.methodLink RX2 29 yX2_isSpot, .instanceMethod yX2_isSpot, .selects RX2 yX2_isSpot yX2_isSpot, .initialized RX2, .code yX2_isSpot cX2_isSpot 2 (some .boolean), .fieldLink RX2 25 "Topplemoor$Moor" "spots" "I"] ++ wsX20)
def wsX2_lay : List Cond := .code yX2_lay cX2_lay 5 none :: ([.fieldLink RX2 11 "Topplemoor$Moor" "edges" "[[I", .fieldLink RX2 16 "Topplemoor$Moor" "degrees" "[I"] ++ wsX20)
def wsX2_allEdges : List Cond := .code yX2_allEdges cX2_allEdges 3 (some .int) :: ([.fieldLink RX2 16 "Topplemoor$Moor" "degrees" "[I"] ++ wsX20)
def wsJ6_bitCount_0f7a4 : List Cond := .code yJ6_bitCount_0f7a4 cJ6_bitCount_0f7a4 1 (some .int) :: ([.constant RJ6 265 (1431655765), .constant RJ6 266 (858993459), .constant RJ6 267 (252645135)])
def wsX2_isFast : List Cond := .code yX2_isFast cX2_isFast 4 (some .boolean) :: ([.fieldLink RX2 25 "Topplemoor$Moor" "spots" "I", .methodLink RX2 33 yX2_edgesInto, .instanceMethod yX2_edgesInto, .selects RX2 yX2_edgesInto yX2_edgesInto, .initialized RX2, .code yX2_edgesInto cX2_edgesInto 5 (some .int), .fieldLink RX2 11 "Topplemoor$Moor" "edges" "[[I", .methodLink RX2 37 yJ6_bitCount_0f7a4, .static yJ6_bitCount_0f7a4, .initialized RJ6, .code yJ6_bitCount_0f7a4 cJ6_bitCount_0f7a4 1 (some .int), .constant RJ6 265 (1431655765), .constant RJ6 266 (858993459), .constant RJ6 267 (252645135)] ++ wsX20)
def wsX2_neighbourAt : List Cond := .code yX2_neighbourAt cX2_neighbourAt 5 (some .int) :: ([.fieldLink RX2 11 "Topplemoor$Moor" "edges" "[[I"] ++ wsX20)
def wsX2_fillTable : List Cond := .code yX2_fillTable cX2_fillTable 3 none :: ([.fieldLink RX2 25 "Topplemoor$Moor" "spots" "I", .fieldLink RX2 22 "Topplemoor$Moor" "table" "[[J", .fieldLink RX2 16 "Topplemoor$Moor" "degrees" "[I", .fieldLink RX2 11 "Topplemoor$Moor" "edges" "[[I"] ++ wsX20)
def wsX2_eliminate : List Cond := .code yX2_eliminate cX2_eliminate 10 none :: ([.fieldLink RX2 22 "Topplemoor$Moor" "table" "[[J", .fieldLink RX2 25 "Topplemoor$Moor" "spots" "I"] ++ wsX20)
def wsX2_trees : List Cond := .code yX2_trees cX2_trees 4 (some .long) :: ([.fieldLink RX2 25 "Topplemoor$Moor" "spots" "I", .fieldLink RX2 22 "Topplemoor$Moor" "table" "[[J", .methodLink RX2 43 yX2_fillTable, .instanceMethod yX2_fillTable, .selects RX2 yX2_fillTable yX2_fillTable, .initialized RX2, .code yX2_fillTable cX2_fillTable 3 none, .fieldLink RX2 16 "Topplemoor$Moor" "degrees" "[I", .fieldLink RX2 11 "Topplemoor$Moor" "edges" "[[I", .methodLink RX2 46 yX2_eliminate, .instanceMethod yX2_eliminate, .selects RX2 yX2_eliminate yX2_eliminate, .code yX2_eliminate cX2_eliminate 10 none] ++ wsX20)
def wsX3_init : List Cond := .code yX3_init cX3_init 2 none :: ([.methodLink RX3 3 objectInit, .instanceMethod objectInit, .code objectInit ⟨#[0xb1]⟩ 1 none, .arrayClass .int, .fieldLink RX3 9 "Topplemoor$Rotors" "places" "[I", .fieldLink RX3 15 "Topplemoor$Rotors" "moor" "LTopplemoor$Moor;"] ++ wsX30)
def wsX3_reset : List Cond := .code yX3_reset cX3_reset 2 none :: ([.fieldLink RX3 15 "Topplemoor$Rotors" "moor" "LTopplemoor$Moor;", .fieldLink RX3 9 "Topplemoor$Rotors" "places" "[I", .methodLink RX3 19 yX2_isSpot, .instanceMethod yX2_isSpot, .selects RX2 yX2_isSpot yX2_isSpot, .initialized RX2, .code yX2_isSpot cX2_isSpot 2 (some .boolean), .fieldLink RX2 25 "Topplemoor$Moor" "spots" "I"] ++ wsX30 ++ wsX20)
def wsX3_pointedFrom : List Cond := .code yX3_pointedFrom cX3_pointedFrom 2 (some .int) :: ([.fieldLink RX3 15 "Topplemoor$Rotors" "moor" "LTopplemoor$Moor;", .fieldLink RX3 9 "Topplemoor$Rotors" "places" "[I", .methodLink RX3 25 yX2_neighbourAt, .instanceMethod yX2_neighbourAt, .selects RX2 yX2_neighbourAt yX2_neighbourAt, .initialized RX2, .code yX2_neighbourAt cX2_neighbourAt 5 (some .int), .fieldLink RX2 11 "Topplemoor$Moor" "edges" "[[I"] ++ wsX30 ++ wsX20)
def wsX3_turn : List Cond := .code yX3_turn cX3_turn 3 none :: ([.fieldLink RX3 9 "Topplemoor$Rotors" "places" "[I", .fieldLink RX3 15 "Topplemoor$Rotors" "moor" "LTopplemoor$Moor;", .fieldLink RX3 42 "Topplemoor$Moor" "degrees" "[I"] ++ wsX30 ++ wsX20)
def wsX3_send_r1 : List Cond := [Cond.fieldLink RX3 15 "Topplemoor$Rotors" "moor" "LTopplemoor$Moor;", Cond.constant RX3 29 (1000000), Cond.fieldLink RX3 38 "Topplemoor$Rotors" "steps" "I", Cond.methodLink RX3 19 yX2_isSpot, Cond.instanceMethod yX2_isSpot, Cond.selects RX2 yX2_isSpot yX2_isSpot, Cond.initialized RX2, Cond.code yX2_isSpot cX2_isSpot 2 (some .boolean), Cond.fieldLink RX2 25 "Topplemoor$Moor" "spots" "I", Cond.methodLink RX3 30 yX3_turn, Cond.instanceMethod yX3_turn, Cond.selects RX3 yX3_turn yX3_turn, Cond.initialized RX3, Cond.code yX3_turn cX3_turn 3 none, Cond.fieldLink RX3 9 "Topplemoor$Rotors" "places" "[I", Cond.fieldLink RX3 42 "Topplemoor$Moor" "degrees" "[I", Cond.methodLink RX3 34 yX3_pointedFrom, Cond.instanceMethod yX3_pointedFrom, Cond.selects RX3 yX3_pointedFrom yX3_pointedFrom, Cond.code yX3_pointedFrom cX3_pointedFrom 2 (some .int), Cond.methodLink RX3 25 yX2_neighbourAt, Cond.instanceMethod yX2_neighbourAt, Cond.selects RX2 yX2_neighbourAt yX2_neighbourAt, Cond.code yX2_neighbourAt cX2_neighbourAt 5 (some .int)]
def wsX3_send_r2 : List Cond := [Cond.fieldLink RX2 11 "Topplemoor$Moor" "edges" "[[I"]
def wsX3_send : List Cond := .code yX3_send cX3_send 4 (some .int) :: ((wsX3_send_r1 ++ wsX3_send_r2) ++ wsX30 ++ wsX20)
def wsX3_leadsToSink : List Cond := .code yX3_leadsToSink cX3_leadsToSink 4 (some .boolean) :: ([.fieldLink RX3 15 "Topplemoor$Rotors" "moor" "LTopplemoor$Moor;", .fieldLink RX3 45 "Topplemoor$Moor" "spots" "I", .methodLink RX3 19 yX2_isSpot, .instanceMethod yX2_isSpot, .selects RX2 yX2_isSpot yX2_isSpot, .initialized RX2, .code yX2_isSpot cX2_isSpot 2 (some .boolean), .fieldLink RX2 25 "Topplemoor$Moor" "spots" "I", .methodLink RX3 34 yX3_pointedFrom, .instanceMethod yX3_pointedFrom, .selects RX3 yX3_pointedFrom yX3_pointedFrom, .initialized RX3, .code yX3_pointedFrom cX3_pointedFrom 2 (some .int), .fieldLink RX3 9 "Topplemoor$Rotors" "places" "[I", .methodLink RX3 25 yX2_neighbourAt, .instanceMethod yX2_neighbourAt, .selects RX2 yX2_neighbourAt yX2_neighbourAt, .code yX2_neighbourAt cX2_neighbourAt 5 (some .int), .fieldLink RX2 11 "Topplemoor$Moor" "edges" "[[I"] ++ wsX30 ++ wsX20)
def wsX3_areTree : List Cond := .code yX3_areTree cX3_areTree 2 (some .boolean) :: ([.fieldLink RX3 15 "Topplemoor$Rotors" "moor" "LTopplemoor$Moor;", .fieldLink RX3 45 "Topplemoor$Moor" "spots" "I", .methodLink RX3 48 yX3_leadsToSink, .instanceMethod yX3_leadsToSink, .selects RX3 yX3_leadsToSink yX3_leadsToSink, .initialized RX3, .code yX3_leadsToSink cX3_leadsToSink 4 (some .boolean), .methodLink RX3 19 yX2_isSpot, .instanceMethod yX2_isSpot, .selects RX2 yX2_isSpot yX2_isSpot, .initialized RX2, .code yX2_isSpot cX2_isSpot 2 (some .boolean), .fieldLink RX2 25 "Topplemoor$Moor" "spots" "I", .methodLink RX3 34 yX3_pointedFrom, .instanceMethod yX3_pointedFrom, .selects RX3 yX3_pointedFrom yX3_pointedFrom, .code yX3_pointedFrom cX3_pointedFrom 2 (some .int), .fieldLink RX3 9 "Topplemoor$Rotors" "places" "[I", .methodLink RX3 25 yX2_neighbourAt, .instanceMethod yX2_neighbourAt, .selects RX2 yX2_neighbourAt yX2_neighbourAt, .code yX2_neighbourAt cX2_neighbourAt 5 (some .int), .fieldLink RX2 11 "Topplemoor$Moor" "edges" "[[I"] ++ wsX30 ++ wsX20)
def wsX4_init_r1 : List Cond := [Cond.methodLink RX4 1 objectInit, Cond.instanceMethod objectInit, Cond.code objectInit ⟨#[0xb1]⟩ 1 none, Cond.classLink RX4 7 RX2, Cond.instantiable RX2 4, Cond.initialized RX2, Cond.fieldLink RX4 10 "Topplemoor" "moor" "LTopplemoor$Moor;", Cond.classLink RX4 16 RX0, Cond.instantiable RX0 3, Cond.initialized RX0, Cond.fieldLink RX4 21 "Topplemoor" "lying" "LTopplemoor$Heap;", Cond.fieldLink RX4 25 "Topplemoor" "trial" "LTopplemoor$Heap;", Cond.fieldLink RX4 28 "Topplemoor" "neutralHeap" "LTopplemoor$Heap;", Cond.fieldLink RX4 31 "Topplemoor" "sum" "LTopplemoor$Heap;", Cond.classLink RX4 34 RX3, Cond.instantiable RX3 3, Cond.initialized RX3, Cond.fieldLink RX4 37 "Topplemoor" "rotors" "LTopplemoor$Rotors;", Cond.classLink RX4 41 RX1, Cond.instantiable RX1 4, Cond.initialized RX1, Cond.fieldLink RX4 44 "Topplemoor" "money" "LTopplemoor$Money;", Cond.classLink RX4 48 "[[I", Cond.arrayClass .int]
def wsX4_init_r2 : List Cond := [Cond.fieldLink RX4 50 "Topplemoor" "keptHeaps" "[[I", Cond.instanceMethod yX2_init, Cond.code yX2_init cX2_init 1 none, Cond.methodLink RX2 3 objectInit, Cond.classLink RX2 9 "[[I", Cond.fieldLink RX2 11 "Topplemoor$Moor" "edges" "[[I", Cond.fieldLink RX2 16 "Topplemoor$Moor" "degrees" "[I", Cond.classLink RX2 20 "[[J", Cond.arrayClass .long, Cond.fieldLink RX2 22 "Topplemoor$Moor" "table" "[[J", Cond.methodLink RX4 18 yX0_init, Cond.instanceMethod yX0_init, Cond.code yX0_init cX0_init 2 none, Cond.methodLink RX0 3 objectInit, Cond.fieldLink RX0 9 "Topplemoor$Heap" "grains" "[I", Cond.fieldLink RX0 15 "Topplemoor$Heap" "times" "[I", Cond.fieldLink RX0 18 "Topplemoor$Heap" "moor" "LTopplemoor$Moor;", Cond.methodLink RX4 36 yX3_init, Cond.instanceMethod yX3_init, Cond.code yX3_init cX3_init 2 none, Cond.methodLink RX3 3 objectInit, Cond.fieldLink RX3 9 "Topplemoor$Rotors" "places" "[I", Cond.fieldLink RX3 15 "Topplemoor$Rotors" "moor" "LTopplemoor$Moor;", Cond.methodLink RX4 43 yX1_init]
def wsX4_init_r3 : List Cond := [Cond.instanceMethod yX1_init, Cond.code yX1_init cX1_init 2 none, Cond.methodLink RX1 3 objectInit, Cond.fieldLink RX1 9 "Topplemoor$Money" "coins" "[I", Cond.fieldLink RX1 15 "Topplemoor$Money" "moor" "LTopplemoor$Moor;", Cond.classLink RX1 19 RX0, Cond.fieldLink RX1 24 "Topplemoor$Money" "lasting" "LTopplemoor$Heap;", Cond.fieldLink RX1 28 "Topplemoor$Money" "poorer" "LTopplemoor$Heap;", Cond.methodLink RX1 21 yX0_init]
def wsX4_init : List Cond := .code yX4_init cX4_init 1 none :: ((wsX4_init_r1 ++ (wsX4_init_r2 ++ wsX4_init_r3)) ++ wsX20 ++ wsX40 ++ wsX00 ++ wsX30 ++ wsX10)
def wsX4_spot : List Cond := .code yX4_spot cX4_spot 1 (some .int) :: ([.classLink RX4 57 "java/lang/IllegalStateException", .initialized "java/lang/IllegalStateException", .fieldLink RX4 10 "Topplemoor" "moor" "LTopplemoor$Moor;", .fieldLink RX4 53 "Topplemoor$Moor" "spots" "I"] ++ wsX40 ++ wsX20 ++ (vx_atS RX4 61 "java/lang/IllegalStateException" ["java/lang/RuntimeException", "java/lang/Exception"]).filter goodWord)
def wsX4_requireNode : List Cond := .code yX4_requireNode cX4_requireNode 2 none :: ([.classLink RX4 227 "java/lang/IndexOutOfBoundsException", .initialized "java/lang/IndexOutOfBoundsException", .fieldLink RX4 10 "Topplemoor" "moor" "LTopplemoor$Moor;", .methodLink RX4 232 yX2_isNode, .instanceMethod yX2_isNode, .selects RX2 yX2_isNode yX2_isNode, .initialized RX2, .code yX2_isNode cX2_isNode 2 (some .boolean), .methodLink RX2 29 yX2_isSpot, .instanceMethod yX2_isSpot, .selects RX2 yX2_isSpot yX2_isSpot, .code yX2_isSpot cX2_isSpot 2 (some .boolean), .fieldLink RX2 25 "Topplemoor$Moor" "spots" "I"] ++ wsX40 ++ wsX20 ++ (vx_atS RX4 231 "java/lang/IndexOutOfBoundsException" ["java/lang/RuntimeException", "java/lang/Exception"]).filter goodWord)
def wsX4_requireWithin : List Cond := .code yX4_requireWithin cX4_requireWithin 3 none :: ([.classLink RX4 68 "java/lang/IllegalArgumentException", .initialized "java/lang/IllegalArgumentException"] ++ (vx_atS RX4 72 "java/lang/IllegalArgumentException" ["java/lang/RuntimeException", "java/lang/Exception"]).filter goodWord)
def wsX4_edge_r1 : List Cond := [Cond.classLink RX4 68 "java/lang/IllegalArgumentException", Cond.initialized "java/lang/IllegalArgumentException", Cond.fieldLink RX4 10 "Topplemoor" "moor" "LTopplemoor$Moor;", Cond.fieldLink RX4 77 "Topplemoor$Moor" "edges" "[[I", Cond.fieldLink RX4 37 "Topplemoor" "rotors" "LTopplemoor$Rotors;", Cond.methodLink RX4 64 yX4_requireNode, Cond.instanceMethod yX4_requireNode, Cond.selects RX4 yX4_requireNode yX4_requireNode, Cond.initialized RX4, Cond.code yX4_requireNode cX4_requireNode 2 none, Cond.classLink RX4 227 "java/lang/IndexOutOfBoundsException", Cond.initialized "java/lang/IndexOutOfBoundsException", Cond.methodLink RX4 232 yX2_isNode, Cond.instanceMethod yX2_isNode, Cond.selects RX2 yX2_isNode yX2_isNode, Cond.initialized RX2, Cond.code yX2_isNode cX2_isNode 2 (some .boolean), Cond.methodLink RX2 29 yX2_isSpot, Cond.instanceMethod yX2_isSpot, Cond.selects RX2 yX2_isSpot yX2_isSpot, Cond.code yX2_isSpot cX2_isSpot 2 (some .boolean), Cond.fieldLink RX2 25 "Topplemoor$Moor" "spots" "I", Cond.methodLink RX4 73 yX4_requireWithin, Cond.static yX4_requireWithin]
def wsX4_edge_r2 : List Cond := [Cond.code yX4_requireWithin cX4_requireWithin 3 none, Cond.methodLink RX4 80 yX2_lay, Cond.instanceMethod yX2_lay, Cond.selects RX2 yX2_lay yX2_lay, Cond.code yX2_lay cX2_lay 5 none, Cond.fieldLink RX2 11 "Topplemoor$Moor" "edges" "[[I", Cond.fieldLink RX2 16 "Topplemoor$Moor" "degrees" "[I", Cond.methodLink RX4 83 yX3_reset, Cond.instanceMethod yX3_reset, Cond.selects RX3 yX3_reset yX3_reset, Cond.initialized RX3, Cond.code yX3_reset cX3_reset 2 none, Cond.fieldLink RX3 15 "Topplemoor$Rotors" "moor" "LTopplemoor$Moor;", Cond.fieldLink RX3 9 "Topplemoor$Rotors" "places" "[I", Cond.methodLink RX3 19 yX2_isSpot]
def wsX4_edge : List Cond := .code yX4_edge cX4_edge 5 (some .int) :: ((wsX4_edge_r1 ++ wsX4_edge_r2) ++ wsX40 ++ wsX20 ++ wsX30 ++ (vx_atS RX4 72 "java/lang/IllegalArgumentException" ["java/lang/RuntimeException", "java/lang/Exception"]).filter goodWord ++ (vx_atS RX4 231 "java/lang/IndexOutOfBoundsException" ["java/lang/RuntimeException", "java/lang/Exception"]).filter goodWord)
def wsX4_requireSpot : List Cond := .code yX4_requireSpot cX4_requireSpot 2 none :: ([.classLink RX4 227 "java/lang/IndexOutOfBoundsException", .initialized "java/lang/IndexOutOfBoundsException", .fieldLink RX4 10 "Topplemoor" "moor" "LTopplemoor$Moor;", .methodLink RX4 224 yX2_isSpot, .instanceMethod yX2_isSpot, .selects RX2 yX2_isSpot yX2_isSpot, .initialized RX2, .code yX2_isSpot cX2_isSpot 2 (some .boolean), .fieldLink RX2 25 "Topplemoor$Moor" "spots" "I"] ++ wsX40 ++ wsX20 ++ (vx_atS RX4 231 "java/lang/IndexOutOfBoundsException" ["java/lang/RuntimeException", "java/lang/Exception"]).filter goodWord)
def wsX4_drop : List Cond := .code yX4_drop cX4_drop 3 (some .int) :: ([.classLink RX4 57 "java/lang/IllegalStateException", .initialized "java/lang/IllegalStateException", .fieldLink RX4 21 "Topplemoor" "lying" "LTopplemoor$Heap;", .fieldLink RX4 89 "Topplemoor$Heap" "grains" "[I", .methodLink RX4 86 yX4_requireSpot, .instanceMethod yX4_requireSpot, .selects RX4 yX4_requireSpot yX4_requireSpot, .initialized RX4, .code yX4_requireSpot cX4_requireSpot 2 none, .classLink RX4 227 "java/lang/IndexOutOfBoundsException", .initialized "java/lang/IndexOutOfBoundsException", .fieldLink RX4 10 "Topplemoor" "moor" "LTopplemoor$Moor;", .methodLink RX4 224 yX2_isSpot, .instanceMethod yX2_isSpot, .selects RX2 yX2_isSpot yX2_isSpot, .initialized RX2, .code yX2_isSpot cX2_isSpot 2 (some .boolean), .fieldLink RX2 25 "Topplemoor$Moor" "spots" "I", .methodLink RX4 73 yX4_requireWithin, .static yX4_requireWithin, .code yX4_requireWithin cX4_requireWithin 3 none, .classLink RX4 68 "java/lang/IllegalArgumentException", .initialized "java/lang/IllegalArgumentException"] ++ wsX40 ++ wsX00 ++ wsX20 ++ (vx_atS RX4 61 "java/lang/IllegalStateException" ["java/lang/RuntimeException", "java/lang/Exception"]).filter goodWord ++ (vx_atS RX4 231 "java/lang/IndexOutOfBoundsException" ["java/lang/RuntimeException", "java/lang/Exception"]).filter goodWord ++ (vx_atS RX4 72 "java/lang/IllegalArgumentException" ["java/lang/RuntimeException", "java/lang/Exception"]).filter goodWord)
def wsX4_topple_r1 : List Cond := [Cond.classLink RX4 57 "java/lang/IllegalStateException", Cond.initialized "java/lang/IllegalStateException", Cond.fieldLink RX4 21 "Topplemoor" "lying" "LTopplemoor$Heap;", Cond.fieldLink RX4 105 "Topplemoor" "topples" "I", Cond.fieldLink RX4 108 "Topplemoor" "swallowed" "I", Cond.fieldLink RX4 10 "Topplemoor" "moor" "LTopplemoor$Moor;", Cond.fieldLink RX4 77 "Topplemoor$Moor" "edges" "[[I", Cond.methodLink RX4 86 yX4_requireSpot, Cond.instanceMethod yX4_requireSpot, Cond.selects RX4 yX4_requireSpot yX4_requireSpot, Cond.initialized RX4, Cond.code yX4_requireSpot cX4_requireSpot 2 none, Cond.classLink RX4 227 "java/lang/IndexOutOfBoundsException", Cond.initialized "java/lang/IndexOutOfBoundsException", Cond.methodLink RX4 224 yX2_isSpot, Cond.instanceMethod yX2_isSpot, Cond.selects RX2 yX2_isSpot yX2_isSpot, Cond.initialized RX2, Cond.code yX2_isSpot cX2_isSpot 2 (some .boolean), Cond.fieldLink RX2 25 "Topplemoor$Moor" "spots" "I", Cond.methodLink RX4 95 yX0_isSteep, Cond.instanceMethod yX0_isSteep, Cond.selects RX0 yX0_isSteep yX0_isSteep, Cond.initialized RX0]
def wsX4_topple_r2 : List Cond := [Cond.code yX0_isSteep cX0_isSteep 2 (some .boolean), Cond.fieldLink RX0 18 "Topplemoor$Heap" "moor" "LTopplemoor$Moor;", Cond.fieldLink RX0 38 "Topplemoor$Moor" "degrees" "[I", Cond.fieldLink RX0 9 "Topplemoor$Heap" "grains" "[I", Cond.methodLink RX4 101 yX0_tip, Cond.instanceMethod yX0_tip, Cond.selects RX0 yX0_tip yX0_tip, Cond.code yX0_tip cX0_tip 4 none, Cond.fieldLink RX0 28 "Topplemoor$Moor" "spots" "I", Cond.fieldLink RX0 34 "Topplemoor$Moor" "edges" "[[I"]
def wsX4_topple : List Cond := .code yX4_topple cX4_topple 2 (some .int) :: ((wsX4_topple_r1 ++ wsX4_topple_r2) ++ wsX40 ++ wsX20 ++ wsX00 ++ (vx_atS RX4 61 "java/lang/IllegalStateException" ["java/lang/RuntimeException", "java/lang/Exception"]).filter goodWord ++ (vx_atS RX4 231 "java/lang/IndexOutOfBoundsException" ["java/lang/RuntimeException", "java/lang/Exception"]).filter goodWord)
def wsX4_requireFast : List Cond := .code yX4_requireFast cX4_requireFast 1 none :: ([.classLink RX4 57 "java/lang/IllegalStateException", .initialized "java/lang/IllegalStateException", .fieldLink RX4 10 "Topplemoor" "moor" "LTopplemoor$Moor;", .methodLink RX4 218 yX2_isFast, .instanceMethod yX2_isFast, .selects RX2 yX2_isFast yX2_isFast, .initialized RX2, .code yX2_isFast cX2_isFast 4 (some .boolean), .fieldLink RX2 25 "Topplemoor$Moor" "spots" "I", .methodLink RX2 33 yX2_edgesInto, .instanceMethod yX2_edgesInto, .selects RX2 yX2_edgesInto yX2_edgesInto, .code yX2_edgesInto cX2_edgesInto 5 (some .int), .fieldLink RX2 11 "Topplemoor$Moor" "edges" "[[I", .methodLink RX2 37 yJ6_bitCount_0f7a4, .static yJ6_bitCount_0f7a4, .initialized RJ6, .code yJ6_bitCount_0f7a4 cJ6_bitCount_0f7a4 1 (some .int), .constant RJ6 265 (1431655765), .constant RJ6 266 (858993459), .constant RJ6 267 (252645135)] ++ wsX40 ++ wsX20 ++ (vx_atS RX4 61 "java/lang/IllegalStateException" ["java/lang/RuntimeException", "java/lang/Exception"]).filter goodWord)
def wsX4_settleLying_r1 : List Cond := [Cond.fieldLink RX4 21 "Topplemoor" "lying" "LTopplemoor$Heap;", Cond.fieldLink RX4 105 "Topplemoor" "topples" "I", Cond.fieldLink RX4 108 "Topplemoor" "swallowed" "I", Cond.methodLink RX4 193 yX0_roll, Cond.instanceMethod yX0_roll, Cond.selects RX0 yX0_roll yX0_roll, Cond.initialized RX0, Cond.code yX0_roll cX0_roll 3 none, Cond.fieldLink RX0 15 "Topplemoor$Heap" "times" "[I", Cond.constant RX0 51 (1000000), Cond.methodLink RX0 45 yJ7_fill_53178, Cond.static yJ7_fill_53178, Cond.initialized RJ7, Cond.code yJ7_fill_53178 cJ7_fill_53178 4 none, Cond.methodLink RX0 52 yX0_rollRound, Cond.instanceMethod yX0_rollRound, Cond.selects RX0 yX0_rollRound yX0_rollRound, Cond.code yX0_rollRound cX0_rollRound 5 (some .boolean), Cond.fieldLink RX0 18 "Topplemoor$Heap" "moor" "LTopplemoor$Moor;", Cond.fieldLink RX0 28 "Topplemoor$Moor" "spots" "I", Cond.fieldLink RX0 38 "Topplemoor$Moor" "degrees" "[I", Cond.fieldLink RX0 9 "Topplemoor$Heap" "grains" "[I", Cond.methodLink RX0 56 yX0_tip, Cond.instanceMethod yX0_tip]
def wsX4_settleLying_r2 : List Cond := [Cond.selects RX0 yX0_tip yX0_tip, Cond.code yX0_tip cX0_tip 4 none, Cond.fieldLink RX0 34 "Topplemoor$Moor" "edges" "[[I", Cond.methodLink RX4 171 yX0_allTimes, Cond.instanceMethod yX0_allTimes, Cond.selects RX0 yX0_allTimes yX0_allTimes, Cond.code yX0_allTimes cX0_allTimes 3 (some .int), Cond.methodLink RX4 174 yX0_swallowedByRoll, Cond.instanceMethod yX0_swallowedByRoll, Cond.selects RX0 yX0_swallowedByRoll yX0_swallowedByRoll, Cond.code yX0_swallowedByRoll cX0_swallowedByRoll 3 (some .int)]
def wsX4_settleLying : List Cond := .code yX4_settleLying cX4_settleLying 2 (some .int) :: ((wsX4_settleLying_r1 ++ wsX4_settleLying_r2) ++ wsX40 ++ wsX00 ++ wsX20)
def wsX4_settle_r1 : List Cond := [Cond.methodLink RX4 111 yX4_requireFast, Cond.instanceMethod yX4_requireFast, Cond.selects RX4 yX4_requireFast yX4_requireFast, Cond.initialized RX4, Cond.code yX4_requireFast cX4_requireFast 1 none, Cond.classLink RX4 57 "java/lang/IllegalStateException", Cond.initialized "java/lang/IllegalStateException", Cond.fieldLink RX4 10 "Topplemoor" "moor" "LTopplemoor$Moor;", Cond.methodLink RX4 218 yX2_isFast, Cond.instanceMethod yX2_isFast, Cond.selects RX2 yX2_isFast yX2_isFast, Cond.initialized RX2, Cond.code yX2_isFast cX2_isFast 4 (some .boolean), Cond.fieldLink RX2 25 "Topplemoor$Moor" "spots" "I", Cond.methodLink RX2 33 yX2_edgesInto, Cond.instanceMethod yX2_edgesInto, Cond.selects RX2 yX2_edgesInto yX2_edgesInto, Cond.code yX2_edgesInto cX2_edgesInto 5 (some .int), Cond.fieldLink RX2 11 "Topplemoor$Moor" "edges" "[[I", Cond.methodLink RX2 37 yJ6_bitCount_0f7a4, Cond.static yJ6_bitCount_0f7a4, Cond.initialized RJ6, Cond.code yJ6_bitCount_0f7a4 cJ6_bitCount_0f7a4 1 (some .int), Cond.constant RJ6 265 (1431655765)]
def wsX4_settle_r2 : List Cond := [Cond.constant RJ6 266 (858993459), Cond.constant RJ6 267 (252645135), Cond.methodLink RX4 114 yX4_settleLying, Cond.instanceMethod yX4_settleLying, Cond.selects RX4 yX4_settleLying yX4_settleLying, Cond.code yX4_settleLying cX4_settleLying 2 (some .int), Cond.fieldLink RX4 21 "Topplemoor" "lying" "LTopplemoor$Heap;", Cond.fieldLink RX4 105 "Topplemoor" "topples" "I", Cond.fieldLink RX4 108 "Topplemoor" "swallowed" "I", Cond.methodLink RX4 193 yX0_roll, Cond.instanceMethod yX0_roll, Cond.selects RX0 yX0_roll yX0_roll, Cond.initialized RX0, Cond.code yX0_roll cX0_roll 3 none, Cond.fieldLink RX0 15 "Topplemoor$Heap" "times" "[I", Cond.constant RX0 51 (1000000), Cond.methodLink RX0 45 yJ7_fill_53178, Cond.static yJ7_fill_53178, Cond.initialized RJ7, Cond.code yJ7_fill_53178 cJ7_fill_53178 4 none, Cond.methodLink RX0 52 yX0_rollRound, Cond.instanceMethod yX0_rollRound, Cond.selects RX0 yX0_rollRound yX0_rollRound, Cond.code yX0_rollRound cX0_rollRound 5 (some .boolean)]
def wsX4_settle_r3 : List Cond := [Cond.fieldLink RX0 18 "Topplemoor$Heap" "moor" "LTopplemoor$Moor;", Cond.fieldLink RX0 28 "Topplemoor$Moor" "spots" "I", Cond.fieldLink RX0 38 "Topplemoor$Moor" "degrees" "[I", Cond.fieldLink RX0 9 "Topplemoor$Heap" "grains" "[I", Cond.methodLink RX0 56 yX0_tip, Cond.instanceMethod yX0_tip, Cond.selects RX0 yX0_tip yX0_tip, Cond.code yX0_tip cX0_tip 4 none, Cond.fieldLink RX0 34 "Topplemoor$Moor" "edges" "[[I", Cond.methodLink RX4 171 yX0_allTimes, Cond.instanceMethod yX0_allTimes, Cond.selects RX0 yX0_allTimes yX0_allTimes, Cond.code yX0_allTimes cX0_allTimes 3 (some .int), Cond.methodLink RX4 174 yX0_swallowedByRoll, Cond.instanceMethod yX0_swallowedByRoll, Cond.selects RX0 yX0_swallowedByRoll yX0_swallowedByRoll, Cond.code yX0_swallowedByRoll cX0_swallowedByRoll 3 (some .int)]
def wsX4_settle : List Cond := .code yX4_settle cX4_settle 1 (some .int) :: ((wsX4_settle_r1 ++ (wsX4_settle_r2 ++ wsX4_settle_r3)) ++ wsX40 ++ wsX20 ++ wsX00 ++ (vx_atS RX4 61 "java/lang/IllegalStateException" ["java/lang/RuntimeException", "java/lang/Exception"]).filter goodWord)
def wsX4_keep : List Cond := .code yX4_keep cX4_keep 1 (some .int) :: ([.classLink RX4 57 "java/lang/IllegalStateException", .initialized "java/lang/IllegalStateException", .fieldLink RX4 118 "Topplemoor" "keptMany" "I", .fieldLink RX4 21 "Topplemoor" "lying" "LTopplemoor$Heap;", .fieldLink RX4 89 "Topplemoor$Heap" "grains" "[I", .fieldLink RX4 50 "Topplemoor" "keptHeaps" "[[I", .methodLink RX4 123 arraycopyName, .native arraycopyName, .static arraycopyName, .initialized "java/lang/System"] ++ wsX40 ++ wsX00 ++ (vx_atS RX4 61 "java/lang/IllegalStateException" ["java/lang/RuntimeException", "java/lang/Exception"]).filter goodWord)
def wsX4_requireHeap : List Cond := .code yX4_requireHeap cX4_requireHeap 2 none :: ([.classLink RX4 227 "java/lang/IndexOutOfBoundsException", .initialized "java/lang/IndexOutOfBoundsException", .fieldLink RX4 118 "Topplemoor" "keptMany" "I"] ++ wsX40 ++ (vx_atS RX4 231 "java/lang/IndexOutOfBoundsException" ["java/lang/RuntimeException", "java/lang/Exception"]).filter goodWord)
def wsX4_add_r1 : List Cond := [Cond.classLink RX4 57 "java/lang/IllegalStateException", Cond.initialized "java/lang/IllegalStateException", Cond.fieldLink RX4 10 "Topplemoor" "moor" "LTopplemoor$Moor;", Cond.fieldLink RX4 53 "Topplemoor$Moor" "spots" "I", Cond.fieldLink RX4 21 "Topplemoor" "lying" "LTopplemoor$Heap;", Cond.fieldLink RX4 89 "Topplemoor$Heap" "grains" "[I", Cond.fieldLink RX4 50 "Topplemoor" "keptHeaps" "[[I", Cond.methodLink RX4 129 yX4_requireHeap, Cond.instanceMethod yX4_requireHeap, Cond.selects RX4 yX4_requireHeap yX4_requireHeap, Cond.initialized RX4, Cond.code yX4_requireHeap cX4_requireHeap 2 none, Cond.classLink RX4 227 "java/lang/IndexOutOfBoundsException", Cond.initialized "java/lang/IndexOutOfBoundsException", Cond.fieldLink RX4 118 "Topplemoor" "keptMany" "I", Cond.methodLink RX4 111 yX4_requireFast, Cond.instanceMethod yX4_requireFast, Cond.selects RX4 yX4_requireFast yX4_requireFast, Cond.code yX4_requireFast cX4_requireFast 1 none, Cond.methodLink RX4 218 yX2_isFast, Cond.instanceMethod yX2_isFast, Cond.selects RX2 yX2_isFast yX2_isFast, Cond.initialized RX2, Cond.code yX2_isFast cX2_isFast 4 (some .boolean)]
def wsX4_add_r2 : List Cond := [Cond.fieldLink RX2 25 "Topplemoor$Moor" "spots" "I", Cond.methodLink RX2 33 yX2_edgesInto, Cond.instanceMethod yX2_edgesInto, Cond.selects RX2 yX2_edgesInto yX2_edgesInto, Cond.code yX2_edgesInto cX2_edgesInto 5 (some .int), Cond.fieldLink RX2 11 "Topplemoor$Moor" "edges" "[[I", Cond.methodLink RX2 37 yJ6_bitCount_0f7a4, Cond.static yJ6_bitCount_0f7a4, Cond.initialized RJ6, Cond.code yJ6_bitCount_0f7a4 cJ6_bitCount_0f7a4 1 (some .int), Cond.constant RJ6 265 (1431655765), Cond.constant RJ6 266 (858993459), Cond.constant RJ6 267 (252645135), Cond.methodLink RX4 132 yX0_addRow, Cond.instanceMethod yX0_addRow, Cond.selects RX0 yX0_addRow yX0_addRow, Cond.initialized RX0, Cond.code yX0_addRow cX0_addRow 3 none, Cond.fieldLink RX0 18 "Topplemoor$Heap" "moor" "LTopplemoor$Moor;", Cond.fieldLink RX0 28 "Topplemoor$Moor" "spots" "I", Cond.fieldLink RX0 9 "Topplemoor$Heap" "grains" "[I", Cond.methodLink RX4 114 yX4_settleLying, Cond.instanceMethod yX4_settleLying, Cond.selects RX4 yX4_settleLying yX4_settleLying]
def wsX4_add_r3 : List Cond := [Cond.code yX4_settleLying cX4_settleLying 2 (some .int), Cond.fieldLink RX4 105 "Topplemoor" "topples" "I", Cond.fieldLink RX4 108 "Topplemoor" "swallowed" "I", Cond.methodLink RX4 193 yX0_roll, Cond.instanceMethod yX0_roll, Cond.selects RX0 yX0_roll yX0_roll, Cond.code yX0_roll cX0_roll 3 none, Cond.fieldLink RX0 15 "Topplemoor$Heap" "times" "[I", Cond.constant RX0 51 (1000000), Cond.methodLink RX0 45 yJ7_fill_53178, Cond.static yJ7_fill_53178, Cond.initialized RJ7, Cond.code yJ7_fill_53178 cJ7_fill_53178 4 none, Cond.methodLink RX0 52 yX0_rollRound, Cond.instanceMethod yX0_rollRound, Cond.selects RX0 yX0_rollRound yX0_rollRound, Cond.code yX0_rollRound cX0_rollRound 5 (some .boolean), Cond.fieldLink RX0 38 "Topplemoor$Moor" "degrees" "[I", Cond.methodLink RX0 56 yX0_tip, Cond.instanceMethod yX0_tip, Cond.selects RX0 yX0_tip yX0_tip, Cond.code yX0_tip cX0_tip 4 none, Cond.fieldLink RX0 34 "Topplemoor$Moor" "edges" "[[I", Cond.methodLink RX4 171 yX0_allTimes]
def wsX4_add_r4 : List Cond := [Cond.instanceMethod yX0_allTimes, Cond.selects RX0 yX0_allTimes yX0_allTimes, Cond.code yX0_allTimes cX0_allTimes 3 (some .int), Cond.methodLink RX4 174 yX0_swallowedByRoll, Cond.instanceMethod yX0_swallowedByRoll, Cond.selects RX0 yX0_swallowedByRoll yX0_swallowedByRoll, Cond.code yX0_swallowedByRoll cX0_swallowedByRoll 3 (some .int)]
def wsX4_add : List Cond := .code yX4_add cX4_add 3 (some .int) :: ((wsX4_add_r1 ++ (wsX4_add_r2 ++ (wsX4_add_r3 ++ wsX4_add_r4))) ++ wsX40 ++ wsX20 ++ wsX00 ++ (vx_atS RX4 61 "java/lang/IllegalStateException" ["java/lang/RuntimeException", "java/lang/Exception"]).filter goodWord ++ (vx_atS RX4 231 "java/lang/IndexOutOfBoundsException" ["java/lang/RuntimeException", "java/lang/Exception"]).filter goodWord)
def wsX4_sweep : List Cond := .code yX4_sweep cX4_sweep 2 (some .int) :: ([.fieldLink RX4 21 "Topplemoor" "lying" "LTopplemoor$Heap;", .fieldLink RX4 89 "Topplemoor$Heap" "grains" "[I", .methodLink RX4 136 yX0_allGrains, .instanceMethod yX0_allGrains, .selects RX0 yX0_allGrains yX0_allGrains, .initialized RX0, .code yX0_allGrains cX0_allGrains 3 (some .int), .fieldLink RX0 18 "Topplemoor$Heap" "moor" "LTopplemoor$Moor;", .fieldLink RX0 28 "Topplemoor$Moor" "spots" "I", .fieldLink RX0 9 "Topplemoor$Heap" "grains" "[I", .methodLink RX4 139 yJ7_fill_53178, .static yJ7_fill_53178, .initialized RJ7, .code yJ7_fill_53178 cJ7_fill_53178 4 none] ++ wsX40 ++ wsX00 ++ wsX20)
def wsX4_walk_r1 : List Cond := [Cond.fieldLink RX4 37 "Topplemoor" "rotors" "LTopplemoor$Rotors;", Cond.methodLink RX4 86 yX4_requireSpot, Cond.instanceMethod yX4_requireSpot, Cond.selects RX4 yX4_requireSpot yX4_requireSpot, Cond.initialized RX4, Cond.code yX4_requireSpot cX4_requireSpot 2 none, Cond.classLink RX4 227 "java/lang/IndexOutOfBoundsException", Cond.initialized "java/lang/IndexOutOfBoundsException", Cond.fieldLink RX4 10 "Topplemoor" "moor" "LTopplemoor$Moor;", Cond.methodLink RX4 224 yX2_isSpot, Cond.instanceMethod yX2_isSpot, Cond.selects RX2 yX2_isSpot yX2_isSpot, Cond.initialized RX2, Cond.code yX2_isSpot cX2_isSpot 2 (some .boolean), Cond.fieldLink RX2 25 "Topplemoor$Moor" "spots" "I", Cond.methodLink RX4 111 yX4_requireFast, Cond.instanceMethod yX4_requireFast, Cond.selects RX4 yX4_requireFast yX4_requireFast, Cond.code yX4_requireFast cX4_requireFast 1 none, Cond.classLink RX4 57 "java/lang/IllegalStateException", Cond.initialized "java/lang/IllegalStateException", Cond.methodLink RX4 218 yX2_isFast, Cond.instanceMethod yX2_isFast, Cond.selects RX2 yX2_isFast yX2_isFast]
def wsX4_walk_r2 : List Cond := [Cond.code yX2_isFast cX2_isFast 4 (some .boolean), Cond.methodLink RX2 33 yX2_edgesInto, Cond.instanceMethod yX2_edgesInto, Cond.selects RX2 yX2_edgesInto yX2_edgesInto, Cond.code yX2_edgesInto cX2_edgesInto 5 (some .int), Cond.fieldLink RX2 11 "Topplemoor$Moor" "edges" "[[I", Cond.methodLink RX2 37 yJ6_bitCount_0f7a4, Cond.static yJ6_bitCount_0f7a4, Cond.initialized RJ6, Cond.code yJ6_bitCount_0f7a4 cJ6_bitCount_0f7a4 1 (some .int), Cond.constant RJ6 265 (1431655765), Cond.constant RJ6 266 (858993459), Cond.constant RJ6 267 (252645135), Cond.methodLink RX4 145 yX3_send, Cond.instanceMethod yX3_send, Cond.selects RX3 yX3_send yX3_send, Cond.initialized RX3, Cond.code yX3_send cX3_send 4 (some .int), Cond.fieldLink RX3 15 "Topplemoor$Rotors" "moor" "LTopplemoor$Moor;", Cond.constant RX3 29 (1000000), Cond.fieldLink RX3 38 "Topplemoor$Rotors" "steps" "I", Cond.methodLink RX3 19 yX2_isSpot, Cond.methodLink RX3 30 yX3_turn, Cond.instanceMethod yX3_turn]
def wsX4_walk_r3 : List Cond := [Cond.selects RX3 yX3_turn yX3_turn, Cond.code yX3_turn cX3_turn 3 none, Cond.fieldLink RX3 9 "Topplemoor$Rotors" "places" "[I", Cond.fieldLink RX3 42 "Topplemoor$Moor" "degrees" "[I", Cond.methodLink RX3 34 yX3_pointedFrom, Cond.instanceMethod yX3_pointedFrom, Cond.selects RX3 yX3_pointedFrom yX3_pointedFrom, Cond.code yX3_pointedFrom cX3_pointedFrom 2 (some .int), Cond.methodLink RX3 25 yX2_neighbourAt, Cond.instanceMethod yX2_neighbourAt, Cond.selects RX2 yX2_neighbourAt yX2_neighbourAt, Cond.code yX2_neighbourAt cX2_neighbourAt 5 (some .int)]
def wsX4_walk : List Cond := .code yX4_walk cX4_walk 2 (some .int) :: ((wsX4_walk_r1 ++ (wsX4_walk_r2 ++ wsX4_walk_r3)) ++ wsX40 ++ wsX20 ++ wsX30 ++ (vx_atS RX4 231 "java/lang/IndexOutOfBoundsException" ["java/lang/RuntimeException", "java/lang/Exception"]).filter goodWord ++ (vx_atS RX4 61 "java/lang/IllegalStateException" ["java/lang/RuntimeException", "java/lang/Exception"]).filter goodWord)
def wsX4_pay_r1 : List Cond := [Cond.fieldLink RX4 44 "Topplemoor" "money" "LTopplemoor$Money;", Cond.fieldLink RX4 149 "Topplemoor$Money" "coins" "[I", Cond.methodLink RX4 64 yX4_requireNode, Cond.instanceMethod yX4_requireNode, Cond.selects RX4 yX4_requireNode yX4_requireNode, Cond.initialized RX4, Cond.code yX4_requireNode cX4_requireNode 2 none, Cond.classLink RX4 227 "java/lang/IndexOutOfBoundsException", Cond.initialized "java/lang/IndexOutOfBoundsException", Cond.fieldLink RX4 10 "Topplemoor" "moor" "LTopplemoor$Moor;", Cond.methodLink RX4 232 yX2_isNode, Cond.instanceMethod yX2_isNode, Cond.selects RX2 yX2_isNode yX2_isNode, Cond.initialized RX2, Cond.code yX2_isNode cX2_isNode 2 (some .boolean), Cond.methodLink RX2 29 yX2_isSpot, Cond.instanceMethod yX2_isSpot, Cond.selects RX2 yX2_isSpot yX2_isSpot, Cond.code yX2_isSpot cX2_isSpot 2 (some .boolean), Cond.fieldLink RX2 25 "Topplemoor$Moor" "spots" "I", Cond.methodLink RX4 73 yX4_requireWithin, Cond.static yX4_requireWithin, Cond.code yX4_requireWithin cX4_requireWithin 3 none, Cond.classLink RX4 68 "java/lang/IllegalArgumentException"]
def wsX4_pay_r2 : List Cond := [Cond.initialized "java/lang/IllegalArgumentException"]
def wsX4_pay : List Cond := .code yX4_pay cX4_pay 3 (some .int) :: ((wsX4_pay_r1 ++ wsX4_pay_r2) ++ wsX40 ++ wsX10 ++ wsX20 ++ (vx_atS RX4 231 "java/lang/IndexOutOfBoundsException" ["java/lang/RuntimeException", "java/lang/Exception"]).filter goodWord ++ (vx_atS RX4 72 "java/lang/IllegalArgumentException" ["java/lang/RuntimeException", "java/lang/Exception"]).filter goodWord)
def wsX4_lend_r1 : List Cond := [Cond.fieldLink RX4 44 "Topplemoor" "money" "LTopplemoor$Money;", Cond.fieldLink RX4 149 "Topplemoor$Money" "coins" "[I", Cond.methodLink RX4 64 yX4_requireNode, Cond.instanceMethod yX4_requireNode, Cond.selects RX4 yX4_requireNode yX4_requireNode, Cond.initialized RX4, Cond.code yX4_requireNode cX4_requireNode 2 none, Cond.classLink RX4 227 "java/lang/IndexOutOfBoundsException", Cond.initialized "java/lang/IndexOutOfBoundsException", Cond.fieldLink RX4 10 "Topplemoor" "moor" "LTopplemoor$Moor;", Cond.methodLink RX4 232 yX2_isNode, Cond.instanceMethod yX2_isNode, Cond.selects RX2 yX2_isNode yX2_isNode, Cond.initialized RX2, Cond.code yX2_isNode cX2_isNode 2 (some .boolean), Cond.methodLink RX2 29 yX2_isSpot, Cond.instanceMethod yX2_isSpot, Cond.selects RX2 yX2_isSpot yX2_isSpot, Cond.code yX2_isSpot cX2_isSpot 2 (some .boolean), Cond.fieldLink RX2 25 "Topplemoor$Moor" "spots" "I", Cond.methodLink RX4 152 yX1_give, Cond.instanceMethod yX1_give, Cond.selects RX1 yX1_give yX1_give, Cond.initialized RX1]
def wsX4_lend_r2 : List Cond := [Cond.code yX1_give cX1_give 4 none, Cond.fieldLink RX1 9 "Topplemoor$Money" "coins" "[I", Cond.fieldLink RX1 15 "Topplemoor$Money" "moor" "LTopplemoor$Moor;", Cond.fieldLink RX1 31 "Topplemoor$Moor" "degrees" "[I", Cond.fieldLink RX1 36 "Topplemoor$Moor" "edges" "[[I"]
def wsX4_lend : List Cond := .code yX4_lend cX4_lend 3 (some .int) :: ((wsX4_lend_r1 ++ wsX4_lend_r2) ++ wsX40 ++ wsX10 ++ wsX20 ++ (vx_atS RX4 231 "java/lang/IndexOutOfBoundsException" ["java/lang/RuntimeException", "java/lang/Exception"]).filter goodWord)
def wsX4_spotValue_r1 : List Cond := [Cond.fieldLink RX4 21 "Topplemoor" "lying" "LTopplemoor$Heap;", Cond.fieldLink RX4 89 "Topplemoor$Heap" "grains" "[I", Cond.fieldLink RX4 10 "Topplemoor" "moor" "LTopplemoor$Moor;", Cond.fieldLink RX4 252 "Topplemoor$Moor" "degrees" "[I", Cond.fieldLink RX4 77 "Topplemoor$Moor" "edges" "[[I", Cond.fieldLink RX4 255 "Topplemoor$Heap" "times" "[I", Cond.fieldLink RX4 37 "Topplemoor" "rotors" "LTopplemoor$Rotors;", Cond.fieldLink RX4 258 "Topplemoor$Rotors" "places" "[I", Cond.methodLink RX4 95 yX0_isSteep, Cond.instanceMethod yX0_isSteep, Cond.selects RX0 yX0_isSteep yX0_isSteep, Cond.initialized RX0, Cond.code yX0_isSteep cX0_isSteep 2 (some .boolean), Cond.fieldLink RX0 18 "Topplemoor$Heap" "moor" "LTopplemoor$Moor;", Cond.fieldLink RX0 38 "Topplemoor$Moor" "degrees" "[I", Cond.fieldLink RX0 9 "Topplemoor$Heap" "grains" "[I", Cond.methodLink RX4 261 yX3_pointedFrom, Cond.instanceMethod yX3_pointedFrom, Cond.selects RX3 yX3_pointedFrom yX3_pointedFrom, Cond.initialized RX3, Cond.code yX3_pointedFrom cX3_pointedFrom 2 (some .int), Cond.fieldLink RX3 15 "Topplemoor$Rotors" "moor" "LTopplemoor$Moor;", Cond.fieldLink RX3 9 "Topplemoor$Rotors" "places" "[I", Cond.methodLink RX3 25 yX2_neighbourAt]
def wsX4_spotValue_r2 : List Cond := [Cond.instanceMethod yX2_neighbourAt, Cond.selects RX2 yX2_neighbourAt yX2_neighbourAt, Cond.initialized RX2, Cond.code yX2_neighbourAt cX2_neighbourAt 5 (some .int), Cond.fieldLink RX2 11 "Topplemoor$Moor" "edges" "[[I"]
def wsX4_spotValue : List Cond := .code yX4_spotValue cX4_spotValue 3 (some .int) :: ((wsX4_spotValue_r1 ++ wsX4_spotValue_r2) ++ wsX40 ++ wsX00 ++ wsX20 ++ wsX30)
def wsX4_ofSpot_r1 : List Cond := [Cond.methodLink RX4 86 yX4_requireSpot, Cond.instanceMethod yX4_requireSpot, Cond.selects RX4 yX4_requireSpot yX4_requireSpot, Cond.initialized RX4, Cond.code yX4_requireSpot cX4_requireSpot 2 none, Cond.classLink RX4 227 "java/lang/IndexOutOfBoundsException", Cond.initialized "java/lang/IndexOutOfBoundsException", Cond.fieldLink RX4 10 "Topplemoor" "moor" "LTopplemoor$Moor;", Cond.methodLink RX4 224 yX2_isSpot, Cond.instanceMethod yX2_isSpot, Cond.selects RX2 yX2_isSpot yX2_isSpot, Cond.initialized RX2, Cond.code yX2_isSpot cX2_isSpot 2 (some .boolean), Cond.fieldLink RX2 25 "Topplemoor$Moor" "spots" "I", Cond.methodLink RX4 73 yX4_requireWithin, Cond.static yX4_requireWithin, Cond.code yX4_requireWithin cX4_requireWithin 3 none, Cond.classLink RX4 68 "java/lang/IllegalArgumentException", Cond.initialized "java/lang/IllegalArgumentException", Cond.methodLink RX4 155 yX4_spotValue, Cond.instanceMethod yX4_spotValue, Cond.selects RX4 yX4_spotValue yX4_spotValue, Cond.code yX4_spotValue cX4_spotValue 3 (some .int), Cond.fieldLink RX4 21 "Topplemoor" "lying" "LTopplemoor$Heap;"]
def wsX4_ofSpot_r2 : List Cond := [Cond.fieldLink RX4 89 "Topplemoor$Heap" "grains" "[I", Cond.fieldLink RX4 252 "Topplemoor$Moor" "degrees" "[I", Cond.fieldLink RX4 77 "Topplemoor$Moor" "edges" "[[I", Cond.fieldLink RX4 255 "Topplemoor$Heap" "times" "[I", Cond.fieldLink RX4 37 "Topplemoor" "rotors" "LTopplemoor$Rotors;", Cond.fieldLink RX4 258 "Topplemoor$Rotors" "places" "[I", Cond.methodLink RX4 95 yX0_isSteep, Cond.instanceMethod yX0_isSteep, Cond.selects RX0 yX0_isSteep yX0_isSteep, Cond.initialized RX0, Cond.code yX0_isSteep cX0_isSteep 2 (some .boolean), Cond.fieldLink RX0 18 "Topplemoor$Heap" "moor" "LTopplemoor$Moor;", Cond.fieldLink RX0 38 "Topplemoor$Moor" "degrees" "[I", Cond.fieldLink RX0 9 "Topplemoor$Heap" "grains" "[I", Cond.methodLink RX4 261 yX3_pointedFrom, Cond.instanceMethod yX3_pointedFrom, Cond.selects RX3 yX3_pointedFrom yX3_pointedFrom, Cond.initialized RX3, Cond.code yX3_pointedFrom cX3_pointedFrom 2 (some .int), Cond.fieldLink RX3 15 "Topplemoor$Rotors" "moor" "LTopplemoor$Moor;", Cond.fieldLink RX3 9 "Topplemoor$Rotors" "places" "[I", Cond.methodLink RX3 25 yX2_neighbourAt, Cond.instanceMethod yX2_neighbourAt, Cond.selects RX2 yX2_neighbourAt yX2_neighbourAt]
def wsX4_ofSpot_r3 : List Cond := [Cond.code yX2_neighbourAt cX2_neighbourAt 5 (some .int), Cond.fieldLink RX2 11 "Topplemoor$Moor" "edges" "[[I"]
def wsX4_ofSpot : List Cond := .code yX4_ofSpot cX4_ofSpot 3 (some .int) :: ((wsX4_ofSpot_r1 ++ (wsX4_ofSpot_r2 ++ wsX4_ofSpot_r3)) ++ wsX40 ++ wsX20 ++ wsX00 ++ wsX30 ++ (vx_atS RX4 231 "java/lang/IndexOutOfBoundsException" ["java/lang/RuntimeException", "java/lang/Exception"]).filter goodWord ++ (vx_atS RX4 72 "java/lang/IllegalArgumentException" ["java/lang/RuntimeException", "java/lang/Exception"]).filter goodWord)
def wsX4_between : List Cond := .code yX4_between cX4_between 3 (some .int) :: ([.fieldLink RX4 10 "Topplemoor" "moor" "LTopplemoor$Moor;", .fieldLink RX4 77 "Topplemoor$Moor" "edges" "[[I", .methodLink RX4 64 yX4_requireNode, .instanceMethod yX4_requireNode, .selects RX4 yX4_requireNode yX4_requireNode, .initialized RX4, .code yX4_requireNode cX4_requireNode 2 none, .classLink RX4 227 "java/lang/IndexOutOfBoundsException", .initialized "java/lang/IndexOutOfBoundsException", .methodLink RX4 232 yX2_isNode, .instanceMethod yX2_isNode, .selects RX2 yX2_isNode yX2_isNode, .initialized RX2, .code yX2_isNode cX2_isNode 2 (some .boolean), .methodLink RX2 29 yX2_isSpot, .instanceMethod yX2_isSpot, .selects RX2 yX2_isSpot yX2_isSpot, .code yX2_isSpot cX2_isSpot 2 (some .boolean), .fieldLink RX2 25 "Topplemoor$Moor" "spots" "I"] ++ wsX40 ++ wsX20 ++ (vx_atS RX4 231 "java/lang/IndexOutOfBoundsException" ["java/lang/RuntimeException", "java/lang/Exception"]).filter goodWord)
def wsX4_coins : List Cond := .code yX4_coins cX4_coins 2 (some .int) :: ([.fieldLink RX4 44 "Topplemoor" "money" "LTopplemoor$Money;", .fieldLink RX4 149 "Topplemoor$Money" "coins" "[I", .methodLink RX4 64 yX4_requireNode, .instanceMethod yX4_requireNode, .selects RX4 yX4_requireNode yX4_requireNode, .initialized RX4, .code yX4_requireNode cX4_requireNode 2 none, .classLink RX4 227 "java/lang/IndexOutOfBoundsException", .initialized "java/lang/IndexOutOfBoundsException", .fieldLink RX4 10 "Topplemoor" "moor" "LTopplemoor$Moor;", .methodLink RX4 232 yX2_isNode, .instanceMethod yX2_isNode, .selects RX2 yX2_isNode yX2_isNode, .initialized RX2, .code yX2_isNode cX2_isNode 2 (some .boolean), .methodLink RX2 29 yX2_isSpot, .instanceMethod yX2_isSpot, .selects RX2 yX2_isSpot yX2_isSpot, .code yX2_isSpot cX2_isSpot 2 (some .boolean), .fieldLink RX2 25 "Topplemoor$Moor" "spots" "I"] ++ wsX40 ++ wsX10 ++ wsX20 ++ (vx_atS RX4 231 "java/lang/IndexOutOfBoundsException" ["java/lang/RuntimeException", "java/lang/Exception"]).filter goodWord)
def wsX4_kept : List Cond := .code yX4_kept cX4_kept 3 (some .int) :: ([.fieldLink RX4 50 "Topplemoor" "keptHeaps" "[[I", .methodLink RX4 129 yX4_requireHeap, .instanceMethod yX4_requireHeap, .selects RX4 yX4_requireHeap yX4_requireHeap, .initialized RX4, .code yX4_requireHeap cX4_requireHeap 2 none, .classLink RX4 227 "java/lang/IndexOutOfBoundsException", .initialized "java/lang/IndexOutOfBoundsException", .fieldLink RX4 118 "Topplemoor" "keptMany" "I", .methodLink RX4 86 yX4_requireSpot, .instanceMethod yX4_requireSpot, .selects RX4 yX4_requireSpot yX4_requireSpot, .code yX4_requireSpot cX4_requireSpot 2 none, .fieldLink RX4 10 "Topplemoor" "moor" "LTopplemoor$Moor;", .methodLink RX4 224 yX2_isSpot, .instanceMethod yX2_isSpot, .selects RX2 yX2_isSpot yX2_isSpot, .initialized RX2, .code yX2_isSpot cX2_isSpot 2 (some .boolean), .fieldLink RX2 25 "Topplemoor$Moor" "spots" "I"] ++ wsX40 ++ wsX20 ++ (vx_atS RX4 231 "java/lang/IndexOutOfBoundsException" ["java/lang/RuntimeException", "java/lang/Exception"]).filter goodWord)
def wsX4_manyValue_r1 : List Cond := [Cond.fieldLink RX4 10 "Topplemoor" "moor" "LTopplemoor$Moor;", Cond.fieldLink RX4 53 "Topplemoor$Moor" "spots" "I", Cond.fieldLink RX4 21 "Topplemoor" "lying" "LTopplemoor$Heap;", Cond.fieldLink RX4 108 "Topplemoor" "swallowed" "I", Cond.fieldLink RX4 105 "Topplemoor" "topples" "I", Cond.fieldLink RX4 118 "Topplemoor" "keptMany" "I", Cond.fieldLink RX4 44 "Topplemoor" "money" "LTopplemoor$Money;", Cond.fieldLink RX4 37 "Topplemoor" "rotors" "LTopplemoor$Rotors;", Cond.fieldLink RX4 273 "Topplemoor$Rotors" "steps" "I", Cond.methodLink RX4 264 yX2_allEdges, Cond.instanceMethod yX2_allEdges, Cond.selects RX2 yX2_allEdges yX2_allEdges, Cond.initialized RX2, Cond.code yX2_allEdges cX2_allEdges 3 (some .int), Cond.fieldLink RX2 16 "Topplemoor$Moor" "degrees" "[I", Cond.methodLink RX4 136 yX0_allGrains, Cond.instanceMethod yX0_allGrains, Cond.selects RX0 yX0_allGrains yX0_allGrains, Cond.initialized RX0, Cond.code yX0_allGrains cX0_allGrains 3 (some .int), Cond.fieldLink RX0 18 "Topplemoor$Heap" "moor" "LTopplemoor$Moor;", Cond.fieldLink RX0 28 "Topplemoor$Moor" "spots" "I", Cond.fieldLink RX0 9 "Topplemoor$Heap" "grains" "[I", Cond.methodLink RX4 171 yX0_allTimes]
def wsX4_manyValue_r2 : List Cond := [Cond.instanceMethod yX0_allTimes, Cond.selects RX0 yX0_allTimes yX0_allTimes, Cond.code yX0_allTimes cX0_allTimes 3 (some .int), Cond.fieldLink RX0 15 "Topplemoor$Heap" "times" "[I", Cond.methodLink RX4 243 yX0_steepSet, Cond.instanceMethod yX0_steepSet, Cond.selects RX0 yX0_steepSet yX0_steepSet, Cond.code yX0_steepSet cX0_steepSet 3 (some .int), Cond.methodLink RX0 41 yX0_isSteep, Cond.instanceMethod yX0_isSteep, Cond.selects RX0 yX0_isSteep yX0_isSteep, Cond.code yX0_isSteep cX0_isSteep 2 (some .boolean), Cond.fieldLink RX0 38 "Topplemoor$Moor" "degrees" "[I", Cond.methodLink RX4 218 yX2_isFast, Cond.instanceMethod yX2_isFast, Cond.selects RX2 yX2_isFast yX2_isFast, Cond.code yX2_isFast cX2_isFast 4 (some .boolean), Cond.fieldLink RX2 25 "Topplemoor$Moor" "spots" "I", Cond.methodLink RX2 33 yX2_edgesInto, Cond.instanceMethod yX2_edgesInto, Cond.selects RX2 yX2_edgesInto yX2_edgesInto, Cond.code yX2_edgesInto cX2_edgesInto 5 (some .int), Cond.fieldLink RX2 11 "Topplemoor$Moor" "edges" "[[I", Cond.methodLink RX2 37 yJ6_bitCount_0f7a4]
def wsX4_manyValue_r3 : List Cond := [Cond.static yJ6_bitCount_0f7a4, Cond.initialized RJ6, Cond.code yJ6_bitCount_0f7a4 cJ6_bitCount_0f7a4 1 (some .int), Cond.constant RJ6 265 (1431655765), Cond.constant RJ6 266 (858993459), Cond.constant RJ6 267 (252645135), Cond.methodLink RX4 267 yX1_allCoins, Cond.instanceMethod yX1_allCoins, Cond.selects RX1 yX1_allCoins yX1_allCoins, Cond.initialized RX1, Cond.code yX1_allCoins cX1_allCoins 3 (some .int), Cond.fieldLink RX1 9 "Topplemoor$Money" "coins" "[I", Cond.methodLink RX4 270 yX1_debtors, Cond.instanceMethod yX1_debtors, Cond.selects RX1 yX1_debtors yX1_debtors, Cond.code yX1_debtors cX1_debtors 3 (some .int), Cond.methodLink RX4 276 yX3_areTree, Cond.instanceMethod yX3_areTree, Cond.selects RX3 yX3_areTree yX3_areTree, Cond.initialized RX3, Cond.code yX3_areTree cX3_areTree 2 (some .boolean), Cond.fieldLink RX3 15 "Topplemoor$Rotors" "moor" "LTopplemoor$Moor;", Cond.fieldLink RX3 45 "Topplemoor$Moor" "spots" "I", Cond.methodLink RX3 48 yX3_leadsToSink]
def wsX4_manyValue_r4 : List Cond := [Cond.instanceMethod yX3_leadsToSink, Cond.selects RX3 yX3_leadsToSink yX3_leadsToSink, Cond.code yX3_leadsToSink cX3_leadsToSink 4 (some .boolean), Cond.methodLink RX3 19 yX2_isSpot, Cond.instanceMethod yX2_isSpot, Cond.selects RX2 yX2_isSpot yX2_isSpot, Cond.code yX2_isSpot cX2_isSpot 2 (some .boolean), Cond.methodLink RX3 34 yX3_pointedFrom, Cond.instanceMethod yX3_pointedFrom, Cond.selects RX3 yX3_pointedFrom yX3_pointedFrom, Cond.code yX3_pointedFrom cX3_pointedFrom 2 (some .int), Cond.fieldLink RX3 9 "Topplemoor$Rotors" "places" "[I", Cond.methodLink RX3 25 yX2_neighbourAt, Cond.instanceMethod yX2_neighbourAt, Cond.selects RX2 yX2_neighbourAt yX2_neighbourAt, Cond.code yX2_neighbourAt cX2_neighbourAt 5 (some .int)]
def wsX4_manyValue : List Cond := .code yX4_manyValue cX4_manyValue 2 (some .int) :: ((wsX4_manyValue_r1 ++ (wsX4_manyValue_r2 ++ (wsX4_manyValue_r3 ++ wsX4_manyValue_r4))) ++ wsX40 ++ wsX20 ++ wsX30 ++ wsX00 ++ wsX10)
def wsX4_many_r1 : List Cond := [Cond.methodLink RX4 73 yX4_requireWithin, Cond.static yX4_requireWithin, Cond.initialized RX4, Cond.code yX4_requireWithin cX4_requireWithin 3 none, Cond.classLink RX4 68 "java/lang/IllegalArgumentException", Cond.initialized "java/lang/IllegalArgumentException", Cond.methodLink RX4 159 yX4_manyValue, Cond.instanceMethod yX4_manyValue, Cond.selects RX4 yX4_manyValue yX4_manyValue, Cond.code yX4_manyValue cX4_manyValue 2 (some .int), Cond.fieldLink RX4 10 "Topplemoor" "moor" "LTopplemoor$Moor;", Cond.fieldLink RX4 53 "Topplemoor$Moor" "spots" "I", Cond.fieldLink RX4 21 "Topplemoor" "lying" "LTopplemoor$Heap;", Cond.fieldLink RX4 108 "Topplemoor" "swallowed" "I", Cond.fieldLink RX4 105 "Topplemoor" "topples" "I", Cond.fieldLink RX4 118 "Topplemoor" "keptMany" "I", Cond.fieldLink RX4 44 "Topplemoor" "money" "LTopplemoor$Money;", Cond.fieldLink RX4 37 "Topplemoor" "rotors" "LTopplemoor$Rotors;", Cond.fieldLink RX4 273 "Topplemoor$Rotors" "steps" "I", Cond.methodLink RX4 264 yX2_allEdges, Cond.instanceMethod yX2_allEdges, Cond.selects RX2 yX2_allEdges yX2_allEdges, Cond.initialized RX2, Cond.code yX2_allEdges cX2_allEdges 3 (some .int)]
def wsX4_many_r2 : List Cond := [Cond.fieldLink RX2 16 "Topplemoor$Moor" "degrees" "[I", Cond.methodLink RX4 136 yX0_allGrains, Cond.instanceMethod yX0_allGrains, Cond.selects RX0 yX0_allGrains yX0_allGrains, Cond.initialized RX0, Cond.code yX0_allGrains cX0_allGrains 3 (some .int), Cond.fieldLink RX0 18 "Topplemoor$Heap" "moor" "LTopplemoor$Moor;", Cond.fieldLink RX0 28 "Topplemoor$Moor" "spots" "I", Cond.fieldLink RX0 9 "Topplemoor$Heap" "grains" "[I", Cond.methodLink RX4 171 yX0_allTimes, Cond.instanceMethod yX0_allTimes, Cond.selects RX0 yX0_allTimes yX0_allTimes, Cond.code yX0_allTimes cX0_allTimes 3 (some .int), Cond.fieldLink RX0 15 "Topplemoor$Heap" "times" "[I", Cond.methodLink RX4 243 yX0_steepSet, Cond.instanceMethod yX0_steepSet, Cond.selects RX0 yX0_steepSet yX0_steepSet, Cond.code yX0_steepSet cX0_steepSet 3 (some .int), Cond.methodLink RX0 41 yX0_isSteep, Cond.instanceMethod yX0_isSteep, Cond.selects RX0 yX0_isSteep yX0_isSteep, Cond.code yX0_isSteep cX0_isSteep 2 (some .boolean), Cond.fieldLink RX0 38 "Topplemoor$Moor" "degrees" "[I", Cond.methodLink RX4 218 yX2_isFast]
def wsX4_many_r3 : List Cond := [Cond.instanceMethod yX2_isFast, Cond.selects RX2 yX2_isFast yX2_isFast, Cond.code yX2_isFast cX2_isFast 4 (some .boolean), Cond.fieldLink RX2 25 "Topplemoor$Moor" "spots" "I", Cond.methodLink RX2 33 yX2_edgesInto, Cond.instanceMethod yX2_edgesInto, Cond.selects RX2 yX2_edgesInto yX2_edgesInto, Cond.code yX2_edgesInto cX2_edgesInto 5 (some .int), Cond.fieldLink RX2 11 "Topplemoor$Moor" "edges" "[[I", Cond.methodLink RX2 37 yJ6_bitCount_0f7a4, Cond.static yJ6_bitCount_0f7a4, Cond.initialized RJ6, Cond.code yJ6_bitCount_0f7a4 cJ6_bitCount_0f7a4 1 (some .int), Cond.constant RJ6 265 (1431655765), Cond.constant RJ6 266 (858993459), Cond.constant RJ6 267 (252645135), Cond.methodLink RX4 267 yX1_allCoins, Cond.instanceMethod yX1_allCoins, Cond.selects RX1 yX1_allCoins yX1_allCoins, Cond.initialized RX1, Cond.code yX1_allCoins cX1_allCoins 3 (some .int), Cond.fieldLink RX1 9 "Topplemoor$Money" "coins" "[I", Cond.methodLink RX4 270 yX1_debtors, Cond.instanceMethod yX1_debtors]
def wsX4_many_r4 : List Cond := [Cond.selects RX1 yX1_debtors yX1_debtors, Cond.code yX1_debtors cX1_debtors 3 (some .int), Cond.methodLink RX4 276 yX3_areTree, Cond.instanceMethod yX3_areTree, Cond.selects RX3 yX3_areTree yX3_areTree, Cond.initialized RX3, Cond.code yX3_areTree cX3_areTree 2 (some .boolean), Cond.fieldLink RX3 15 "Topplemoor$Rotors" "moor" "LTopplemoor$Moor;", Cond.fieldLink RX3 45 "Topplemoor$Moor" "spots" "I", Cond.methodLink RX3 48 yX3_leadsToSink, Cond.instanceMethod yX3_leadsToSink, Cond.selects RX3 yX3_leadsToSink yX3_leadsToSink, Cond.code yX3_leadsToSink cX3_leadsToSink 4 (some .boolean), Cond.methodLink RX3 19 yX2_isSpot, Cond.instanceMethod yX2_isSpot, Cond.selects RX2 yX2_isSpot yX2_isSpot, Cond.code yX2_isSpot cX2_isSpot 2 (some .boolean), Cond.methodLink RX3 34 yX3_pointedFrom, Cond.instanceMethod yX3_pointedFrom, Cond.selects RX3 yX3_pointedFrom yX3_pointedFrom, Cond.code yX3_pointedFrom cX3_pointedFrom 2 (some .int), Cond.fieldLink RX3 9 "Topplemoor$Rotors" "places" "[I", Cond.methodLink RX3 25 yX2_neighbourAt, Cond.instanceMethod yX2_neighbourAt]
def wsX4_many_r5 : List Cond := [Cond.selects RX2 yX2_neighbourAt yX2_neighbourAt, Cond.code yX2_neighbourAt cX2_neighbourAt 5 (some .int)]
def wsX4_many : List Cond := .code yX4_many cX4_many 2 (some .int) :: ((wsX4_many_r1 ++ (wsX4_many_r2 ++ (wsX4_many_r3 ++ (wsX4_many_r4 ++ wsX4_many_r5)))) ++ wsX40 ++ wsX20 ++ wsX30 ++ wsX00 ++ wsX10 ++ (vx_atS RX4 72 "java/lang/IllegalArgumentException" ["java/lang/RuntimeException", "java/lang/Exception"]).filter goodWord)
def wsX4_count : List Cond := .code yX4_count cX4_count 1 (some .long) :: ([.fieldLink RX4 10 "Topplemoor" "moor" "LTopplemoor$Moor;", .methodLink RX4 162 yX2_trees, .instanceMethod yX2_trees, .selects RX2 yX2_trees yX2_trees, .initialized RX2, .code yX2_trees cX2_trees 4 (some .long), .fieldLink RX2 25 "Topplemoor$Moor" "spots" "I", .fieldLink RX2 22 "Topplemoor$Moor" "table" "[[J", .methodLink RX2 43 yX2_fillTable, .instanceMethod yX2_fillTable, .selects RX2 yX2_fillTable yX2_fillTable, .code yX2_fillTable cX2_fillTable 3 none, .fieldLink RX2 16 "Topplemoor$Moor" "degrees" "[I", .fieldLink RX2 11 "Topplemoor$Moor" "edges" "[[I", .methodLink RX2 46 yX2_eliminate, .instanceMethod yX2_eliminate, .selects RX2 yX2_eliminate yX2_eliminate, .code yX2_eliminate cX2_eliminate 10 none] ++ wsX40 ++ wsX20)
def wsX4_density : List Cond := .code yX4_density cX4_density 5 (some .double) :: ([.fieldLink RX4 10 "Topplemoor" "moor" "LTopplemoor$Moor;", .fieldLink RX4 53 "Topplemoor$Moor" "spots" "I", .fieldLink RX4 21 "Topplemoor" "lying" "LTopplemoor$Heap;", .constantDouble RX4 166 (4616189618054758400), .methodLink RX4 136 yX0_allGrains, .instanceMethod yX0_allGrains, .selects RX0 yX0_allGrains yX0_allGrains, .initialized RX0, .code yX0_allGrains cX0_allGrains 3 (some .int), .fieldLink RX0 18 "Topplemoor$Heap" "moor" "LTopplemoor$Moor;", .fieldLink RX0 28 "Topplemoor$Moor" "spots" "I", .fieldLink RX0 9 "Topplemoor$Heap" "grains" "[I"] ++ wsX40 ++ wsX20 ++ wsX00)
def wsX4_rollTrialWith_r1 : List Cond := [Cond.fieldLink RX4 25 "Topplemoor" "trial" "LTopplemoor$Heap;", Cond.fieldLink RX4 21 "Topplemoor" "lying" "LTopplemoor$Heap;", Cond.fieldLink RX4 89 "Topplemoor$Heap" "grains" "[I", Cond.methodLink RX4 190 yX0_copyRow, Cond.instanceMethod yX0_copyRow, Cond.selects RX0 yX0_copyRow yX0_copyRow, Cond.initialized RX0, Cond.code yX0_copyRow cX0_copyRow 2 none, Cond.fieldLink RX0 9 "Topplemoor$Heap" "grains" "[I", Cond.methodLink RX0 22 arraycopyName, Cond.native arraycopyName, Cond.static arraycopyName, Cond.initialized "java/lang/System", Cond.methodLink RX4 193 yX0_roll, Cond.instanceMethod yX0_roll, Cond.selects RX0 yX0_roll yX0_roll, Cond.code yX0_roll cX0_roll 3 none, Cond.fieldLink RX0 15 "Topplemoor$Heap" "times" "[I", Cond.constant RX0 51 (1000000), Cond.methodLink RX0 45 yJ7_fill_53178, Cond.static yJ7_fill_53178, Cond.initialized RJ7, Cond.code yJ7_fill_53178 cJ7_fill_53178 4 none, Cond.methodLink RX0 52 yX0_rollRound]
def wsX4_rollTrialWith_r2 : List Cond := [Cond.instanceMethod yX0_rollRound, Cond.selects RX0 yX0_rollRound yX0_rollRound, Cond.code yX0_rollRound cX0_rollRound 5 (some .boolean), Cond.fieldLink RX0 18 "Topplemoor$Heap" "moor" "LTopplemoor$Moor;", Cond.fieldLink RX0 28 "Topplemoor$Moor" "spots" "I", Cond.fieldLink RX0 38 "Topplemoor$Moor" "degrees" "[I", Cond.methodLink RX0 56 yX0_tip, Cond.instanceMethod yX0_tip, Cond.selects RX0 yX0_tip yX0_tip, Cond.code yX0_tip cX0_tip 4 none, Cond.fieldLink RX0 34 "Topplemoor$Moor" "edges" "[[I"]
def wsX4_rollTrialWith : List Cond := .code yX4_rollTrialWith cX4_rollTrialWith 3 none :: ((wsX4_rollTrialWith_r1 ++ wsX4_rollTrialWith_r2) ++ wsX40 ++ wsX00 ++ wsX20)
def wsX4_would_r1 : List Cond := [Cond.fieldLink RX4 25 "Topplemoor" "trial" "LTopplemoor$Heap;", Cond.methodLink RX4 86 yX4_requireSpot, Cond.instanceMethod yX4_requireSpot, Cond.selects RX4 yX4_requireSpot yX4_requireSpot, Cond.initialized RX4, Cond.code yX4_requireSpot cX4_requireSpot 2 none, Cond.classLink RX4 227 "java/lang/IndexOutOfBoundsException", Cond.initialized "java/lang/IndexOutOfBoundsException", Cond.fieldLink RX4 10 "Topplemoor" "moor" "LTopplemoor$Moor;", Cond.methodLink RX4 224 yX2_isSpot, Cond.instanceMethod yX2_isSpot, Cond.selects RX2 yX2_isSpot yX2_isSpot, Cond.initialized RX2, Cond.code yX2_isSpot cX2_isSpot 2 (some .boolean), Cond.fieldLink RX2 25 "Topplemoor$Moor" "spots" "I", Cond.methodLink RX4 73 yX4_requireWithin, Cond.static yX4_requireWithin, Cond.code yX4_requireWithin cX4_requireWithin 3 none, Cond.classLink RX4 68 "java/lang/IllegalArgumentException", Cond.initialized "java/lang/IllegalArgumentException", Cond.methodLink RX4 111 yX4_requireFast, Cond.instanceMethod yX4_requireFast, Cond.selects RX4 yX4_requireFast yX4_requireFast, Cond.code yX4_requireFast cX4_requireFast 1 none]
def wsX4_would_r2 : List Cond := [Cond.classLink RX4 57 "java/lang/IllegalStateException", Cond.initialized "java/lang/IllegalStateException", Cond.methodLink RX4 218 yX2_isFast, Cond.instanceMethod yX2_isFast, Cond.selects RX2 yX2_isFast yX2_isFast, Cond.code yX2_isFast cX2_isFast 4 (some .boolean), Cond.methodLink RX2 33 yX2_edgesInto, Cond.instanceMethod yX2_edgesInto, Cond.selects RX2 yX2_edgesInto yX2_edgesInto, Cond.code yX2_edgesInto cX2_edgesInto 5 (some .int), Cond.fieldLink RX2 11 "Topplemoor$Moor" "edges" "[[I", Cond.methodLink RX2 37 yJ6_bitCount_0f7a4, Cond.static yJ6_bitCount_0f7a4, Cond.initialized RJ6, Cond.code yJ6_bitCount_0f7a4 cJ6_bitCount_0f7a4 1 (some .int), Cond.constant RJ6 265 (1431655765), Cond.constant RJ6 266 (858993459), Cond.constant RJ6 267 (252645135), Cond.methodLink RX4 168 yX4_rollTrialWith, Cond.instanceMethod yX4_rollTrialWith, Cond.selects RX4 yX4_rollTrialWith yX4_rollTrialWith, Cond.code yX4_rollTrialWith cX4_rollTrialWith 3 none, Cond.fieldLink RX4 21 "Topplemoor" "lying" "LTopplemoor$Heap;", Cond.fieldLink RX4 89 "Topplemoor$Heap" "grains" "[I"]
def wsX4_would_r3 : List Cond := [Cond.methodLink RX4 190 yX0_copyRow, Cond.instanceMethod yX0_copyRow, Cond.selects RX0 yX0_copyRow yX0_copyRow, Cond.initialized RX0, Cond.code yX0_copyRow cX0_copyRow 2 none, Cond.fieldLink RX0 9 "Topplemoor$Heap" "grains" "[I", Cond.methodLink RX0 22 arraycopyName, Cond.native arraycopyName, Cond.static arraycopyName, Cond.initialized "java/lang/System", Cond.methodLink RX4 193 yX0_roll, Cond.instanceMethod yX0_roll, Cond.selects RX0 yX0_roll yX0_roll, Cond.code yX0_roll cX0_roll 3 none, Cond.fieldLink RX0 15 "Topplemoor$Heap" "times" "[I", Cond.constant RX0 51 (1000000), Cond.methodLink RX0 45 yJ7_fill_53178, Cond.static yJ7_fill_53178, Cond.initialized RJ7, Cond.code yJ7_fill_53178 cJ7_fill_53178 4 none, Cond.methodLink RX0 52 yX0_rollRound, Cond.instanceMethod yX0_rollRound, Cond.selects RX0 yX0_rollRound yX0_rollRound, Cond.code yX0_rollRound cX0_rollRound 5 (some .boolean)]
def wsX4_would_r4 : List Cond := [Cond.fieldLink RX0 18 "Topplemoor$Heap" "moor" "LTopplemoor$Moor;", Cond.fieldLink RX0 28 "Topplemoor$Moor" "spots" "I", Cond.fieldLink RX0 38 "Topplemoor$Moor" "degrees" "[I", Cond.methodLink RX0 56 yX0_tip, Cond.instanceMethod yX0_tip, Cond.selects RX0 yX0_tip yX0_tip, Cond.code yX0_tip cX0_tip 4 none, Cond.fieldLink RX0 34 "Topplemoor$Moor" "edges" "[[I", Cond.methodLink RX4 171 yX0_allTimes, Cond.instanceMethod yX0_allTimes, Cond.selects RX0 yX0_allTimes yX0_allTimes, Cond.code yX0_allTimes cX0_allTimes 3 (some .int), Cond.methodLink RX4 174 yX0_swallowedByRoll, Cond.instanceMethod yX0_swallowedByRoll, Cond.selects RX0 yX0_swallowedByRoll yX0_swallowedByRoll, Cond.code yX0_swallowedByRoll cX0_swallowedByRoll 3 (some .int), Cond.methodLink RX4 177 yX0_toppledSet, Cond.instanceMethod yX0_toppledSet, Cond.selects RX0 yX0_toppledSet yX0_toppledSet, Cond.code yX0_toppledSet cX0_toppledSet 3 (some .int)]
def wsX4_would : List Cond := .code yX4_would cX4_would 4 (some .int) :: ((wsX4_would_r1 ++ (wsX4_would_r2 ++ (wsX4_would_r3 ++ wsX4_would_r4))) ++ wsX40 ++ wsX20 ++ wsX00 ++ (vx_atS RX4 231 "java/lang/IndexOutOfBoundsException" ["java/lang/RuntimeException", "java/lang/Exception"]).filter goodWord ++ (vx_atS RX4 72 "java/lang/IllegalArgumentException" ["java/lang/RuntimeException", "java/lang/Exception"]).filter goodWord ++ (vx_atS RX4 61 "java/lang/IllegalStateException" ["java/lang/RuntimeException", "java/lang/Exception"]).filter goodWord)
def wsX4_liesLasting_r1 : List Cond := [Cond.fieldLink RX4 21 "Topplemoor" "lying" "LTopplemoor$Heap;", Cond.fieldLink RX4 25 "Topplemoor" "trial" "LTopplemoor$Heap;", Cond.fieldLink RX4 89 "Topplemoor$Heap" "grains" "[I", Cond.methodLink RX4 243 yX0_steepSet, Cond.instanceMethod yX0_steepSet, Cond.selects RX0 yX0_steepSet yX0_steepSet, Cond.initialized RX0, Cond.code yX0_steepSet cX0_steepSet 3 (some .int), Cond.fieldLink RX0 18 "Topplemoor$Heap" "moor" "LTopplemoor$Moor;", Cond.fieldLink RX0 28 "Topplemoor$Moor" "spots" "I", Cond.methodLink RX0 41 yX0_isSteep, Cond.instanceMethod yX0_isSteep, Cond.selects RX0 yX0_isSteep yX0_isSteep, Cond.code yX0_isSteep cX0_isSteep 2 (some .boolean), Cond.fieldLink RX0 38 "Topplemoor$Moor" "degrees" "[I", Cond.fieldLink RX0 9 "Topplemoor$Heap" "grains" "[I", Cond.methodLink RX4 190 yX0_copyRow, Cond.instanceMethod yX0_copyRow, Cond.selects RX0 yX0_copyRow yX0_copyRow, Cond.code yX0_copyRow cX0_copyRow 2 none, Cond.methodLink RX0 22 arraycopyName, Cond.native arraycopyName, Cond.static arraycopyName, Cond.initialized "java/lang/System"]
def wsX4_liesLasting_r2 : List Cond := [Cond.methodLink RX4 246 yX0_addFromSink, Cond.instanceMethod yX0_addFromSink, Cond.selects RX0 yX0_addFromSink yX0_addFromSink, Cond.code yX0_addFromSink cX0_addFromSink 2 none, Cond.fieldLink RX0 34 "Topplemoor$Moor" "edges" "[[I", Cond.methodLink RX4 193 yX0_roll, Cond.instanceMethod yX0_roll, Cond.selects RX0 yX0_roll yX0_roll, Cond.code yX0_roll cX0_roll 3 none, Cond.fieldLink RX0 15 "Topplemoor$Heap" "times" "[I", Cond.constant RX0 51 (1000000), Cond.methodLink RX0 45 yJ7_fill_53178, Cond.static yJ7_fill_53178, Cond.initialized RJ7, Cond.code yJ7_fill_53178 cJ7_fill_53178 4 none, Cond.methodLink RX0 52 yX0_rollRound, Cond.instanceMethod yX0_rollRound, Cond.selects RX0 yX0_rollRound yX0_rollRound, Cond.code yX0_rollRound cX0_rollRound 5 (some .boolean), Cond.methodLink RX0 56 yX0_tip, Cond.instanceMethod yX0_tip, Cond.selects RX0 yX0_tip yX0_tip, Cond.code yX0_tip cX0_tip 4 none, Cond.methodLink RX4 249 yX0_hasEachToppledOnce]
def wsX4_liesLasting_r3 : List Cond := [Cond.instanceMethod yX0_hasEachToppledOnce, Cond.selects RX0 yX0_hasEachToppledOnce yX0_hasEachToppledOnce, Cond.code yX0_hasEachToppledOnce cX0_hasEachToppledOnce 2 (some .boolean)]
def wsX4_liesLasting : List Cond := .code yX4_liesLasting cX4_liesLasting 1 (some .boolean) :: ((wsX4_liesLasting_r1 ++ (wsX4_liesLasting_r2 ++ wsX4_liesLasting_r3)) ++ wsX40 ++ wsX00 ++ wsX20)
def wsX4_isLasting_r1 : List Cond := [Cond.methodLink RX4 111 yX4_requireFast, Cond.instanceMethod yX4_requireFast, Cond.selects RX4 yX4_requireFast yX4_requireFast, Cond.initialized RX4, Cond.code yX4_requireFast cX4_requireFast 1 none, Cond.classLink RX4 57 "java/lang/IllegalStateException", Cond.initialized "java/lang/IllegalStateException", Cond.fieldLink RX4 10 "Topplemoor" "moor" "LTopplemoor$Moor;", Cond.methodLink RX4 218 yX2_isFast, Cond.instanceMethod yX2_isFast, Cond.selects RX2 yX2_isFast yX2_isFast, Cond.initialized RX2, Cond.code yX2_isFast cX2_isFast 4 (some .boolean), Cond.fieldLink RX2 25 "Topplemoor$Moor" "spots" "I", Cond.methodLink RX2 33 yX2_edgesInto, Cond.instanceMethod yX2_edgesInto, Cond.selects RX2 yX2_edgesInto yX2_edgesInto, Cond.code yX2_edgesInto cX2_edgesInto 5 (some .int), Cond.fieldLink RX2 11 "Topplemoor$Moor" "edges" "[[I", Cond.methodLink RX2 37 yJ6_bitCount_0f7a4, Cond.static yJ6_bitCount_0f7a4, Cond.initialized RJ6, Cond.code yJ6_bitCount_0f7a4 cJ6_bitCount_0f7a4 1 (some .int), Cond.constant RJ6 265 (1431655765)]
def wsX4_isLasting_r2 : List Cond := [Cond.constant RJ6 266 (858993459), Cond.constant RJ6 267 (252645135), Cond.methodLink RX4 180 yX4_liesLasting, Cond.instanceMethod yX4_liesLasting, Cond.selects RX4 yX4_liesLasting yX4_liesLasting, Cond.code yX4_liesLasting cX4_liesLasting 1 (some .boolean), Cond.fieldLink RX4 21 "Topplemoor" "lying" "LTopplemoor$Heap;", Cond.fieldLink RX4 25 "Topplemoor" "trial" "LTopplemoor$Heap;", Cond.fieldLink RX4 89 "Topplemoor$Heap" "grains" "[I", Cond.methodLink RX4 243 yX0_steepSet, Cond.instanceMethod yX0_steepSet, Cond.selects RX0 yX0_steepSet yX0_steepSet, Cond.initialized RX0, Cond.code yX0_steepSet cX0_steepSet 3 (some .int), Cond.fieldLink RX0 18 "Topplemoor$Heap" "moor" "LTopplemoor$Moor;", Cond.fieldLink RX0 28 "Topplemoor$Moor" "spots" "I", Cond.methodLink RX0 41 yX0_isSteep, Cond.instanceMethod yX0_isSteep, Cond.selects RX0 yX0_isSteep yX0_isSteep, Cond.code yX0_isSteep cX0_isSteep 2 (some .boolean), Cond.fieldLink RX0 38 "Topplemoor$Moor" "degrees" "[I", Cond.fieldLink RX0 9 "Topplemoor$Heap" "grains" "[I", Cond.methodLink RX4 190 yX0_copyRow, Cond.instanceMethod yX0_copyRow]
def wsX4_isLasting_r3 : List Cond := [Cond.selects RX0 yX0_copyRow yX0_copyRow, Cond.code yX0_copyRow cX0_copyRow 2 none, Cond.methodLink RX0 22 arraycopyName, Cond.native arraycopyName, Cond.static arraycopyName, Cond.initialized "java/lang/System", Cond.methodLink RX4 246 yX0_addFromSink, Cond.instanceMethod yX0_addFromSink, Cond.selects RX0 yX0_addFromSink yX0_addFromSink, Cond.code yX0_addFromSink cX0_addFromSink 2 none, Cond.fieldLink RX0 34 "Topplemoor$Moor" "edges" "[[I", Cond.methodLink RX4 193 yX0_roll, Cond.instanceMethod yX0_roll, Cond.selects RX0 yX0_roll yX0_roll, Cond.code yX0_roll cX0_roll 3 none, Cond.fieldLink RX0 15 "Topplemoor$Heap" "times" "[I", Cond.constant RX0 51 (1000000), Cond.methodLink RX0 45 yJ7_fill_53178, Cond.static yJ7_fill_53178, Cond.initialized RJ7, Cond.code yJ7_fill_53178 cJ7_fill_53178 4 none, Cond.methodLink RX0 52 yX0_rollRound, Cond.instanceMethod yX0_rollRound, Cond.selects RX0 yX0_rollRound yX0_rollRound]
def wsX4_isLasting_r4 : List Cond := [Cond.code yX0_rollRound cX0_rollRound 5 (some .boolean), Cond.methodLink RX0 56 yX0_tip, Cond.instanceMethod yX0_tip, Cond.selects RX0 yX0_tip yX0_tip, Cond.code yX0_tip cX0_tip 4 none, Cond.methodLink RX4 249 yX0_hasEachToppledOnce, Cond.instanceMethod yX0_hasEachToppledOnce, Cond.selects RX0 yX0_hasEachToppledOnce yX0_hasEachToppledOnce, Cond.code yX0_hasEachToppledOnce cX0_hasEachToppledOnce 2 (some .boolean)]
def wsX4_isLasting : List Cond := .code yX4_isLasting cX4_isLasting 1 (some .boolean) :: ((wsX4_isLasting_r1 ++ (wsX4_isLasting_r2 ++ (wsX4_isLasting_r3 ++ wsX4_isLasting_r4))) ++ wsX40 ++ wsX20 ++ wsX00 ++ (vx_atS RX4 61 "java/lang/IllegalStateException" ["java/lang/RuntimeException", "java/lang/Exception"]).filter goodWord)
def wsX4_neutral_r1 : List Cond := [Cond.fieldLink RX4 28 "Topplemoor" "neutralHeap" "LTopplemoor$Heap;", Cond.fieldLink RX4 89 "Topplemoor$Heap" "grains" "[I", Cond.methodLink RX4 86 yX4_requireSpot, Cond.instanceMethod yX4_requireSpot, Cond.selects RX4 yX4_requireSpot yX4_requireSpot, Cond.initialized RX4, Cond.code yX4_requireSpot cX4_requireSpot 2 none, Cond.classLink RX4 227 "java/lang/IndexOutOfBoundsException", Cond.initialized "java/lang/IndexOutOfBoundsException", Cond.fieldLink RX4 10 "Topplemoor" "moor" "LTopplemoor$Moor;", Cond.methodLink RX4 224 yX2_isSpot, Cond.instanceMethod yX2_isSpot, Cond.selects RX2 yX2_isSpot yX2_isSpot, Cond.initialized RX2, Cond.code yX2_isSpot cX2_isSpot 2 (some .boolean), Cond.fieldLink RX2 25 "Topplemoor$Moor" "spots" "I", Cond.methodLink RX4 111 yX4_requireFast, Cond.instanceMethod yX4_requireFast, Cond.selects RX4 yX4_requireFast yX4_requireFast, Cond.code yX4_requireFast cX4_requireFast 1 none, Cond.classLink RX4 57 "java/lang/IllegalStateException", Cond.initialized "java/lang/IllegalStateException", Cond.methodLink RX4 218 yX2_isFast, Cond.instanceMethod yX2_isFast]
def wsX4_neutral_r2 : List Cond := [Cond.selects RX2 yX2_isFast yX2_isFast, Cond.code yX2_isFast cX2_isFast 4 (some .boolean), Cond.methodLink RX2 33 yX2_edgesInto, Cond.instanceMethod yX2_edgesInto, Cond.selects RX2 yX2_edgesInto yX2_edgesInto, Cond.code yX2_edgesInto cX2_edgesInto 5 (some .int), Cond.fieldLink RX2 11 "Topplemoor$Moor" "edges" "[[I", Cond.methodLink RX2 37 yJ6_bitCount_0f7a4, Cond.static yJ6_bitCount_0f7a4, Cond.initialized RJ6, Cond.code yJ6_bitCount_0f7a4 cJ6_bitCount_0f7a4 1 (some .int), Cond.constant RJ6 265 (1431655765), Cond.constant RJ6 266 (858993459), Cond.constant RJ6 267 (252645135), Cond.methodLink RX4 184 yX0_becomeNeutral, Cond.instanceMethod yX0_becomeNeutral, Cond.selects RX0 yX0_becomeNeutral yX0_becomeNeutral, Cond.initialized RX0, Cond.code yX0_becomeNeutral cX0_becomeNeutral 2 none, Cond.fieldLink RX0 18 "Topplemoor$Heap" "moor" "LTopplemoor$Moor;", Cond.fieldLink RX0 28 "Topplemoor$Moor" "spots" "I", Cond.fieldLink RX0 9 "Topplemoor$Heap" "grains" "[I", Cond.fieldLink RX0 38 "Topplemoor$Moor" "degrees" "[I", Cond.methodLink RX0 60 yX0_roll]
def wsX4_neutral_r3 : List Cond := [Cond.instanceMethod yX0_roll, Cond.selects RX0 yX0_roll yX0_roll, Cond.code yX0_roll cX0_roll 3 none, Cond.fieldLink RX0 15 "Topplemoor$Heap" "times" "[I", Cond.constant RX0 51 (1000000), Cond.methodLink RX0 45 yJ7_fill_53178, Cond.static yJ7_fill_53178, Cond.initialized RJ7, Cond.code yJ7_fill_53178 cJ7_fill_53178 4 none, Cond.methodLink RX0 52 yX0_rollRound, Cond.instanceMethod yX0_rollRound, Cond.selects RX0 yX0_rollRound yX0_rollRound, Cond.code yX0_rollRound cX0_rollRound 5 (some .boolean), Cond.methodLink RX0 56 yX0_tip, Cond.instanceMethod yX0_tip, Cond.selects RX0 yX0_tip yX0_tip, Cond.code yX0_tip cX0_tip 4 none, Cond.fieldLink RX0 34 "Topplemoor$Moor" "edges" "[[I"]
def wsX4_neutral : List Cond := .code yX4_neutral cX4_neutral 2 (some .int) :: ((wsX4_neutral_r1 ++ (wsX4_neutral_r2 ++ wsX4_neutral_r3)) ++ wsX40 ++ wsX00 ++ wsX20 ++ (vx_atS RX4 231 "java/lang/IndexOutOfBoundsException" ["java/lang/RuntimeException", "java/lang/Exception"]).filter goodWord ++ (vx_atS RX4 61 "java/lang/IllegalStateException" ["java/lang/RuntimeException", "java/lang/Exception"]).filter goodWord)
def wsX4_fire : List Cond := .code yX4_fire cX4_fire 1 (some .int) :: ([.fieldLink RX4 21 "Topplemoor" "lying" "LTopplemoor$Heap;", .methodLink RX4 187 yX0_burningOrder, .instanceMethod yX0_burningOrder, .selects RX0 yX0_burningOrder yX0_burningOrder, .initialized RX0, .code yX0_burningOrder cX0_burningOrder 5 (some .int), .fieldLink RX0 18 "Topplemoor$Heap" "moor" "LTopplemoor$Moor;", .fieldLink RX0 28 "Topplemoor$Moor" "spots" "I", .methodLink RX0 63 yX0_nextToBurn, .instanceMethod yX0_nextToBurn, .selects RX0 yX0_nextToBurn yX0_nextToBurn, .code yX0_nextToBurn cX0_nextToBurn 4 (some .int), .fieldLink RX0 9 "Topplemoor$Heap" "grains" "[I", .methodLink RX0 67 yX2_edgesInto, .instanceMethod yX2_edgesInto, .selects RX2 yX2_edgesInto yX2_edgesInto, .initialized RX2, .code yX2_edgesInto cX2_edgesInto 5 (some .int), .fieldLink RX2 11 "Topplemoor$Moor" "edges" "[[I"] ++ wsX40 ++ wsX00 ++ wsX20)
def wsX4_order_r1 : List Cond := [Cond.fieldLink RX4 25 "Topplemoor" "trial" "LTopplemoor$Heap;", Cond.fieldLink RX4 21 "Topplemoor" "lying" "LTopplemoor$Heap;", Cond.fieldLink RX4 89 "Topplemoor$Heap" "grains" "[I", Cond.fieldLink RX4 28 "Topplemoor" "neutralHeap" "LTopplemoor$Heap;", Cond.fieldLink RX4 31 "Topplemoor" "sum" "LTopplemoor$Heap;", Cond.methodLink RX4 111 yX4_requireFast, Cond.instanceMethod yX4_requireFast, Cond.selects RX4 yX4_requireFast yX4_requireFast, Cond.initialized RX4, Cond.code yX4_requireFast cX4_requireFast 1 none, Cond.classLink RX4 57 "java/lang/IllegalStateException", Cond.initialized "java/lang/IllegalStateException", Cond.fieldLink RX4 10 "Topplemoor" "moor" "LTopplemoor$Moor;", Cond.methodLink RX4 218 yX2_isFast, Cond.instanceMethod yX2_isFast, Cond.selects RX2 yX2_isFast yX2_isFast, Cond.initialized RX2, Cond.code yX2_isFast cX2_isFast 4 (some .boolean), Cond.fieldLink RX2 25 "Topplemoor$Moor" "spots" "I", Cond.methodLink RX2 33 yX2_edgesInto, Cond.instanceMethod yX2_edgesInto, Cond.selects RX2 yX2_edgesInto yX2_edgesInto, Cond.code yX2_edgesInto cX2_edgesInto 5 (some .int), Cond.fieldLink RX2 11 "Topplemoor$Moor" "edges" "[[I"]
def wsX4_order_r2 : List Cond := [Cond.methodLink RX2 37 yJ6_bitCount_0f7a4, Cond.static yJ6_bitCount_0f7a4, Cond.initialized RJ6, Cond.code yJ6_bitCount_0f7a4 cJ6_bitCount_0f7a4 1 (some .int), Cond.constant RJ6 265 (1431655765), Cond.constant RJ6 266 (858993459), Cond.constant RJ6 267 (252645135), Cond.methodLink RX4 190 yX0_copyRow, Cond.instanceMethod yX0_copyRow, Cond.selects RX0 yX0_copyRow yX0_copyRow, Cond.initialized RX0, Cond.code yX0_copyRow cX0_copyRow 2 none, Cond.fieldLink RX0 9 "Topplemoor$Heap" "grains" "[I", Cond.methodLink RX0 22 arraycopyName, Cond.native arraycopyName, Cond.static arraycopyName, Cond.initialized "java/lang/System", Cond.methodLink RX4 193 yX0_roll, Cond.instanceMethod yX0_roll, Cond.selects RX0 yX0_roll yX0_roll, Cond.code yX0_roll cX0_roll 3 none, Cond.fieldLink RX0 15 "Topplemoor$Heap" "times" "[I", Cond.constant RX0 51 (1000000), Cond.methodLink RX0 45 yJ7_fill_53178]
def wsX4_order_r3 : List Cond := [Cond.static yJ7_fill_53178, Cond.initialized RJ7, Cond.code yJ7_fill_53178 cJ7_fill_53178 4 none, Cond.methodLink RX0 52 yX0_rollRound, Cond.instanceMethod yX0_rollRound, Cond.selects RX0 yX0_rollRound yX0_rollRound, Cond.code yX0_rollRound cX0_rollRound 5 (some .boolean), Cond.fieldLink RX0 18 "Topplemoor$Heap" "moor" "LTopplemoor$Moor;", Cond.fieldLink RX0 28 "Topplemoor$Moor" "spots" "I", Cond.fieldLink RX0 38 "Topplemoor$Moor" "degrees" "[I", Cond.methodLink RX0 56 yX0_tip, Cond.instanceMethod yX0_tip, Cond.selects RX0 yX0_tip yX0_tip, Cond.code yX0_tip cX0_tip 4 none, Cond.fieldLink RX0 34 "Topplemoor$Moor" "edges" "[[I", Cond.methodLink RX4 184 yX0_becomeNeutral, Cond.instanceMethod yX0_becomeNeutral, Cond.selects RX0 yX0_becomeNeutral yX0_becomeNeutral, Cond.code yX0_becomeNeutral cX0_becomeNeutral 2 none, Cond.methodLink RX0 60 yX0_roll, Cond.methodLink RX4 132 yX0_addRow, Cond.instanceMethod yX0_addRow, Cond.selects RX0 yX0_addRow yX0_addRow, Cond.code yX0_addRow cX0_addRow 3 none]
def wsX4_order_r4 : List Cond := [Cond.methodLink RX4 196 yX0_isLike, Cond.instanceMethod yX0_isLike, Cond.selects RX0 yX0_isLike yX0_isLike, Cond.code yX0_isLike cX0_isLike 3 (some .boolean)]
def wsX4_order : List Cond := .code yX4_order cX4_order 2 (some .int) :: ((wsX4_order_r1 ++ (wsX4_order_r2 ++ (wsX4_order_r3 ++ wsX4_order_r4))) ++ wsX40 ++ wsX00 ++ wsX20 ++ (vx_atS RX4 61 "java/lang/IllegalStateException" ["java/lang/RuntimeException", "java/lang/Exception"]).filter goodWord)
def wsX4_canPay_r1 : List Cond := [Cond.fieldLink RX4 44 "Topplemoor" "money" "LTopplemoor$Money;", Cond.methodLink RX4 111 yX4_requireFast, Cond.instanceMethod yX4_requireFast, Cond.selects RX4 yX4_requireFast yX4_requireFast, Cond.initialized RX4, Cond.code yX4_requireFast cX4_requireFast 1 none, Cond.classLink RX4 57 "java/lang/IllegalStateException", Cond.initialized "java/lang/IllegalStateException", Cond.fieldLink RX4 10 "Topplemoor" "moor" "LTopplemoor$Moor;", Cond.methodLink RX4 218 yX2_isFast, Cond.instanceMethod yX2_isFast, Cond.selects RX2 yX2_isFast yX2_isFast, Cond.initialized RX2, Cond.code yX2_isFast cX2_isFast 4 (some .boolean), Cond.fieldLink RX2 25 "Topplemoor$Moor" "spots" "I", Cond.methodLink RX2 33 yX2_edgesInto, Cond.instanceMethod yX2_edgesInto, Cond.selects RX2 yX2_edgesInto yX2_edgesInto, Cond.code yX2_edgesInto cX2_edgesInto 5 (some .int), Cond.fieldLink RX2 11 "Topplemoor$Moor" "edges" "[[I", Cond.methodLink RX2 37 yJ6_bitCount_0f7a4, Cond.static yJ6_bitCount_0f7a4, Cond.initialized RJ6, Cond.code yJ6_bitCount_0f7a4 cJ6_bitCount_0f7a4 1 (some .int)]
def wsX4_canPay_r2 : List Cond := [Cond.constant RJ6 265 (1431655765), Cond.constant RJ6 266 (858993459), Cond.constant RJ6 267 (252645135), Cond.methodLink RX4 200 yX1_isPayable, Cond.instanceMethod yX1_isPayable, Cond.selects RX1 yX1_isPayable yX1_isPayable, Cond.initialized RX1, Cond.code yX1_isPayable cX1_isPayable 1 (some .boolean), Cond.fieldLink RX1 24 "Topplemoor$Money" "lasting" "LTopplemoor$Heap;", Cond.methodLink RX1 40 yX1_findLasting, Cond.instanceMethod yX1_findLasting, Cond.selects RX1 yX1_findLasting yX1_findLasting, Cond.code yX1_findLasting cX1_findLasting 3 none, Cond.fieldLink RX1 15 "Topplemoor$Money" "moor" "LTopplemoor$Moor;", Cond.fieldLink RX1 51 "Topplemoor$Moor" "spots" "I", Cond.fieldLink RX1 55 "Topplemoor$Heap" "grains" "[I", Cond.fieldLink RX1 9 "Topplemoor$Money" "coins" "[I", Cond.constant RX1 68 (1000000), Cond.methodLink RX1 65 yX1_readOtherWay, Cond.instanceMethod yX1_readOtherWay, Cond.selects RX1 yX1_readOtherWay yX1_readOtherWay, Cond.code yX1_readOtherWay cX1_readOtherWay 2 none, Cond.fieldLink RX1 31 "Topplemoor$Moor" "degrees" "[I", Cond.methodLink RX1 62 yX0_roll]
def wsX4_canPay_r3 : List Cond := [Cond.instanceMethod yX0_roll, Cond.selects RX0 yX0_roll yX0_roll, Cond.initialized RX0, Cond.code yX0_roll cX0_roll 3 none, Cond.fieldLink RX0 15 "Topplemoor$Heap" "times" "[I", Cond.constant RX0 51 (1000000), Cond.methodLink RX0 45 yJ7_fill_53178, Cond.static yJ7_fill_53178, Cond.initialized RJ7, Cond.code yJ7_fill_53178 cJ7_fill_53178 4 none, Cond.methodLink RX0 52 yX0_rollRound, Cond.instanceMethod yX0_rollRound, Cond.selects RX0 yX0_rollRound yX0_rollRound, Cond.code yX0_rollRound cX0_rollRound 5 (some .boolean), Cond.fieldLink RX0 18 "Topplemoor$Heap" "moor" "LTopplemoor$Moor;", Cond.fieldLink RX0 28 "Topplemoor$Moor" "spots" "I", Cond.fieldLink RX0 38 "Topplemoor$Moor" "degrees" "[I", Cond.fieldLink RX0 9 "Topplemoor$Heap" "grains" "[I", Cond.methodLink RX0 56 yX0_tip, Cond.instanceMethod yX0_tip, Cond.selects RX0 yX0_tip yX0_tip, Cond.code yX0_tip cX0_tip 4 none, Cond.fieldLink RX0 34 "Topplemoor$Moor" "edges" "[[I", Cond.methodLink RX1 69 yX0_addFromSink]
def wsX4_canPay_r4 : List Cond := [Cond.instanceMethod yX0_addFromSink, Cond.selects RX0 yX0_addFromSink yX0_addFromSink, Cond.code yX0_addFromSink cX0_addFromSink 2 none, Cond.methodLink RX1 72 yX0_hasEachToppledOnce, Cond.instanceMethod yX0_hasEachToppledOnce, Cond.selects RX0 yX0_hasEachToppledOnce yX0_hasEachToppledOnce, Cond.code yX0_hasEachToppledOnce cX0_hasEachToppledOnce 2 (some .boolean), Cond.methodLink RX1 43 yX1_allCoins, Cond.instanceMethod yX1_allCoins, Cond.selects RX1 yX1_allCoins yX1_allCoins, Cond.code yX1_allCoins cX1_allCoins 3 (some .int), Cond.methodLink RX1 47 yX1_leastNeeded, Cond.instanceMethod yX1_leastNeeded, Cond.selects RX1 yX1_leastNeeded yX1_leastNeeded, Cond.code yX1_leastNeeded cX1_leastNeeded 4 (some .int)]
def wsX4_canPay : List Cond := .code yX4_canPay cX4_canPay 1 (some .boolean) :: ((wsX4_canPay_r1 ++ (wsX4_canPay_r2 ++ (wsX4_canPay_r3 ++ wsX4_canPay_r4))) ++ wsX40 ++ wsX20 ++ wsX10 ++ wsX00 ++ (vx_atS RX4 61 "java/lang/IllegalStateException" ["java/lang/RuntimeException", "java/lang/Exception"]).filter goodWord)
def wsX4_weakest_r1 : List Cond := [Cond.fieldLink RX4 44 "Topplemoor" "money" "LTopplemoor$Money;", Cond.methodLink RX4 111 yX4_requireFast, Cond.instanceMethod yX4_requireFast, Cond.selects RX4 yX4_requireFast yX4_requireFast, Cond.initialized RX4, Cond.code yX4_requireFast cX4_requireFast 1 none, Cond.classLink RX4 57 "java/lang/IllegalStateException", Cond.initialized "java/lang/IllegalStateException", Cond.fieldLink RX4 10 "Topplemoor" "moor" "LTopplemoor$Moor;", Cond.methodLink RX4 218 yX2_isFast, Cond.instanceMethod yX2_isFast, Cond.selects RX2 yX2_isFast yX2_isFast, Cond.initialized RX2, Cond.code yX2_isFast cX2_isFast 4 (some .boolean), Cond.fieldLink RX2 25 "Topplemoor$Moor" "spots" "I", Cond.methodLink RX2 33 yX2_edgesInto, Cond.instanceMethod yX2_edgesInto, Cond.selects RX2 yX2_edgesInto yX2_edgesInto, Cond.code yX2_edgesInto cX2_edgesInto 5 (some .int), Cond.fieldLink RX2 11 "Topplemoor$Moor" "edges" "[[I", Cond.methodLink RX2 37 yJ6_bitCount_0f7a4, Cond.static yJ6_bitCount_0f7a4, Cond.initialized RJ6, Cond.code yJ6_bitCount_0f7a4 cJ6_bitCount_0f7a4 1 (some .int)]
def wsX4_weakest_r2 : List Cond := [Cond.constant RJ6 265 (1431655765), Cond.constant RJ6 266 (858993459), Cond.constant RJ6 267 (252645135), Cond.methodLink RX4 203 yX1_weakestNode, Cond.instanceMethod yX1_weakestNode, Cond.selects RX1 yX1_weakestNode yX1_weakestNode, Cond.initialized RX1, Cond.code yX1_weakestNode cX1_weakestNode 3 (some .int), Cond.fieldLink RX1 15 "Topplemoor$Money" "moor" "LTopplemoor$Moor;", Cond.fieldLink RX1 51 "Topplemoor$Moor" "spots" "I", Cond.fieldLink RX1 28 "Topplemoor$Money" "poorer" "LTopplemoor$Heap;", Cond.fieldLink RX1 24 "Topplemoor$Money" "lasting" "LTopplemoor$Heap;", Cond.fieldLink RX1 55 "Topplemoor$Heap" "grains" "[I", Cond.methodLink RX1 40 yX1_findLasting, Cond.instanceMethod yX1_findLasting, Cond.selects RX1 yX1_findLasting yX1_findLasting, Cond.code yX1_findLasting cX1_findLasting 3 none, Cond.fieldLink RX1 9 "Topplemoor$Money" "coins" "[I", Cond.constant RX1 68 (1000000), Cond.methodLink RX1 65 yX1_readOtherWay, Cond.instanceMethod yX1_readOtherWay, Cond.selects RX1 yX1_readOtherWay yX1_readOtherWay, Cond.code yX1_readOtherWay cX1_readOtherWay 2 none, Cond.fieldLink RX1 31 "Topplemoor$Moor" "degrees" "[I"]
def wsX4_weakest_r3 : List Cond := [Cond.methodLink RX1 62 yX0_roll, Cond.instanceMethod yX0_roll, Cond.selects RX0 yX0_roll yX0_roll, Cond.initialized RX0, Cond.code yX0_roll cX0_roll 3 none, Cond.fieldLink RX0 15 "Topplemoor$Heap" "times" "[I", Cond.constant RX0 51 (1000000), Cond.methodLink RX0 45 yJ7_fill_53178, Cond.static yJ7_fill_53178, Cond.initialized RJ7, Cond.code yJ7_fill_53178 cJ7_fill_53178 4 none, Cond.methodLink RX0 52 yX0_rollRound, Cond.instanceMethod yX0_rollRound, Cond.selects RX0 yX0_rollRound yX0_rollRound, Cond.code yX0_rollRound cX0_rollRound 5 (some .boolean), Cond.fieldLink RX0 18 "Topplemoor$Heap" "moor" "LTopplemoor$Moor;", Cond.fieldLink RX0 28 "Topplemoor$Moor" "spots" "I", Cond.fieldLink RX0 38 "Topplemoor$Moor" "degrees" "[I", Cond.fieldLink RX0 9 "Topplemoor$Heap" "grains" "[I", Cond.methodLink RX0 56 yX0_tip, Cond.instanceMethod yX0_tip, Cond.selects RX0 yX0_tip yX0_tip, Cond.code yX0_tip cX0_tip 4 none, Cond.fieldLink RX0 34 "Topplemoor$Moor" "edges" "[[I"]
def wsX4_weakest_r4 : List Cond := [Cond.methodLink RX1 69 yX0_addFromSink, Cond.instanceMethod yX0_addFromSink, Cond.selects RX0 yX0_addFromSink yX0_addFromSink, Cond.code yX0_addFromSink cX0_addFromSink 2 none, Cond.methodLink RX1 72 yX0_hasEachToppledOnce, Cond.instanceMethod yX0_hasEachToppledOnce, Cond.selects RX0 yX0_hasEachToppledOnce yX0_hasEachToppledOnce, Cond.code yX0_hasEachToppledOnce cX0_hasEachToppledOnce 2 (some .boolean), Cond.methodLink RX1 43 yX1_allCoins, Cond.instanceMethod yX1_allCoins, Cond.selects RX1 yX1_allCoins yX1_allCoins, Cond.code yX1_allCoins cX1_allCoins 3 (some .int), Cond.methodLink RX1 58 yX0_copyRow, Cond.instanceMethod yX0_copyRow, Cond.selects RX0 yX0_copyRow yX0_copyRow, Cond.code yX0_copyRow cX0_copyRow 2 none, Cond.methodLink RX0 22 arraycopyName, Cond.native arraycopyName, Cond.static arraycopyName, Cond.initialized "java/lang/System", Cond.methodLink RX1 47 yX1_leastNeeded, Cond.instanceMethod yX1_leastNeeded, Cond.selects RX1 yX1_leastNeeded yX1_leastNeeded, Cond.code yX1_leastNeeded cX1_leastNeeded 4 (some .int)]
def wsX4_weakest : List Cond := .code yX4_weakest cX4_weakest 1 (some .int) :: ((wsX4_weakest_r1 ++ (wsX4_weakest_r2 ++ (wsX4_weakest_r3 ++ wsX4_weakest_r4))) ++ wsX40 ++ wsX20 ++ wsX10 ++ wsX00 ++ (vx_atS RX4 61 "java/lang/IllegalStateException" ["java/lang/RuntimeException", "java/lang/Exception"]).filter goodWord)
def wsX4_digestNode : List Cond := .code yX4_digestNode cX4_digestNode 7 (some .long) :: ([.constantLong RX4 208 (31), .fieldLink RX4 44 "Topplemoor" "money" "LTopplemoor$Money;", .fieldLink RX4 149 "Topplemoor$Money" "coins" "[I", .fieldLink RX4 10 "Topplemoor" "moor" "LTopplemoor$Moor;", .fieldLink RX4 53 "Topplemoor$Moor" "spots" "I", .fieldLink RX4 77 "Topplemoor$Moor" "edges" "[[I"] ++ wsX40 ++ wsX10 ++ wsX20)
def wsX4_digestKept : List Cond := .code yX4_digestKept cX4_digestKept 7 (some .long) :: ([.fieldLink RX4 118 "Topplemoor" "keptMany" "I", .fieldLink RX4 10 "Topplemoor" "moor" "LTopplemoor$Moor;", .fieldLink RX4 53 "Topplemoor$Moor" "spots" "I", .constantLong RX4 208 (31), .fieldLink RX4 50 "Topplemoor" "keptHeaps" "[[I"] ++ wsX40 ++ wsX20)
def wsX4_digestFast_r1 : List Cond := [Cond.constantLong RX4 208 (31), Cond.fieldLink RX4 28 "Topplemoor" "neutralHeap" "LTopplemoor$Heap;", Cond.fieldLink RX4 10 "Topplemoor" "moor" "LTopplemoor$Moor;", Cond.fieldLink RX4 53 "Topplemoor$Moor" "spots" "I", Cond.fieldLink RX4 89 "Topplemoor$Heap" "grains" "[I", Cond.fieldLink RX4 25 "Topplemoor" "trial" "LTopplemoor$Heap;", Cond.fieldLink RX4 44 "Topplemoor" "money" "LTopplemoor$Money;", Cond.methodLink RX4 180 yX4_liesLasting, Cond.instanceMethod yX4_liesLasting, Cond.selects RX4 yX4_liesLasting yX4_liesLasting, Cond.initialized RX4, Cond.code yX4_liesLasting cX4_liesLasting 1 (some .boolean), Cond.fieldLink RX4 21 "Topplemoor" "lying" "LTopplemoor$Heap;", Cond.methodLink RX4 243 yX0_steepSet, Cond.instanceMethod yX0_steepSet, Cond.selects RX0 yX0_steepSet yX0_steepSet, Cond.initialized RX0, Cond.code yX0_steepSet cX0_steepSet 3 (some .int), Cond.fieldLink RX0 18 "Topplemoor$Heap" "moor" "LTopplemoor$Moor;", Cond.fieldLink RX0 28 "Topplemoor$Moor" "spots" "I", Cond.methodLink RX0 41 yX0_isSteep, Cond.instanceMethod yX0_isSteep, Cond.selects RX0 yX0_isSteep yX0_isSteep, Cond.code yX0_isSteep cX0_isSteep 2 (some .boolean)]
def wsX4_digestFast_r2 : List Cond := [Cond.fieldLink RX0 38 "Topplemoor$Moor" "degrees" "[I", Cond.fieldLink RX0 9 "Topplemoor$Heap" "grains" "[I", Cond.methodLink RX4 190 yX0_copyRow, Cond.instanceMethod yX0_copyRow, Cond.selects RX0 yX0_copyRow yX0_copyRow, Cond.code yX0_copyRow cX0_copyRow 2 none, Cond.methodLink RX0 22 arraycopyName, Cond.native arraycopyName, Cond.static arraycopyName, Cond.initialized "java/lang/System", Cond.methodLink RX4 246 yX0_addFromSink, Cond.instanceMethod yX0_addFromSink, Cond.selects RX0 yX0_addFromSink yX0_addFromSink, Cond.code yX0_addFromSink cX0_addFromSink 2 none, Cond.fieldLink RX0 34 "Topplemoor$Moor" "edges" "[[I", Cond.methodLink RX4 193 yX0_roll, Cond.instanceMethod yX0_roll, Cond.selects RX0 yX0_roll yX0_roll, Cond.code yX0_roll cX0_roll 3 none, Cond.fieldLink RX0 15 "Topplemoor$Heap" "times" "[I", Cond.constant RX0 51 (1000000), Cond.methodLink RX0 45 yJ7_fill_53178, Cond.static yJ7_fill_53178, Cond.initialized RJ7]
def wsX4_digestFast_r3 : List Cond := [Cond.code yJ7_fill_53178 cJ7_fill_53178 4 none, Cond.methodLink RX0 52 yX0_rollRound, Cond.instanceMethod yX0_rollRound, Cond.selects RX0 yX0_rollRound yX0_rollRound, Cond.code yX0_rollRound cX0_rollRound 5 (some .boolean), Cond.methodLink RX0 56 yX0_tip, Cond.instanceMethod yX0_tip, Cond.selects RX0 yX0_tip yX0_tip, Cond.code yX0_tip cX0_tip 4 none, Cond.methodLink RX4 249 yX0_hasEachToppledOnce, Cond.instanceMethod yX0_hasEachToppledOnce, Cond.selects RX0 yX0_hasEachToppledOnce yX0_hasEachToppledOnce, Cond.code yX0_hasEachToppledOnce cX0_hasEachToppledOnce 2 (some .boolean), Cond.methodLink RX4 184 yX0_becomeNeutral, Cond.instanceMethod yX0_becomeNeutral, Cond.selects RX0 yX0_becomeNeutral yX0_becomeNeutral, Cond.code yX0_becomeNeutral cX0_becomeNeutral 2 none, Cond.methodLink RX0 60 yX0_roll, Cond.methodLink RX4 168 yX4_rollTrialWith, Cond.instanceMethod yX4_rollTrialWith, Cond.selects RX4 yX4_rollTrialWith yX4_rollTrialWith, Cond.code yX4_rollTrialWith cX4_rollTrialWith 3 none, Cond.methodLink RX4 171 yX0_allTimes, Cond.instanceMethod yX0_allTimes]
def wsX4_digestFast_r4 : List Cond := [Cond.selects RX0 yX0_allTimes yX0_allTimes, Cond.code yX0_allTimes cX0_allTimes 3 (some .int), Cond.methodLink RX4 200 yX1_isPayable, Cond.instanceMethod yX1_isPayable, Cond.selects RX1 yX1_isPayable yX1_isPayable, Cond.initialized RX1, Cond.code yX1_isPayable cX1_isPayable 1 (some .boolean), Cond.fieldLink RX1 24 "Topplemoor$Money" "lasting" "LTopplemoor$Heap;", Cond.methodLink RX1 40 yX1_findLasting, Cond.instanceMethod yX1_findLasting, Cond.selects RX1 yX1_findLasting yX1_findLasting, Cond.code yX1_findLasting cX1_findLasting 3 none, Cond.fieldLink RX1 15 "Topplemoor$Money" "moor" "LTopplemoor$Moor;", Cond.fieldLink RX1 51 "Topplemoor$Moor" "spots" "I", Cond.fieldLink RX1 55 "Topplemoor$Heap" "grains" "[I", Cond.fieldLink RX1 9 "Topplemoor$Money" "coins" "[I", Cond.constant RX1 68 (1000000), Cond.methodLink RX1 65 yX1_readOtherWay, Cond.instanceMethod yX1_readOtherWay, Cond.selects RX1 yX1_readOtherWay yX1_readOtherWay, Cond.code yX1_readOtherWay cX1_readOtherWay 2 none, Cond.fieldLink RX1 31 "Topplemoor$Moor" "degrees" "[I", Cond.methodLink RX1 62 yX0_roll, Cond.methodLink RX1 69 yX0_addFromSink]
def wsX4_digestFast_r5 : List Cond := [Cond.methodLink RX1 72 yX0_hasEachToppledOnce, Cond.methodLink RX1 43 yX1_allCoins, Cond.instanceMethod yX1_allCoins, Cond.selects RX1 yX1_allCoins yX1_allCoins, Cond.code yX1_allCoins cX1_allCoins 3 (some .int), Cond.methodLink RX1 47 yX1_leastNeeded, Cond.instanceMethod yX1_leastNeeded, Cond.selects RX1 yX1_leastNeeded yX1_leastNeeded, Cond.code yX1_leastNeeded cX1_leastNeeded 4 (some .int), Cond.methodLink RX4 203 yX1_weakestNode, Cond.instanceMethod yX1_weakestNode, Cond.selects RX1 yX1_weakestNode yX1_weakestNode, Cond.code yX1_weakestNode cX1_weakestNode 3 (some .int), Cond.fieldLink RX1 28 "Topplemoor$Money" "poorer" "LTopplemoor$Heap;", Cond.methodLink RX1 58 yX0_copyRow]
def wsX4_digestFast : List Cond := .code yX4_digestFast cX4_digestFast 6 (some .long) :: ((wsX4_digestFast_r1 ++ (wsX4_digestFast_r2 ++ (wsX4_digestFast_r3 ++ (wsX4_digestFast_r4 ++ wsX4_digestFast_r5)))) ++ wsX40 ++ wsX20 ++ wsX00 ++ wsX10)
def wsX4_digest_r1 : List Cond := [Cond.constantLong RX4 206 (58310), Cond.constantLong RX4 208 (31), Cond.fieldLink RX4 10 "Topplemoor" "moor" "LTopplemoor$Moor;", Cond.fieldLink RX4 53 "Topplemoor$Moor" "spots" "I", Cond.fieldLink RX4 21 "Topplemoor" "lying" "LTopplemoor$Heap;", Cond.methodLink RX4 159 yX4_manyValue, Cond.instanceMethod yX4_manyValue, Cond.selects RX4 yX4_manyValue yX4_manyValue, Cond.initialized RX4, Cond.code yX4_manyValue cX4_manyValue 2 (some .int), Cond.fieldLink RX4 108 "Topplemoor" "swallowed" "I", Cond.fieldLink RX4 105 "Topplemoor" "topples" "I", Cond.fieldLink RX4 118 "Topplemoor" "keptMany" "I", Cond.fieldLink RX4 44 "Topplemoor" "money" "LTopplemoor$Money;", Cond.fieldLink RX4 37 "Topplemoor" "rotors" "LTopplemoor$Rotors;", Cond.fieldLink RX4 273 "Topplemoor$Rotors" "steps" "I", Cond.methodLink RX4 264 yX2_allEdges, Cond.instanceMethod yX2_allEdges, Cond.selects RX2 yX2_allEdges yX2_allEdges, Cond.initialized RX2, Cond.code yX2_allEdges cX2_allEdges 3 (some .int), Cond.fieldLink RX2 16 "Topplemoor$Moor" "degrees" "[I", Cond.methodLink RX4 136 yX0_allGrains, Cond.instanceMethod yX0_allGrains]
def wsX4_digest_r2 : List Cond := [Cond.selects RX0 yX0_allGrains yX0_allGrains, Cond.initialized RX0, Cond.code yX0_allGrains cX0_allGrains 3 (some .int), Cond.fieldLink RX0 18 "Topplemoor$Heap" "moor" "LTopplemoor$Moor;", Cond.fieldLink RX0 28 "Topplemoor$Moor" "spots" "I", Cond.fieldLink RX0 9 "Topplemoor$Heap" "grains" "[I", Cond.methodLink RX4 171 yX0_allTimes, Cond.instanceMethod yX0_allTimes, Cond.selects RX0 yX0_allTimes yX0_allTimes, Cond.code yX0_allTimes cX0_allTimes 3 (some .int), Cond.fieldLink RX0 15 "Topplemoor$Heap" "times" "[I", Cond.methodLink RX4 243 yX0_steepSet, Cond.instanceMethod yX0_steepSet, Cond.selects RX0 yX0_steepSet yX0_steepSet, Cond.code yX0_steepSet cX0_steepSet 3 (some .int), Cond.methodLink RX0 41 yX0_isSteep, Cond.instanceMethod yX0_isSteep, Cond.selects RX0 yX0_isSteep yX0_isSteep, Cond.code yX0_isSteep cX0_isSteep 2 (some .boolean), Cond.fieldLink RX0 38 "Topplemoor$Moor" "degrees" "[I", Cond.methodLink RX4 218 yX2_isFast, Cond.instanceMethod yX2_isFast, Cond.selects RX2 yX2_isFast yX2_isFast, Cond.code yX2_isFast cX2_isFast 4 (some .boolean)]
def wsX4_digest_r3 : List Cond := [Cond.fieldLink RX2 25 "Topplemoor$Moor" "spots" "I", Cond.methodLink RX2 33 yX2_edgesInto, Cond.instanceMethod yX2_edgesInto, Cond.selects RX2 yX2_edgesInto yX2_edgesInto, Cond.code yX2_edgesInto cX2_edgesInto 5 (some .int), Cond.fieldLink RX2 11 "Topplemoor$Moor" "edges" "[[I", Cond.methodLink RX2 37 yJ6_bitCount_0f7a4, Cond.static yJ6_bitCount_0f7a4, Cond.initialized RJ6, Cond.code yJ6_bitCount_0f7a4 cJ6_bitCount_0f7a4 1 (some .int), Cond.constant RJ6 265 (1431655765), Cond.constant RJ6 266 (858993459), Cond.constant RJ6 267 (252645135), Cond.methodLink RX4 267 yX1_allCoins, Cond.instanceMethod yX1_allCoins, Cond.selects RX1 yX1_allCoins yX1_allCoins, Cond.initialized RX1, Cond.code yX1_allCoins cX1_allCoins 3 (some .int), Cond.fieldLink RX1 9 "Topplemoor$Money" "coins" "[I", Cond.methodLink RX4 270 yX1_debtors, Cond.instanceMethod yX1_debtors, Cond.selects RX1 yX1_debtors yX1_debtors, Cond.code yX1_debtors cX1_debtors 3 (some .int), Cond.methodLink RX4 276 yX3_areTree]
def wsX4_digest_r4 : List Cond := [Cond.instanceMethod yX3_areTree, Cond.selects RX3 yX3_areTree yX3_areTree, Cond.initialized RX3, Cond.code yX3_areTree cX3_areTree 2 (some .boolean), Cond.fieldLink RX3 15 "Topplemoor$Rotors" "moor" "LTopplemoor$Moor;", Cond.fieldLink RX3 45 "Topplemoor$Moor" "spots" "I", Cond.methodLink RX3 48 yX3_leadsToSink, Cond.instanceMethod yX3_leadsToSink, Cond.selects RX3 yX3_leadsToSink yX3_leadsToSink, Cond.code yX3_leadsToSink cX3_leadsToSink 4 (some .boolean), Cond.methodLink RX3 19 yX2_isSpot, Cond.instanceMethod yX2_isSpot, Cond.selects RX2 yX2_isSpot yX2_isSpot, Cond.code yX2_isSpot cX2_isSpot 2 (some .boolean), Cond.methodLink RX3 34 yX3_pointedFrom, Cond.instanceMethod yX3_pointedFrom, Cond.selects RX3 yX3_pointedFrom yX3_pointedFrom, Cond.code yX3_pointedFrom cX3_pointedFrom 2 (some .int), Cond.fieldLink RX3 9 "Topplemoor$Rotors" "places" "[I", Cond.methodLink RX3 25 yX2_neighbourAt, Cond.instanceMethod yX2_neighbourAt, Cond.selects RX2 yX2_neighbourAt yX2_neighbourAt, Cond.code yX2_neighbourAt cX2_neighbourAt 5 (some .int), Cond.methodLink RX4 155 yX4_spotValue]
def wsX4_digest_r5 : List Cond := [Cond.instanceMethod yX4_spotValue, Cond.selects RX4 yX4_spotValue yX4_spotValue, Cond.code yX4_spotValue cX4_spotValue 3 (some .int), Cond.fieldLink RX4 89 "Topplemoor$Heap" "grains" "[I", Cond.fieldLink RX4 252 "Topplemoor$Moor" "degrees" "[I", Cond.fieldLink RX4 77 "Topplemoor$Moor" "edges" "[[I", Cond.fieldLink RX4 255 "Topplemoor$Heap" "times" "[I", Cond.fieldLink RX4 258 "Topplemoor$Rotors" "places" "[I", Cond.methodLink RX4 95 yX0_isSteep, Cond.methodLink RX4 261 yX3_pointedFrom, Cond.methodLink RX4 210 yX4_digestNode, Cond.instanceMethod yX4_digestNode, Cond.selects RX4 yX4_digestNode yX4_digestNode, Cond.code yX4_digestNode cX4_digestNode 7 (some .long), Cond.fieldLink RX4 149 "Topplemoor$Money" "coins" "[I", Cond.methodLink RX4 214 yX4_digestKept, Cond.instanceMethod yX4_digestKept, Cond.selects RX4 yX4_digestKept yX4_digestKept, Cond.code yX4_digestKept cX4_digestKept 7 (some .long), Cond.fieldLink RX4 50 "Topplemoor" "keptHeaps" "[[I", Cond.methodLink RX4 162 yX2_trees, Cond.instanceMethod yX2_trees, Cond.selects RX2 yX2_trees yX2_trees, Cond.code yX2_trees cX2_trees 4 (some .long)]
def wsX4_digest_r6 : List Cond := [Cond.fieldLink RX2 22 "Topplemoor$Moor" "table" "[[J", Cond.methodLink RX2 43 yX2_fillTable, Cond.instanceMethod yX2_fillTable, Cond.selects RX2 yX2_fillTable yX2_fillTable, Cond.code yX2_fillTable cX2_fillTable 3 none, Cond.methodLink RX2 46 yX2_eliminate, Cond.instanceMethod yX2_eliminate, Cond.selects RX2 yX2_eliminate yX2_eliminate, Cond.code yX2_eliminate cX2_eliminate 10 none, Cond.methodLink RX4 187 yX0_burningOrder, Cond.instanceMethod yX0_burningOrder, Cond.selects RX0 yX0_burningOrder yX0_burningOrder, Cond.code yX0_burningOrder cX0_burningOrder 5 (some .int), Cond.methodLink RX0 63 yX0_nextToBurn, Cond.instanceMethod yX0_nextToBurn, Cond.selects RX0 yX0_nextToBurn yX0_nextToBurn, Cond.code yX0_nextToBurn cX0_nextToBurn 4 (some .int), Cond.methodLink RX0 67 yX2_edgesInto, Cond.methodLink RX4 221 yX4_digestFast, Cond.instanceMethod yX4_digestFast, Cond.selects RX4 yX4_digestFast yX4_digestFast, Cond.code yX4_digestFast cX4_digestFast 6 (some .long), Cond.fieldLink RX4 28 "Topplemoor" "neutralHeap" "LTopplemoor$Heap;", Cond.fieldLink RX4 25 "Topplemoor" "trial" "LTopplemoor$Heap;"]
def wsX4_digest_r7 : List Cond := [Cond.methodLink RX4 180 yX4_liesLasting, Cond.instanceMethod yX4_liesLasting, Cond.selects RX4 yX4_liesLasting yX4_liesLasting, Cond.code yX4_liesLasting cX4_liesLasting 1 (some .boolean), Cond.methodLink RX4 190 yX0_copyRow, Cond.instanceMethod yX0_copyRow, Cond.selects RX0 yX0_copyRow yX0_copyRow, Cond.code yX0_copyRow cX0_copyRow 2 none, Cond.methodLink RX0 22 arraycopyName, Cond.native arraycopyName, Cond.static arraycopyName, Cond.initialized "java/lang/System", Cond.methodLink RX4 246 yX0_addFromSink, Cond.instanceMethod yX0_addFromSink, Cond.selects RX0 yX0_addFromSink yX0_addFromSink, Cond.code yX0_addFromSink cX0_addFromSink 2 none, Cond.fieldLink RX0 34 "Topplemoor$Moor" "edges" "[[I", Cond.methodLink RX4 193 yX0_roll, Cond.instanceMethod yX0_roll, Cond.selects RX0 yX0_roll yX0_roll, Cond.code yX0_roll cX0_roll 3 none, Cond.constant RX0 51 (1000000), Cond.methodLink RX0 45 yJ7_fill_53178, Cond.static yJ7_fill_53178]
def wsX4_digest_r8 : List Cond := [Cond.initialized RJ7, Cond.code yJ7_fill_53178 cJ7_fill_53178 4 none, Cond.methodLink RX0 52 yX0_rollRound, Cond.instanceMethod yX0_rollRound, Cond.selects RX0 yX0_rollRound yX0_rollRound, Cond.code yX0_rollRound cX0_rollRound 5 (some .boolean), Cond.methodLink RX0 56 yX0_tip, Cond.instanceMethod yX0_tip, Cond.selects RX0 yX0_tip yX0_tip, Cond.code yX0_tip cX0_tip 4 none, Cond.methodLink RX4 249 yX0_hasEachToppledOnce, Cond.instanceMethod yX0_hasEachToppledOnce, Cond.selects RX0 yX0_hasEachToppledOnce yX0_hasEachToppledOnce, Cond.code yX0_hasEachToppledOnce cX0_hasEachToppledOnce 2 (some .boolean), Cond.methodLink RX4 184 yX0_becomeNeutral, Cond.instanceMethod yX0_becomeNeutral, Cond.selects RX0 yX0_becomeNeutral yX0_becomeNeutral, Cond.code yX0_becomeNeutral cX0_becomeNeutral 2 none, Cond.methodLink RX0 60 yX0_roll, Cond.methodLink RX4 168 yX4_rollTrialWith, Cond.instanceMethod yX4_rollTrialWith, Cond.selects RX4 yX4_rollTrialWith yX4_rollTrialWith, Cond.code yX4_rollTrialWith cX4_rollTrialWith 3 none, Cond.methodLink RX4 200 yX1_isPayable]
def wsX4_digest_r9 : List Cond := [Cond.instanceMethod yX1_isPayable, Cond.selects RX1 yX1_isPayable yX1_isPayable, Cond.code yX1_isPayable cX1_isPayable 1 (some .boolean), Cond.fieldLink RX1 24 "Topplemoor$Money" "lasting" "LTopplemoor$Heap;", Cond.methodLink RX1 40 yX1_findLasting, Cond.instanceMethod yX1_findLasting, Cond.selects RX1 yX1_findLasting yX1_findLasting, Cond.code yX1_findLasting cX1_findLasting 3 none, Cond.fieldLink RX1 15 "Topplemoor$Money" "moor" "LTopplemoor$Moor;", Cond.fieldLink RX1 51 "Topplemoor$Moor" "spots" "I", Cond.fieldLink RX1 55 "Topplemoor$Heap" "grains" "[I", Cond.constant RX1 68 (1000000), Cond.methodLink RX1 65 yX1_readOtherWay, Cond.instanceMethod yX1_readOtherWay, Cond.selects RX1 yX1_readOtherWay yX1_readOtherWay, Cond.code yX1_readOtherWay cX1_readOtherWay 2 none, Cond.fieldLink RX1 31 "Topplemoor$Moor" "degrees" "[I", Cond.methodLink RX1 62 yX0_roll, Cond.methodLink RX1 69 yX0_addFromSink, Cond.methodLink RX1 72 yX0_hasEachToppledOnce, Cond.methodLink RX1 43 yX1_allCoins, Cond.methodLink RX1 47 yX1_leastNeeded, Cond.instanceMethod yX1_leastNeeded, Cond.selects RX1 yX1_leastNeeded yX1_leastNeeded]
def wsX4_digest_r10 : List Cond := [Cond.code yX1_leastNeeded cX1_leastNeeded 4 (some .int), Cond.methodLink RX4 203 yX1_weakestNode, Cond.instanceMethod yX1_weakestNode, Cond.selects RX1 yX1_weakestNode yX1_weakestNode, Cond.code yX1_weakestNode cX1_weakestNode 3 (some .int), Cond.fieldLink RX1 28 "Topplemoor$Money" "poorer" "LTopplemoor$Heap;", Cond.methodLink RX1 58 yX0_copyRow]
def wsX4_digest : List Cond := .code yX4_digest cX4_digest 5 (some .long) :: ((wsX4_digest_r1 ++ (wsX4_digest_r2 ++ (wsX4_digest_r3 ++ (wsX4_digest_r4 ++ (wsX4_digest_r5 ++ (wsX4_digest_r6 ++ (wsX4_digest_r7 ++ (wsX4_digest_r8 ++ (wsX4_digest_r9 ++ wsX4_digest_r10))))))))) ++ wsX40 ++ wsX20 ++ wsX30 ++ wsX00 ++ wsX10)
def wsJxa1e45_init_da8c8 : List Cond := .code yJxa1e45_init_da8c8 cJxa1e45_init_da8c8 1 none :: ([.methodLink RJxa1e45 1 objectInit, .instanceMethod objectInit, .code objectInit ⟨#[0xb1]⟩ 1 none])
def wsJxc12de_init_da8c8 : List Cond := .code yJxc12de_init_da8c8 cJxc12de_init_da8c8 1 none :: ([.fieldLink RJxc12de 7 "java/util/AbstractList" "modCount" "I", .methodLink RJxc12de 1 yJxa1e45_init_da8c8, .instanceMethod yJxa1e45_init_da8c8, .initialized RJxa1e45, .code yJxa1e45_init_da8c8 cJxa1e45_init_da8c8 1 none, .methodLink RJxa1e45 1 objectInit, .instanceMethod objectInit, .code objectInit ⟨#[0xb1]⟩ 1 none] ++ wsJx4a65c0)
def wsJx4a65c_init_da8c8 : List Cond := .code yJx4a65c_init_da8c8 cJx4a65c_init_da8c8 1 none :: ([.fieldLink RJx4a65c 39 "java/util/ArrayList" "DEFAULTCAPACITY_EMPTY_ELEMENTDATA" "[Ljava/lang/Object;", .fieldLink RJx4a65c 9 "java/util/ArrayList" "elementData" "[Ljava/lang/Object;", .methodLink RJx4a65c 1 yJxc12de_init_da8c8, .instanceMethod yJxc12de_init_da8c8, .initialized RJxc12de, .code yJxc12de_init_da8c8 cJxc12de_init_da8c8 1 none, .fieldLink RJxc12de 7 "java/util/AbstractList" "modCount" "I", .methodLink RJxc12de 1 yJxa1e45_init_da8c8, .instanceMethod yJxa1e45_init_da8c8, .initialized RJxa1e45, .code yJxa1e45_init_da8c8 cJxa1e45_init_da8c8 1 none, .methodLink RJxa1e45 1 objectInit, .instanceMethod objectInit, .code objectInit ⟨#[0xb1]⟩ 1 none] ++ wsJx4a65c0)
def wsX5_init_r1 : List Cond := [Cond.methodLink RX5 1 objectInit, Cond.instanceMethod objectInit, Cond.code objectInit ⟨#[0xb1]⟩ 1 none, Cond.classLink RX5 9 "[[I", Cond.arrayClass .int, Cond.fieldLink RX5 11 "TopplemoorModel" "edges" "[[I", Cond.fieldLink RX5 14 "TopplemoorModel" "grains" "[I", Cond.fieldLink RX5 18 "TopplemoorModel" "avalanche" "[I", Cond.fieldLink RX5 21 "TopplemoorModel" "rotors" "[I", Cond.fieldLink RX5 24 "TopplemoorModel" "coins" "[I", Cond.classLink RX5 27 RJx4a65c, Cond.instantiable RJx4a65c 3, Cond.initialized RJx4a65c, Cond.fieldLink RX5 30 "TopplemoorModel" "kept" "Ljava/util/ArrayList;", Cond.methodLink RX5 29 yJx4a65c_init_da8c8, Cond.instanceMethod yJx4a65c_init_da8c8, Cond.code yJx4a65c_init_da8c8 cJx4a65c_init_da8c8 1 none, Cond.fieldLink RJx4a65c 39 "java/util/ArrayList" "DEFAULTCAPACITY_EMPTY_ELEMENTDATA" "[Ljava/lang/Object;", Cond.fieldLink RJx4a65c 9 "java/util/ArrayList" "elementData" "[Ljava/lang/Object;", Cond.methodLink RJx4a65c 1 yJxc12de_init_da8c8, Cond.instanceMethod yJxc12de_init_da8c8, Cond.initialized RJxc12de, Cond.code yJxc12de_init_da8c8 cJxc12de_init_da8c8 1 none, Cond.fieldLink RJxc12de 7 "java/util/AbstractList" "modCount" "I"]
def wsX5_init_r2 : List Cond := [Cond.methodLink RJxc12de 1 yJxa1e45_init_da8c8, Cond.instanceMethod yJxa1e45_init_da8c8, Cond.initialized RJxa1e45, Cond.code yJxa1e45_init_da8c8 cJxa1e45_init_da8c8 1 none, Cond.methodLink RJxa1e45 1 objectInit]
def wsX5_init : List Cond := .code yX5_init cX5_init 1 none :: ((wsX5_init_r1 ++ wsX5_init_r2) ++ wsX50 ++ wsJx4a65c0)
def wsX5_thrown : List Cond := .code yX5_thrown cX5_thrown 1 (some .int) :: ([.fieldLink RX5 34 "TopplemoorModel" "thrown" "I"] ++ wsX50)
def wsX5_refuse : List Cond := .code yX5_refuse cX5_refuse 3 (some .boolean) :: ([.fieldLink RX5 34 "TopplemoorModel" "thrown" "I"] ++ wsX50)
def wsX5_start : List Cond := .code yX5_start cX5_start 3 (some .boolean) :: ([.fieldLink RX5 34 "TopplemoorModel" "thrown" "I", .methodLink RX5 38 yX5_refuse, .instanceMethod yX5_refuse, .selects RX5 yX5_refuse yX5_refuse, .initialized RX5, .code yX5_refuse cX5_refuse 3 (some .boolean)] ++ wsX50)
def wsX5_isIn : List Cond := .code yX5_isIn cX5_isIn 3 (some .boolean) :: ([])
def wsX5_one : List Cond := .code yX5_one cX5_one 1 (some .int) :: ([])
def wsX5_isNoSpot : List Cond := .code yX5_isNoSpot cX5_isNoSpot 2 (some .boolean) :: ([.fieldLink RX5 42 "TopplemoorModel" "spots" "I", .methodLink RX5 45 yX5_isIn, .static yX5_isIn, .initialized RX5, .code yX5_isIn cX5_isIn 3 (some .boolean)] ++ wsX50)
def wsX5_isNoNode : List Cond := .code yX5_isNoNode cX5_isNoNode 2 (some .boolean) :: ([.methodLink RX5 49 yX5_isNoSpot, .instanceMethod yX5_isNoSpot, .selects RX5 yX5_isNoSpot yX5_isNoSpot, .initialized RX5, .code yX5_isNoSpot cX5_isNoSpot 2 (some .boolean), .fieldLink RX5 42 "TopplemoorModel" "spots" "I", .methodLink RX5 45 yX5_isIn, .static yX5_isIn, .code yX5_isIn cX5_isIn 3 (some .boolean)] ++ wsX50)
def wsX5_degree : List Cond := .code yX5_degree cX5_degree 7 (some .int) :: ([.fieldLink RX5 11 "TopplemoorModel" "edges" "[[I"] ++ wsX50)
def wsX5_isFast : List Cond := .code yX5_isFast cX5_isFast 5 (some .boolean) :: ([.arrayClass .boolean, .fieldLink RX5 11 "TopplemoorModel" "edges" "[[I", .fieldLink RX5 42 "TopplemoorModel" "spots" "I"] ++ wsX50)
def wsX5_spot : List Cond := .code yX5_spot cX5_spot 1 (some .int) :: ([.fieldLink RX5 42 "TopplemoorModel" "spots" "I", .methodLink RX5 53 yX5_start, .instanceMethod yX5_start, .selects RX5 yX5_start yX5_start, .initialized RX5, .code yX5_start cX5_start 3 (some .boolean), .fieldLink RX5 34 "TopplemoorModel" "thrown" "I", .methodLink RX5 38 yX5_refuse, .instanceMethod yX5_refuse, .selects RX5 yX5_refuse yX5_refuse, .code yX5_refuse cX5_refuse 3 (some .boolean)] ++ wsX50)
def wsX5_edge : List Cond := .code yX5_edge cX5_edge 5 (some .int) :: ([.fieldLink RX5 11 "TopplemoorModel" "edges" "[[I", .fieldLink RX5 21 "TopplemoorModel" "rotors" "[I", .methodLink RX5 56 yX5_isNoNode, .instanceMethod yX5_isNoNode, .selects RX5 yX5_isNoNode yX5_isNoNode, .initialized RX5, .code yX5_isNoNode cX5_isNoNode 2 (some .boolean), .methodLink RX5 49 yX5_isNoSpot, .instanceMethod yX5_isNoSpot, .selects RX5 yX5_isNoSpot yX5_isNoSpot, .code yX5_isNoSpot cX5_isNoSpot 2 (some .boolean), .fieldLink RX5 42 "TopplemoorModel" "spots" "I", .methodLink RX5 45 yX5_isIn, .static yX5_isIn, .code yX5_isIn cX5_isIn 3 (some .boolean), .methodLink RX5 53 yX5_start, .instanceMethod yX5_start, .selects RX5 yX5_start yX5_start, .code yX5_start cX5_start 3 (some .boolean), .fieldLink RX5 34 "TopplemoorModel" "thrown" "I", .methodLink RX5 38 yX5_refuse, .instanceMethod yX5_refuse, .selects RX5 yX5_refuse yX5_refuse, .code yX5_refuse cX5_refuse 3 (some .boolean)] ++ wsX50)
def wsX5_sum : List Cond := .code yX5_sum cX5_sum 6 (some .int) :: ([])
def wsX5_isSteep : List Cond := .code yX5_isSteep cX5_isSteep 3 (some .boolean) :: ([.methodLink RX5 59 yX5_degree, .instanceMethod yX5_degree, .selects RX5 yX5_degree yX5_degree, .initialized RX5, .code yX5_degree cX5_degree 7 (some .int), .fieldLink RX5 11 "TopplemoorModel" "edges" "[[I"] ++ wsX50)
def wsX5_steepest : List Cond := .code yX5_steepest cX5_steepest 3 (some .int) :: ([.fieldLink RX5 42 "TopplemoorModel" "spots" "I", .methodLink RX5 63 yX5_isSteep, .instanceMethod yX5_isSteep, .selects RX5 yX5_isSteep yX5_isSteep, .initialized RX5, .code yX5_isSteep cX5_isSteep 3 (some .boolean), .methodLink RX5 59 yX5_degree, .instanceMethod yX5_degree, .selects RX5 yX5_degree yX5_degree, .code yX5_degree cX5_degree 7 (some .int), .fieldLink RX5 11 "TopplemoorModel" "edges" "[[I"] ++ wsX50)
def wsX5_fall : List Cond := .code yX5_fall cX5_fall 4 none :: ([.fieldLink RX5 42 "TopplemoorModel" "spots" "I", .fieldLink RX5 11 "TopplemoorModel" "edges" "[[I", .methodLink RX5 59 yX5_degree, .instanceMethod yX5_degree, .selects RX5 yX5_degree yX5_degree, .initialized RX5, .code yX5_degree cX5_degree 7 (some .int)] ++ wsX50)
def wsX5_settled : List Cond := .code yX5_settled cX5_settled 4 (some (.array .int)) :: ([.arrayClass .int, .methodLink RX5 67 yX5_steepest, .instanceMethod yX5_steepest, .selects RX5 yX5_steepest yX5_steepest, .initialized RX5, .code yX5_steepest cX5_steepest 3 (some .int), .fieldLink RX5 42 "TopplemoorModel" "spots" "I", .methodLink RX5 63 yX5_isSteep, .instanceMethod yX5_isSteep, .selects RX5 yX5_isSteep yX5_isSteep, .code yX5_isSteep cX5_isSteep 3 (some .boolean), .methodLink RX5 59 yX5_degree, .instanceMethod yX5_degree, .selects RX5 yX5_degree yX5_degree, .code yX5_degree cX5_degree 7 (some .int), .fieldLink RX5 11 "TopplemoorModel" "edges" "[[I", .methodLink RX5 71 yX5_fall, .instanceMethod yX5_fall, .selects RX5 yX5_fall yX5_fall, .code yX5_fall cX5_fall 4 none] ++ wsX50)
def wsX5_swallowedBy : List Cond := .code yX5_swallowedBy cX5_swallowedBy 4 (some .int) :: ([.fieldLink RX5 42 "TopplemoorModel" "spots" "I", .fieldLink RX5 11 "TopplemoorModel" "edges" "[[I"] ++ wsX50)
def wsX5_land : List Cond := .code yX5_land cX5_land 2 (some .int) :: ([.fieldLink RX5 18 "TopplemoorModel" "avalanche" "[I", .fieldLink RX5 75 "TopplemoorModel" "topples" "I", .fieldLink RX5 81 "TopplemoorModel" "swallowed" "I", .methodLink RX5 78 yX5_sum, .static yX5_sum, .initialized RX5, .code yX5_sum cX5_sum 6 (some .int), .methodLink RX5 84 yX5_swallowedBy, .instanceMethod yX5_swallowedBy, .selects RX5 yX5_swallowedBy yX5_swallowedBy, .code yX5_swallowedBy cX5_swallowedBy 4 (some .int), .fieldLink RX5 42 "TopplemoorModel" "spots" "I", .fieldLink RX5 11 "TopplemoorModel" "edges" "[[I"] ++ wsX50)
def wsX5_drop : List Cond := .code yX5_drop cX5_drop 3 (some .int) :: ([.fieldLink RX5 14 "TopplemoorModel" "grains" "[I", .methodLink RX5 49 yX5_isNoSpot, .instanceMethod yX5_isNoSpot, .selects RX5 yX5_isNoSpot yX5_isNoSpot, .initialized RX5, .code yX5_isNoSpot cX5_isNoSpot 2 (some .boolean), .fieldLink RX5 42 "TopplemoorModel" "spots" "I", .methodLink RX5 45 yX5_isIn, .static yX5_isIn, .code yX5_isIn cX5_isIn 3 (some .boolean), .methodLink RX5 53 yX5_start, .instanceMethod yX5_start, .selects RX5 yX5_start yX5_start, .code yX5_start cX5_start 3 (some .boolean), .fieldLink RX5 34 "TopplemoorModel" "thrown" "I", .methodLink RX5 38 yX5_refuse, .instanceMethod yX5_refuse, .selects RX5 yX5_refuse yX5_refuse, .code yX5_refuse cX5_refuse 3 (some .boolean)] ++ wsX50)
def wsX5_topple_r1 : List Cond := [Cond.fieldLink RX5 14 "TopplemoorModel" "grains" "[I", Cond.fieldLink RX5 75 "TopplemoorModel" "topples" "I", Cond.fieldLink RX5 81 "TopplemoorModel" "swallowed" "I", Cond.fieldLink RX5 11 "TopplemoorModel" "edges" "[[I", Cond.methodLink RX5 49 yX5_isNoSpot, Cond.instanceMethod yX5_isNoSpot, Cond.selects RX5 yX5_isNoSpot yX5_isNoSpot, Cond.initialized RX5, Cond.code yX5_isNoSpot cX5_isNoSpot 2 (some .boolean), Cond.fieldLink RX5 42 "TopplemoorModel" "spots" "I", Cond.methodLink RX5 45 yX5_isIn, Cond.static yX5_isIn, Cond.code yX5_isIn cX5_isIn 3 (some .boolean), Cond.methodLink RX5 53 yX5_start, Cond.instanceMethod yX5_start, Cond.selects RX5 yX5_start yX5_start, Cond.code yX5_start cX5_start 3 (some .boolean), Cond.fieldLink RX5 34 "TopplemoorModel" "thrown" "I", Cond.methodLink RX5 38 yX5_refuse, Cond.instanceMethod yX5_refuse, Cond.selects RX5 yX5_refuse yX5_refuse, Cond.code yX5_refuse cX5_refuse 3 (some .boolean), Cond.methodLink RX5 63 yX5_isSteep, Cond.instanceMethod yX5_isSteep]
def wsX5_topple_r2 : List Cond := [Cond.selects RX5 yX5_isSteep yX5_isSteep, Cond.code yX5_isSteep cX5_isSteep 3 (some .boolean), Cond.methodLink RX5 59 yX5_degree, Cond.instanceMethod yX5_degree, Cond.selects RX5 yX5_degree yX5_degree, Cond.code yX5_degree cX5_degree 7 (some .int), Cond.methodLink RX5 71 yX5_fall, Cond.instanceMethod yX5_fall, Cond.selects RX5 yX5_fall yX5_fall, Cond.code yX5_fall cX5_fall 4 none]
def wsX5_topple : List Cond := .code yX5_topple cX5_topple 2 (some .int) :: ((wsX5_topple_r1 ++ wsX5_topple_r2) ++ wsX50)
def wsX5_settle_r1 : List Cond := [Cond.fieldLink RX5 14 "TopplemoorModel" "grains" "[I", Cond.methodLink RX5 87 yX5_isFast, Cond.instanceMethod yX5_isFast, Cond.selects RX5 yX5_isFast yX5_isFast, Cond.initialized RX5, Cond.code yX5_isFast cX5_isFast 5 (some .boolean), Cond.arrayClass .boolean, Cond.fieldLink RX5 11 "TopplemoorModel" "edges" "[[I", Cond.fieldLink RX5 42 "TopplemoorModel" "spots" "I", Cond.methodLink RX5 53 yX5_start, Cond.instanceMethod yX5_start, Cond.selects RX5 yX5_start yX5_start, Cond.code yX5_start cX5_start 3 (some .boolean), Cond.fieldLink RX5 34 "TopplemoorModel" "thrown" "I", Cond.methodLink RX5 38 yX5_refuse, Cond.instanceMethod yX5_refuse, Cond.selects RX5 yX5_refuse yX5_refuse, Cond.code yX5_refuse cX5_refuse 3 (some .boolean), Cond.methodLink RX5 91 yX5_settled, Cond.instanceMethod yX5_settled, Cond.selects RX5 yX5_settled yX5_settled, Cond.code yX5_settled cX5_settled 4 (some (.array .int)), Cond.arrayClass .int, Cond.methodLink RX5 67 yX5_steepest]
def wsX5_settle_r2 : List Cond := [Cond.instanceMethod yX5_steepest, Cond.selects RX5 yX5_steepest yX5_steepest, Cond.code yX5_steepest cX5_steepest 3 (some .int), Cond.methodLink RX5 63 yX5_isSteep, Cond.instanceMethod yX5_isSteep, Cond.selects RX5 yX5_isSteep yX5_isSteep, Cond.code yX5_isSteep cX5_isSteep 3 (some .boolean), Cond.methodLink RX5 59 yX5_degree, Cond.instanceMethod yX5_degree, Cond.selects RX5 yX5_degree yX5_degree, Cond.code yX5_degree cX5_degree 7 (some .int), Cond.methodLink RX5 71 yX5_fall, Cond.instanceMethod yX5_fall, Cond.selects RX5 yX5_fall yX5_fall, Cond.code yX5_fall cX5_fall 4 none, Cond.methodLink RX5 95 yX5_land, Cond.instanceMethod yX5_land, Cond.selects RX5 yX5_land yX5_land, Cond.code yX5_land cX5_land 2 (some .int), Cond.fieldLink RX5 18 "TopplemoorModel" "avalanche" "[I", Cond.fieldLink RX5 75 "TopplemoorModel" "topples" "I", Cond.fieldLink RX5 81 "TopplemoorModel" "swallowed" "I", Cond.methodLink RX5 78 yX5_sum, Cond.static yX5_sum]
def wsX5_settle_r3 : List Cond := [Cond.code yX5_sum cX5_sum 6 (some .int), Cond.methodLink RX5 84 yX5_swallowedBy, Cond.instanceMethod yX5_swallowedBy, Cond.selects RX5 yX5_swallowedBy yX5_swallowedBy, Cond.code yX5_swallowedBy cX5_swallowedBy 4 (some .int)]
def wsX5_settle : List Cond := .code yX5_settle cX5_settle 1 (some .int) :: ((wsX5_settle_r1 ++ (wsX5_settle_r2 ++ wsX5_settle_r3)) ++ wsX50)
def wsX5_copy : List Cond := .code yX5_copy cX5_copy 2 (some (.array .int)) :: ([.arrayClass .int, .methodLink RX5 98 arraycopyName, .native arraycopyName, .static arraycopyName, .initialized "java/lang/System"])
def wsJx4a65c_size_8abf5 : List Cond := .code yJx4a65c_size_8abf5 cJx4a65c_size_8abf5 1 (some .int) :: ([.fieldLink RJx4a65c 48 "java/util/ArrayList" "size" "I"] ++ wsJx4a65c0)
def wsJ8_hugeLength_7cf53 : List Cond := .code yJ8_hugeLength_7cf53 cJ8_hugeLength_7cf53 3 (some .int) :: ([.constant RJ8 200 (2147483639)])
def wsJ8_newLength_cabcc : List Cond := .code yJ8_newLength_cabcc cJ8_newLength_cabcc 4 (some .int) :: ([.methodLink RJ8 194 Lib.Math.max.name, .static Lib.Math.max.name, .initialized "java/lang/Math", .code Lib.Math.max.name Lib.Math.max.code 2 (some .int), .constant RJ8 200 (2147483639), .methodLink RJ8 201 yJ8_hugeLength_7cf53, .static yJ8_hugeLength_7cf53, .initialized RJ8, .code yJ8_hugeLength_7cf53 cJ8_hugeLength_7cf53 3 (some .int)])
def wsJ7_copyOf_6403c : List Cond := .code yJ7_copyOf_6403c cJ7_copyOf_6403c 4 (some (.array (.object "java/lang/Object"))) :: ([.classLink RJ7 110 "[Ljava/lang/Object;", .classLink RJ7 2 "java/lang/Object", .methodLink RJ7 304 Lib.Math.min.name, .static Lib.Math.min.name, .initialized "java/lang/Math", .code Lib.Math.min.name Lib.Math.min.code 2 (some .int), .methodLink RJ7 150 arraycopyName, .native arraycopyName, .static arraycopyName, .initialized "java/lang/System"])
def wsJ7_copyOf_1904c : List Cond := .code yJ7_copyOf_1904c cJ7_copyOf_1904c 2 (some (.array (.object "java/lang/Object"))) :: ([.methodLink RJ7 86 ⟨"java/lang/Object", "getClass", "()Ljava/lang/Class;"⟩, .selects "[Ljava/lang/Object;" ⟨"java/lang/Object", "getClass", "()Ljava/lang/Class;"⟩ ⟨"java/lang/Object", "getClass", "()Ljava/lang/Class;"⟩, .instanceMethod ⟨"java/lang/Object", "getClass", "()Ljava/lang/Class;"⟩, .native ⟨"java/lang/Object", "getClass", "()Ljava/lang/Class;"⟩, .methodLink RJ7 300 yJ7_copyOf_6403c, .static yJ7_copyOf_6403c, .initialized RJ7, .code yJ7_copyOf_6403c cJ7_copyOf_6403c 4 (some (.array (.object "java/lang/Object"))), .classLink RJ7 110 "[Ljava/lang/Object;", .classLink RJ7 2 "java/lang/Object", .methodLink RJ7 304 Lib.Math.min.name, .static Lib.Math.min.name, .initialized "java/lang/Math", .code Lib.Math.min.name Lib.Math.min.code 2 (some .int), .methodLink RJ7 150 arraycopyName, .native arraycopyName, .static arraycopyName, .initialized "java/lang/System"])
def wsJx4a65c_grow_92f84_r1 : List Cond := [Cond.fieldLink RJx4a65c 9 "java/util/ArrayList" "elementData" "[Ljava/lang/Object;", Cond.fieldLink RJx4a65c 39 "java/util/ArrayList" "DEFAULTCAPACITY_EMPTY_ELEMENTDATA" "[Ljava/lang/Object;", Cond.methodLink RJx4a65c 79 Lib.Math.max.name, Cond.static Lib.Math.max.name, Cond.initialized "java/lang/Math", Cond.code Lib.Math.max.name Lib.Math.max.code 2 (some .int), Cond.classLink RJx4a65c 7 "java/lang/Object", Cond.methodLink RJx4a65c 73 yJ8_newLength_cabcc, Cond.static yJ8_newLength_cabcc, Cond.initialized RJ8, Cond.code yJ8_newLength_cabcc cJ8_newLength_cabcc 4 (some .int), Cond.methodLink RJ8 194 Lib.Math.max.name, Cond.constant RJ8 200 (2147483639), Cond.methodLink RJ8 201 yJ8_hugeLength_7cf53, Cond.static yJ8_hugeLength_7cf53, Cond.code yJ8_hugeLength_7cf53 cJ8_hugeLength_7cf53 3 (some .int), Cond.methodLink RJx4a65c 66 yJ7_copyOf_1904c, Cond.static yJ7_copyOf_1904c, Cond.initialized RJ7, Cond.code yJ7_copyOf_1904c cJ7_copyOf_1904c 2 (some (.array (.object "java/lang/Object"))), Cond.methodLink RJ7 86 ⟨"java/lang/Object", "getClass", "()Ljava/lang/Class;"⟩, Cond.selects "[Ljava/lang/Object;" ⟨"java/lang/Object", "getClass", "()Ljava/lang/Class;"⟩ ⟨"java/lang/Object", "getClass", "()Ljava/lang/Class;"⟩, Cond.instanceMethod ⟨"java/lang/Object", "getClass", "()Ljava/lang/Class;"⟩, Cond.native ⟨"java/lang/Object", "getClass", "()Ljava/lang/Class;"⟩]
def wsJx4a65c_grow_92f84_r2 : List Cond := [Cond.methodLink RJ7 300 yJ7_copyOf_6403c, Cond.static yJ7_copyOf_6403c, Cond.code yJ7_copyOf_6403c cJ7_copyOf_6403c 4 (some (.array (.object "java/lang/Object"))), Cond.classLink RJ7 110 "[Ljava/lang/Object;", Cond.classLink RJ7 2 "java/lang/Object", Cond.methodLink RJ7 304 Lib.Math.min.name, Cond.static Lib.Math.min.name, Cond.code Lib.Math.min.name Lib.Math.min.code 2 (some .int), Cond.methodLink RJ7 150 arraycopyName, Cond.native arraycopyName, Cond.static arraycopyName, Cond.initialized "java/lang/System"]
def wsJx4a65c_grow_92f84 : List Cond := .code yJx4a65c_grow_92f84 cJx4a65c_grow_92f84 4 (some (.array (.object "java/lang/Object"))) :: ((wsJx4a65c_grow_92f84_r1 ++ wsJx4a65c_grow_92f84_r2) ++ wsJx4a65c0)
def wsJx4a65c_grow_d5877_r1 : List Cond := [Cond.fieldLink RJx4a65c 48 "java/util/ArrayList" "size" "I", Cond.methodLink RJx4a65c 69 yJx4a65c_grow_92f84, Cond.instanceMethod yJx4a65c_grow_92f84, Cond.selects RJx4a65c yJx4a65c_grow_92f84 yJx4a65c_grow_92f84, Cond.initialized RJx4a65c, Cond.code yJx4a65c_grow_92f84 cJx4a65c_grow_92f84 4 (some (.array (.object "java/lang/Object"))), Cond.fieldLink RJx4a65c 9 "java/util/ArrayList" "elementData" "[Ljava/lang/Object;", Cond.fieldLink RJx4a65c 39 "java/util/ArrayList" "DEFAULTCAPACITY_EMPTY_ELEMENTDATA" "[Ljava/lang/Object;", Cond.methodLink RJx4a65c 79 Lib.Math.max.name, Cond.static Lib.Math.max.name, Cond.initialized "java/lang/Math", Cond.code Lib.Math.max.name Lib.Math.max.code 2 (some .int), Cond.classLink RJx4a65c 7 "java/lang/Object", Cond.methodLink RJx4a65c 73 yJ8_newLength_cabcc, Cond.static yJ8_newLength_cabcc, Cond.initialized RJ8, Cond.code yJ8_newLength_cabcc cJ8_newLength_cabcc 4 (some .int), Cond.methodLink RJ8 194 Lib.Math.max.name, Cond.constant RJ8 200 (2147483639), Cond.methodLink RJ8 201 yJ8_hugeLength_7cf53, Cond.static yJ8_hugeLength_7cf53, Cond.code yJ8_hugeLength_7cf53 cJ8_hugeLength_7cf53 3 (some .int), Cond.methodLink RJx4a65c 66 yJ7_copyOf_1904c, Cond.static yJ7_copyOf_1904c]
def wsJx4a65c_grow_d5877_r2 : List Cond := [Cond.initialized RJ7, Cond.code yJ7_copyOf_1904c cJ7_copyOf_1904c 2 (some (.array (.object "java/lang/Object"))), Cond.methodLink RJ7 86 ⟨"java/lang/Object", "getClass", "()Ljava/lang/Class;"⟩, Cond.selects "[Ljava/lang/Object;" ⟨"java/lang/Object", "getClass", "()Ljava/lang/Class;"⟩ ⟨"java/lang/Object", "getClass", "()Ljava/lang/Class;"⟩, Cond.instanceMethod ⟨"java/lang/Object", "getClass", "()Ljava/lang/Class;"⟩, Cond.native ⟨"java/lang/Object", "getClass", "()Ljava/lang/Class;"⟩, Cond.methodLink RJ7 300 yJ7_copyOf_6403c, Cond.static yJ7_copyOf_6403c, Cond.code yJ7_copyOf_6403c cJ7_copyOf_6403c 4 (some (.array (.object "java/lang/Object"))), Cond.classLink RJ7 110 "[Ljava/lang/Object;", Cond.classLink RJ7 2 "java/lang/Object", Cond.methodLink RJ7 304 Lib.Math.min.name, Cond.static Lib.Math.min.name, Cond.code Lib.Math.min.name Lib.Math.min.code 2 (some .int), Cond.methodLink RJ7 150 arraycopyName, Cond.native arraycopyName, Cond.static arraycopyName, Cond.initialized "java/lang/System"]
def wsJx4a65c_grow_d5877 : List Cond := .code yJx4a65c_grow_d5877 cJx4a65c_grow_d5877 1 (some (.array (.object "java/lang/Object"))) :: ((wsJx4a65c_grow_d5877_r1 ++ wsJx4a65c_grow_d5877_r2) ++ wsJx4a65c0)
def wsJx4a65c_add_72be8_r1 : List Cond := [Cond.fieldLink RJx4a65c 48 "java/util/ArrayList" "size" "I", Cond.methodLink RJx4a65c 129 yJx4a65c_grow_d5877, Cond.instanceMethod yJx4a65c_grow_d5877, Cond.selects RJx4a65c yJx4a65c_grow_d5877 yJx4a65c_grow_d5877, Cond.initialized RJx4a65c, Cond.code yJx4a65c_grow_d5877 cJx4a65c_grow_d5877 1 (some (.array (.object "java/lang/Object"))), Cond.methodLink RJx4a65c 69 yJx4a65c_grow_92f84, Cond.instanceMethod yJx4a65c_grow_92f84, Cond.selects RJx4a65c yJx4a65c_grow_92f84 yJx4a65c_grow_92f84, Cond.code yJx4a65c_grow_92f84 cJx4a65c_grow_92f84 4 (some (.array (.object "java/lang/Object"))), Cond.fieldLink RJx4a65c 9 "java/util/ArrayList" "elementData" "[Ljava/lang/Object;", Cond.fieldLink RJx4a65c 39 "java/util/ArrayList" "DEFAULTCAPACITY_EMPTY_ELEMENTDATA" "[Ljava/lang/Object;", Cond.methodLink RJx4a65c 79 Lib.Math.max.name, Cond.static Lib.Math.max.name, Cond.initialized "java/lang/Math", Cond.code Lib.Math.max.name Lib.Math.max.code 2 (some .int), Cond.classLink RJx4a65c 7 "java/lang/Object", Cond.methodLink RJx4a65c 73 yJ8_newLength_cabcc, Cond.static yJ8_newLength_cabcc, Cond.initialized RJ8, Cond.code yJ8_newLength_cabcc cJ8_newLength_cabcc 4 (some .int), Cond.methodLink RJ8 194 Lib.Math.max.name, Cond.constant RJ8 200 (2147483639), Cond.methodLink RJ8 201 yJ8_hugeLength_7cf53]
def wsJx4a65c_add_72be8_r2 : List Cond := [Cond.static yJ8_hugeLength_7cf53, Cond.code yJ8_hugeLength_7cf53 cJ8_hugeLength_7cf53 3 (some .int), Cond.methodLink RJx4a65c 66 yJ7_copyOf_1904c, Cond.static yJ7_copyOf_1904c, Cond.initialized RJ7, Cond.code yJ7_copyOf_1904c cJ7_copyOf_1904c 2 (some (.array (.object "java/lang/Object"))), Cond.methodLink RJ7 86 ⟨"java/lang/Object", "getClass", "()Ljava/lang/Class;"⟩, Cond.selects "[Ljava/lang/Object;" ⟨"java/lang/Object", "getClass", "()Ljava/lang/Class;"⟩ ⟨"java/lang/Object", "getClass", "()Ljava/lang/Class;"⟩, Cond.instanceMethod ⟨"java/lang/Object", "getClass", "()Ljava/lang/Class;"⟩, Cond.native ⟨"java/lang/Object", "getClass", "()Ljava/lang/Class;"⟩, Cond.methodLink RJ7 300 yJ7_copyOf_6403c, Cond.static yJ7_copyOf_6403c, Cond.code yJ7_copyOf_6403c cJ7_copyOf_6403c 4 (some (.array (.object "java/lang/Object"))), Cond.classLink RJ7 110 "[Ljava/lang/Object;", Cond.classLink RJ7 2 "java/lang/Object", Cond.methodLink RJ7 304 Lib.Math.min.name, Cond.static Lib.Math.min.name, Cond.code Lib.Math.min.name Lib.Math.min.code 2 (some .int), Cond.methodLink RJ7 150 arraycopyName, Cond.native arraycopyName, Cond.static arraycopyName, Cond.initialized "java/lang/System"]
def wsJx4a65c_add_72be8 : List Cond := .code yJx4a65c_add_72be8 cJx4a65c_add_72be8 4 none :: ((wsJx4a65c_add_72be8_r1 ++ wsJx4a65c_add_72be8_r2) ++ wsJx4a65c0)
def wsJx4a65c_add_9ea2d_r1 : List Cond := [Cond.fieldLink RJx4a65c 63 "java/util/ArrayList" "modCount" "I", Cond.sameField "java/util/ArrayList" "java/util/AbstractList" "modCount" "I", Cond.fieldLink RJx4a65c 9 "java/util/ArrayList" "elementData" "[Ljava/lang/Object;", Cond.fieldLink RJx4a65c 48 "java/util/ArrayList" "size" "I", Cond.methodLink RJx4a65c 131 yJx4a65c_add_72be8, Cond.instanceMethod yJx4a65c_add_72be8, Cond.selects RJx4a65c yJx4a65c_add_72be8 yJx4a65c_add_72be8, Cond.initialized RJx4a65c, Cond.code yJx4a65c_add_72be8 cJx4a65c_add_72be8 4 none, Cond.methodLink RJx4a65c 129 yJx4a65c_grow_d5877, Cond.instanceMethod yJx4a65c_grow_d5877, Cond.selects RJx4a65c yJx4a65c_grow_d5877 yJx4a65c_grow_d5877, Cond.code yJx4a65c_grow_d5877 cJx4a65c_grow_d5877 1 (some (.array (.object "java/lang/Object"))), Cond.methodLink RJx4a65c 69 yJx4a65c_grow_92f84, Cond.instanceMethod yJx4a65c_grow_92f84, Cond.selects RJx4a65c yJx4a65c_grow_92f84 yJx4a65c_grow_92f84, Cond.code yJx4a65c_grow_92f84 cJx4a65c_grow_92f84 4 (some (.array (.object "java/lang/Object"))), Cond.fieldLink RJx4a65c 39 "java/util/ArrayList" "DEFAULTCAPACITY_EMPTY_ELEMENTDATA" "[Ljava/lang/Object;", Cond.methodLink RJx4a65c 79 Lib.Math.max.name, Cond.static Lib.Math.max.name, Cond.initialized "java/lang/Math", Cond.code Lib.Math.max.name Lib.Math.max.code 2 (some .int), Cond.classLink RJx4a65c 7 "java/lang/Object", Cond.methodLink RJx4a65c 73 yJ8_newLength_cabcc]
def wsJx4a65c_add_9ea2d_r2 : List Cond := [Cond.static yJ8_newLength_cabcc, Cond.initialized RJ8, Cond.code yJ8_newLength_cabcc cJ8_newLength_cabcc 4 (some .int), Cond.methodLink RJ8 194 Lib.Math.max.name, Cond.constant RJ8 200 (2147483639), Cond.methodLink RJ8 201 yJ8_hugeLength_7cf53, Cond.static yJ8_hugeLength_7cf53, Cond.code yJ8_hugeLength_7cf53 cJ8_hugeLength_7cf53 3 (some .int), Cond.methodLink RJx4a65c 66 yJ7_copyOf_1904c, Cond.static yJ7_copyOf_1904c, Cond.initialized RJ7, Cond.code yJ7_copyOf_1904c cJ7_copyOf_1904c 2 (some (.array (.object "java/lang/Object"))), Cond.methodLink RJ7 86 ⟨"java/lang/Object", "getClass", "()Ljava/lang/Class;"⟩, Cond.selects "[Ljava/lang/Object;" ⟨"java/lang/Object", "getClass", "()Ljava/lang/Class;"⟩ ⟨"java/lang/Object", "getClass", "()Ljava/lang/Class;"⟩, Cond.instanceMethod ⟨"java/lang/Object", "getClass", "()Ljava/lang/Class;"⟩, Cond.native ⟨"java/lang/Object", "getClass", "()Ljava/lang/Class;"⟩, Cond.methodLink RJ7 300 yJ7_copyOf_6403c, Cond.static yJ7_copyOf_6403c, Cond.code yJ7_copyOf_6403c cJ7_copyOf_6403c 4 (some (.array (.object "java/lang/Object"))), Cond.classLink RJ7 110 "[Ljava/lang/Object;", Cond.classLink RJ7 2 "java/lang/Object", Cond.methodLink RJ7 304 Lib.Math.min.name, Cond.static Lib.Math.min.name, Cond.code Lib.Math.min.name Lib.Math.min.code 2 (some .int)]
def wsJx4a65c_add_9ea2d_r3 : List Cond := [Cond.methodLink RJ7 150 arraycopyName, Cond.native arraycopyName, Cond.static arraycopyName, Cond.initialized "java/lang/System"]
def wsJx4a65c_add_9ea2d : List Cond := .code yJx4a65c_add_9ea2d cJx4a65c_add_9ea2d 2 (some .boolean) :: ((wsJx4a65c_add_9ea2d_r1 ++ (wsJx4a65c_add_9ea2d_r2 ++ wsJx4a65c_add_9ea2d_r3)) ++ wsJx4a65c0)
def wsX5_keep_r1 : List Cond := [Cond.fieldLink RX5 30 "TopplemoorModel" "kept" "Ljava/util/ArrayList;", Cond.fieldLink RX5 14 "TopplemoorModel" "grains" "[I", Cond.methodLink RX5 104 yJx4a65c_size_8abf5, Cond.instanceMethod yJx4a65c_size_8abf5, Cond.selects RJx4a65c yJx4a65c_size_8abf5 yJx4a65c_size_8abf5, Cond.initialized RJx4a65c, Cond.code yJx4a65c_size_8abf5 cJx4a65c_size_8abf5 1 (some .int), Cond.fieldLink RJx4a65c 48 "java/util/ArrayList" "size" "I", Cond.methodLink RX5 53 yX5_start, Cond.instanceMethod yX5_start, Cond.selects RX5 yX5_start yX5_start, Cond.initialized RX5, Cond.code yX5_start cX5_start 3 (some .boolean), Cond.fieldLink RX5 34 "TopplemoorModel" "thrown" "I", Cond.methodLink RX5 38 yX5_refuse, Cond.instanceMethod yX5_refuse, Cond.selects RX5 yX5_refuse yX5_refuse, Cond.code yX5_refuse cX5_refuse 3 (some .boolean), Cond.methodLink RX5 108 yX5_copy, Cond.static yX5_copy, Cond.code yX5_copy cX5_copy 2 (some (.array .int)), Cond.arrayClass .int, Cond.methodLink RX5 98 arraycopyName, Cond.native arraycopyName]
def wsX5_keep_r2 : List Cond := [Cond.static arraycopyName, Cond.initialized "java/lang/System", Cond.methodLink RX5 111 yJx4a65c_add_9ea2d, Cond.instanceMethod yJx4a65c_add_9ea2d, Cond.selects RJx4a65c yJx4a65c_add_9ea2d yJx4a65c_add_9ea2d, Cond.code yJx4a65c_add_9ea2d cJx4a65c_add_9ea2d 2 (some .boolean), Cond.fieldLink RJx4a65c 63 "java/util/ArrayList" "modCount" "I", Cond.sameField "java/util/ArrayList" "java/util/AbstractList" "modCount" "I", Cond.fieldLink RJx4a65c 9 "java/util/ArrayList" "elementData" "[Ljava/lang/Object;", Cond.methodLink RJx4a65c 131 yJx4a65c_add_72be8, Cond.instanceMethod yJx4a65c_add_72be8, Cond.selects RJx4a65c yJx4a65c_add_72be8 yJx4a65c_add_72be8, Cond.code yJx4a65c_add_72be8 cJx4a65c_add_72be8 4 none, Cond.methodLink RJx4a65c 129 yJx4a65c_grow_d5877, Cond.instanceMethod yJx4a65c_grow_d5877, Cond.selects RJx4a65c yJx4a65c_grow_d5877 yJx4a65c_grow_d5877, Cond.code yJx4a65c_grow_d5877 cJx4a65c_grow_d5877 1 (some (.array (.object "java/lang/Object"))), Cond.methodLink RJx4a65c 69 yJx4a65c_grow_92f84, Cond.instanceMethod yJx4a65c_grow_92f84, Cond.selects RJx4a65c yJx4a65c_grow_92f84 yJx4a65c_grow_92f84, Cond.code yJx4a65c_grow_92f84 cJx4a65c_grow_92f84 4 (some (.array (.object "java/lang/Object"))), Cond.fieldLink RJx4a65c 39 "java/util/ArrayList" "DEFAULTCAPACITY_EMPTY_ELEMENTDATA" "[Ljava/lang/Object;", Cond.methodLink RJx4a65c 79 Lib.Math.max.name, Cond.static Lib.Math.max.name]
def wsX5_keep_r3 : List Cond := [Cond.initialized "java/lang/Math", Cond.code Lib.Math.max.name Lib.Math.max.code 2 (some .int), Cond.classLink RJx4a65c 7 "java/lang/Object", Cond.methodLink RJx4a65c 73 yJ8_newLength_cabcc, Cond.static yJ8_newLength_cabcc, Cond.initialized RJ8, Cond.code yJ8_newLength_cabcc cJ8_newLength_cabcc 4 (some .int), Cond.methodLink RJ8 194 Lib.Math.max.name, Cond.constant RJ8 200 (2147483639), Cond.methodLink RJ8 201 yJ8_hugeLength_7cf53, Cond.static yJ8_hugeLength_7cf53, Cond.code yJ8_hugeLength_7cf53 cJ8_hugeLength_7cf53 3 (some .int), Cond.methodLink RJx4a65c 66 yJ7_copyOf_1904c, Cond.static yJ7_copyOf_1904c, Cond.initialized RJ7, Cond.code yJ7_copyOf_1904c cJ7_copyOf_1904c 2 (some (.array (.object "java/lang/Object"))), Cond.methodLink RJ7 86 ⟨"java/lang/Object", "getClass", "()Ljava/lang/Class;"⟩, Cond.selects "[Ljava/lang/Object;" ⟨"java/lang/Object", "getClass", "()Ljava/lang/Class;"⟩ ⟨"java/lang/Object", "getClass", "()Ljava/lang/Class;"⟩, Cond.instanceMethod ⟨"java/lang/Object", "getClass", "()Ljava/lang/Class;"⟩, Cond.native ⟨"java/lang/Object", "getClass", "()Ljava/lang/Class;"⟩, Cond.methodLink RJ7 300 yJ7_copyOf_6403c, Cond.static yJ7_copyOf_6403c, Cond.code yJ7_copyOf_6403c cJ7_copyOf_6403c 4 (some (.array (.object "java/lang/Object"))), Cond.classLink RJ7 110 "[Ljava/lang/Object;"]
def wsX5_keep_r4 : List Cond := [Cond.classLink RJ7 2 "java/lang/Object", Cond.methodLink RJ7 304 Lib.Math.min.name, Cond.static Lib.Math.min.name, Cond.code Lib.Math.min.name Lib.Math.min.code 2 (some .int), Cond.methodLink RJ7 150 arraycopyName]
def wsX5_keep : List Cond := .code yX5_keep cX5_keep 1 (some .int) :: ((wsX5_keep_r1 ++ (wsX5_keep_r2 ++ (wsX5_keep_r3 ++ wsX5_keep_r4))) ++ wsX50 ++ wsJx4a65c0)
def wsX5_plus : List Cond := .code yX5_plus cX5_plus 4 (some (.array .int)) :: ([.arrayClass .int])
def wsJ3_checkIndex_8e157 : List Cond := .code yJ3_checkIndex_8e157 cJ3_checkIndex_8e157 3 (some .int) :: ([])
def wsJ15_checkIndex_7cf53 : List Cond := .code yJ15_checkIndex_7cf53 cJ15_checkIndex_7cf53 2 (some .int) :: ([.methodLink RJ15 105 yJ3_checkIndex_8e157, .static yJ3_checkIndex_8e157, .initialized RJ3, .code yJ3_checkIndex_8e157 cJ3_checkIndex_8e157 3 (some .int)])
def wsJx4a65c_elementData_915e3 : List Cond := .code yJx4a65c_elementData_915e3 cJx4a65c_elementData_915e3 2 (some (.object "java/lang/Object")) :: ([.fieldLink RJx4a65c 9 "java/util/ArrayList" "elementData" "[Ljava/lang/Object;"] ++ wsJx4a65c0)
def wsJx4a65c_get_915e3 : List Cond := .code yJx4a65c_get_915e3 cJx4a65c_get_915e3 2 (some (.object "java/lang/Object")) :: ([.fieldLink RJx4a65c 48 "java/util/ArrayList" "size" "I", .methodLink RJx4a65c 118 yJ15_checkIndex_7cf53, .static yJ15_checkIndex_7cf53, .initialized RJ15, .code yJ15_checkIndex_7cf53 cJ15_checkIndex_7cf53 2 (some .int), .methodLink RJ15 105 yJ3_checkIndex_8e157, .static yJ3_checkIndex_8e157, .initialized RJ3, .code yJ3_checkIndex_8e157 cJ3_checkIndex_8e157 3 (some .int), .methodLink RJx4a65c 123 yJx4a65c_elementData_915e3, .instanceMethod yJx4a65c_elementData_915e3, .selects RJx4a65c yJx4a65c_elementData_915e3 yJx4a65c_elementData_915e3, .initialized RJx4a65c, .code yJx4a65c_elementData_915e3 cJx4a65c_elementData_915e3 2 (some (.object "java/lang/Object")), .fieldLink RJx4a65c 9 "java/util/ArrayList" "elementData" "[Ljava/lang/Object;"] ++ wsJx4a65c0)
def wsX5_add_r1 : List Cond := [Cond.fieldLink RX5 30 "TopplemoorModel" "kept" "Ljava/util/ArrayList;", Cond.fieldLink RX5 14 "TopplemoorModel" "grains" "[I", Cond.classLink RX5 119 "[I", Cond.methodLink RX5 104 yJx4a65c_size_8abf5, Cond.instanceMethod yJx4a65c_size_8abf5, Cond.selects RJx4a65c yJx4a65c_size_8abf5 yJx4a65c_size_8abf5, Cond.initialized RJx4a65c, Cond.code yJx4a65c_size_8abf5 cJx4a65c_size_8abf5 1 (some .int), Cond.fieldLink RJx4a65c 48 "java/util/ArrayList" "size" "I", Cond.methodLink RX5 45 yX5_isIn, Cond.static yX5_isIn, Cond.initialized RX5, Cond.code yX5_isIn cX5_isIn 3 (some .boolean), Cond.methodLink RX5 53 yX5_start, Cond.instanceMethod yX5_start, Cond.selects RX5 yX5_start yX5_start, Cond.code yX5_start cX5_start 3 (some .boolean), Cond.fieldLink RX5 34 "TopplemoorModel" "thrown" "I", Cond.methodLink RX5 38 yX5_refuse, Cond.instanceMethod yX5_refuse, Cond.selects RX5 yX5_refuse yX5_refuse, Cond.code yX5_refuse cX5_refuse 3 (some .boolean), Cond.methodLink RX5 115 yJx4a65c_get_915e3, Cond.instanceMethod yJx4a65c_get_915e3]
def wsX5_add_r2 : List Cond := [Cond.selects RJx4a65c yJx4a65c_get_915e3 yJx4a65c_get_915e3, Cond.code yJx4a65c_get_915e3 cJx4a65c_get_915e3 2 (some (.object "java/lang/Object")), Cond.methodLink RJx4a65c 118 yJ15_checkIndex_7cf53, Cond.static yJ15_checkIndex_7cf53, Cond.initialized RJ15, Cond.code yJ15_checkIndex_7cf53 cJ15_checkIndex_7cf53 2 (some .int), Cond.methodLink RJ15 105 yJ3_checkIndex_8e157, Cond.static yJ3_checkIndex_8e157, Cond.initialized RJ3, Cond.code yJ3_checkIndex_8e157 cJ3_checkIndex_8e157 3 (some .int), Cond.methodLink RJx4a65c 123 yJx4a65c_elementData_915e3, Cond.instanceMethod yJx4a65c_elementData_915e3, Cond.selects RJx4a65c yJx4a65c_elementData_915e3 yJx4a65c_elementData_915e3, Cond.code yJx4a65c_elementData_915e3 cJx4a65c_elementData_915e3 2 (some (.object "java/lang/Object")), Cond.fieldLink RJx4a65c 9 "java/util/ArrayList" "elementData" "[Ljava/lang/Object;", Cond.methodLink RX5 120 yX5_plus, Cond.static yX5_plus, Cond.code yX5_plus cX5_plus 4 (some (.array .int)), Cond.arrayClass .int, Cond.methodLink RX5 87 yX5_isFast, Cond.instanceMethod yX5_isFast, Cond.selects RX5 yX5_isFast yX5_isFast, Cond.code yX5_isFast cX5_isFast 5 (some .boolean), Cond.arrayClass .boolean]
def wsX5_add_r3 : List Cond := [Cond.fieldLink RX5 11 "TopplemoorModel" "edges" "[[I", Cond.fieldLink RX5 42 "TopplemoorModel" "spots" "I", Cond.methodLink RX5 91 yX5_settled, Cond.instanceMethod yX5_settled, Cond.selects RX5 yX5_settled yX5_settled, Cond.code yX5_settled cX5_settled 4 (some (.array .int)), Cond.methodLink RX5 67 yX5_steepest, Cond.instanceMethod yX5_steepest, Cond.selects RX5 yX5_steepest yX5_steepest, Cond.code yX5_steepest cX5_steepest 3 (some .int), Cond.methodLink RX5 63 yX5_isSteep, Cond.instanceMethod yX5_isSteep, Cond.selects RX5 yX5_isSteep yX5_isSteep, Cond.code yX5_isSteep cX5_isSteep 3 (some .boolean), Cond.methodLink RX5 59 yX5_degree, Cond.instanceMethod yX5_degree, Cond.selects RX5 yX5_degree yX5_degree, Cond.code yX5_degree cX5_degree 7 (some .int), Cond.methodLink RX5 71 yX5_fall, Cond.instanceMethod yX5_fall, Cond.selects RX5 yX5_fall yX5_fall, Cond.code yX5_fall cX5_fall 4 none, Cond.methodLink RX5 95 yX5_land, Cond.instanceMethod yX5_land]
def wsX5_add_r4 : List Cond := [Cond.selects RX5 yX5_land yX5_land, Cond.code yX5_land cX5_land 2 (some .int), Cond.fieldLink RX5 18 "TopplemoorModel" "avalanche" "[I", Cond.fieldLink RX5 75 "TopplemoorModel" "topples" "I", Cond.fieldLink RX5 81 "TopplemoorModel" "swallowed" "I", Cond.methodLink RX5 78 yX5_sum, Cond.static yX5_sum, Cond.code yX5_sum cX5_sum 6 (some .int), Cond.methodLink RX5 84 yX5_swallowedBy, Cond.instanceMethod yX5_swallowedBy, Cond.selects RX5 yX5_swallowedBy yX5_swallowedBy, Cond.code yX5_swallowedBy cX5_swallowedBy 4 (some .int)]
def wsX5_add : List Cond := .code yX5_add cX5_add 8 (some .int) :: ((wsX5_add_r1 ++ (wsX5_add_r2 ++ (wsX5_add_r3 ++ wsX5_add_r4))) ++ wsX50 ++ wsJx4a65c0)
def wsX5_sweep : List Cond := .code yX5_sweep cX5_sweep 2 (some .int) :: ([.fieldLink RX5 34 "TopplemoorModel" "thrown" "I", .fieldLink RX5 14 "TopplemoorModel" "grains" "[I", .arrayClass .int, .methodLink RX5 78 yX5_sum, .static yX5_sum, .initialized RX5, .code yX5_sum cX5_sum 6 (some .int)] ++ wsX50)
def wsX5_pointed : List Cond := .code yX5_pointed cX5_pointed 5 (some .int) :: ([.fieldLink RX5 11 "TopplemoorModel" "edges" "[[I"] ++ wsX50)
def wsX5_walk_r1 : List Cond := [Cond.fieldLink RX5 21 "TopplemoorModel" "rotors" "[I", Cond.fieldLink RX5 128 "TopplemoorModel" "walked" "I", Cond.methodLink RX5 49 yX5_isNoSpot, Cond.instanceMethod yX5_isNoSpot, Cond.selects RX5 yX5_isNoSpot yX5_isNoSpot, Cond.initialized RX5, Cond.code yX5_isNoSpot cX5_isNoSpot 2 (some .boolean), Cond.fieldLink RX5 42 "TopplemoorModel" "spots" "I", Cond.methodLink RX5 45 yX5_isIn, Cond.static yX5_isIn, Cond.code yX5_isIn cX5_isIn 3 (some .boolean), Cond.methodLink RX5 53 yX5_start, Cond.instanceMethod yX5_start, Cond.selects RX5 yX5_start yX5_start, Cond.code yX5_start cX5_start 3 (some .boolean), Cond.fieldLink RX5 34 "TopplemoorModel" "thrown" "I", Cond.methodLink RX5 38 yX5_refuse, Cond.instanceMethod yX5_refuse, Cond.selects RX5 yX5_refuse yX5_refuse, Cond.code yX5_refuse cX5_refuse 3 (some .boolean), Cond.methodLink RX5 87 yX5_isFast, Cond.instanceMethod yX5_isFast, Cond.selects RX5 yX5_isFast yX5_isFast, Cond.code yX5_isFast cX5_isFast 5 (some .boolean)]
def wsX5_walk_r2 : List Cond := [Cond.arrayClass .boolean, Cond.fieldLink RX5 11 "TopplemoorModel" "edges" "[[I", Cond.methodLink RX5 59 yX5_degree, Cond.instanceMethod yX5_degree, Cond.selects RX5 yX5_degree yX5_degree, Cond.code yX5_degree cX5_degree 7 (some .int), Cond.methodLink RX5 124 yX5_pointed, Cond.instanceMethod yX5_pointed, Cond.selects RX5 yX5_pointed yX5_pointed, Cond.code yX5_pointed cX5_pointed 5 (some .int)]
def wsX5_walk : List Cond := .code yX5_walk cX5_walk 4 (some .int) :: ((wsX5_walk_r1 ++ wsX5_walk_r2) ++ wsX50)
def wsX5_isTree : List Cond := .code yX5_isTree cX5_isTree 4 (some .boolean) :: ([.fieldLink RX5 42 "TopplemoorModel" "spots" "I", .fieldLink RX5 21 "TopplemoorModel" "rotors" "[I", .methodLink RX5 124 yX5_pointed, .instanceMethod yX5_pointed, .selects RX5 yX5_pointed yX5_pointed, .initialized RX5, .code yX5_pointed cX5_pointed 5 (some .int), .fieldLink RX5 11 "TopplemoorModel" "edges" "[[I"] ++ wsX50)
def wsX5_pay : List Cond := .code yX5_pay cX5_pay 3 (some .int) :: ([.fieldLink RX5 24 "TopplemoorModel" "coins" "[I", .methodLink RX5 56 yX5_isNoNode, .instanceMethod yX5_isNoNode, .selects RX5 yX5_isNoNode yX5_isNoNode, .initialized RX5, .code yX5_isNoNode cX5_isNoNode 2 (some .boolean), .methodLink RX5 49 yX5_isNoSpot, .instanceMethod yX5_isNoSpot, .selects RX5 yX5_isNoSpot yX5_isNoSpot, .code yX5_isNoSpot cX5_isNoSpot 2 (some .boolean), .fieldLink RX5 42 "TopplemoorModel" "spots" "I", .methodLink RX5 45 yX5_isIn, .static yX5_isIn, .code yX5_isIn cX5_isIn 3 (some .boolean), .methodLink RX5 53 yX5_start, .instanceMethod yX5_start, .selects RX5 yX5_start yX5_start, .code yX5_start cX5_start 3 (some .boolean), .fieldLink RX5 34 "TopplemoorModel" "thrown" "I", .methodLink RX5 38 yX5_refuse, .instanceMethod yX5_refuse, .selects RX5 yX5_refuse yX5_refuse, .code yX5_refuse cX5_refuse 3 (some .boolean)] ++ wsX50)
def wsX5_give : List Cond := .code yX5_give cX5_give 5 none :: ([.fieldLink RX5 11 "TopplemoorModel" "edges" "[[I", .methodLink RX5 59 yX5_degree, .instanceMethod yX5_degree, .selects RX5 yX5_degree yX5_degree, .initialized RX5, .code yX5_degree cX5_degree 7 (some .int)] ++ wsX50)
def wsX5_lend_r1 : List Cond := [Cond.fieldLink RX5 24 "TopplemoorModel" "coins" "[I", Cond.methodLink RX5 56 yX5_isNoNode, Cond.instanceMethod yX5_isNoNode, Cond.selects RX5 yX5_isNoNode yX5_isNoNode, Cond.initialized RX5, Cond.code yX5_isNoNode cX5_isNoNode 2 (some .boolean), Cond.methodLink RX5 49 yX5_isNoSpot, Cond.instanceMethod yX5_isNoSpot, Cond.selects RX5 yX5_isNoSpot yX5_isNoSpot, Cond.code yX5_isNoSpot cX5_isNoSpot 2 (some .boolean), Cond.fieldLink RX5 42 "TopplemoorModel" "spots" "I", Cond.methodLink RX5 45 yX5_isIn, Cond.static yX5_isIn, Cond.code yX5_isIn cX5_isIn 3 (some .boolean), Cond.methodLink RX5 53 yX5_start, Cond.instanceMethod yX5_start, Cond.selects RX5 yX5_start yX5_start, Cond.code yX5_start cX5_start 3 (some .boolean), Cond.fieldLink RX5 34 "TopplemoorModel" "thrown" "I", Cond.methodLink RX5 38 yX5_refuse, Cond.instanceMethod yX5_refuse, Cond.selects RX5 yX5_refuse yX5_refuse, Cond.code yX5_refuse cX5_refuse 3 (some .boolean), Cond.methodLink RX5 131 yX5_give]
def wsX5_lend_r2 : List Cond := [Cond.instanceMethod yX5_give, Cond.selects RX5 yX5_give yX5_give, Cond.code yX5_give cX5_give 5 none, Cond.fieldLink RX5 11 "TopplemoorModel" "edges" "[[I", Cond.methodLink RX5 59 yX5_degree, Cond.instanceMethod yX5_degree, Cond.selects RX5 yX5_degree yX5_degree, Cond.code yX5_degree cX5_degree 7 (some .int)]
def wsX5_lend : List Cond := .code yX5_lend cX5_lend 3 (some .int) :: ((wsX5_lend_r1 ++ wsX5_lend_r2) ++ wsX50)
def wsX5_isPaid : List Cond := .code yX5_isPaid cX5_isPaid 9 (some .boolean) :: ([.fieldLink RX5 42 "TopplemoorModel" "spots" "I", .arrayClass .boolean, .fieldLink RX5 11 "TopplemoorModel" "edges" "[[I", .methodLink RX5 108 yX5_copy, .static yX5_copy, .initialized RX5, .code yX5_copy cX5_copy 2 (some (.array .int)), .arrayClass .int, .methodLink RX5 98 arraycopyName, .native arraycopyName, .static arraycopyName, .initialized "java/lang/System", .methodLink RX5 131 yX5_give, .instanceMethod yX5_give, .selects RX5 yX5_give yX5_give, .code yX5_give cX5_give 5 none, .methodLink RX5 59 yX5_degree, .instanceMethod yX5_degree, .selects RX5 yX5_degree yX5_degree, .code yX5_degree cX5_degree 7 (some .int)] ++ wsX50)
def wsX5_toldOfSpot : List Cond := .code yX5_toldOfSpot cX5_toldOfSpot 4 (some .int) :: ([.arrayClass .int, .fieldLink RX5 14 "TopplemoorModel" "grains" "[I", .fieldLink RX5 11 "TopplemoorModel" "edges" "[[I", .fieldLink RX5 18 "TopplemoorModel" "avalanche" "[I", .fieldLink RX5 21 "TopplemoorModel" "rotors" "[I", .methodLink RX5 59 yX5_degree, .instanceMethod yX5_degree, .selects RX5 yX5_degree yX5_degree, .initialized RX5, .code yX5_degree cX5_degree 7 (some .int), .methodLink RX5 63 yX5_isSteep, .instanceMethod yX5_isSteep, .selects RX5 yX5_isSteep yX5_isSteep, .code yX5_isSteep cX5_isSteep 3 (some .boolean), .methodLink RX5 135 yX5_one, .static yX5_one, .code yX5_one cX5_one 1 (some .int), .methodLink RX5 124 yX5_pointed, .instanceMethod yX5_pointed, .selects RX5 yX5_pointed yX5_pointed, .code yX5_pointed cX5_pointed 5 (some .int)] ++ wsX50)
def wsX5_ofSpot_r1 : List Cond := [Cond.methodLink RX5 49 yX5_isNoSpot, Cond.instanceMethod yX5_isNoSpot, Cond.selects RX5 yX5_isNoSpot yX5_isNoSpot, Cond.initialized RX5, Cond.code yX5_isNoSpot cX5_isNoSpot 2 (some .boolean), Cond.fieldLink RX5 42 "TopplemoorModel" "spots" "I", Cond.methodLink RX5 45 yX5_isIn, Cond.static yX5_isIn, Cond.code yX5_isIn cX5_isIn 3 (some .boolean), Cond.methodLink RX5 53 yX5_start, Cond.instanceMethod yX5_start, Cond.selects RX5 yX5_start yX5_start, Cond.code yX5_start cX5_start 3 (some .boolean), Cond.fieldLink RX5 34 "TopplemoorModel" "thrown" "I", Cond.methodLink RX5 38 yX5_refuse, Cond.instanceMethod yX5_refuse, Cond.selects RX5 yX5_refuse yX5_refuse, Cond.code yX5_refuse cX5_refuse 3 (some .boolean), Cond.methodLink RX5 139 yX5_toldOfSpot, Cond.instanceMethod yX5_toldOfSpot, Cond.selects RX5 yX5_toldOfSpot yX5_toldOfSpot, Cond.code yX5_toldOfSpot cX5_toldOfSpot 4 (some .int), Cond.arrayClass .int, Cond.fieldLink RX5 14 "TopplemoorModel" "grains" "[I"]
def wsX5_ofSpot_r2 : List Cond := [Cond.fieldLink RX5 11 "TopplemoorModel" "edges" "[[I", Cond.fieldLink RX5 18 "TopplemoorModel" "avalanche" "[I", Cond.fieldLink RX5 21 "TopplemoorModel" "rotors" "[I", Cond.methodLink RX5 59 yX5_degree, Cond.instanceMethod yX5_degree, Cond.selects RX5 yX5_degree yX5_degree, Cond.code yX5_degree cX5_degree 7 (some .int), Cond.methodLink RX5 63 yX5_isSteep, Cond.instanceMethod yX5_isSteep, Cond.selects RX5 yX5_isSteep yX5_isSteep, Cond.code yX5_isSteep cX5_isSteep 3 (some .boolean), Cond.methodLink RX5 135 yX5_one, Cond.static yX5_one, Cond.code yX5_one cX5_one 1 (some .int), Cond.methodLink RX5 124 yX5_pointed, Cond.instanceMethod yX5_pointed, Cond.selects RX5 yX5_pointed yX5_pointed, Cond.code yX5_pointed cX5_pointed 5 (some .int)]
def wsX5_ofSpot : List Cond := .code yX5_ofSpot cX5_ofSpot 3 (some .int) :: ((wsX5_ofSpot_r1 ++ wsX5_ofSpot_r2) ++ wsX50)
def wsX5_between : List Cond := .code yX5_between cX5_between 3 (some .int) :: ([.fieldLink RX5 11 "TopplemoorModel" "edges" "[[I", .methodLink RX5 56 yX5_isNoNode, .instanceMethod yX5_isNoNode, .selects RX5 yX5_isNoNode yX5_isNoNode, .initialized RX5, .code yX5_isNoNode cX5_isNoNode 2 (some .boolean), .methodLink RX5 49 yX5_isNoSpot, .instanceMethod yX5_isNoSpot, .selects RX5 yX5_isNoSpot yX5_isNoSpot, .code yX5_isNoSpot cX5_isNoSpot 2 (some .boolean), .fieldLink RX5 42 "TopplemoorModel" "spots" "I", .methodLink RX5 45 yX5_isIn, .static yX5_isIn, .code yX5_isIn cX5_isIn 3 (some .boolean), .methodLink RX5 53 yX5_start, .instanceMethod yX5_start, .selects RX5 yX5_start yX5_start, .code yX5_start cX5_start 3 (some .boolean), .fieldLink RX5 34 "TopplemoorModel" "thrown" "I", .methodLink RX5 38 yX5_refuse, .instanceMethod yX5_refuse, .selects RX5 yX5_refuse yX5_refuse, .code yX5_refuse cX5_refuse 3 (some .boolean)] ++ wsX50)
def wsX5_coins : List Cond := .code yX5_coins cX5_coins 2 (some .int) :: ([.fieldLink RX5 24 "TopplemoorModel" "coins" "[I", .methodLink RX5 56 yX5_isNoNode, .instanceMethod yX5_isNoNode, .selects RX5 yX5_isNoNode yX5_isNoNode, .initialized RX5, .code yX5_isNoNode cX5_isNoNode 2 (some .boolean), .methodLink RX5 49 yX5_isNoSpot, .instanceMethod yX5_isNoSpot, .selects RX5 yX5_isNoSpot yX5_isNoSpot, .code yX5_isNoSpot cX5_isNoSpot 2 (some .boolean), .fieldLink RX5 42 "TopplemoorModel" "spots" "I", .methodLink RX5 45 yX5_isIn, .static yX5_isIn, .code yX5_isIn cX5_isIn 3 (some .boolean), .methodLink RX5 53 yX5_start, .instanceMethod yX5_start, .selects RX5 yX5_start yX5_start, .code yX5_start cX5_start 3 (some .boolean), .fieldLink RX5 34 "TopplemoorModel" "thrown" "I", .methodLink RX5 38 yX5_refuse, .instanceMethod yX5_refuse, .selects RX5 yX5_refuse yX5_refuse, .code yX5_refuse cX5_refuse 3 (some .boolean)] ++ wsX50)
def wsX5_kept_r1 : List Cond := [Cond.fieldLink RX5 30 "TopplemoorModel" "kept" "Ljava/util/ArrayList;", Cond.classLink RX5 119 "[I", Cond.methodLink RX5 104 yJx4a65c_size_8abf5, Cond.instanceMethod yJx4a65c_size_8abf5, Cond.selects RJx4a65c yJx4a65c_size_8abf5 yJx4a65c_size_8abf5, Cond.initialized RJx4a65c, Cond.code yJx4a65c_size_8abf5 cJx4a65c_size_8abf5 1 (some .int), Cond.fieldLink RJx4a65c 48 "java/util/ArrayList" "size" "I", Cond.methodLink RX5 45 yX5_isIn, Cond.static yX5_isIn, Cond.initialized RX5, Cond.code yX5_isIn cX5_isIn 3 (some .boolean), Cond.methodLink RX5 49 yX5_isNoSpot, Cond.instanceMethod yX5_isNoSpot, Cond.selects RX5 yX5_isNoSpot yX5_isNoSpot, Cond.code yX5_isNoSpot cX5_isNoSpot 2 (some .boolean), Cond.fieldLink RX5 42 "TopplemoorModel" "spots" "I", Cond.methodLink RX5 53 yX5_start, Cond.instanceMethod yX5_start, Cond.selects RX5 yX5_start yX5_start, Cond.code yX5_start cX5_start 3 (some .boolean), Cond.fieldLink RX5 34 "TopplemoorModel" "thrown" "I", Cond.methodLink RX5 38 yX5_refuse, Cond.instanceMethod yX5_refuse]
def wsX5_kept_r2 : List Cond := [Cond.selects RX5 yX5_refuse yX5_refuse, Cond.code yX5_refuse cX5_refuse 3 (some .boolean), Cond.methodLink RX5 115 yJx4a65c_get_915e3, Cond.instanceMethod yJx4a65c_get_915e3, Cond.selects RJx4a65c yJx4a65c_get_915e3 yJx4a65c_get_915e3, Cond.code yJx4a65c_get_915e3 cJx4a65c_get_915e3 2 (some (.object "java/lang/Object")), Cond.methodLink RJx4a65c 118 yJ15_checkIndex_7cf53, Cond.static yJ15_checkIndex_7cf53, Cond.initialized RJ15, Cond.code yJ15_checkIndex_7cf53 cJ15_checkIndex_7cf53 2 (some .int), Cond.methodLink RJ15 105 yJ3_checkIndex_8e157, Cond.static yJ3_checkIndex_8e157, Cond.initialized RJ3, Cond.code yJ3_checkIndex_8e157 cJ3_checkIndex_8e157 3 (some .int), Cond.methodLink RJx4a65c 123 yJx4a65c_elementData_915e3, Cond.instanceMethod yJx4a65c_elementData_915e3, Cond.selects RJx4a65c yJx4a65c_elementData_915e3 yJx4a65c_elementData_915e3, Cond.code yJx4a65c_elementData_915e3 cJx4a65c_elementData_915e3 2 (some (.object "java/lang/Object")), Cond.fieldLink RJx4a65c 9 "java/util/ArrayList" "elementData" "[Ljava/lang/Object;"]
def wsX5_kept : List Cond := .code yX5_kept cX5_kept 3 (some .int) :: ((wsX5_kept_r1 ++ wsX5_kept_r2) ++ wsX50 ++ wsJx4a65c0)
def wsX5_told_r1 : List Cond := [Cond.fieldLink RX5 24 "TopplemoorModel" "coins" "[I", Cond.fieldLink RX5 42 "TopplemoorModel" "spots" "I", Cond.fieldLink RX5 14 "TopplemoorModel" "grains" "[I", Cond.arrayClass .int, Cond.fieldLink RX5 81 "TopplemoorModel" "swallowed" "I", Cond.fieldLink RX5 75 "TopplemoorModel" "topples" "I", Cond.fieldLink RX5 18 "TopplemoorModel" "avalanche" "[I", Cond.fieldLink RX5 30 "TopplemoorModel" "kept" "Ljava/util/ArrayList;", Cond.fieldLink RX5 128 "TopplemoorModel" "walked" "I", Cond.methodLink RX5 59 yX5_degree, Cond.instanceMethod yX5_degree, Cond.selects RX5 yX5_degree yX5_degree, Cond.initialized RX5, Cond.code yX5_degree cX5_degree 7 (some .int), Cond.fieldLink RX5 11 "TopplemoorModel" "edges" "[[I", Cond.methodLink RX5 135 yX5_one, Cond.static yX5_one, Cond.code yX5_one cX5_one 1 (some .int), Cond.methodLink RX5 63 yX5_isSteep, Cond.instanceMethod yX5_isSteep, Cond.selects RX5 yX5_isSteep yX5_isSteep, Cond.code yX5_isSteep cX5_isSteep 3 (some .boolean), Cond.methodLink RX5 78 yX5_sum, Cond.static yX5_sum]
def wsX5_told_r2 : List Cond := [Cond.code yX5_sum cX5_sum 6 (some .int), Cond.methodLink RX5 87 yX5_isFast, Cond.instanceMethod yX5_isFast, Cond.selects RX5 yX5_isFast yX5_isFast, Cond.code yX5_isFast cX5_isFast 5 (some .boolean), Cond.arrayClass .boolean, Cond.methodLink RX5 104 yJx4a65c_size_8abf5, Cond.instanceMethod yJx4a65c_size_8abf5, Cond.selects RJx4a65c yJx4a65c_size_8abf5 yJx4a65c_size_8abf5, Cond.initialized RJx4a65c, Cond.code yJx4a65c_size_8abf5 cJx4a65c_size_8abf5 1 (some .int), Cond.fieldLink RJx4a65c 48 "java/util/ArrayList" "size" "I", Cond.methodLink RX5 142 yX5_isTree, Cond.instanceMethod yX5_isTree, Cond.selects RX5 yX5_isTree yX5_isTree, Cond.code yX5_isTree cX5_isTree 4 (some .boolean), Cond.fieldLink RX5 21 "TopplemoorModel" "rotors" "[I", Cond.methodLink RX5 124 yX5_pointed, Cond.instanceMethod yX5_pointed, Cond.selects RX5 yX5_pointed yX5_pointed, Cond.code yX5_pointed cX5_pointed 5 (some .int)]
def wsX5_told : List Cond := .code yX5_told cX5_told 6 (some .int) :: ((wsX5_told_r1 ++ wsX5_told_r2) ++ wsX50 ++ wsJx4a65c0)
def wsX5_many_r1 : List Cond := [Cond.methodLink RX5 45 yX5_isIn, Cond.static yX5_isIn, Cond.initialized RX5, Cond.code yX5_isIn cX5_isIn 3 (some .boolean), Cond.methodLink RX5 53 yX5_start, Cond.instanceMethod yX5_start, Cond.selects RX5 yX5_start yX5_start, Cond.code yX5_start cX5_start 3 (some .boolean), Cond.fieldLink RX5 34 "TopplemoorModel" "thrown" "I", Cond.methodLink RX5 38 yX5_refuse, Cond.instanceMethod yX5_refuse, Cond.selects RX5 yX5_refuse yX5_refuse, Cond.code yX5_refuse cX5_refuse 3 (some .boolean), Cond.methodLink RX5 145 yX5_told, Cond.instanceMethod yX5_told, Cond.selects RX5 yX5_told yX5_told, Cond.code yX5_told cX5_told 6 (some .int), Cond.fieldLink RX5 24 "TopplemoorModel" "coins" "[I", Cond.fieldLink RX5 42 "TopplemoorModel" "spots" "I", Cond.fieldLink RX5 14 "TopplemoorModel" "grains" "[I", Cond.arrayClass .int, Cond.fieldLink RX5 81 "TopplemoorModel" "swallowed" "I", Cond.fieldLink RX5 75 "TopplemoorModel" "topples" "I", Cond.fieldLink RX5 18 "TopplemoorModel" "avalanche" "[I"]
def wsX5_many_r2 : List Cond := [Cond.fieldLink RX5 30 "TopplemoorModel" "kept" "Ljava/util/ArrayList;", Cond.fieldLink RX5 128 "TopplemoorModel" "walked" "I", Cond.methodLink RX5 59 yX5_degree, Cond.instanceMethod yX5_degree, Cond.selects RX5 yX5_degree yX5_degree, Cond.code yX5_degree cX5_degree 7 (some .int), Cond.fieldLink RX5 11 "TopplemoorModel" "edges" "[[I", Cond.methodLink RX5 135 yX5_one, Cond.static yX5_one, Cond.code yX5_one cX5_one 1 (some .int), Cond.methodLink RX5 63 yX5_isSteep, Cond.instanceMethod yX5_isSteep, Cond.selects RX5 yX5_isSteep yX5_isSteep, Cond.code yX5_isSteep cX5_isSteep 3 (some .boolean), Cond.methodLink RX5 78 yX5_sum, Cond.static yX5_sum, Cond.code yX5_sum cX5_sum 6 (some .int), Cond.methodLink RX5 87 yX5_isFast, Cond.instanceMethod yX5_isFast, Cond.selects RX5 yX5_isFast yX5_isFast, Cond.code yX5_isFast cX5_isFast 5 (some .boolean), Cond.arrayClass .boolean, Cond.methodLink RX5 104 yJx4a65c_size_8abf5, Cond.instanceMethod yJx4a65c_size_8abf5]
def wsX5_many_r3 : List Cond := [Cond.selects RJx4a65c yJx4a65c_size_8abf5 yJx4a65c_size_8abf5, Cond.initialized RJx4a65c, Cond.code yJx4a65c_size_8abf5 cJx4a65c_size_8abf5 1 (some .int), Cond.fieldLink RJx4a65c 48 "java/util/ArrayList" "size" "I", Cond.methodLink RX5 142 yX5_isTree, Cond.instanceMethod yX5_isTree, Cond.selects RX5 yX5_isTree yX5_isTree, Cond.code yX5_isTree cX5_isTree 4 (some .boolean), Cond.fieldLink RX5 21 "TopplemoorModel" "rotors" "[I", Cond.methodLink RX5 124 yX5_pointed, Cond.instanceMethod yX5_pointed, Cond.selects RX5 yX5_pointed yX5_pointed, Cond.code yX5_pointed cX5_pointed 5 (some .int)]
def wsX5_many : List Cond := .code yX5_many cX5_many 2 (some .int) :: ((wsX5_many_r1 ++ (wsX5_many_r2 ++ wsX5_many_r3)) ++ wsX50 ++ wsJx4a65c0)
def wsX5_determinant : List Cond := .code yX5_determinant cX5_determinant 7 (some .long) :: ([.methodLink RX5 148 yX5_determinant, .static yX5_determinant, .initialized RX5])
def wsX5_counted : List Cond := .code yX5_counted cX5_counted 4 (some .long) :: ([.fieldLink RX5 42 "TopplemoorModel" "spots" "I", .classLink RX5 119 "[I", .arrayClass .int, .fieldLink RX5 11 "TopplemoorModel" "edges" "[[I", .methodLink RX5 59 yX5_degree, .instanceMethod yX5_degree, .selects RX5 yX5_degree yX5_degree, .initialized RX5, .code yX5_degree cX5_degree 7 (some .int), .methodLink RX5 148 yX5_determinant, .static yX5_determinant, .code yX5_determinant cX5_determinant 7 (some .long)] ++ wsX50)
def wsX5_count : List Cond := .code yX5_count cX5_count 1 (some .long) :: ([.fieldLink RX5 34 "TopplemoorModel" "thrown" "I", .methodLink RX5 152 yX5_counted, .instanceMethod yX5_counted, .selects RX5 yX5_counted yX5_counted, .initialized RX5, .code yX5_counted cX5_counted 4 (some .long), .fieldLink RX5 42 "TopplemoorModel" "spots" "I", .classLink RX5 119 "[I", .arrayClass .int, .fieldLink RX5 11 "TopplemoorModel" "edges" "[[I", .methodLink RX5 59 yX5_degree, .instanceMethod yX5_degree, .selects RX5 yX5_degree yX5_degree, .code yX5_degree cX5_degree 7 (some .int), .methodLink RX5 148 yX5_determinant, .static yX5_determinant, .code yX5_determinant cX5_determinant 7 (some .long)] ++ wsX50)
def wsJ9_copySign_eb370 : List Cond := .code yJ9_copySign_eb370 cJ9_copySign_eb370 4 (some .double) :: ([.methodLink RJ9 79 ⟨"java/lang/Double", "doubleToRawLongBits", "(D)J"⟩, .native ⟨"java/lang/Double", "doubleToRawLongBits", "(D)J"⟩, .static ⟨"java/lang/Double", "doubleToRawLongBits", "(D)J"⟩, .initialized "java/lang/Double", .constantLong RJ9 128 (-9223372036854775808), .constantLong RJ9 135 (9223372036854775807), .methodLink RJ9 166 ⟨"java/lang/Double", "longBitsToDouble", "(J)D"⟩, .native ⟨"java/lang/Double", "longBitsToDouble", "(J)D"⟩, .static ⟨"java/lang/Double", "longBitsToDouble", "(J)D"⟩])
def wsJ9_abs_294c1 : List Cond := .code yJ9_abs_294c1 cJ9_abs_294c1 2 (some .double) :: ([.methodLink RJ9 79 ⟨"java/lang/Double", "doubleToRawLongBits", "(D)J"⟩, .native ⟨"java/lang/Double", "doubleToRawLongBits", "(D)J"⟩, .static ⟨"java/lang/Double", "doubleToRawLongBits", "(D)J"⟩, .initialized "java/lang/Double", .constantLong RJ9 135 (9223372036854775807), .methodLink RJ9 166 ⟨"java/lang/Double", "longBitsToDouble", "(J)D"⟩, .native ⟨"java/lang/Double", "longBitsToDouble", "(J)D"⟩, .static ⟨"java/lang/Double", "longBitsToDouble", "(J)D"⟩])
def wsJxfc994_rint_294c1 : List Cond := .code yJxfc994_rint_294c1 cJxfc994_rint_294c1 6 (some .double) :: ([.constantDouble RJxfc994 93 (4841369599423283200), .methodLink RJxfc994 95 yJ9_copySign_eb370, .static yJ9_copySign_eb370, .initialized RJ9, .code yJ9_copySign_eb370 cJ9_copySign_eb370 4 (some .double), .methodLink RJ9 79 ⟨"java/lang/Double", "doubleToRawLongBits", "(D)J"⟩, .native ⟨"java/lang/Double", "doubleToRawLongBits", "(D)J"⟩, .static ⟨"java/lang/Double", "doubleToRawLongBits", "(D)J"⟩, .initialized "java/lang/Double", .constantLong RJ9 128 (-9223372036854775808), .constantLong RJ9 135 (9223372036854775807), .methodLink RJ9 166 ⟨"java/lang/Double", "longBitsToDouble", "(J)D"⟩, .native ⟨"java/lang/Double", "longBitsToDouble", "(J)D"⟩, .static ⟨"java/lang/Double", "longBitsToDouble", "(J)D"⟩, .methodLink RJxfc994 98 yJ9_abs_294c1, .static yJ9_abs_294c1, .code yJ9_abs_294c1 cJ9_abs_294c1 2 (some .double)])
def wsJ9_rint_294c1 : List Cond := .code yJ9_rint_294c1 cJ9_rint_294c1 2 (some .double) :: ([.methodLink RJ9 59 yJxfc994_rint_294c1, .static yJxfc994_rint_294c1, .initialized RJxfc994, .code yJxfc994_rint_294c1 cJxfc994_rint_294c1 6 (some .double), .constantDouble RJxfc994 93 (4841369599423283200), .methodLink RJxfc994 95 yJ9_copySign_eb370, .static yJ9_copySign_eb370, .initialized RJ9, .code yJ9_copySign_eb370 cJ9_copySign_eb370 4 (some .double), .methodLink RJ9 79 ⟨"java/lang/Double", "doubleToRawLongBits", "(D)J"⟩, .native ⟨"java/lang/Double", "doubleToRawLongBits", "(D)J"⟩, .static ⟨"java/lang/Double", "doubleToRawLongBits", "(D)J"⟩, .initialized "java/lang/Double", .constantLong RJ9 128 (-9223372036854775808), .constantLong RJ9 135 (9223372036854775807), .methodLink RJ9 166 ⟨"java/lang/Double", "longBitsToDouble", "(J)D"⟩, .native ⟨"java/lang/Double", "longBitsToDouble", "(J)D"⟩, .static ⟨"java/lang/Double", "longBitsToDouble", "(J)D"⟩, .methodLink RJxfc994 98 yJ9_abs_294c1, .static yJ9_abs_294c1, .code yJ9_abs_294c1 cJ9_abs_294c1 2 (some .double)])
def wsX5_density_r1 : List Cond := [Cond.fieldLink RX5 34 "TopplemoorModel" "thrown" "I", Cond.fieldLink RX5 42 "TopplemoorModel" "spots" "I", Cond.constantDouble RX5 156 (4616189618054758400), Cond.fieldLink RX5 14 "TopplemoorModel" "grains" "[I", Cond.methodLink RX5 78 yX5_sum, Cond.static yX5_sum, Cond.initialized RX5, Cond.code yX5_sum cX5_sum 6 (some .int), Cond.methodLink RX5 158 yJ9_rint_294c1, Cond.static yJ9_rint_294c1, Cond.initialized RJ9, Cond.code yJ9_rint_294c1 cJ9_rint_294c1 2 (some .double), Cond.methodLink RJ9 59 yJxfc994_rint_294c1, Cond.static yJxfc994_rint_294c1, Cond.initialized RJxfc994, Cond.code yJxfc994_rint_294c1 cJxfc994_rint_294c1 6 (some .double), Cond.constantDouble RJxfc994 93 (4841369599423283200), Cond.methodLink RJxfc994 95 yJ9_copySign_eb370, Cond.static yJ9_copySign_eb370, Cond.code yJ9_copySign_eb370 cJ9_copySign_eb370 4 (some .double), Cond.methodLink RJ9 79 ⟨"java/lang/Double", "doubleToRawLongBits", "(D)J"⟩, Cond.native ⟨"java/lang/Double", "doubleToRawLongBits", "(D)J"⟩, Cond.static ⟨"java/lang/Double", "doubleToRawLongBits", "(D)J"⟩, Cond.initialized "java/lang/Double"]
def wsX5_density_r2 : List Cond := [Cond.constantLong RJ9 128 (-9223372036854775808), Cond.constantLong RJ9 135 (9223372036854775807), Cond.methodLink RJ9 166 ⟨"java/lang/Double", "longBitsToDouble", "(J)D"⟩, Cond.native ⟨"java/lang/Double", "longBitsToDouble", "(J)D"⟩, Cond.static ⟨"java/lang/Double", "longBitsToDouble", "(J)D"⟩, Cond.methodLink RJxfc994 98 yJ9_abs_294c1, Cond.static yJ9_abs_294c1, Cond.code yJ9_abs_294c1 cJ9_abs_294c1 2 (some .double)]
def wsX5_density : List Cond := .code yX5_density cX5_density 1 (some .double) :: ((wsX5_density_r1 ++ wsX5_density_r2) ++ wsX50)
def wsX5_wouldDo_r1 : List Cond := [Cond.fieldLink RX5 14 "TopplemoorModel" "grains" "[I", Cond.fieldLink RX5 42 "TopplemoorModel" "spots" "I", Cond.methodLink RX5 108 yX5_copy, Cond.static yX5_copy, Cond.initialized RX5, Cond.code yX5_copy cX5_copy 2 (some (.array .int)), Cond.arrayClass .int, Cond.methodLink RX5 98 arraycopyName, Cond.native arraycopyName, Cond.static arraycopyName, Cond.initialized "java/lang/System", Cond.methodLink RX5 91 yX5_settled, Cond.instanceMethod yX5_settled, Cond.selects RX5 yX5_settled yX5_settled, Cond.code yX5_settled cX5_settled 4 (some (.array .int)), Cond.methodLink RX5 67 yX5_steepest, Cond.instanceMethod yX5_steepest, Cond.selects RX5 yX5_steepest yX5_steepest, Cond.code yX5_steepest cX5_steepest 3 (some .int), Cond.methodLink RX5 63 yX5_isSteep, Cond.instanceMethod yX5_isSteep, Cond.selects RX5 yX5_isSteep yX5_isSteep, Cond.code yX5_isSteep cX5_isSteep 3 (some .boolean), Cond.methodLink RX5 59 yX5_degree]
def wsX5_wouldDo_r2 : List Cond := [Cond.instanceMethod yX5_degree, Cond.selects RX5 yX5_degree yX5_degree, Cond.code yX5_degree cX5_degree 7 (some .int), Cond.fieldLink RX5 11 "TopplemoorModel" "edges" "[[I", Cond.methodLink RX5 71 yX5_fall, Cond.instanceMethod yX5_fall, Cond.selects RX5 yX5_fall yX5_fall, Cond.code yX5_fall cX5_fall 4 none, Cond.methodLink RX5 135 yX5_one, Cond.static yX5_one, Cond.code yX5_one cX5_one 1 (some .int), Cond.methodLink RX5 78 yX5_sum, Cond.static yX5_sum, Cond.code yX5_sum cX5_sum 6 (some .int), Cond.methodLink RX5 84 yX5_swallowedBy, Cond.instanceMethod yX5_swallowedBy, Cond.selects RX5 yX5_swallowedBy yX5_swallowedBy, Cond.code yX5_swallowedBy cX5_swallowedBy 4 (some .int)]
def wsX5_wouldDo : List Cond := .code yX5_wouldDo cX5_wouldDo 8 (some .int) :: ((wsX5_wouldDo_r1 ++ wsX5_wouldDo_r2) ++ wsX50)
def wsX5_would_r1 : List Cond := [Cond.methodLink RX5 49 yX5_isNoSpot, Cond.instanceMethod yX5_isNoSpot, Cond.selects RX5 yX5_isNoSpot yX5_isNoSpot, Cond.initialized RX5, Cond.code yX5_isNoSpot cX5_isNoSpot 2 (some .boolean), Cond.fieldLink RX5 42 "TopplemoorModel" "spots" "I", Cond.methodLink RX5 45 yX5_isIn, Cond.static yX5_isIn, Cond.code yX5_isIn cX5_isIn 3 (some .boolean), Cond.methodLink RX5 53 yX5_start, Cond.instanceMethod yX5_start, Cond.selects RX5 yX5_start yX5_start, Cond.code yX5_start cX5_start 3 (some .boolean), Cond.fieldLink RX5 34 "TopplemoorModel" "thrown" "I", Cond.methodLink RX5 38 yX5_refuse, Cond.instanceMethod yX5_refuse, Cond.selects RX5 yX5_refuse yX5_refuse, Cond.code yX5_refuse cX5_refuse 3 (some .boolean), Cond.methodLink RX5 87 yX5_isFast, Cond.instanceMethod yX5_isFast, Cond.selects RX5 yX5_isFast yX5_isFast, Cond.code yX5_isFast cX5_isFast 5 (some .boolean), Cond.arrayClass .boolean, Cond.fieldLink RX5 11 "TopplemoorModel" "edges" "[[I"]
def wsX5_would_r2 : List Cond := [Cond.methodLink RX5 164 yX5_wouldDo, Cond.instanceMethod yX5_wouldDo, Cond.selects RX5 yX5_wouldDo yX5_wouldDo, Cond.code yX5_wouldDo cX5_wouldDo 8 (some .int), Cond.fieldLink RX5 14 "TopplemoorModel" "grains" "[I", Cond.methodLink RX5 108 yX5_copy, Cond.static yX5_copy, Cond.code yX5_copy cX5_copy 2 (some (.array .int)), Cond.arrayClass .int, Cond.methodLink RX5 98 arraycopyName, Cond.native arraycopyName, Cond.static arraycopyName, Cond.initialized "java/lang/System", Cond.methodLink RX5 91 yX5_settled, Cond.instanceMethod yX5_settled, Cond.selects RX5 yX5_settled yX5_settled, Cond.code yX5_settled cX5_settled 4 (some (.array .int)), Cond.methodLink RX5 67 yX5_steepest, Cond.instanceMethod yX5_steepest, Cond.selects RX5 yX5_steepest yX5_steepest, Cond.code yX5_steepest cX5_steepest 3 (some .int), Cond.methodLink RX5 63 yX5_isSteep, Cond.instanceMethod yX5_isSteep, Cond.selects RX5 yX5_isSteep yX5_isSteep]
def wsX5_would_r3 : List Cond := [Cond.code yX5_isSteep cX5_isSteep 3 (some .boolean), Cond.methodLink RX5 59 yX5_degree, Cond.instanceMethod yX5_degree, Cond.selects RX5 yX5_degree yX5_degree, Cond.code yX5_degree cX5_degree 7 (some .int), Cond.methodLink RX5 71 yX5_fall, Cond.instanceMethod yX5_fall, Cond.selects RX5 yX5_fall yX5_fall, Cond.code yX5_fall cX5_fall 4 none, Cond.methodLink RX5 135 yX5_one, Cond.static yX5_one, Cond.code yX5_one cX5_one 1 (some .int), Cond.methodLink RX5 78 yX5_sum, Cond.static yX5_sum, Cond.code yX5_sum cX5_sum 6 (some .int), Cond.methodLink RX5 84 yX5_swallowedBy, Cond.instanceMethod yX5_swallowedBy, Cond.selects RX5 yX5_swallowedBy yX5_swallowedBy, Cond.code yX5_swallowedBy cX5_swallowedBy 4 (some .int)]
def wsX5_would : List Cond := .code yX5_would cX5_would 4 (some .int) :: ((wsX5_would_r1 ++ (wsX5_would_r2 ++ wsX5_would_r3)) ++ wsX50)
def wsX5_isKeptOn_r1 : List Cond := [Cond.fieldLink RX5 14 "TopplemoorModel" "grains" "[I", Cond.fieldLink RX5 42 "TopplemoorModel" "spots" "I", Cond.fieldLink RX5 11 "TopplemoorModel" "edges" "[[I", Cond.methodLink RX5 67 yX5_steepest, Cond.instanceMethod yX5_steepest, Cond.selects RX5 yX5_steepest yX5_steepest, Cond.initialized RX5, Cond.code yX5_steepest cX5_steepest 3 (some .int), Cond.methodLink RX5 63 yX5_isSteep, Cond.instanceMethod yX5_isSteep, Cond.selects RX5 yX5_isSteep yX5_isSteep, Cond.code yX5_isSteep cX5_isSteep 3 (some .boolean), Cond.methodLink RX5 59 yX5_degree, Cond.instanceMethod yX5_degree, Cond.selects RX5 yX5_degree yX5_degree, Cond.code yX5_degree cX5_degree 7 (some .int), Cond.methodLink RX5 108 yX5_copy, Cond.static yX5_copy, Cond.code yX5_copy cX5_copy 2 (some (.array .int)), Cond.arrayClass .int, Cond.methodLink RX5 98 arraycopyName, Cond.native arraycopyName, Cond.static arraycopyName, Cond.initialized "java/lang/System"]
def wsX5_isKeptOn_r2 : List Cond := [Cond.methodLink RX5 91 yX5_settled, Cond.instanceMethod yX5_settled, Cond.selects RX5 yX5_settled yX5_settled, Cond.code yX5_settled cX5_settled 4 (some (.array .int)), Cond.methodLink RX5 71 yX5_fall, Cond.instanceMethod yX5_fall, Cond.selects RX5 yX5_fall yX5_fall, Cond.code yX5_fall cX5_fall 4 none]
def wsX5_isKeptOn : List Cond := .code yX5_isKeptOn cX5_isKeptOn 4 (some .boolean) :: ((wsX5_isKeptOn_r1 ++ wsX5_isKeptOn_r2) ++ wsX50)
def wsX5_isLasting_r1 : List Cond := [Cond.methodLink RX5 87 yX5_isFast, Cond.instanceMethod yX5_isFast, Cond.selects RX5 yX5_isFast yX5_isFast, Cond.initialized RX5, Cond.code yX5_isFast cX5_isFast 5 (some .boolean), Cond.arrayClass .boolean, Cond.fieldLink RX5 11 "TopplemoorModel" "edges" "[[I", Cond.fieldLink RX5 42 "TopplemoorModel" "spots" "I", Cond.methodLink RX5 53 yX5_start, Cond.instanceMethod yX5_start, Cond.selects RX5 yX5_start yX5_start, Cond.code yX5_start cX5_start 3 (some .boolean), Cond.fieldLink RX5 34 "TopplemoorModel" "thrown" "I", Cond.methodLink RX5 38 yX5_refuse, Cond.instanceMethod yX5_refuse, Cond.selects RX5 yX5_refuse yX5_refuse, Cond.code yX5_refuse cX5_refuse 3 (some .boolean), Cond.methodLink RX5 168 yX5_isKeptOn, Cond.instanceMethod yX5_isKeptOn, Cond.selects RX5 yX5_isKeptOn yX5_isKeptOn, Cond.code yX5_isKeptOn cX5_isKeptOn 4 (some .boolean), Cond.fieldLink RX5 14 "TopplemoorModel" "grains" "[I", Cond.methodLink RX5 67 yX5_steepest, Cond.instanceMethod yX5_steepest]
def wsX5_isLasting_r2 : List Cond := [Cond.selects RX5 yX5_steepest yX5_steepest, Cond.code yX5_steepest cX5_steepest 3 (some .int), Cond.methodLink RX5 63 yX5_isSteep, Cond.instanceMethod yX5_isSteep, Cond.selects RX5 yX5_isSteep yX5_isSteep, Cond.code yX5_isSteep cX5_isSteep 3 (some .boolean), Cond.methodLink RX5 59 yX5_degree, Cond.instanceMethod yX5_degree, Cond.selects RX5 yX5_degree yX5_degree, Cond.code yX5_degree cX5_degree 7 (some .int), Cond.methodLink RX5 108 yX5_copy, Cond.static yX5_copy, Cond.code yX5_copy cX5_copy 2 (some (.array .int)), Cond.arrayClass .int, Cond.methodLink RX5 98 arraycopyName, Cond.native arraycopyName, Cond.static arraycopyName, Cond.initialized "java/lang/System", Cond.methodLink RX5 91 yX5_settled, Cond.instanceMethod yX5_settled, Cond.selects RX5 yX5_settled yX5_settled, Cond.code yX5_settled cX5_settled 4 (some (.array .int)), Cond.methodLink RX5 71 yX5_fall, Cond.instanceMethod yX5_fall]
def wsX5_isLasting_r3 : List Cond := [Cond.selects RX5 yX5_fall yX5_fall, Cond.code yX5_fall cX5_fall 4 none]
def wsX5_isLasting : List Cond := .code yX5_isLasting cX5_isLasting 1 (some .boolean) :: ((wsX5_isLasting_r1 ++ (wsX5_isLasting_r2 ++ wsX5_isLasting_r3)) ++ wsX50)
def wsX5_neutral_r1 : List Cond := [Cond.arrayClass .int, Cond.fieldLink RX5 42 "TopplemoorModel" "spots" "I", Cond.methodLink RX5 59 yX5_degree, Cond.instanceMethod yX5_degree, Cond.selects RX5 yX5_degree yX5_degree, Cond.initialized RX5, Cond.code yX5_degree cX5_degree 7 (some .int), Cond.fieldLink RX5 11 "TopplemoorModel" "edges" "[[I", Cond.methodLink RX5 108 yX5_copy, Cond.static yX5_copy, Cond.code yX5_copy cX5_copy 2 (some (.array .int)), Cond.methodLink RX5 98 arraycopyName, Cond.native arraycopyName, Cond.static arraycopyName, Cond.initialized "java/lang/System", Cond.methodLink RX5 91 yX5_settled, Cond.instanceMethod yX5_settled, Cond.selects RX5 yX5_settled yX5_settled, Cond.code yX5_settled cX5_settled 4 (some (.array .int)), Cond.methodLink RX5 67 yX5_steepest, Cond.instanceMethod yX5_steepest, Cond.selects RX5 yX5_steepest yX5_steepest, Cond.code yX5_steepest cX5_steepest 3 (some .int), Cond.methodLink RX5 63 yX5_isSteep]
def wsX5_neutral_r2 : List Cond := [Cond.instanceMethod yX5_isSteep, Cond.selects RX5 yX5_isSteep yX5_isSteep, Cond.code yX5_isSteep cX5_isSteep 3 (some .boolean), Cond.methodLink RX5 71 yX5_fall, Cond.instanceMethod yX5_fall, Cond.selects RX5 yX5_fall yX5_fall, Cond.code yX5_fall cX5_fall 4 none]
def wsX5_neutral : List Cond := .code yX5_neutral cX5_neutral 4 (some (.array .int)) :: ((wsX5_neutral_r1 ++ wsX5_neutral_r2) ++ wsX50)
def wsX5_neutral__r1 : List Cond := [Cond.methodLink RX5 49 yX5_isNoSpot, Cond.instanceMethod yX5_isNoSpot, Cond.selects RX5 yX5_isNoSpot yX5_isNoSpot, Cond.initialized RX5, Cond.code yX5_isNoSpot cX5_isNoSpot 2 (some .boolean), Cond.fieldLink RX5 42 "TopplemoorModel" "spots" "I", Cond.methodLink RX5 45 yX5_isIn, Cond.static yX5_isIn, Cond.code yX5_isIn cX5_isIn 3 (some .boolean), Cond.methodLink RX5 53 yX5_start, Cond.instanceMethod yX5_start, Cond.selects RX5 yX5_start yX5_start, Cond.code yX5_start cX5_start 3 (some .boolean), Cond.fieldLink RX5 34 "TopplemoorModel" "thrown" "I", Cond.methodLink RX5 38 yX5_refuse, Cond.instanceMethod yX5_refuse, Cond.selects RX5 yX5_refuse yX5_refuse, Cond.code yX5_refuse cX5_refuse 3 (some .boolean), Cond.methodLink RX5 87 yX5_isFast, Cond.instanceMethod yX5_isFast, Cond.selects RX5 yX5_isFast yX5_isFast, Cond.code yX5_isFast cX5_isFast 5 (some .boolean), Cond.arrayClass .boolean, Cond.fieldLink RX5 11 "TopplemoorModel" "edges" "[[I"]
def wsX5_neutral__r2 : List Cond := [Cond.methodLink RX5 171 yX5_neutral, Cond.instanceMethod yX5_neutral, Cond.selects RX5 yX5_neutral yX5_neutral, Cond.code yX5_neutral cX5_neutral 4 (some (.array .int)), Cond.arrayClass .int, Cond.methodLink RX5 59 yX5_degree, Cond.instanceMethod yX5_degree, Cond.selects RX5 yX5_degree yX5_degree, Cond.code yX5_degree cX5_degree 7 (some .int), Cond.methodLink RX5 108 yX5_copy, Cond.static yX5_copy, Cond.code yX5_copy cX5_copy 2 (some (.array .int)), Cond.methodLink RX5 98 arraycopyName, Cond.native arraycopyName, Cond.static arraycopyName, Cond.initialized "java/lang/System", Cond.methodLink RX5 91 yX5_settled, Cond.instanceMethod yX5_settled, Cond.selects RX5 yX5_settled yX5_settled, Cond.code yX5_settled cX5_settled 4 (some (.array .int)), Cond.methodLink RX5 67 yX5_steepest, Cond.instanceMethod yX5_steepest, Cond.selects RX5 yX5_steepest yX5_steepest, Cond.code yX5_steepest cX5_steepest 3 (some .int)]
def wsX5_neutral__r3 : List Cond := [Cond.methodLink RX5 63 yX5_isSteep, Cond.instanceMethod yX5_isSteep, Cond.selects RX5 yX5_isSteep yX5_isSteep, Cond.code yX5_isSteep cX5_isSteep 3 (some .boolean), Cond.methodLink RX5 71 yX5_fall, Cond.instanceMethod yX5_fall, Cond.selects RX5 yX5_fall yX5_fall, Cond.code yX5_fall cX5_fall 4 none]
def wsX5_neutral_ : List Cond := .code yX5_neutral_ cX5_neutral_ 2 (some .int) :: ((wsX5_neutral__r1 ++ (wsX5_neutral__r2 ++ wsX5_neutral__r3)) ++ wsX50)
def wsX5_burnt : List Cond := .code yX5_burnt cX5_burnt 7 (some .int) :: ([.fieldLink RX5 42 "TopplemoorModel" "spots" "I", .fieldLink RX5 11 "TopplemoorModel" "edges" "[[I", .fieldLink RX5 14 "TopplemoorModel" "grains" "[I"] ++ wsX50)
def wsX5_fire : List Cond := .code yX5_fire cX5_fire 1 (some .int) :: ([.fieldLink RX5 34 "TopplemoorModel" "thrown" "I", .methodLink RX5 175 yX5_burnt, .instanceMethod yX5_burnt, .selects RX5 yX5_burnt yX5_burnt, .initialized RX5, .code yX5_burnt cX5_burnt 7 (some .int), .fieldLink RX5 42 "TopplemoorModel" "spots" "I", .fieldLink RX5 11 "TopplemoorModel" "edges" "[[I", .fieldLink RX5 14 "TopplemoorModel" "grains" "[I"] ++ wsX50)
def wsX5_isSame : List Cond := .code yX5_isSame cX5_isSame 3 (some .boolean) :: ([])
def wsX5_order_r1 : List Cond := [Cond.fieldLink RX5 14 "TopplemoorModel" "grains" "[I", Cond.methodLink RX5 87 yX5_isFast, Cond.instanceMethod yX5_isFast, Cond.selects RX5 yX5_isFast yX5_isFast, Cond.initialized RX5, Cond.code yX5_isFast cX5_isFast 5 (some .boolean), Cond.arrayClass .boolean, Cond.fieldLink RX5 11 "TopplemoorModel" "edges" "[[I", Cond.fieldLink RX5 42 "TopplemoorModel" "spots" "I", Cond.methodLink RX5 53 yX5_start, Cond.instanceMethod yX5_start, Cond.selects RX5 yX5_start yX5_start, Cond.code yX5_start cX5_start 3 (some .boolean), Cond.fieldLink RX5 34 "TopplemoorModel" "thrown" "I", Cond.methodLink RX5 38 yX5_refuse, Cond.instanceMethod yX5_refuse, Cond.selects RX5 yX5_refuse yX5_refuse, Cond.code yX5_refuse cX5_refuse 3 (some .boolean), Cond.methodLink RX5 171 yX5_neutral, Cond.instanceMethod yX5_neutral, Cond.selects RX5 yX5_neutral yX5_neutral, Cond.code yX5_neutral cX5_neutral 4 (some (.array .int)), Cond.arrayClass .int, Cond.methodLink RX5 59 yX5_degree]
def wsX5_order_r2 : List Cond := [Cond.instanceMethod yX5_degree, Cond.selects RX5 yX5_degree yX5_degree, Cond.code yX5_degree cX5_degree 7 (some .int), Cond.methodLink RX5 108 yX5_copy, Cond.static yX5_copy, Cond.code yX5_copy cX5_copy 2 (some (.array .int)), Cond.methodLink RX5 98 arraycopyName, Cond.native arraycopyName, Cond.static arraycopyName, Cond.initialized "java/lang/System", Cond.methodLink RX5 91 yX5_settled, Cond.instanceMethod yX5_settled, Cond.selects RX5 yX5_settled yX5_settled, Cond.code yX5_settled cX5_settled 4 (some (.array .int)), Cond.methodLink RX5 67 yX5_steepest, Cond.instanceMethod yX5_steepest, Cond.selects RX5 yX5_steepest yX5_steepest, Cond.code yX5_steepest cX5_steepest 3 (some .int), Cond.methodLink RX5 63 yX5_isSteep, Cond.instanceMethod yX5_isSteep, Cond.selects RX5 yX5_isSteep yX5_isSteep, Cond.code yX5_isSteep cX5_isSteep 3 (some .boolean), Cond.methodLink RX5 71 yX5_fall, Cond.instanceMethod yX5_fall]
def wsX5_order_r3 : List Cond := [Cond.selects RX5 yX5_fall yX5_fall, Cond.code yX5_fall cX5_fall 4 none, Cond.methodLink RX5 120 yX5_plus, Cond.static yX5_plus, Cond.code yX5_plus cX5_plus 4 (some (.array .int)), Cond.methodLink RX5 178 yX5_isSame, Cond.static yX5_isSame, Cond.code yX5_isSame cX5_isSame 3 (some .boolean)]
def wsX5_order : List Cond := .code yX5_order cX5_order 4 (some .int) :: ((wsX5_order_r1 ++ (wsX5_order_r2 ++ wsX5_order_r3)) ++ wsX50)
def wsX5_canPay_r1 : List Cond := [Cond.fieldLink RX5 24 "TopplemoorModel" "coins" "[I", Cond.methodLink RX5 87 yX5_isFast, Cond.instanceMethod yX5_isFast, Cond.selects RX5 yX5_isFast yX5_isFast, Cond.initialized RX5, Cond.code yX5_isFast cX5_isFast 5 (some .boolean), Cond.arrayClass .boolean, Cond.fieldLink RX5 11 "TopplemoorModel" "edges" "[[I", Cond.fieldLink RX5 42 "TopplemoorModel" "spots" "I", Cond.methodLink RX5 53 yX5_start, Cond.instanceMethod yX5_start, Cond.selects RX5 yX5_start yX5_start, Cond.code yX5_start cX5_start 3 (some .boolean), Cond.fieldLink RX5 34 "TopplemoorModel" "thrown" "I", Cond.methodLink RX5 38 yX5_refuse, Cond.instanceMethod yX5_refuse, Cond.selects RX5 yX5_refuse yX5_refuse, Cond.code yX5_refuse cX5_refuse 3 (some .boolean), Cond.methodLink RX5 182 yX5_isPaid, Cond.instanceMethod yX5_isPaid, Cond.selects RX5 yX5_isPaid yX5_isPaid, Cond.code yX5_isPaid cX5_isPaid 9 (some .boolean), Cond.methodLink RX5 108 yX5_copy, Cond.static yX5_copy]
def wsX5_canPay_r2 : List Cond := [Cond.code yX5_copy cX5_copy 2 (some (.array .int)), Cond.arrayClass .int, Cond.methodLink RX5 98 arraycopyName, Cond.native arraycopyName, Cond.static arraycopyName, Cond.initialized "java/lang/System", Cond.methodLink RX5 131 yX5_give, Cond.instanceMethod yX5_give, Cond.selects RX5 yX5_give yX5_give, Cond.code yX5_give cX5_give 5 none, Cond.methodLink RX5 59 yX5_degree, Cond.instanceMethod yX5_degree, Cond.selects RX5 yX5_degree yX5_degree, Cond.code yX5_degree cX5_degree 7 (some .int)]
def wsX5_canPay : List Cond := .code yX5_canPay cX5_canPay 1 (some .boolean) :: ((wsX5_canPay_r1 ++ wsX5_canPay_r2) ++ wsX50)
def wsX5_weak_r1 : List Cond := [Cond.fieldLink RX5 24 "TopplemoorModel" "coins" "[I", Cond.methodLink RX5 56 yX5_isNoNode, Cond.instanceMethod yX5_isNoNode, Cond.selects RX5 yX5_isNoNode yX5_isNoNode, Cond.initialized RX5, Cond.code yX5_isNoNode cX5_isNoNode 2 (some .boolean), Cond.methodLink RX5 49 yX5_isNoSpot, Cond.instanceMethod yX5_isNoSpot, Cond.selects RX5 yX5_isNoSpot yX5_isNoSpot, Cond.code yX5_isNoSpot cX5_isNoSpot 2 (some .boolean), Cond.fieldLink RX5 42 "TopplemoorModel" "spots" "I", Cond.methodLink RX5 45 yX5_isIn, Cond.static yX5_isIn, Cond.code yX5_isIn cX5_isIn 3 (some .boolean), Cond.methodLink RX5 108 yX5_copy, Cond.static yX5_copy, Cond.code yX5_copy cX5_copy 2 (some (.array .int)), Cond.arrayClass .int, Cond.methodLink RX5 98 arraycopyName, Cond.native arraycopyName, Cond.static arraycopyName, Cond.initialized "java/lang/System", Cond.methodLink RX5 182 yX5_isPaid, Cond.instanceMethod yX5_isPaid]
def wsX5_weak_r2 : List Cond := [Cond.selects RX5 yX5_isPaid yX5_isPaid, Cond.code yX5_isPaid cX5_isPaid 9 (some .boolean), Cond.arrayClass .boolean, Cond.fieldLink RX5 11 "TopplemoorModel" "edges" "[[I", Cond.methodLink RX5 131 yX5_give, Cond.instanceMethod yX5_give, Cond.selects RX5 yX5_give yX5_give, Cond.code yX5_give cX5_give 5 none, Cond.methodLink RX5 59 yX5_degree, Cond.instanceMethod yX5_degree, Cond.selects RX5 yX5_degree yX5_degree, Cond.code yX5_degree cX5_degree 7 (some .int)]
def wsX5_weak : List Cond := .code yX5_weak cX5_weak 3 (some .int) :: ((wsX5_weak_r1 ++ wsX5_weak_r2) ++ wsX50)
def wsX5_weakest_r1 : List Cond := [Cond.methodLink RX5 87 yX5_isFast, Cond.instanceMethod yX5_isFast, Cond.selects RX5 yX5_isFast yX5_isFast, Cond.initialized RX5, Cond.code yX5_isFast cX5_isFast 5 (some .boolean), Cond.arrayClass .boolean, Cond.fieldLink RX5 11 "TopplemoorModel" "edges" "[[I", Cond.fieldLink RX5 42 "TopplemoorModel" "spots" "I", Cond.methodLink RX5 53 yX5_start, Cond.instanceMethod yX5_start, Cond.selects RX5 yX5_start yX5_start, Cond.code yX5_start cX5_start 3 (some .boolean), Cond.fieldLink RX5 34 "TopplemoorModel" "thrown" "I", Cond.methodLink RX5 38 yX5_refuse, Cond.instanceMethod yX5_refuse, Cond.selects RX5 yX5_refuse yX5_refuse, Cond.code yX5_refuse cX5_refuse 3 (some .boolean), Cond.methodLink RX5 186 yX5_weak, Cond.instanceMethod yX5_weak, Cond.selects RX5 yX5_weak yX5_weak, Cond.code yX5_weak cX5_weak 3 (some .int), Cond.fieldLink RX5 24 "TopplemoorModel" "coins" "[I", Cond.methodLink RX5 56 yX5_isNoNode, Cond.instanceMethod yX5_isNoNode]
def wsX5_weakest_r2 : List Cond := [Cond.selects RX5 yX5_isNoNode yX5_isNoNode, Cond.code yX5_isNoNode cX5_isNoNode 2 (some .boolean), Cond.methodLink RX5 49 yX5_isNoSpot, Cond.instanceMethod yX5_isNoSpot, Cond.selects RX5 yX5_isNoSpot yX5_isNoSpot, Cond.code yX5_isNoSpot cX5_isNoSpot 2 (some .boolean), Cond.methodLink RX5 45 yX5_isIn, Cond.static yX5_isIn, Cond.code yX5_isIn cX5_isIn 3 (some .boolean), Cond.methodLink RX5 108 yX5_copy, Cond.static yX5_copy, Cond.code yX5_copy cX5_copy 2 (some (.array .int)), Cond.arrayClass .int, Cond.methodLink RX5 98 arraycopyName, Cond.native arraycopyName, Cond.static arraycopyName, Cond.initialized "java/lang/System", Cond.methodLink RX5 182 yX5_isPaid, Cond.instanceMethod yX5_isPaid, Cond.selects RX5 yX5_isPaid yX5_isPaid, Cond.code yX5_isPaid cX5_isPaid 9 (some .boolean), Cond.methodLink RX5 131 yX5_give, Cond.instanceMethod yX5_give, Cond.selects RX5 yX5_give yX5_give]
def wsX5_weakest_r3 : List Cond := [Cond.code yX5_give cX5_give 5 none, Cond.methodLink RX5 59 yX5_degree, Cond.instanceMethod yX5_degree, Cond.selects RX5 yX5_degree yX5_degree, Cond.code yX5_degree cX5_degree 7 (some .int)]
def wsX5_weakest : List Cond := .code yX5_weakest cX5_weakest 1 (some .int) :: ((wsX5_weakest_r1 ++ (wsX5_weakest_r2 ++ wsX5_weakest_r3)) ++ wsX50)
def wsX5_add_ : List Cond := .code yX5_add_ cX5_add_ 4 (some .long) :: ([.constantLong RX5 189 (31)])
def wsJx35411_init_45d68 : List Cond := .code yJx35411_init_45d68 cJx35411_init_45d68 2 none :: ([.fieldLink RJx35411 1 "java/util/ArrayList$Itr" "this$0" "Ljava/util/ArrayList;", .methodLink RJx35411 7 objectInit, .instanceMethod objectInit, .code objectInit ⟨#[0xb1]⟩ 1 none, .fieldLink RJx35411 13 "java/util/ArrayList$Itr" "lastRet" "I", .fieldLink RJx35411 17 "java/util/ArrayList" "modCount" "I", .sameField "java/util/ArrayList" "java/util/AbstractList" "modCount" "I", .fieldLink RJx35411 22 "java/util/ArrayList$Itr" "expectedModCount" "I"] ++ wsJx354110 ++ wsJx4a65c0)
def wsJx4a65c_iterator_32c93 : List Cond := .code yJx4a65c_iterator_32c93 cJx4a65c_iterator_32c93 1 (some (.object "java/util/Iterator")) :: ([.classLink RJx4a65c 267 RJx35411, .instantiable RJx35411 4, .initialized RJx35411, .methodLink RJx4a65c 269 yJx35411_init_45d68, .instanceMethod yJx35411_init_45d68, .code yJx35411_init_45d68 cJx35411_init_45d68 2 none, .fieldLink RJx35411 1 "java/util/ArrayList$Itr" "this$0" "Ljava/util/ArrayList;", .methodLink RJx35411 7 objectInit, .instanceMethod objectInit, .code objectInit ⟨#[0xb1]⟩ 1 none, .fieldLink RJx35411 13 "java/util/ArrayList$Itr" "lastRet" "I", .fieldLink RJx35411 17 "java/util/ArrayList" "modCount" "I", .sameField "java/util/ArrayList" "java/util/AbstractList" "modCount" "I", .fieldLink RJx35411 22 "java/util/ArrayList$Itr" "expectedModCount" "I"] ++ wsJx354110 ++ wsJx4a65c0)
def wsJx35411_hasNext_aae02 : List Cond := .code yJx35411_hasNext_aae02 cJx35411_hasNext_aae02 1 (some .boolean) :: ([.fieldLink RJx35411 25 "java/util/ArrayList$Itr" "cursor" "I", .fieldLink RJx35411 1 "java/util/ArrayList$Itr" "this$0" "Ljava/util/ArrayList;"] ++ wsJx354110 ++ wsJx4a65c0)
def wsJx35411_checkForComodification_da8c8 : List Cond := .code yJx35411_checkForComodification_da8c8 cJx35411_checkForComodification_da8c8 1 none :: ([.fieldLink RJx35411 1 "java/util/ArrayList$Itr" "this$0" "Ljava/util/ArrayList;", .fieldLink RJx35411 17 "java/util/ArrayList" "modCount" "I", .sameField "java/util/ArrayList" "java/util/AbstractList" "modCount" "I", .fieldLink RJx35411 22 "java/util/ArrayList$Itr" "expectedModCount" "I"] ++ wsJx354110 ++ wsJx4a65c0)
def wsJx35411_next_0502b : List Cond := .code yJx35411_next_0502b cJx35411_next_0502b 3 (some (.object "java/lang/Object")) :: ([.fieldLink RJx35411 25 "java/util/ArrayList$Itr" "cursor" "I", .fieldLink RJx35411 1 "java/util/ArrayList$Itr" "this$0" "Ljava/util/ArrayList;", .fieldLink RJx35411 37 "java/util/ArrayList" "elementData" "[Ljava/lang/Object;", .fieldLink RJx35411 13 "java/util/ArrayList$Itr" "lastRet" "I", .methodLink RJx35411 31 yJx35411_checkForComodification_da8c8, .instanceMethod yJx35411_checkForComodification_da8c8, .selects RJx35411 yJx35411_checkForComodification_da8c8 yJx35411_checkForComodification_da8c8, .initialized RJx35411, .code yJx35411_checkForComodification_da8c8 cJx35411_checkForComodification_da8c8 1 none, .fieldLink RJx35411 17 "java/util/ArrayList" "modCount" "I", .sameField "java/util/ArrayList" "java/util/AbstractList" "modCount" "I", .fieldLink RJx35411 22 "java/util/ArrayList$Itr" "expectedModCount" "I"] ++ wsJx354110 ++ wsJx4a65c0)
def wsX5_digest_r1 : List Cond := [Cond.fieldLink RX5 34 "TopplemoorModel" "thrown" "I", Cond.constantLong RX5 191 (58310), Cond.fieldLink RX5 42 "TopplemoorModel" "spots" "I", Cond.fieldLink RX5 24 "TopplemoorModel" "coins" "[I", Cond.fieldLink RX5 11 "TopplemoorModel" "edges" "[[I", Cond.fieldLink RX5 30 "TopplemoorModel" "kept" "Ljava/util/ArrayList;", Cond.classLink RX5 119 "[I", Cond.methodLink RX5 145 yX5_told, Cond.instanceMethod yX5_told, Cond.selects RX5 yX5_told yX5_told, Cond.initialized RX5, Cond.code yX5_told cX5_told 6 (some .int), Cond.fieldLink RX5 14 "TopplemoorModel" "grains" "[I", Cond.arrayClass .int, Cond.fieldLink RX5 81 "TopplemoorModel" "swallowed" "I", Cond.fieldLink RX5 75 "TopplemoorModel" "topples" "I", Cond.fieldLink RX5 18 "TopplemoorModel" "avalanche" "[I", Cond.fieldLink RX5 128 "TopplemoorModel" "walked" "I", Cond.methodLink RX5 59 yX5_degree, Cond.instanceMethod yX5_degree, Cond.selects RX5 yX5_degree yX5_degree, Cond.code yX5_degree cX5_degree 7 (some .int), Cond.methodLink RX5 135 yX5_one, Cond.static yX5_one]
def wsX5_digest_r2 : List Cond := [Cond.code yX5_one cX5_one 1 (some .int), Cond.methodLink RX5 63 yX5_isSteep, Cond.instanceMethod yX5_isSteep, Cond.selects RX5 yX5_isSteep yX5_isSteep, Cond.code yX5_isSteep cX5_isSteep 3 (some .boolean), Cond.methodLink RX5 78 yX5_sum, Cond.static yX5_sum, Cond.code yX5_sum cX5_sum 6 (some .int), Cond.methodLink RX5 87 yX5_isFast, Cond.instanceMethod yX5_isFast, Cond.selects RX5 yX5_isFast yX5_isFast, Cond.code yX5_isFast cX5_isFast 5 (some .boolean), Cond.arrayClass .boolean, Cond.methodLink RX5 104 yJx4a65c_size_8abf5, Cond.instanceMethod yJx4a65c_size_8abf5, Cond.selects RJx4a65c yJx4a65c_size_8abf5 yJx4a65c_size_8abf5, Cond.initialized RJx4a65c, Cond.code yJx4a65c_size_8abf5 cJx4a65c_size_8abf5 1 (some .int), Cond.fieldLink RJx4a65c 48 "java/util/ArrayList" "size" "I", Cond.methodLink RX5 142 yX5_isTree, Cond.instanceMethod yX5_isTree, Cond.selects RX5 yX5_isTree yX5_isTree, Cond.code yX5_isTree cX5_isTree 4 (some .boolean), Cond.fieldLink RX5 21 "TopplemoorModel" "rotors" "[I"]
def wsX5_digest_r3 : List Cond := [Cond.methodLink RX5 124 yX5_pointed, Cond.instanceMethod yX5_pointed, Cond.selects RX5 yX5_pointed yX5_pointed, Cond.code yX5_pointed cX5_pointed 5 (some .int), Cond.methodLink RX5 193 yX5_add_, Cond.static yX5_add_, Cond.code yX5_add_ cX5_add_ 4 (some .long), Cond.constantLong RX5 189 (31), Cond.methodLink RX5 139 yX5_toldOfSpot, Cond.instanceMethod yX5_toldOfSpot, Cond.selects RX5 yX5_toldOfSpot yX5_toldOfSpot, Cond.code yX5_toldOfSpot cX5_toldOfSpot 4 (some .int), Cond.methodLink RX5 56 yX5_isNoNode, Cond.instanceMethod yX5_isNoNode, Cond.selects RX5 yX5_isNoNode yX5_isNoNode, Cond.code yX5_isNoNode cX5_isNoNode 2 (some .boolean), Cond.methodLink RX5 49 yX5_isNoSpot, Cond.instanceMethod yX5_isNoSpot, Cond.selects RX5 yX5_isNoSpot yX5_isNoSpot, Cond.code yX5_isNoSpot cX5_isNoSpot 2 (some .boolean), Cond.methodLink RX5 45 yX5_isIn, Cond.static yX5_isIn, Cond.code yX5_isIn cX5_isIn 3 (some .boolean), Cond.methodLink RX5 196 yJx4a65c_iterator_32c93]
def wsX5_digest_r4 : List Cond := [Cond.instanceMethod yJx4a65c_iterator_32c93, Cond.selects RJx4a65c yJx4a65c_iterator_32c93 yJx4a65c_iterator_32c93, Cond.code yJx4a65c_iterator_32c93 cJx4a65c_iterator_32c93 1 (some (.object "java/util/Iterator")), Cond.classLink RJx4a65c 267 RJx35411, Cond.instantiable RJx35411 4, Cond.initialized RJx35411, Cond.methodLink RJx4a65c 269 yJx35411_init_45d68, Cond.instanceMethod yJx35411_init_45d68, Cond.code yJx35411_init_45d68 cJx35411_init_45d68 2 none, Cond.fieldLink RJx35411 1 "java/util/ArrayList$Itr" "this$0" "Ljava/util/ArrayList;", Cond.methodLink RJx35411 7 objectInit, Cond.instanceMethod objectInit, Cond.code objectInit ⟨#[0xb1]⟩ 1 none, Cond.fieldLink RJx35411 13 "java/util/ArrayList$Itr" "lastRet" "I", Cond.fieldLink RJx35411 17 "java/util/ArrayList" "modCount" "I", Cond.sameField "java/util/ArrayList" "java/util/AbstractList" "modCount" "I", Cond.fieldLink RJx35411 22 "java/util/ArrayList$Itr" "expectedModCount" "I", Cond.methodLink RX5 200 ⟨"java/util/Iterator", "hasNext", "()Z"⟩, Cond.selects RJx35411 ⟨"java/util/Iterator", "hasNext", "()Z"⟩ yJx35411_hasNext_aae02, Cond.instanceMethod yJx35411_hasNext_aae02, Cond.code yJx35411_hasNext_aae02 cJx35411_hasNext_aae02 1 (some .boolean), Cond.fieldLink RJx35411 25 "java/util/ArrayList$Itr" "cursor" "I", Cond.methodLink RX5 205 ⟨"java/util/Iterator", "next", "()Ljava/lang/Object;"⟩, Cond.selects RJx35411 ⟨"java/util/Iterator", "next", "()Ljava/lang/Object;"⟩ yJx35411_next_0502b]
def wsX5_digest_r5 : List Cond := [Cond.instanceMethod yJx35411_next_0502b, Cond.code yJx35411_next_0502b cJx35411_next_0502b 3 (some (.object "java/lang/Object")), Cond.fieldLink RJx35411 37 "java/util/ArrayList" "elementData" "[Ljava/lang/Object;", Cond.methodLink RJx35411 31 yJx35411_checkForComodification_da8c8, Cond.instanceMethod yJx35411_checkForComodification_da8c8, Cond.selects RJx35411 yJx35411_checkForComodification_da8c8 yJx35411_checkForComodification_da8c8, Cond.code yJx35411_checkForComodification_da8c8 cJx35411_checkForComodification_da8c8 1 none, Cond.methodLink RX5 152 yX5_counted, Cond.instanceMethod yX5_counted, Cond.selects RX5 yX5_counted yX5_counted, Cond.code yX5_counted cX5_counted 4 (some .long), Cond.methodLink RX5 148 yX5_determinant, Cond.static yX5_determinant, Cond.code yX5_determinant cX5_determinant 7 (some .long), Cond.methodLink RX5 175 yX5_burnt, Cond.instanceMethod yX5_burnt, Cond.selects RX5 yX5_burnt yX5_burnt, Cond.code yX5_burnt cX5_burnt 7 (some .int), Cond.methodLink RX5 168 yX5_isKeptOn, Cond.instanceMethod yX5_isKeptOn, Cond.selects RX5 yX5_isKeptOn yX5_isKeptOn, Cond.code yX5_isKeptOn cX5_isKeptOn 4 (some .boolean), Cond.methodLink RX5 67 yX5_steepest, Cond.instanceMethod yX5_steepest]
def wsX5_digest_r6 : List Cond := [Cond.selects RX5 yX5_steepest yX5_steepest, Cond.code yX5_steepest cX5_steepest 3 (some .int), Cond.methodLink RX5 108 yX5_copy, Cond.static yX5_copy, Cond.code yX5_copy cX5_copy 2 (some (.array .int)), Cond.methodLink RX5 98 arraycopyName, Cond.native arraycopyName, Cond.static arraycopyName, Cond.initialized "java/lang/System", Cond.methodLink RX5 91 yX5_settled, Cond.instanceMethod yX5_settled, Cond.selects RX5 yX5_settled yX5_settled, Cond.code yX5_settled cX5_settled 4 (some (.array .int)), Cond.methodLink RX5 71 yX5_fall, Cond.instanceMethod yX5_fall, Cond.selects RX5 yX5_fall yX5_fall, Cond.code yX5_fall cX5_fall 4 none, Cond.methodLink RX5 171 yX5_neutral, Cond.instanceMethod yX5_neutral, Cond.selects RX5 yX5_neutral yX5_neutral, Cond.code yX5_neutral cX5_neutral 4 (some (.array .int)), Cond.methodLink RX5 164 yX5_wouldDo, Cond.instanceMethod yX5_wouldDo, Cond.selects RX5 yX5_wouldDo yX5_wouldDo]
def wsX5_digest_r7 : List Cond := [Cond.code yX5_wouldDo cX5_wouldDo 8 (some .int), Cond.methodLink RX5 84 yX5_swallowedBy, Cond.instanceMethod yX5_swallowedBy, Cond.selects RX5 yX5_swallowedBy yX5_swallowedBy, Cond.code yX5_swallowedBy cX5_swallowedBy 4 (some .int), Cond.methodLink RX5 182 yX5_isPaid, Cond.instanceMethod yX5_isPaid, Cond.selects RX5 yX5_isPaid yX5_isPaid, Cond.code yX5_isPaid cX5_isPaid 9 (some .boolean), Cond.methodLink RX5 131 yX5_give, Cond.instanceMethod yX5_give, Cond.selects RX5 yX5_give yX5_give, Cond.code yX5_give cX5_give 5 none, Cond.methodLink RX5 186 yX5_weak, Cond.instanceMethod yX5_weak, Cond.selects RX5 yX5_weak yX5_weak, Cond.code yX5_weak cX5_weak 3 (some .int)]
def wsX5_digest : List Cond := .code yX5_digest cX5_digest 6 (some .long) :: ((wsX5_digest_r1 ++ (wsX5_digest_r2 ++ (wsX5_digest_r3 ++ (wsX5_digest_r4 ++ (wsX5_digest_r5 ++ (wsX5_digest_r6 ++ wsX5_digest_r7)))))) ++ wsX50 ++ wsJx4a65c0 ++ wsJx354110)
def wsJ9_max_7cf53 : List Cond := .code yJ9_max_7cf53 cJ9_max_7cf53 2 (some .int) :: ([])
def wsJ9_min_7cf53 : List Cond := .code yJ9_min_7cf53 cJ9_min_7cf53 2 (some .int) :: ([])
def wsL_spot : List Cond := .codeWith yL_spot cL_spot 3 (some .int) [(0, 8, 11, 13)] :: ([.classLink RL 13 "java/lang/IllegalStateException", .methodLink RL 7 yX4_spot, .instanceMethod yX4_spot, .selects RX4 yX4_spot yX4_spot, .initialized RX4, .code yX4_spot cX4_spot 1 (some .int), .classLink RX4 57 "java/lang/IllegalStateException", .initialized "java/lang/IllegalStateException", .fieldLink RX4 10 "Topplemoor" "moor" "LTopplemoor$Moor;", .fieldLink RX4 53 "Topplemoor$Moor" "spots" "I"] ++ wsX40 ++ wsX20 ++ (vx_atS RX4 61 "java/lang/IllegalStateException" ["java/lang/RuntimeException", "java/lang/Exception"]).filter goodWord)
def wsL_edge_r1 : List Cond := [Cond.classLink RL 19 "java/lang/IndexOutOfBoundsException", Cond.classLink RL 21 "java/lang/IllegalArgumentException", Cond.methodLink RL 15 yX4_edge, Cond.instanceMethod yX4_edge, Cond.selects RX4 yX4_edge yX4_edge, Cond.initialized RX4, Cond.code yX4_edge cX4_edge 5 (some .int), Cond.classLink RX4 68 "java/lang/IllegalArgumentException", Cond.initialized "java/lang/IllegalArgumentException", Cond.fieldLink RX4 10 "Topplemoor" "moor" "LTopplemoor$Moor;", Cond.fieldLink RX4 77 "Topplemoor$Moor" "edges" "[[I", Cond.fieldLink RX4 37 "Topplemoor" "rotors" "LTopplemoor$Rotors;", Cond.methodLink RX4 64 yX4_requireNode, Cond.instanceMethod yX4_requireNode, Cond.selects RX4 yX4_requireNode yX4_requireNode, Cond.code yX4_requireNode cX4_requireNode 2 none, Cond.classLink RX4 227 "java/lang/IndexOutOfBoundsException", Cond.initialized "java/lang/IndexOutOfBoundsException", Cond.methodLink RX4 232 yX2_isNode, Cond.instanceMethod yX2_isNode, Cond.selects RX2 yX2_isNode yX2_isNode, Cond.initialized RX2, Cond.code yX2_isNode cX2_isNode 2 (some .boolean), Cond.methodLink RX2 29 yX2_isSpot]
def wsL_edge_r2 : List Cond := [Cond.instanceMethod yX2_isSpot, Cond.selects RX2 yX2_isSpot yX2_isSpot, Cond.code yX2_isSpot cX2_isSpot 2 (some .boolean), Cond.fieldLink RX2 25 "Topplemoor$Moor" "spots" "I", Cond.methodLink RX4 73 yX4_requireWithin, Cond.static yX4_requireWithin, Cond.code yX4_requireWithin cX4_requireWithin 3 none, Cond.methodLink RX4 80 yX2_lay, Cond.instanceMethod yX2_lay, Cond.selects RX2 yX2_lay yX2_lay, Cond.code yX2_lay cX2_lay 5 none, Cond.fieldLink RX2 11 "Topplemoor$Moor" "edges" "[[I", Cond.fieldLink RX2 16 "Topplemoor$Moor" "degrees" "[I", Cond.methodLink RX4 83 yX3_reset, Cond.instanceMethod yX3_reset, Cond.selects RX3 yX3_reset yX3_reset, Cond.initialized RX3, Cond.code yX3_reset cX3_reset 2 none, Cond.fieldLink RX3 15 "Topplemoor$Rotors" "moor" "LTopplemoor$Moor;", Cond.fieldLink RX3 9 "Topplemoor$Rotors" "places" "[I", Cond.methodLink RX3 19 yX2_isSpot]
def wsL_edge : List Cond := .codeWith yL_edge cL_edge 6 (some .int) [(0, 12, 15, 19), (0, 12, 19, 21)] :: ((wsL_edge_r1 ++ wsL_edge_r2) ++ wsX40 ++ wsX20 ++ wsX30 ++ (vx_atS RX4 72 "java/lang/IllegalArgumentException" ["java/lang/RuntimeException", "java/lang/Exception"]).filter goodWord ++ (vx_atS RX4 231 "java/lang/IndexOutOfBoundsException" ["java/lang/RuntimeException", "java/lang/Exception"]).filter goodWord)
def wsL_drop_r1 : List Cond := [Cond.classLink RL 19 "java/lang/IndexOutOfBoundsException", Cond.classLink RL 21 "java/lang/IllegalArgumentException", Cond.classLink RL 13 "java/lang/IllegalStateException", Cond.methodLink RL 23 yX4_drop, Cond.instanceMethod yX4_drop, Cond.selects RX4 yX4_drop yX4_drop, Cond.initialized RX4, Cond.code yX4_drop cX4_drop 3 (some .int), Cond.classLink RX4 57 "java/lang/IllegalStateException", Cond.initialized "java/lang/IllegalStateException", Cond.fieldLink RX4 21 "Topplemoor" "lying" "LTopplemoor$Heap;", Cond.fieldLink RX4 89 "Topplemoor$Heap" "grains" "[I", Cond.methodLink RX4 86 yX4_requireSpot, Cond.instanceMethod yX4_requireSpot, Cond.selects RX4 yX4_requireSpot yX4_requireSpot, Cond.code yX4_requireSpot cX4_requireSpot 2 none, Cond.classLink RX4 227 "java/lang/IndexOutOfBoundsException", Cond.initialized "java/lang/IndexOutOfBoundsException", Cond.fieldLink RX4 10 "Topplemoor" "moor" "LTopplemoor$Moor;", Cond.methodLink RX4 224 yX2_isSpot, Cond.instanceMethod yX2_isSpot, Cond.selects RX2 yX2_isSpot yX2_isSpot, Cond.initialized RX2, Cond.code yX2_isSpot cX2_isSpot 2 (some .boolean)]
def wsL_drop_r2 : List Cond := [Cond.fieldLink RX2 25 "Topplemoor$Moor" "spots" "I", Cond.methodLink RX4 73 yX4_requireWithin, Cond.static yX4_requireWithin, Cond.code yX4_requireWithin cX4_requireWithin 3 none, Cond.classLink RX4 68 "java/lang/IllegalArgumentException", Cond.initialized "java/lang/IllegalArgumentException"]
def wsL_drop : List Cond := .codeWith yL_drop cL_drop 5 (some .int) [(0, 10, 13, 19), (0, 10, 17, 21), (0, 10, 21, 13)] :: ((wsL_drop_r1 ++ wsL_drop_r2) ++ wsX40 ++ wsX00 ++ wsX20 ++ (vx_atS RX4 61 "java/lang/IllegalStateException" ["java/lang/RuntimeException", "java/lang/Exception"]).filter goodWord ++ (vx_atS RX4 231 "java/lang/IndexOutOfBoundsException" ["java/lang/RuntimeException", "java/lang/Exception"]).filter goodWord ++ (vx_atS RX4 72 "java/lang/IllegalArgumentException" ["java/lang/RuntimeException", "java/lang/Exception"]).filter goodWord)
def wsL_topple_r1 : List Cond := [Cond.classLink RL 19 "java/lang/IndexOutOfBoundsException", Cond.classLink RL 13 "java/lang/IllegalStateException", Cond.methodLink RL 27 yX4_topple, Cond.instanceMethod yX4_topple, Cond.selects RX4 yX4_topple yX4_topple, Cond.initialized RX4, Cond.code yX4_topple cX4_topple 2 (some .int), Cond.classLink RX4 57 "java/lang/IllegalStateException", Cond.initialized "java/lang/IllegalStateException", Cond.fieldLink RX4 21 "Topplemoor" "lying" "LTopplemoor$Heap;", Cond.fieldLink RX4 105 "Topplemoor" "topples" "I", Cond.fieldLink RX4 108 "Topplemoor" "swallowed" "I", Cond.fieldLink RX4 10 "Topplemoor" "moor" "LTopplemoor$Moor;", Cond.fieldLink RX4 77 "Topplemoor$Moor" "edges" "[[I", Cond.methodLink RX4 86 yX4_requireSpot, Cond.instanceMethod yX4_requireSpot, Cond.selects RX4 yX4_requireSpot yX4_requireSpot, Cond.code yX4_requireSpot cX4_requireSpot 2 none, Cond.classLink RX4 227 "java/lang/IndexOutOfBoundsException", Cond.initialized "java/lang/IndexOutOfBoundsException", Cond.methodLink RX4 224 yX2_isSpot, Cond.instanceMethod yX2_isSpot, Cond.selects RX2 yX2_isSpot yX2_isSpot, Cond.initialized RX2]
def wsL_topple_r2 : List Cond := [Cond.code yX2_isSpot cX2_isSpot 2 (some .boolean), Cond.fieldLink RX2 25 "Topplemoor$Moor" "spots" "I", Cond.methodLink RX4 95 yX0_isSteep, Cond.instanceMethod yX0_isSteep, Cond.selects RX0 yX0_isSteep yX0_isSteep, Cond.initialized RX0, Cond.code yX0_isSteep cX0_isSteep 2 (some .boolean), Cond.fieldLink RX0 18 "Topplemoor$Heap" "moor" "LTopplemoor$Moor;", Cond.fieldLink RX0 38 "Topplemoor$Moor" "degrees" "[I", Cond.fieldLink RX0 9 "Topplemoor$Heap" "grains" "[I", Cond.methodLink RX4 101 yX0_tip, Cond.instanceMethod yX0_tip, Cond.selects RX0 yX0_tip yX0_tip, Cond.code yX0_tip cX0_tip 4 none, Cond.fieldLink RX0 28 "Topplemoor$Moor" "spots" "I", Cond.fieldLink RX0 34 "Topplemoor$Moor" "edges" "[[I"]
def wsL_topple : List Cond := .codeWith yL_topple cL_topple 4 (some .int) [(0, 9, 12, 19), (0, 9, 15, 13)] :: ((wsL_topple_r1 ++ wsL_topple_r2) ++ wsX40 ++ wsX20 ++ wsX00 ++ (vx_atS RX4 61 "java/lang/IllegalStateException" ["java/lang/RuntimeException", "java/lang/Exception"]).filter goodWord ++ (vx_atS RX4 231 "java/lang/IndexOutOfBoundsException" ["java/lang/RuntimeException", "java/lang/Exception"]).filter goodWord)
def wsL_settle_r1 : List Cond := [Cond.classLink RL 13 "java/lang/IllegalStateException", Cond.methodLink RL 31 yX4_settle, Cond.instanceMethod yX4_settle, Cond.selects RX4 yX4_settle yX4_settle, Cond.initialized RX4, Cond.code yX4_settle cX4_settle 1 (some .int), Cond.methodLink RX4 111 yX4_requireFast, Cond.instanceMethod yX4_requireFast, Cond.selects RX4 yX4_requireFast yX4_requireFast, Cond.code yX4_requireFast cX4_requireFast 1 none, Cond.classLink RX4 57 "java/lang/IllegalStateException", Cond.initialized "java/lang/IllegalStateException", Cond.fieldLink RX4 10 "Topplemoor" "moor" "LTopplemoor$Moor;", Cond.methodLink RX4 218 yX2_isFast, Cond.instanceMethod yX2_isFast, Cond.selects RX2 yX2_isFast yX2_isFast, Cond.initialized RX2, Cond.code yX2_isFast cX2_isFast 4 (some .boolean), Cond.fieldLink RX2 25 "Topplemoor$Moor" "spots" "I", Cond.methodLink RX2 33 yX2_edgesInto, Cond.instanceMethod yX2_edgesInto, Cond.selects RX2 yX2_edgesInto yX2_edgesInto, Cond.code yX2_edgesInto cX2_edgesInto 5 (some .int), Cond.fieldLink RX2 11 "Topplemoor$Moor" "edges" "[[I"]
def wsL_settle_r2 : List Cond := [Cond.methodLink RX2 37 yJ6_bitCount_0f7a4, Cond.static yJ6_bitCount_0f7a4, Cond.initialized RJ6, Cond.code yJ6_bitCount_0f7a4 cJ6_bitCount_0f7a4 1 (some .int), Cond.constant RJ6 265 (1431655765), Cond.constant RJ6 266 (858993459), Cond.constant RJ6 267 (252645135), Cond.methodLink RX4 114 yX4_settleLying, Cond.instanceMethod yX4_settleLying, Cond.selects RX4 yX4_settleLying yX4_settleLying, Cond.code yX4_settleLying cX4_settleLying 2 (some .int), Cond.fieldLink RX4 21 "Topplemoor" "lying" "LTopplemoor$Heap;", Cond.fieldLink RX4 105 "Topplemoor" "topples" "I", Cond.fieldLink RX4 108 "Topplemoor" "swallowed" "I", Cond.methodLink RX4 193 yX0_roll, Cond.instanceMethod yX0_roll, Cond.selects RX0 yX0_roll yX0_roll, Cond.initialized RX0, Cond.code yX0_roll cX0_roll 3 none, Cond.fieldLink RX0 15 "Topplemoor$Heap" "times" "[I", Cond.constant RX0 51 (1000000), Cond.methodLink RX0 45 yJ7_fill_53178, Cond.static yJ7_fill_53178, Cond.initialized RJ7]
def wsL_settle_r3 : List Cond := [Cond.code yJ7_fill_53178 cJ7_fill_53178 4 none, Cond.methodLink RX0 52 yX0_rollRound, Cond.instanceMethod yX0_rollRound, Cond.selects RX0 yX0_rollRound yX0_rollRound, Cond.code yX0_rollRound cX0_rollRound 5 (some .boolean), Cond.fieldLink RX0 18 "Topplemoor$Heap" "moor" "LTopplemoor$Moor;", Cond.fieldLink RX0 28 "Topplemoor$Moor" "spots" "I", Cond.fieldLink RX0 38 "Topplemoor$Moor" "degrees" "[I", Cond.fieldLink RX0 9 "Topplemoor$Heap" "grains" "[I", Cond.methodLink RX0 56 yX0_tip, Cond.instanceMethod yX0_tip, Cond.selects RX0 yX0_tip yX0_tip, Cond.code yX0_tip cX0_tip 4 none, Cond.fieldLink RX0 34 "Topplemoor$Moor" "edges" "[[I", Cond.methodLink RX4 171 yX0_allTimes, Cond.instanceMethod yX0_allTimes, Cond.selects RX0 yX0_allTimes yX0_allTimes, Cond.code yX0_allTimes cX0_allTimes 3 (some .int), Cond.methodLink RX4 174 yX0_swallowedByRoll, Cond.instanceMethod yX0_swallowedByRoll, Cond.selects RX0 yX0_swallowedByRoll yX0_swallowedByRoll, Cond.code yX0_swallowedByRoll cX0_swallowedByRoll 3 (some .int)]
def wsL_settle : List Cond := .codeWith yL_settle cL_settle 3 (some .int) [(0, 8, 11, 13)] :: ((wsL_settle_r1 ++ (wsL_settle_r2 ++ wsL_settle_r3)) ++ wsX40 ++ wsX20 ++ wsX00 ++ (vx_atS RX4 61 "java/lang/IllegalStateException" ["java/lang/RuntimeException", "java/lang/Exception"]).filter goodWord)
def wsL_keep : List Cond := .codeWith yL_keep cL_keep 3 (some .int) [(0, 8, 11, 13)] :: ([.classLink RL 13 "java/lang/IllegalStateException", .methodLink RL 34 yX4_keep, .instanceMethod yX4_keep, .selects RX4 yX4_keep yX4_keep, .initialized RX4, .code yX4_keep cX4_keep 1 (some .int), .classLink RX4 57 "java/lang/IllegalStateException", .initialized "java/lang/IllegalStateException", .fieldLink RX4 118 "Topplemoor" "keptMany" "I", .fieldLink RX4 21 "Topplemoor" "lying" "LTopplemoor$Heap;", .fieldLink RX4 89 "Topplemoor$Heap" "grains" "[I", .fieldLink RX4 50 "Topplemoor" "keptHeaps" "[[I", .methodLink RX4 123 arraycopyName, .native arraycopyName, .static arraycopyName, .initialized "java/lang/System"] ++ wsX40 ++ wsX00 ++ (vx_atS RX4 61 "java/lang/IllegalStateException" ["java/lang/RuntimeException", "java/lang/Exception"]).filter goodWord)
def wsL_add_r1 : List Cond := [Cond.classLink RL 19 "java/lang/IndexOutOfBoundsException", Cond.classLink RL 13 "java/lang/IllegalStateException", Cond.methodLink RL 37 yX4_add, Cond.instanceMethod yX4_add, Cond.selects RX4 yX4_add yX4_add, Cond.initialized RX4, Cond.code yX4_add cX4_add 3 (some .int), Cond.classLink RX4 57 "java/lang/IllegalStateException", Cond.initialized "java/lang/IllegalStateException", Cond.fieldLink RX4 10 "Topplemoor" "moor" "LTopplemoor$Moor;", Cond.fieldLink RX4 53 "Topplemoor$Moor" "spots" "I", Cond.fieldLink RX4 21 "Topplemoor" "lying" "LTopplemoor$Heap;", Cond.fieldLink RX4 89 "Topplemoor$Heap" "grains" "[I", Cond.fieldLink RX4 50 "Topplemoor" "keptHeaps" "[[I", Cond.methodLink RX4 129 yX4_requireHeap, Cond.instanceMethod yX4_requireHeap, Cond.selects RX4 yX4_requireHeap yX4_requireHeap, Cond.code yX4_requireHeap cX4_requireHeap 2 none, Cond.classLink RX4 227 "java/lang/IndexOutOfBoundsException", Cond.initialized "java/lang/IndexOutOfBoundsException", Cond.fieldLink RX4 118 "Topplemoor" "keptMany" "I", Cond.methodLink RX4 111 yX4_requireFast, Cond.instanceMethod yX4_requireFast, Cond.selects RX4 yX4_requireFast yX4_requireFast]
def wsL_add_r2 : List Cond := [Cond.code yX4_requireFast cX4_requireFast 1 none, Cond.methodLink RX4 218 yX2_isFast, Cond.instanceMethod yX2_isFast, Cond.selects RX2 yX2_isFast yX2_isFast, Cond.initialized RX2, Cond.code yX2_isFast cX2_isFast 4 (some .boolean), Cond.fieldLink RX2 25 "Topplemoor$Moor" "spots" "I", Cond.methodLink RX2 33 yX2_edgesInto, Cond.instanceMethod yX2_edgesInto, Cond.selects RX2 yX2_edgesInto yX2_edgesInto, Cond.code yX2_edgesInto cX2_edgesInto 5 (some .int), Cond.fieldLink RX2 11 "Topplemoor$Moor" "edges" "[[I", Cond.methodLink RX2 37 yJ6_bitCount_0f7a4, Cond.static yJ6_bitCount_0f7a4, Cond.initialized RJ6, Cond.code yJ6_bitCount_0f7a4 cJ6_bitCount_0f7a4 1 (some .int), Cond.constant RJ6 265 (1431655765), Cond.constant RJ6 266 (858993459), Cond.constant RJ6 267 (252645135), Cond.methodLink RX4 132 yX0_addRow, Cond.instanceMethod yX0_addRow, Cond.selects RX0 yX0_addRow yX0_addRow, Cond.initialized RX0, Cond.code yX0_addRow cX0_addRow 3 none]
def wsL_add_r3 : List Cond := [Cond.fieldLink RX0 18 "Topplemoor$Heap" "moor" "LTopplemoor$Moor;", Cond.fieldLink RX0 28 "Topplemoor$Moor" "spots" "I", Cond.fieldLink RX0 9 "Topplemoor$Heap" "grains" "[I", Cond.methodLink RX4 114 yX4_settleLying, Cond.instanceMethod yX4_settleLying, Cond.selects RX4 yX4_settleLying yX4_settleLying, Cond.code yX4_settleLying cX4_settleLying 2 (some .int), Cond.fieldLink RX4 105 "Topplemoor" "topples" "I", Cond.fieldLink RX4 108 "Topplemoor" "swallowed" "I", Cond.methodLink RX4 193 yX0_roll, Cond.instanceMethod yX0_roll, Cond.selects RX0 yX0_roll yX0_roll, Cond.code yX0_roll cX0_roll 3 none, Cond.fieldLink RX0 15 "Topplemoor$Heap" "times" "[I", Cond.constant RX0 51 (1000000), Cond.methodLink RX0 45 yJ7_fill_53178, Cond.static yJ7_fill_53178, Cond.initialized RJ7, Cond.code yJ7_fill_53178 cJ7_fill_53178 4 none, Cond.methodLink RX0 52 yX0_rollRound, Cond.instanceMethod yX0_rollRound, Cond.selects RX0 yX0_rollRound yX0_rollRound, Cond.code yX0_rollRound cX0_rollRound 5 (some .boolean), Cond.fieldLink RX0 38 "Topplemoor$Moor" "degrees" "[I"]
def wsL_add_r4 : List Cond := [Cond.methodLink RX0 56 yX0_tip, Cond.instanceMethod yX0_tip, Cond.selects RX0 yX0_tip yX0_tip, Cond.code yX0_tip cX0_tip 4 none, Cond.fieldLink RX0 34 "Topplemoor$Moor" "edges" "[[I", Cond.methodLink RX4 171 yX0_allTimes, Cond.instanceMethod yX0_allTimes, Cond.selects RX0 yX0_allTimes yX0_allTimes, Cond.code yX0_allTimes cX0_allTimes 3 (some .int), Cond.methodLink RX4 174 yX0_swallowedByRoll, Cond.instanceMethod yX0_swallowedByRoll, Cond.selects RX0 yX0_swallowedByRoll yX0_swallowedByRoll, Cond.code yX0_swallowedByRoll cX0_swallowedByRoll 3 (some .int)]
def wsL_add : List Cond := .codeWith yL_add cL_add 4 (some .int) [(0, 9, 12, 19), (0, 9, 15, 13)] :: ((wsL_add_r1 ++ (wsL_add_r2 ++ (wsL_add_r3 ++ wsL_add_r4))) ++ wsX40 ++ wsX20 ++ wsX00 ++ (vx_atS RX4 61 "java/lang/IllegalStateException" ["java/lang/RuntimeException", "java/lang/Exception"]).filter goodWord ++ (vx_atS RX4 231 "java/lang/IndexOutOfBoundsException" ["java/lang/RuntimeException", "java/lang/Exception"]).filter goodWord)
def wsL_walk_r1 : List Cond := [Cond.classLink RL 19 "java/lang/IndexOutOfBoundsException", Cond.classLink RL 13 "java/lang/IllegalStateException", Cond.methodLink RL 40 yX4_walk, Cond.instanceMethod yX4_walk, Cond.selects RX4 yX4_walk yX4_walk, Cond.initialized RX4, Cond.code yX4_walk cX4_walk 2 (some .int), Cond.fieldLink RX4 37 "Topplemoor" "rotors" "LTopplemoor$Rotors;", Cond.methodLink RX4 86 yX4_requireSpot, Cond.instanceMethod yX4_requireSpot, Cond.selects RX4 yX4_requireSpot yX4_requireSpot, Cond.code yX4_requireSpot cX4_requireSpot 2 none, Cond.classLink RX4 227 "java/lang/IndexOutOfBoundsException", Cond.initialized "java/lang/IndexOutOfBoundsException", Cond.fieldLink RX4 10 "Topplemoor" "moor" "LTopplemoor$Moor;", Cond.methodLink RX4 224 yX2_isSpot, Cond.instanceMethod yX2_isSpot, Cond.selects RX2 yX2_isSpot yX2_isSpot, Cond.initialized RX2, Cond.code yX2_isSpot cX2_isSpot 2 (some .boolean), Cond.fieldLink RX2 25 "Topplemoor$Moor" "spots" "I", Cond.methodLink RX4 111 yX4_requireFast, Cond.instanceMethod yX4_requireFast, Cond.selects RX4 yX4_requireFast yX4_requireFast]
def wsL_walk_r2 : List Cond := [Cond.code yX4_requireFast cX4_requireFast 1 none, Cond.classLink RX4 57 "java/lang/IllegalStateException", Cond.initialized "java/lang/IllegalStateException", Cond.methodLink RX4 218 yX2_isFast, Cond.instanceMethod yX2_isFast, Cond.selects RX2 yX2_isFast yX2_isFast, Cond.code yX2_isFast cX2_isFast 4 (some .boolean), Cond.methodLink RX2 33 yX2_edgesInto, Cond.instanceMethod yX2_edgesInto, Cond.selects RX2 yX2_edgesInto yX2_edgesInto, Cond.code yX2_edgesInto cX2_edgesInto 5 (some .int), Cond.fieldLink RX2 11 "Topplemoor$Moor" "edges" "[[I", Cond.methodLink RX2 37 yJ6_bitCount_0f7a4, Cond.static yJ6_bitCount_0f7a4, Cond.initialized RJ6, Cond.code yJ6_bitCount_0f7a4 cJ6_bitCount_0f7a4 1 (some .int), Cond.constant RJ6 265 (1431655765), Cond.constant RJ6 266 (858993459), Cond.constant RJ6 267 (252645135), Cond.methodLink RX4 145 yX3_send, Cond.instanceMethod yX3_send, Cond.selects RX3 yX3_send yX3_send, Cond.initialized RX3, Cond.code yX3_send cX3_send 4 (some .int)]
def wsL_walk_r3 : List Cond := [Cond.fieldLink RX3 15 "Topplemoor$Rotors" "moor" "LTopplemoor$Moor;", Cond.constant RX3 29 (1000000), Cond.fieldLink RX3 38 "Topplemoor$Rotors" "steps" "I", Cond.methodLink RX3 19 yX2_isSpot, Cond.methodLink RX3 30 yX3_turn, Cond.instanceMethod yX3_turn, Cond.selects RX3 yX3_turn yX3_turn, Cond.code yX3_turn cX3_turn 3 none, Cond.fieldLink RX3 9 "Topplemoor$Rotors" "places" "[I", Cond.fieldLink RX3 42 "Topplemoor$Moor" "degrees" "[I", Cond.methodLink RX3 34 yX3_pointedFrom, Cond.instanceMethod yX3_pointedFrom, Cond.selects RX3 yX3_pointedFrom yX3_pointedFrom, Cond.code yX3_pointedFrom cX3_pointedFrom 2 (some .int), Cond.methodLink RX3 25 yX2_neighbourAt, Cond.instanceMethod yX2_neighbourAt, Cond.selects RX2 yX2_neighbourAt yX2_neighbourAt, Cond.code yX2_neighbourAt cX2_neighbourAt 5 (some .int)]
def wsL_walk : List Cond := .codeWith yL_walk cL_walk 4 (some .int) [(0, 9, 12, 19), (0, 9, 15, 13)] :: ((wsL_walk_r1 ++ (wsL_walk_r2 ++ wsL_walk_r3)) ++ wsX40 ++ wsX20 ++ wsX30 ++ (vx_atS RX4 231 "java/lang/IndexOutOfBoundsException" ["java/lang/RuntimeException", "java/lang/Exception"]).filter goodWord ++ (vx_atS RX4 61 "java/lang/IllegalStateException" ["java/lang/RuntimeException", "java/lang/Exception"]).filter goodWord)
def wsL_pay_r1 : List Cond := [Cond.classLink RL 19 "java/lang/IndexOutOfBoundsException", Cond.classLink RL 21 "java/lang/IllegalArgumentException", Cond.methodLink RL 43 yX4_pay, Cond.instanceMethod yX4_pay, Cond.selects RX4 yX4_pay yX4_pay, Cond.initialized RX4, Cond.code yX4_pay cX4_pay 3 (some .int), Cond.fieldLink RX4 44 "Topplemoor" "money" "LTopplemoor$Money;", Cond.fieldLink RX4 149 "Topplemoor$Money" "coins" "[I", Cond.methodLink RX4 64 yX4_requireNode, Cond.instanceMethod yX4_requireNode, Cond.selects RX4 yX4_requireNode yX4_requireNode, Cond.code yX4_requireNode cX4_requireNode 2 none, Cond.classLink RX4 227 "java/lang/IndexOutOfBoundsException", Cond.initialized "java/lang/IndexOutOfBoundsException", Cond.fieldLink RX4 10 "Topplemoor" "moor" "LTopplemoor$Moor;", Cond.methodLink RX4 232 yX2_isNode, Cond.instanceMethod yX2_isNode, Cond.selects RX2 yX2_isNode yX2_isNode, Cond.initialized RX2, Cond.code yX2_isNode cX2_isNode 2 (some .boolean), Cond.methodLink RX2 29 yX2_isSpot, Cond.instanceMethod yX2_isSpot, Cond.selects RX2 yX2_isSpot yX2_isSpot]
def wsL_pay_r2 : List Cond := [Cond.code yX2_isSpot cX2_isSpot 2 (some .boolean), Cond.fieldLink RX2 25 "Topplemoor$Moor" "spots" "I", Cond.methodLink RX4 73 yX4_requireWithin, Cond.static yX4_requireWithin, Cond.code yX4_requireWithin cX4_requireWithin 3 none, Cond.classLink RX4 68 "java/lang/IllegalArgumentException", Cond.initialized "java/lang/IllegalArgumentException"]
def wsL_pay : List Cond := .codeWith yL_pay cL_pay 5 (some .int) [(0, 10, 13, 19), (0, 10, 17, 21)] :: ((wsL_pay_r1 ++ wsL_pay_r2) ++ wsX40 ++ wsX10 ++ wsX20 ++ (vx_atS RX4 231 "java/lang/IndexOutOfBoundsException" ["java/lang/RuntimeException", "java/lang/Exception"]).filter goodWord ++ (vx_atS RX4 72 "java/lang/IllegalArgumentException" ["java/lang/RuntimeException", "java/lang/Exception"]).filter goodWord)
def wsL_lend_r1 : List Cond := [Cond.classLink RL 19 "java/lang/IndexOutOfBoundsException", Cond.methodLink RL 46 yX4_lend, Cond.instanceMethod yX4_lend, Cond.selects RX4 yX4_lend yX4_lend, Cond.initialized RX4, Cond.code yX4_lend cX4_lend 3 (some .int), Cond.fieldLink RX4 44 "Topplemoor" "money" "LTopplemoor$Money;", Cond.fieldLink RX4 149 "Topplemoor$Money" "coins" "[I", Cond.methodLink RX4 64 yX4_requireNode, Cond.instanceMethod yX4_requireNode, Cond.selects RX4 yX4_requireNode yX4_requireNode, Cond.code yX4_requireNode cX4_requireNode 2 none, Cond.classLink RX4 227 "java/lang/IndexOutOfBoundsException", Cond.initialized "java/lang/IndexOutOfBoundsException", Cond.fieldLink RX4 10 "Topplemoor" "moor" "LTopplemoor$Moor;", Cond.methodLink RX4 232 yX2_isNode, Cond.instanceMethod yX2_isNode, Cond.selects RX2 yX2_isNode yX2_isNode, Cond.initialized RX2, Cond.code yX2_isNode cX2_isNode 2 (some .boolean), Cond.methodLink RX2 29 yX2_isSpot, Cond.instanceMethod yX2_isSpot, Cond.selects RX2 yX2_isSpot yX2_isSpot, Cond.code yX2_isSpot cX2_isSpot 2 (some .boolean)]
def wsL_lend_r2 : List Cond := [Cond.fieldLink RX2 25 "Topplemoor$Moor" "spots" "I", Cond.methodLink RX4 152 yX1_give, Cond.instanceMethod yX1_give, Cond.selects RX1 yX1_give yX1_give, Cond.initialized RX1, Cond.code yX1_give cX1_give 4 none, Cond.fieldLink RX1 9 "Topplemoor$Money" "coins" "[I", Cond.fieldLink RX1 15 "Topplemoor$Money" "moor" "LTopplemoor$Moor;", Cond.fieldLink RX1 31 "Topplemoor$Moor" "degrees" "[I", Cond.fieldLink RX1 36 "Topplemoor$Moor" "edges" "[[I"]
def wsL_lend : List Cond := .codeWith yL_lend cL_lend 5 (some .int) [(0, 10, 13, 19)] :: ((wsL_lend_r1 ++ wsL_lend_r2) ++ wsX40 ++ wsX10 ++ wsX20 ++ (vx_atS RX4 231 "java/lang/IndexOutOfBoundsException" ["java/lang/RuntimeException", "java/lang/Exception"]).filter goodWord)
def wsL_ofSpot_r1 : List Cond := [Cond.classLink RL 19 "java/lang/IndexOutOfBoundsException", Cond.classLink RL 21 "java/lang/IllegalArgumentException", Cond.methodLink RL 50 yX4_ofSpot, Cond.instanceMethod yX4_ofSpot, Cond.selects RX4 yX4_ofSpot yX4_ofSpot, Cond.initialized RX4, Cond.code yX4_ofSpot cX4_ofSpot 3 (some .int), Cond.methodLink RX4 86 yX4_requireSpot, Cond.instanceMethod yX4_requireSpot, Cond.selects RX4 yX4_requireSpot yX4_requireSpot, Cond.code yX4_requireSpot cX4_requireSpot 2 none, Cond.classLink RX4 227 "java/lang/IndexOutOfBoundsException", Cond.initialized "java/lang/IndexOutOfBoundsException", Cond.fieldLink RX4 10 "Topplemoor" "moor" "LTopplemoor$Moor;", Cond.methodLink RX4 224 yX2_isSpot, Cond.instanceMethod yX2_isSpot, Cond.selects RX2 yX2_isSpot yX2_isSpot, Cond.initialized RX2, Cond.code yX2_isSpot cX2_isSpot 2 (some .boolean), Cond.fieldLink RX2 25 "Topplemoor$Moor" "spots" "I", Cond.methodLink RX4 73 yX4_requireWithin, Cond.static yX4_requireWithin, Cond.code yX4_requireWithin cX4_requireWithin 3 none, Cond.classLink RX4 68 "java/lang/IllegalArgumentException"]
def wsL_ofSpot_r2 : List Cond := [Cond.initialized "java/lang/IllegalArgumentException", Cond.methodLink RX4 155 yX4_spotValue, Cond.instanceMethod yX4_spotValue, Cond.selects RX4 yX4_spotValue yX4_spotValue, Cond.code yX4_spotValue cX4_spotValue 3 (some .int), Cond.fieldLink RX4 21 "Topplemoor" "lying" "LTopplemoor$Heap;", Cond.fieldLink RX4 89 "Topplemoor$Heap" "grains" "[I", Cond.fieldLink RX4 252 "Topplemoor$Moor" "degrees" "[I", Cond.fieldLink RX4 77 "Topplemoor$Moor" "edges" "[[I", Cond.fieldLink RX4 255 "Topplemoor$Heap" "times" "[I", Cond.fieldLink RX4 37 "Topplemoor" "rotors" "LTopplemoor$Rotors;", Cond.fieldLink RX4 258 "Topplemoor$Rotors" "places" "[I", Cond.methodLink RX4 95 yX0_isSteep, Cond.instanceMethod yX0_isSteep, Cond.selects RX0 yX0_isSteep yX0_isSteep, Cond.initialized RX0, Cond.code yX0_isSteep cX0_isSteep 2 (some .boolean), Cond.fieldLink RX0 18 "Topplemoor$Heap" "moor" "LTopplemoor$Moor;", Cond.fieldLink RX0 38 "Topplemoor$Moor" "degrees" "[I", Cond.fieldLink RX0 9 "Topplemoor$Heap" "grains" "[I", Cond.methodLink RX4 261 yX3_pointedFrom, Cond.instanceMethod yX3_pointedFrom, Cond.selects RX3 yX3_pointedFrom yX3_pointedFrom, Cond.initialized RX3]
def wsL_ofSpot_r3 : List Cond := [Cond.code yX3_pointedFrom cX3_pointedFrom 2 (some .int), Cond.fieldLink RX3 15 "Topplemoor$Rotors" "moor" "LTopplemoor$Moor;", Cond.fieldLink RX3 9 "Topplemoor$Rotors" "places" "[I", Cond.methodLink RX3 25 yX2_neighbourAt, Cond.instanceMethod yX2_neighbourAt, Cond.selects RX2 yX2_neighbourAt yX2_neighbourAt, Cond.code yX2_neighbourAt cX2_neighbourAt 5 (some .int), Cond.fieldLink RX2 11 "Topplemoor$Moor" "edges" "[[I"]
def wsL_ofSpot : List Cond := .codeWith yL_ofSpot cL_ofSpot 5 (some .int) [(0, 10, 13, 19), (0, 10, 17, 21)] :: ((wsL_ofSpot_r1 ++ (wsL_ofSpot_r2 ++ wsL_ofSpot_r3)) ++ wsX40 ++ wsX20 ++ wsX00 ++ wsX30 ++ (vx_atS RX4 231 "java/lang/IndexOutOfBoundsException" ["java/lang/RuntimeException", "java/lang/Exception"]).filter goodWord ++ (vx_atS RX4 72 "java/lang/IllegalArgumentException" ["java/lang/RuntimeException", "java/lang/Exception"]).filter goodWord)
def wsL_between : List Cond := .codeWith yL_between cL_between 5 (some .int) [(0, 10, 13, 19)] :: ([.classLink RL 19 "java/lang/IndexOutOfBoundsException", .methodLink RL 53 yX4_between, .instanceMethod yX4_between, .selects RX4 yX4_between yX4_between, .initialized RX4, .code yX4_between cX4_between 3 (some .int), .fieldLink RX4 10 "Topplemoor" "moor" "LTopplemoor$Moor;", .fieldLink RX4 77 "Topplemoor$Moor" "edges" "[[I", .methodLink RX4 64 yX4_requireNode, .instanceMethod yX4_requireNode, .selects RX4 yX4_requireNode yX4_requireNode, .code yX4_requireNode cX4_requireNode 2 none, .classLink RX4 227 "java/lang/IndexOutOfBoundsException", .initialized "java/lang/IndexOutOfBoundsException", .methodLink RX4 232 yX2_isNode, .instanceMethod yX2_isNode, .selects RX2 yX2_isNode yX2_isNode, .initialized RX2, .code yX2_isNode cX2_isNode 2 (some .boolean), .methodLink RX2 29 yX2_isSpot, .instanceMethod yX2_isSpot, .selects RX2 yX2_isSpot yX2_isSpot, .code yX2_isSpot cX2_isSpot 2 (some .boolean), .fieldLink RX2 25 "Topplemoor$Moor" "spots" "I"] ++ wsX40 ++ wsX20 ++ (vx_atS RX4 231 "java/lang/IndexOutOfBoundsException" ["java/lang/RuntimeException", "java/lang/Exception"]).filter goodWord)
def wsL_coins_r1 : List Cond := [Cond.classLink RL 19 "java/lang/IndexOutOfBoundsException", Cond.methodLink RL 56 yX4_coins, Cond.instanceMethod yX4_coins, Cond.selects RX4 yX4_coins yX4_coins, Cond.initialized RX4, Cond.code yX4_coins cX4_coins 2 (some .int), Cond.fieldLink RX4 44 "Topplemoor" "money" "LTopplemoor$Money;", Cond.fieldLink RX4 149 "Topplemoor$Money" "coins" "[I", Cond.methodLink RX4 64 yX4_requireNode, Cond.instanceMethod yX4_requireNode, Cond.selects RX4 yX4_requireNode yX4_requireNode, Cond.code yX4_requireNode cX4_requireNode 2 none, Cond.classLink RX4 227 "java/lang/IndexOutOfBoundsException", Cond.initialized "java/lang/IndexOutOfBoundsException", Cond.fieldLink RX4 10 "Topplemoor" "moor" "LTopplemoor$Moor;", Cond.methodLink RX4 232 yX2_isNode, Cond.instanceMethod yX2_isNode, Cond.selects RX2 yX2_isNode yX2_isNode, Cond.initialized RX2, Cond.code yX2_isNode cX2_isNode 2 (some .boolean), Cond.methodLink RX2 29 yX2_isSpot, Cond.instanceMethod yX2_isSpot, Cond.selects RX2 yX2_isSpot yX2_isSpot, Cond.code yX2_isSpot cX2_isSpot 2 (some .boolean)]
def wsL_coins_r2 : List Cond := [Cond.fieldLink RX2 25 "Topplemoor$Moor" "spots" "I"]
def wsL_coins : List Cond := .codeWith yL_coins cL_coins 4 (some .int) [(0, 9, 12, 19)] :: ((wsL_coins_r1 ++ wsL_coins_r2) ++ wsX40 ++ wsX10 ++ wsX20 ++ (vx_atS RX4 231 "java/lang/IndexOutOfBoundsException" ["java/lang/RuntimeException", "java/lang/Exception"]).filter goodWord)
def wsL_kept_r1 : List Cond := [Cond.classLink RL 19 "java/lang/IndexOutOfBoundsException", Cond.methodLink RL 59 yX4_kept, Cond.instanceMethod yX4_kept, Cond.selects RX4 yX4_kept yX4_kept, Cond.initialized RX4, Cond.code yX4_kept cX4_kept 3 (some .int), Cond.fieldLink RX4 50 "Topplemoor" "keptHeaps" "[[I", Cond.methodLink RX4 129 yX4_requireHeap, Cond.instanceMethod yX4_requireHeap, Cond.selects RX4 yX4_requireHeap yX4_requireHeap, Cond.code yX4_requireHeap cX4_requireHeap 2 none, Cond.classLink RX4 227 "java/lang/IndexOutOfBoundsException", Cond.initialized "java/lang/IndexOutOfBoundsException", Cond.fieldLink RX4 118 "Topplemoor" "keptMany" "I", Cond.methodLink RX4 86 yX4_requireSpot, Cond.instanceMethod yX4_requireSpot, Cond.selects RX4 yX4_requireSpot yX4_requireSpot, Cond.code yX4_requireSpot cX4_requireSpot 2 none, Cond.fieldLink RX4 10 "Topplemoor" "moor" "LTopplemoor$Moor;", Cond.methodLink RX4 224 yX2_isSpot, Cond.instanceMethod yX2_isSpot, Cond.selects RX2 yX2_isSpot yX2_isSpot, Cond.initialized RX2, Cond.code yX2_isSpot cX2_isSpot 2 (some .boolean)]
def wsL_kept_r2 : List Cond := [Cond.fieldLink RX2 25 "Topplemoor$Moor" "spots" "I"]
def wsL_kept : List Cond := .codeWith yL_kept cL_kept 5 (some .int) [(0, 10, 13, 19)] :: ((wsL_kept_r1 ++ wsL_kept_r2) ++ wsX40 ++ wsX20 ++ (vx_atS RX4 231 "java/lang/IndexOutOfBoundsException" ["java/lang/RuntimeException", "java/lang/Exception"]).filter goodWord)
def wsL_many_r1 : List Cond := [Cond.classLink RL 21 "java/lang/IllegalArgumentException", Cond.methodLink RL 62 yX4_many, Cond.instanceMethod yX4_many, Cond.selects RX4 yX4_many yX4_many, Cond.initialized RX4, Cond.code yX4_many cX4_many 2 (some .int), Cond.methodLink RX4 73 yX4_requireWithin, Cond.static yX4_requireWithin, Cond.code yX4_requireWithin cX4_requireWithin 3 none, Cond.classLink RX4 68 "java/lang/IllegalArgumentException", Cond.initialized "java/lang/IllegalArgumentException", Cond.methodLink RX4 159 yX4_manyValue, Cond.instanceMethod yX4_manyValue, Cond.selects RX4 yX4_manyValue yX4_manyValue, Cond.code yX4_manyValue cX4_manyValue 2 (some .int), Cond.fieldLink RX4 10 "Topplemoor" "moor" "LTopplemoor$Moor;", Cond.fieldLink RX4 53 "Topplemoor$Moor" "spots" "I", Cond.fieldLink RX4 21 "Topplemoor" "lying" "LTopplemoor$Heap;", Cond.fieldLink RX4 108 "Topplemoor" "swallowed" "I", Cond.fieldLink RX4 105 "Topplemoor" "topples" "I", Cond.fieldLink RX4 118 "Topplemoor" "keptMany" "I", Cond.fieldLink RX4 44 "Topplemoor" "money" "LTopplemoor$Money;", Cond.fieldLink RX4 37 "Topplemoor" "rotors" "LTopplemoor$Rotors;", Cond.fieldLink RX4 273 "Topplemoor$Rotors" "steps" "I"]
def wsL_many_r2 : List Cond := [Cond.methodLink RX4 264 yX2_allEdges, Cond.instanceMethod yX2_allEdges, Cond.selects RX2 yX2_allEdges yX2_allEdges, Cond.initialized RX2, Cond.code yX2_allEdges cX2_allEdges 3 (some .int), Cond.fieldLink RX2 16 "Topplemoor$Moor" "degrees" "[I", Cond.methodLink RX4 136 yX0_allGrains, Cond.instanceMethod yX0_allGrains, Cond.selects RX0 yX0_allGrains yX0_allGrains, Cond.initialized RX0, Cond.code yX0_allGrains cX0_allGrains 3 (some .int), Cond.fieldLink RX0 18 "Topplemoor$Heap" "moor" "LTopplemoor$Moor;", Cond.fieldLink RX0 28 "Topplemoor$Moor" "spots" "I", Cond.fieldLink RX0 9 "Topplemoor$Heap" "grains" "[I", Cond.methodLink RX4 171 yX0_allTimes, Cond.instanceMethod yX0_allTimes, Cond.selects RX0 yX0_allTimes yX0_allTimes, Cond.code yX0_allTimes cX0_allTimes 3 (some .int), Cond.fieldLink RX0 15 "Topplemoor$Heap" "times" "[I", Cond.methodLink RX4 243 yX0_steepSet, Cond.instanceMethod yX0_steepSet, Cond.selects RX0 yX0_steepSet yX0_steepSet, Cond.code yX0_steepSet cX0_steepSet 3 (some .int), Cond.methodLink RX0 41 yX0_isSteep]
def wsL_many_r3 : List Cond := [Cond.instanceMethod yX0_isSteep, Cond.selects RX0 yX0_isSteep yX0_isSteep, Cond.code yX0_isSteep cX0_isSteep 2 (some .boolean), Cond.fieldLink RX0 38 "Topplemoor$Moor" "degrees" "[I", Cond.methodLink RX4 218 yX2_isFast, Cond.instanceMethod yX2_isFast, Cond.selects RX2 yX2_isFast yX2_isFast, Cond.code yX2_isFast cX2_isFast 4 (some .boolean), Cond.fieldLink RX2 25 "Topplemoor$Moor" "spots" "I", Cond.methodLink RX2 33 yX2_edgesInto, Cond.instanceMethod yX2_edgesInto, Cond.selects RX2 yX2_edgesInto yX2_edgesInto, Cond.code yX2_edgesInto cX2_edgesInto 5 (some .int), Cond.fieldLink RX2 11 "Topplemoor$Moor" "edges" "[[I", Cond.methodLink RX2 37 yJ6_bitCount_0f7a4, Cond.static yJ6_bitCount_0f7a4, Cond.initialized RJ6, Cond.code yJ6_bitCount_0f7a4 cJ6_bitCount_0f7a4 1 (some .int), Cond.constant RJ6 265 (1431655765), Cond.constant RJ6 266 (858993459), Cond.constant RJ6 267 (252645135), Cond.methodLink RX4 267 yX1_allCoins, Cond.instanceMethod yX1_allCoins, Cond.selects RX1 yX1_allCoins yX1_allCoins]
def wsL_many_r4 : List Cond := [Cond.initialized RX1, Cond.code yX1_allCoins cX1_allCoins 3 (some .int), Cond.fieldLink RX1 9 "Topplemoor$Money" "coins" "[I", Cond.methodLink RX4 270 yX1_debtors, Cond.instanceMethod yX1_debtors, Cond.selects RX1 yX1_debtors yX1_debtors, Cond.code yX1_debtors cX1_debtors 3 (some .int), Cond.methodLink RX4 276 yX3_areTree, Cond.instanceMethod yX3_areTree, Cond.selects RX3 yX3_areTree yX3_areTree, Cond.initialized RX3, Cond.code yX3_areTree cX3_areTree 2 (some .boolean), Cond.fieldLink RX3 15 "Topplemoor$Rotors" "moor" "LTopplemoor$Moor;", Cond.fieldLink RX3 45 "Topplemoor$Moor" "spots" "I", Cond.methodLink RX3 48 yX3_leadsToSink, Cond.instanceMethod yX3_leadsToSink, Cond.selects RX3 yX3_leadsToSink yX3_leadsToSink, Cond.code yX3_leadsToSink cX3_leadsToSink 4 (some .boolean), Cond.methodLink RX3 19 yX2_isSpot, Cond.instanceMethod yX2_isSpot, Cond.selects RX2 yX2_isSpot yX2_isSpot, Cond.code yX2_isSpot cX2_isSpot 2 (some .boolean), Cond.methodLink RX3 34 yX3_pointedFrom, Cond.instanceMethod yX3_pointedFrom]
def wsL_many_r5 : List Cond := [Cond.selects RX3 yX3_pointedFrom yX3_pointedFrom, Cond.code yX3_pointedFrom cX3_pointedFrom 2 (some .int), Cond.fieldLink RX3 9 "Topplemoor$Rotors" "places" "[I", Cond.methodLink RX3 25 yX2_neighbourAt, Cond.instanceMethod yX2_neighbourAt, Cond.selects RX2 yX2_neighbourAt yX2_neighbourAt, Cond.code yX2_neighbourAt cX2_neighbourAt 5 (some .int)]
def wsL_many : List Cond := .codeWith yL_many cL_many 4 (some .int) [(0, 9, 12, 21)] :: ((wsL_many_r1 ++ (wsL_many_r2 ++ (wsL_many_r3 ++ (wsL_many_r4 ++ wsL_many_r5)))) ++ wsX40 ++ wsX20 ++ wsX30 ++ wsX00 ++ wsX10 ++ (vx_atS RX4 72 "java/lang/IllegalArgumentException" ["java/lang/RuntimeException", "java/lang/Exception"]).filter goodWord)
def wsL_would_r1 : List Cond := [Cond.classLink RL 19 "java/lang/IndexOutOfBoundsException", Cond.classLink RL 21 "java/lang/IllegalArgumentException", Cond.classLink RL 13 "java/lang/IllegalStateException", Cond.methodLink RL 65 yX4_would, Cond.instanceMethod yX4_would, Cond.selects RX4 yX4_would yX4_would, Cond.initialized RX4, Cond.code yX4_would cX4_would 4 (some .int), Cond.fieldLink RX4 25 "Topplemoor" "trial" "LTopplemoor$Heap;", Cond.methodLink RX4 86 yX4_requireSpot, Cond.instanceMethod yX4_requireSpot, Cond.selects RX4 yX4_requireSpot yX4_requireSpot, Cond.code yX4_requireSpot cX4_requireSpot 2 none, Cond.classLink RX4 227 "java/lang/IndexOutOfBoundsException", Cond.initialized "java/lang/IndexOutOfBoundsException", Cond.fieldLink RX4 10 "Topplemoor" "moor" "LTopplemoor$Moor;", Cond.methodLink RX4 224 yX2_isSpot, Cond.instanceMethod yX2_isSpot, Cond.selects RX2 yX2_isSpot yX2_isSpot, Cond.initialized RX2, Cond.code yX2_isSpot cX2_isSpot 2 (some .boolean), Cond.fieldLink RX2 25 "Topplemoor$Moor" "spots" "I", Cond.methodLink RX4 73 yX4_requireWithin, Cond.static yX4_requireWithin]
def wsL_would_r2 : List Cond := [Cond.code yX4_requireWithin cX4_requireWithin 3 none, Cond.classLink RX4 68 "java/lang/IllegalArgumentException", Cond.initialized "java/lang/IllegalArgumentException", Cond.methodLink RX4 111 yX4_requireFast, Cond.instanceMethod yX4_requireFast, Cond.selects RX4 yX4_requireFast yX4_requireFast, Cond.code yX4_requireFast cX4_requireFast 1 none, Cond.classLink RX4 57 "java/lang/IllegalStateException", Cond.initialized "java/lang/IllegalStateException", Cond.methodLink RX4 218 yX2_isFast, Cond.instanceMethod yX2_isFast, Cond.selects RX2 yX2_isFast yX2_isFast, Cond.code yX2_isFast cX2_isFast 4 (some .boolean), Cond.methodLink RX2 33 yX2_edgesInto, Cond.instanceMethod yX2_edgesInto, Cond.selects RX2 yX2_edgesInto yX2_edgesInto, Cond.code yX2_edgesInto cX2_edgesInto 5 (some .int), Cond.fieldLink RX2 11 "Topplemoor$Moor" "edges" "[[I", Cond.methodLink RX2 37 yJ6_bitCount_0f7a4, Cond.static yJ6_bitCount_0f7a4, Cond.initialized RJ6, Cond.code yJ6_bitCount_0f7a4 cJ6_bitCount_0f7a4 1 (some .int), Cond.constant RJ6 265 (1431655765), Cond.constant RJ6 266 (858993459)]
def wsL_would_r3 : List Cond := [Cond.constant RJ6 267 (252645135), Cond.methodLink RX4 168 yX4_rollTrialWith, Cond.instanceMethod yX4_rollTrialWith, Cond.selects RX4 yX4_rollTrialWith yX4_rollTrialWith, Cond.code yX4_rollTrialWith cX4_rollTrialWith 3 none, Cond.fieldLink RX4 21 "Topplemoor" "lying" "LTopplemoor$Heap;", Cond.fieldLink RX4 89 "Topplemoor$Heap" "grains" "[I", Cond.methodLink RX4 190 yX0_copyRow, Cond.instanceMethod yX0_copyRow, Cond.selects RX0 yX0_copyRow yX0_copyRow, Cond.initialized RX0, Cond.code yX0_copyRow cX0_copyRow 2 none, Cond.fieldLink RX0 9 "Topplemoor$Heap" "grains" "[I", Cond.methodLink RX0 22 arraycopyName, Cond.native arraycopyName, Cond.static arraycopyName, Cond.initialized "java/lang/System", Cond.methodLink RX4 193 yX0_roll, Cond.instanceMethod yX0_roll, Cond.selects RX0 yX0_roll yX0_roll, Cond.code yX0_roll cX0_roll 3 none, Cond.fieldLink RX0 15 "Topplemoor$Heap" "times" "[I", Cond.constant RX0 51 (1000000), Cond.methodLink RX0 45 yJ7_fill_53178]
def wsL_would_r4 : List Cond := [Cond.static yJ7_fill_53178, Cond.initialized RJ7, Cond.code yJ7_fill_53178 cJ7_fill_53178 4 none, Cond.methodLink RX0 52 yX0_rollRound, Cond.instanceMethod yX0_rollRound, Cond.selects RX0 yX0_rollRound yX0_rollRound, Cond.code yX0_rollRound cX0_rollRound 5 (some .boolean), Cond.fieldLink RX0 18 "Topplemoor$Heap" "moor" "LTopplemoor$Moor;", Cond.fieldLink RX0 28 "Topplemoor$Moor" "spots" "I", Cond.fieldLink RX0 38 "Topplemoor$Moor" "degrees" "[I", Cond.methodLink RX0 56 yX0_tip, Cond.instanceMethod yX0_tip, Cond.selects RX0 yX0_tip yX0_tip, Cond.code yX0_tip cX0_tip 4 none, Cond.fieldLink RX0 34 "Topplemoor$Moor" "edges" "[[I", Cond.methodLink RX4 171 yX0_allTimes, Cond.instanceMethod yX0_allTimes, Cond.selects RX0 yX0_allTimes yX0_allTimes, Cond.code yX0_allTimes cX0_allTimes 3 (some .int), Cond.methodLink RX4 174 yX0_swallowedByRoll, Cond.instanceMethod yX0_swallowedByRoll, Cond.selects RX0 yX0_swallowedByRoll yX0_swallowedByRoll, Cond.code yX0_swallowedByRoll cX0_swallowedByRoll 3 (some .int), Cond.methodLink RX4 177 yX0_toppledSet]
def wsL_would_r5 : List Cond := [Cond.instanceMethod yX0_toppledSet, Cond.selects RX0 yX0_toppledSet yX0_toppledSet, Cond.code yX0_toppledSet cX0_toppledSet 3 (some .int)]
def wsL_would : List Cond := .codeWith yL_would cL_would 6 (some .int) [(0, 12, 15, 19), (0, 12, 19, 21), (0, 12, 23, 13)] :: ((wsL_would_r1 ++ (wsL_would_r2 ++ (wsL_would_r3 ++ (wsL_would_r4 ++ wsL_would_r5)))) ++ wsX40 ++ wsX20 ++ wsX00 ++ (vx_atS RX4 231 "java/lang/IndexOutOfBoundsException" ["java/lang/RuntimeException", "java/lang/Exception"]).filter goodWord ++ (vx_atS RX4 72 "java/lang/IllegalArgumentException" ["java/lang/RuntimeException", "java/lang/Exception"]).filter goodWord ++ (vx_atS RX4 61 "java/lang/IllegalStateException" ["java/lang/RuntimeException", "java/lang/Exception"]).filter goodWord)
def wsL_isLasting_r1 : List Cond := [Cond.classLink RL 13 "java/lang/IllegalStateException", Cond.methodLink RL 68 yX4_isLasting, Cond.instanceMethod yX4_isLasting, Cond.selects RX4 yX4_isLasting yX4_isLasting, Cond.initialized RX4, Cond.code yX4_isLasting cX4_isLasting 1 (some .boolean), Cond.methodLink RX4 111 yX4_requireFast, Cond.instanceMethod yX4_requireFast, Cond.selects RX4 yX4_requireFast yX4_requireFast, Cond.code yX4_requireFast cX4_requireFast 1 none, Cond.classLink RX4 57 "java/lang/IllegalStateException", Cond.initialized "java/lang/IllegalStateException", Cond.fieldLink RX4 10 "Topplemoor" "moor" "LTopplemoor$Moor;", Cond.methodLink RX4 218 yX2_isFast, Cond.instanceMethod yX2_isFast, Cond.selects RX2 yX2_isFast yX2_isFast, Cond.initialized RX2, Cond.code yX2_isFast cX2_isFast 4 (some .boolean), Cond.fieldLink RX2 25 "Topplemoor$Moor" "spots" "I", Cond.methodLink RX2 33 yX2_edgesInto, Cond.instanceMethod yX2_edgesInto, Cond.selects RX2 yX2_edgesInto yX2_edgesInto, Cond.code yX2_edgesInto cX2_edgesInto 5 (some .int), Cond.fieldLink RX2 11 "Topplemoor$Moor" "edges" "[[I"]
def wsL_isLasting_r2 : List Cond := [Cond.methodLink RX2 37 yJ6_bitCount_0f7a4, Cond.static yJ6_bitCount_0f7a4, Cond.initialized RJ6, Cond.code yJ6_bitCount_0f7a4 cJ6_bitCount_0f7a4 1 (some .int), Cond.constant RJ6 265 (1431655765), Cond.constant RJ6 266 (858993459), Cond.constant RJ6 267 (252645135), Cond.methodLink RX4 180 yX4_liesLasting, Cond.instanceMethod yX4_liesLasting, Cond.selects RX4 yX4_liesLasting yX4_liesLasting, Cond.code yX4_liesLasting cX4_liesLasting 1 (some .boolean), Cond.fieldLink RX4 21 "Topplemoor" "lying" "LTopplemoor$Heap;", Cond.fieldLink RX4 25 "Topplemoor" "trial" "LTopplemoor$Heap;", Cond.fieldLink RX4 89 "Topplemoor$Heap" "grains" "[I", Cond.methodLink RX4 243 yX0_steepSet, Cond.instanceMethod yX0_steepSet, Cond.selects RX0 yX0_steepSet yX0_steepSet, Cond.initialized RX0, Cond.code yX0_steepSet cX0_steepSet 3 (some .int), Cond.fieldLink RX0 18 "Topplemoor$Heap" "moor" "LTopplemoor$Moor;", Cond.fieldLink RX0 28 "Topplemoor$Moor" "spots" "I", Cond.methodLink RX0 41 yX0_isSteep, Cond.instanceMethod yX0_isSteep, Cond.selects RX0 yX0_isSteep yX0_isSteep]
def wsL_isLasting_r3 : List Cond := [Cond.code yX0_isSteep cX0_isSteep 2 (some .boolean), Cond.fieldLink RX0 38 "Topplemoor$Moor" "degrees" "[I", Cond.fieldLink RX0 9 "Topplemoor$Heap" "grains" "[I", Cond.methodLink RX4 190 yX0_copyRow, Cond.instanceMethod yX0_copyRow, Cond.selects RX0 yX0_copyRow yX0_copyRow, Cond.code yX0_copyRow cX0_copyRow 2 none, Cond.methodLink RX0 22 arraycopyName, Cond.native arraycopyName, Cond.static arraycopyName, Cond.initialized "java/lang/System", Cond.methodLink RX4 246 yX0_addFromSink, Cond.instanceMethod yX0_addFromSink, Cond.selects RX0 yX0_addFromSink yX0_addFromSink, Cond.code yX0_addFromSink cX0_addFromSink 2 none, Cond.fieldLink RX0 34 "Topplemoor$Moor" "edges" "[[I", Cond.methodLink RX4 193 yX0_roll, Cond.instanceMethod yX0_roll, Cond.selects RX0 yX0_roll yX0_roll, Cond.code yX0_roll cX0_roll 3 none, Cond.fieldLink RX0 15 "Topplemoor$Heap" "times" "[I", Cond.constant RX0 51 (1000000), Cond.methodLink RX0 45 yJ7_fill_53178, Cond.static yJ7_fill_53178]
def wsL_isLasting_r4 : List Cond := [Cond.initialized RJ7, Cond.code yJ7_fill_53178 cJ7_fill_53178 4 none, Cond.methodLink RX0 52 yX0_rollRound, Cond.instanceMethod yX0_rollRound, Cond.selects RX0 yX0_rollRound yX0_rollRound, Cond.code yX0_rollRound cX0_rollRound 5 (some .boolean), Cond.methodLink RX0 56 yX0_tip, Cond.instanceMethod yX0_tip, Cond.selects RX0 yX0_tip yX0_tip, Cond.code yX0_tip cX0_tip 4 none, Cond.methodLink RX4 249 yX0_hasEachToppledOnce, Cond.instanceMethod yX0_hasEachToppledOnce, Cond.selects RX0 yX0_hasEachToppledOnce yX0_hasEachToppledOnce, Cond.code yX0_hasEachToppledOnce cX0_hasEachToppledOnce 2 (some .boolean)]
def wsL_isLasting : List Cond := .codeWith yL_isLasting cL_isLasting 3 (some .int) [(0, 15, 18, 13)] :: ((wsL_isLasting_r1 ++ (wsL_isLasting_r2 ++ (wsL_isLasting_r3 ++ wsL_isLasting_r4))) ++ wsX40 ++ wsX20 ++ wsX00 ++ (vx_atS RX4 61 "java/lang/IllegalStateException" ["java/lang/RuntimeException", "java/lang/Exception"]).filter goodWord)
def wsL_neutral_r1 : List Cond := [Cond.classLink RL 19 "java/lang/IndexOutOfBoundsException", Cond.classLink RL 13 "java/lang/IllegalStateException", Cond.methodLink RL 72 yX4_neutral, Cond.instanceMethod yX4_neutral, Cond.selects RX4 yX4_neutral yX4_neutral, Cond.initialized RX4, Cond.code yX4_neutral cX4_neutral 2 (some .int), Cond.fieldLink RX4 28 "Topplemoor" "neutralHeap" "LTopplemoor$Heap;", Cond.fieldLink RX4 89 "Topplemoor$Heap" "grains" "[I", Cond.methodLink RX4 86 yX4_requireSpot, Cond.instanceMethod yX4_requireSpot, Cond.selects RX4 yX4_requireSpot yX4_requireSpot, Cond.code yX4_requireSpot cX4_requireSpot 2 none, Cond.classLink RX4 227 "java/lang/IndexOutOfBoundsException", Cond.initialized "java/lang/IndexOutOfBoundsException", Cond.fieldLink RX4 10 "Topplemoor" "moor" "LTopplemoor$Moor;", Cond.methodLink RX4 224 yX2_isSpot, Cond.instanceMethod yX2_isSpot, Cond.selects RX2 yX2_isSpot yX2_isSpot, Cond.initialized RX2, Cond.code yX2_isSpot cX2_isSpot 2 (some .boolean), Cond.fieldLink RX2 25 "Topplemoor$Moor" "spots" "I", Cond.methodLink RX4 111 yX4_requireFast, Cond.instanceMethod yX4_requireFast]
def wsL_neutral_r2 : List Cond := [Cond.selects RX4 yX4_requireFast yX4_requireFast, Cond.code yX4_requireFast cX4_requireFast 1 none, Cond.classLink RX4 57 "java/lang/IllegalStateException", Cond.initialized "java/lang/IllegalStateException", Cond.methodLink RX4 218 yX2_isFast, Cond.instanceMethod yX2_isFast, Cond.selects RX2 yX2_isFast yX2_isFast, Cond.code yX2_isFast cX2_isFast 4 (some .boolean), Cond.methodLink RX2 33 yX2_edgesInto, Cond.instanceMethod yX2_edgesInto, Cond.selects RX2 yX2_edgesInto yX2_edgesInto, Cond.code yX2_edgesInto cX2_edgesInto 5 (some .int), Cond.fieldLink RX2 11 "Topplemoor$Moor" "edges" "[[I", Cond.methodLink RX2 37 yJ6_bitCount_0f7a4, Cond.static yJ6_bitCount_0f7a4, Cond.initialized RJ6, Cond.code yJ6_bitCount_0f7a4 cJ6_bitCount_0f7a4 1 (some .int), Cond.constant RJ6 265 (1431655765), Cond.constant RJ6 266 (858993459), Cond.constant RJ6 267 (252645135), Cond.methodLink RX4 184 yX0_becomeNeutral, Cond.instanceMethod yX0_becomeNeutral, Cond.selects RX0 yX0_becomeNeutral yX0_becomeNeutral, Cond.initialized RX0]
def wsL_neutral_r3 : List Cond := [Cond.code yX0_becomeNeutral cX0_becomeNeutral 2 none, Cond.fieldLink RX0 18 "Topplemoor$Heap" "moor" "LTopplemoor$Moor;", Cond.fieldLink RX0 28 "Topplemoor$Moor" "spots" "I", Cond.fieldLink RX0 9 "Topplemoor$Heap" "grains" "[I", Cond.fieldLink RX0 38 "Topplemoor$Moor" "degrees" "[I", Cond.methodLink RX0 60 yX0_roll, Cond.instanceMethod yX0_roll, Cond.selects RX0 yX0_roll yX0_roll, Cond.code yX0_roll cX0_roll 3 none, Cond.fieldLink RX0 15 "Topplemoor$Heap" "times" "[I", Cond.constant RX0 51 (1000000), Cond.methodLink RX0 45 yJ7_fill_53178, Cond.static yJ7_fill_53178, Cond.initialized RJ7, Cond.code yJ7_fill_53178 cJ7_fill_53178 4 none, Cond.methodLink RX0 52 yX0_rollRound, Cond.instanceMethod yX0_rollRound, Cond.selects RX0 yX0_rollRound yX0_rollRound, Cond.code yX0_rollRound cX0_rollRound 5 (some .boolean), Cond.methodLink RX0 56 yX0_tip, Cond.instanceMethod yX0_tip, Cond.selects RX0 yX0_tip yX0_tip, Cond.code yX0_tip cX0_tip 4 none, Cond.fieldLink RX0 34 "Topplemoor$Moor" "edges" "[[I"]
def wsL_neutral : List Cond := .codeWith yL_neutral cL_neutral 4 (some .int) [(0, 9, 12, 19), (0, 9, 15, 13)] :: ((wsL_neutral_r1 ++ (wsL_neutral_r2 ++ wsL_neutral_r3)) ++ wsX40 ++ wsX00 ++ wsX20 ++ (vx_atS RX4 231 "java/lang/IndexOutOfBoundsException" ["java/lang/RuntimeException", "java/lang/Exception"]).filter goodWord ++ (vx_atS RX4 61 "java/lang/IllegalStateException" ["java/lang/RuntimeException", "java/lang/Exception"]).filter goodWord)
def wsL_order_r1 : List Cond := [Cond.classLink RL 13 "java/lang/IllegalStateException", Cond.methodLink RL 75 yX4_order, Cond.instanceMethod yX4_order, Cond.selects RX4 yX4_order yX4_order, Cond.initialized RX4, Cond.code yX4_order cX4_order 2 (some .int), Cond.fieldLink RX4 25 "Topplemoor" "trial" "LTopplemoor$Heap;", Cond.fieldLink RX4 21 "Topplemoor" "lying" "LTopplemoor$Heap;", Cond.fieldLink RX4 89 "Topplemoor$Heap" "grains" "[I", Cond.fieldLink RX4 28 "Topplemoor" "neutralHeap" "LTopplemoor$Heap;", Cond.fieldLink RX4 31 "Topplemoor" "sum" "LTopplemoor$Heap;", Cond.methodLink RX4 111 yX4_requireFast, Cond.instanceMethod yX4_requireFast, Cond.selects RX4 yX4_requireFast yX4_requireFast, Cond.code yX4_requireFast cX4_requireFast 1 none, Cond.classLink RX4 57 "java/lang/IllegalStateException", Cond.initialized "java/lang/IllegalStateException", Cond.fieldLink RX4 10 "Topplemoor" "moor" "LTopplemoor$Moor;", Cond.methodLink RX4 218 yX2_isFast, Cond.instanceMethod yX2_isFast, Cond.selects RX2 yX2_isFast yX2_isFast, Cond.initialized RX2, Cond.code yX2_isFast cX2_isFast 4 (some .boolean), Cond.fieldLink RX2 25 "Topplemoor$Moor" "spots" "I"]
def wsL_order_r2 : List Cond := [Cond.methodLink RX2 33 yX2_edgesInto, Cond.instanceMethod yX2_edgesInto, Cond.selects RX2 yX2_edgesInto yX2_edgesInto, Cond.code yX2_edgesInto cX2_edgesInto 5 (some .int), Cond.fieldLink RX2 11 "Topplemoor$Moor" "edges" "[[I", Cond.methodLink RX2 37 yJ6_bitCount_0f7a4, Cond.static yJ6_bitCount_0f7a4, Cond.initialized RJ6, Cond.code yJ6_bitCount_0f7a4 cJ6_bitCount_0f7a4 1 (some .int), Cond.constant RJ6 265 (1431655765), Cond.constant RJ6 266 (858993459), Cond.constant RJ6 267 (252645135), Cond.methodLink RX4 190 yX0_copyRow, Cond.instanceMethod yX0_copyRow, Cond.selects RX0 yX0_copyRow yX0_copyRow, Cond.initialized RX0, Cond.code yX0_copyRow cX0_copyRow 2 none, Cond.fieldLink RX0 9 "Topplemoor$Heap" "grains" "[I", Cond.methodLink RX0 22 arraycopyName, Cond.native arraycopyName, Cond.static arraycopyName, Cond.initialized "java/lang/System", Cond.methodLink RX4 193 yX0_roll, Cond.instanceMethod yX0_roll]
def wsL_order_r3 : List Cond := [Cond.selects RX0 yX0_roll yX0_roll, Cond.code yX0_roll cX0_roll 3 none, Cond.fieldLink RX0 15 "Topplemoor$Heap" "times" "[I", Cond.constant RX0 51 (1000000), Cond.methodLink RX0 45 yJ7_fill_53178, Cond.static yJ7_fill_53178, Cond.initialized RJ7, Cond.code yJ7_fill_53178 cJ7_fill_53178 4 none, Cond.methodLink RX0 52 yX0_rollRound, Cond.instanceMethod yX0_rollRound, Cond.selects RX0 yX0_rollRound yX0_rollRound, Cond.code yX0_rollRound cX0_rollRound 5 (some .boolean), Cond.fieldLink RX0 18 "Topplemoor$Heap" "moor" "LTopplemoor$Moor;", Cond.fieldLink RX0 28 "Topplemoor$Moor" "spots" "I", Cond.fieldLink RX0 38 "Topplemoor$Moor" "degrees" "[I", Cond.methodLink RX0 56 yX0_tip, Cond.instanceMethod yX0_tip, Cond.selects RX0 yX0_tip yX0_tip, Cond.code yX0_tip cX0_tip 4 none, Cond.fieldLink RX0 34 "Topplemoor$Moor" "edges" "[[I", Cond.methodLink RX4 184 yX0_becomeNeutral, Cond.instanceMethod yX0_becomeNeutral, Cond.selects RX0 yX0_becomeNeutral yX0_becomeNeutral, Cond.code yX0_becomeNeutral cX0_becomeNeutral 2 none]
def wsL_order_r4 : List Cond := [Cond.methodLink RX0 60 yX0_roll, Cond.methodLink RX4 132 yX0_addRow, Cond.instanceMethod yX0_addRow, Cond.selects RX0 yX0_addRow yX0_addRow, Cond.code yX0_addRow cX0_addRow 3 none, Cond.methodLink RX4 196 yX0_isLike, Cond.instanceMethod yX0_isLike, Cond.selects RX0 yX0_isLike yX0_isLike, Cond.code yX0_isLike cX0_isLike 3 (some .boolean)]
def wsL_order : List Cond := .codeWith yL_order cL_order 3 (some .int) [(0, 8, 11, 13)] :: ((wsL_order_r1 ++ (wsL_order_r2 ++ (wsL_order_r3 ++ wsL_order_r4))) ++ wsX40 ++ wsX00 ++ wsX20 ++ (vx_atS RX4 61 "java/lang/IllegalStateException" ["java/lang/RuntimeException", "java/lang/Exception"]).filter goodWord)
def wsL_canPay_r1 : List Cond := [Cond.classLink RL 13 "java/lang/IllegalStateException", Cond.methodLink RL 78 yX4_canPay, Cond.instanceMethod yX4_canPay, Cond.selects RX4 yX4_canPay yX4_canPay, Cond.initialized RX4, Cond.code yX4_canPay cX4_canPay 1 (some .boolean), Cond.fieldLink RX4 44 "Topplemoor" "money" "LTopplemoor$Money;", Cond.methodLink RX4 111 yX4_requireFast, Cond.instanceMethod yX4_requireFast, Cond.selects RX4 yX4_requireFast yX4_requireFast, Cond.code yX4_requireFast cX4_requireFast 1 none, Cond.classLink RX4 57 "java/lang/IllegalStateException", Cond.initialized "java/lang/IllegalStateException", Cond.fieldLink RX4 10 "Topplemoor" "moor" "LTopplemoor$Moor;", Cond.methodLink RX4 218 yX2_isFast, Cond.instanceMethod yX2_isFast, Cond.selects RX2 yX2_isFast yX2_isFast, Cond.initialized RX2, Cond.code yX2_isFast cX2_isFast 4 (some .boolean), Cond.fieldLink RX2 25 "Topplemoor$Moor" "spots" "I", Cond.methodLink RX2 33 yX2_edgesInto, Cond.instanceMethod yX2_edgesInto, Cond.selects RX2 yX2_edgesInto yX2_edgesInto, Cond.code yX2_edgesInto cX2_edgesInto 5 (some .int)]
def wsL_canPay_r2 : List Cond := [Cond.fieldLink RX2 11 "Topplemoor$Moor" "edges" "[[I", Cond.methodLink RX2 37 yJ6_bitCount_0f7a4, Cond.static yJ6_bitCount_0f7a4, Cond.initialized RJ6, Cond.code yJ6_bitCount_0f7a4 cJ6_bitCount_0f7a4 1 (some .int), Cond.constant RJ6 265 (1431655765), Cond.constant RJ6 266 (858993459), Cond.constant RJ6 267 (252645135), Cond.methodLink RX4 200 yX1_isPayable, Cond.instanceMethod yX1_isPayable, Cond.selects RX1 yX1_isPayable yX1_isPayable, Cond.initialized RX1, Cond.code yX1_isPayable cX1_isPayable 1 (some .boolean), Cond.fieldLink RX1 24 "Topplemoor$Money" "lasting" "LTopplemoor$Heap;", Cond.methodLink RX1 40 yX1_findLasting, Cond.instanceMethod yX1_findLasting, Cond.selects RX1 yX1_findLasting yX1_findLasting, Cond.code yX1_findLasting cX1_findLasting 3 none, Cond.fieldLink RX1 15 "Topplemoor$Money" "moor" "LTopplemoor$Moor;", Cond.fieldLink RX1 51 "Topplemoor$Moor" "spots" "I", Cond.fieldLink RX1 55 "Topplemoor$Heap" "grains" "[I", Cond.fieldLink RX1 9 "Topplemoor$Money" "coins" "[I", Cond.constant RX1 68 (1000000), Cond.methodLink RX1 65 yX1_readOtherWay]
def wsL_canPay_r3 : List Cond := [Cond.instanceMethod yX1_readOtherWay, Cond.selects RX1 yX1_readOtherWay yX1_readOtherWay, Cond.code yX1_readOtherWay cX1_readOtherWay 2 none, Cond.fieldLink RX1 31 "Topplemoor$Moor" "degrees" "[I", Cond.methodLink RX1 62 yX0_roll, Cond.instanceMethod yX0_roll, Cond.selects RX0 yX0_roll yX0_roll, Cond.initialized RX0, Cond.code yX0_roll cX0_roll 3 none, Cond.fieldLink RX0 15 "Topplemoor$Heap" "times" "[I", Cond.constant RX0 51 (1000000), Cond.methodLink RX0 45 yJ7_fill_53178, Cond.static yJ7_fill_53178, Cond.initialized RJ7, Cond.code yJ7_fill_53178 cJ7_fill_53178 4 none, Cond.methodLink RX0 52 yX0_rollRound, Cond.instanceMethod yX0_rollRound, Cond.selects RX0 yX0_rollRound yX0_rollRound, Cond.code yX0_rollRound cX0_rollRound 5 (some .boolean), Cond.fieldLink RX0 18 "Topplemoor$Heap" "moor" "LTopplemoor$Moor;", Cond.fieldLink RX0 28 "Topplemoor$Moor" "spots" "I", Cond.fieldLink RX0 38 "Topplemoor$Moor" "degrees" "[I", Cond.fieldLink RX0 9 "Topplemoor$Heap" "grains" "[I", Cond.methodLink RX0 56 yX0_tip]
def wsL_canPay_r4 : List Cond := [Cond.instanceMethod yX0_tip, Cond.selects RX0 yX0_tip yX0_tip, Cond.code yX0_tip cX0_tip 4 none, Cond.fieldLink RX0 34 "Topplemoor$Moor" "edges" "[[I", Cond.methodLink RX1 69 yX0_addFromSink, Cond.instanceMethod yX0_addFromSink, Cond.selects RX0 yX0_addFromSink yX0_addFromSink, Cond.code yX0_addFromSink cX0_addFromSink 2 none, Cond.methodLink RX1 72 yX0_hasEachToppledOnce, Cond.instanceMethod yX0_hasEachToppledOnce, Cond.selects RX0 yX0_hasEachToppledOnce yX0_hasEachToppledOnce, Cond.code yX0_hasEachToppledOnce cX0_hasEachToppledOnce 2 (some .boolean), Cond.methodLink RX1 43 yX1_allCoins, Cond.instanceMethod yX1_allCoins, Cond.selects RX1 yX1_allCoins yX1_allCoins, Cond.code yX1_allCoins cX1_allCoins 3 (some .int), Cond.methodLink RX1 47 yX1_leastNeeded, Cond.instanceMethod yX1_leastNeeded, Cond.selects RX1 yX1_leastNeeded yX1_leastNeeded, Cond.code yX1_leastNeeded cX1_leastNeeded 4 (some .int)]
def wsL_canPay : List Cond := .codeWith yL_canPay cL_canPay 3 (some .int) [(0, 15, 18, 13)] :: ((wsL_canPay_r1 ++ (wsL_canPay_r2 ++ (wsL_canPay_r3 ++ wsL_canPay_r4))) ++ wsX40 ++ wsX20 ++ wsX10 ++ wsX00 ++ (vx_atS RX4 61 "java/lang/IllegalStateException" ["java/lang/RuntimeException", "java/lang/Exception"]).filter goodWord)
def wsL_weakest_r1 : List Cond := [Cond.classLink RL 13 "java/lang/IllegalStateException", Cond.methodLink RL 81 yX4_weakest, Cond.instanceMethod yX4_weakest, Cond.selects RX4 yX4_weakest yX4_weakest, Cond.initialized RX4, Cond.code yX4_weakest cX4_weakest 1 (some .int), Cond.fieldLink RX4 44 "Topplemoor" "money" "LTopplemoor$Money;", Cond.methodLink RX4 111 yX4_requireFast, Cond.instanceMethod yX4_requireFast, Cond.selects RX4 yX4_requireFast yX4_requireFast, Cond.code yX4_requireFast cX4_requireFast 1 none, Cond.classLink RX4 57 "java/lang/IllegalStateException", Cond.initialized "java/lang/IllegalStateException", Cond.fieldLink RX4 10 "Topplemoor" "moor" "LTopplemoor$Moor;", Cond.methodLink RX4 218 yX2_isFast, Cond.instanceMethod yX2_isFast, Cond.selects RX2 yX2_isFast yX2_isFast, Cond.initialized RX2, Cond.code yX2_isFast cX2_isFast 4 (some .boolean), Cond.fieldLink RX2 25 "Topplemoor$Moor" "spots" "I", Cond.methodLink RX2 33 yX2_edgesInto, Cond.instanceMethod yX2_edgesInto, Cond.selects RX2 yX2_edgesInto yX2_edgesInto, Cond.code yX2_edgesInto cX2_edgesInto 5 (some .int)]
def wsL_weakest_r2 : List Cond := [Cond.fieldLink RX2 11 "Topplemoor$Moor" "edges" "[[I", Cond.methodLink RX2 37 yJ6_bitCount_0f7a4, Cond.static yJ6_bitCount_0f7a4, Cond.initialized RJ6, Cond.code yJ6_bitCount_0f7a4 cJ6_bitCount_0f7a4 1 (some .int), Cond.constant RJ6 265 (1431655765), Cond.constant RJ6 266 (858993459), Cond.constant RJ6 267 (252645135), Cond.methodLink RX4 203 yX1_weakestNode, Cond.instanceMethod yX1_weakestNode, Cond.selects RX1 yX1_weakestNode yX1_weakestNode, Cond.initialized RX1, Cond.code yX1_weakestNode cX1_weakestNode 3 (some .int), Cond.fieldLink RX1 15 "Topplemoor$Money" "moor" "LTopplemoor$Moor;", Cond.fieldLink RX1 51 "Topplemoor$Moor" "spots" "I", Cond.fieldLink RX1 28 "Topplemoor$Money" "poorer" "LTopplemoor$Heap;", Cond.fieldLink RX1 24 "Topplemoor$Money" "lasting" "LTopplemoor$Heap;", Cond.fieldLink RX1 55 "Topplemoor$Heap" "grains" "[I", Cond.methodLink RX1 40 yX1_findLasting, Cond.instanceMethod yX1_findLasting, Cond.selects RX1 yX1_findLasting yX1_findLasting, Cond.code yX1_findLasting cX1_findLasting 3 none, Cond.fieldLink RX1 9 "Topplemoor$Money" "coins" "[I", Cond.constant RX1 68 (1000000)]
def wsL_weakest_r3 : List Cond := [Cond.methodLink RX1 65 yX1_readOtherWay, Cond.instanceMethod yX1_readOtherWay, Cond.selects RX1 yX1_readOtherWay yX1_readOtherWay, Cond.code yX1_readOtherWay cX1_readOtherWay 2 none, Cond.fieldLink RX1 31 "Topplemoor$Moor" "degrees" "[I", Cond.methodLink RX1 62 yX0_roll, Cond.instanceMethod yX0_roll, Cond.selects RX0 yX0_roll yX0_roll, Cond.initialized RX0, Cond.code yX0_roll cX0_roll 3 none, Cond.fieldLink RX0 15 "Topplemoor$Heap" "times" "[I", Cond.constant RX0 51 (1000000), Cond.methodLink RX0 45 yJ7_fill_53178, Cond.static yJ7_fill_53178, Cond.initialized RJ7, Cond.code yJ7_fill_53178 cJ7_fill_53178 4 none, Cond.methodLink RX0 52 yX0_rollRound, Cond.instanceMethod yX0_rollRound, Cond.selects RX0 yX0_rollRound yX0_rollRound, Cond.code yX0_rollRound cX0_rollRound 5 (some .boolean), Cond.fieldLink RX0 18 "Topplemoor$Heap" "moor" "LTopplemoor$Moor;", Cond.fieldLink RX0 28 "Topplemoor$Moor" "spots" "I", Cond.fieldLink RX0 38 "Topplemoor$Moor" "degrees" "[I", Cond.fieldLink RX0 9 "Topplemoor$Heap" "grains" "[I"]
def wsL_weakest_r4 : List Cond := [Cond.methodLink RX0 56 yX0_tip, Cond.instanceMethod yX0_tip, Cond.selects RX0 yX0_tip yX0_tip, Cond.code yX0_tip cX0_tip 4 none, Cond.fieldLink RX0 34 "Topplemoor$Moor" "edges" "[[I", Cond.methodLink RX1 69 yX0_addFromSink, Cond.instanceMethod yX0_addFromSink, Cond.selects RX0 yX0_addFromSink yX0_addFromSink, Cond.code yX0_addFromSink cX0_addFromSink 2 none, Cond.methodLink RX1 72 yX0_hasEachToppledOnce, Cond.instanceMethod yX0_hasEachToppledOnce, Cond.selects RX0 yX0_hasEachToppledOnce yX0_hasEachToppledOnce, Cond.code yX0_hasEachToppledOnce cX0_hasEachToppledOnce 2 (some .boolean), Cond.methodLink RX1 43 yX1_allCoins, Cond.instanceMethod yX1_allCoins, Cond.selects RX1 yX1_allCoins yX1_allCoins, Cond.code yX1_allCoins cX1_allCoins 3 (some .int), Cond.methodLink RX1 58 yX0_copyRow, Cond.instanceMethod yX0_copyRow, Cond.selects RX0 yX0_copyRow yX0_copyRow, Cond.code yX0_copyRow cX0_copyRow 2 none, Cond.methodLink RX0 22 arraycopyName, Cond.native arraycopyName, Cond.static arraycopyName]
def wsL_weakest_r5 : List Cond := [Cond.initialized "java/lang/System", Cond.methodLink RX1 47 yX1_leastNeeded, Cond.instanceMethod yX1_leastNeeded, Cond.selects RX1 yX1_leastNeeded yX1_leastNeeded, Cond.code yX1_leastNeeded cX1_leastNeeded 4 (some .int)]
def wsL_weakest : List Cond := .codeWith yL_weakest cL_weakest 3 (some .int) [(0, 8, 11, 13)] :: ((wsL_weakest_r1 ++ (wsL_weakest_r2 ++ (wsL_weakest_r3 ++ (wsL_weakest_r4 ++ wsL_weakest_r5)))) ++ wsX40 ++ wsX20 ++ wsX10 ++ wsX00 ++ (vx_atS RX4 61 "java/lang/IllegalStateException" ["java/lang/RuntimeException", "java/lang/Exception"]).filter goodWord)
def wsL_law0_r1 : List Cond := [Cond.classLink RL 8 RX4, Cond.instantiable RX4 11, Cond.initialized RX4, Cond.classLink RL 85 RX5, Cond.instantiable RX5 11, Cond.initialized RX5, Cond.arrayClass .long, Cond.methodLink RL 84 yX4_init, Cond.instanceMethod yX4_init, Cond.code yX4_init cX4_init 1 none, Cond.methodLink RX4 1 objectInit, Cond.instanceMethod objectInit, Cond.code objectInit ⟨#[0xb1]⟩ 1 none, Cond.classLink RX4 7 RX2, Cond.instantiable RX2 4, Cond.initialized RX2, Cond.fieldLink RX4 10 "Topplemoor" "moor" "LTopplemoor$Moor;", Cond.classLink RX4 16 RX0, Cond.instantiable RX0 3, Cond.initialized RX0, Cond.fieldLink RX4 21 "Topplemoor" "lying" "LTopplemoor$Heap;", Cond.fieldLink RX4 25 "Topplemoor" "trial" "LTopplemoor$Heap;", Cond.fieldLink RX4 28 "Topplemoor" "neutralHeap" "LTopplemoor$Heap;", Cond.fieldLink RX4 31 "Topplemoor" "sum" "LTopplemoor$Heap;"]
def wsL_law0_r2 : List Cond := [Cond.classLink RX4 34 RX3, Cond.instantiable RX3 3, Cond.initialized RX3, Cond.fieldLink RX4 37 "Topplemoor" "rotors" "LTopplemoor$Rotors;", Cond.classLink RX4 41 RX1, Cond.instantiable RX1 4, Cond.initialized RX1, Cond.fieldLink RX4 44 "Topplemoor" "money" "LTopplemoor$Money;", Cond.classLink RX4 48 "[[I", Cond.arrayClass .int, Cond.fieldLink RX4 50 "Topplemoor" "keptHeaps" "[[I", Cond.instanceMethod yX2_init, Cond.code yX2_init cX2_init 1 none, Cond.methodLink RX2 3 objectInit, Cond.classLink RX2 9 "[[I", Cond.fieldLink RX2 11 "Topplemoor$Moor" "edges" "[[I", Cond.fieldLink RX2 16 "Topplemoor$Moor" "degrees" "[I", Cond.classLink RX2 20 "[[J", Cond.fieldLink RX2 22 "Topplemoor$Moor" "table" "[[J", Cond.methodLink RX4 18 yX0_init, Cond.instanceMethod yX0_init, Cond.code yX0_init cX0_init 2 none, Cond.methodLink RX0 3 objectInit, Cond.fieldLink RX0 9 "Topplemoor$Heap" "grains" "[I"]
def wsL_law0_r3 : List Cond := [Cond.fieldLink RX0 15 "Topplemoor$Heap" "times" "[I", Cond.fieldLink RX0 18 "Topplemoor$Heap" "moor" "LTopplemoor$Moor;", Cond.methodLink RX4 36 yX3_init, Cond.instanceMethod yX3_init, Cond.code yX3_init cX3_init 2 none, Cond.methodLink RX3 3 objectInit, Cond.fieldLink RX3 9 "Topplemoor$Rotors" "places" "[I", Cond.fieldLink RX3 15 "Topplemoor$Rotors" "moor" "LTopplemoor$Moor;", Cond.methodLink RX4 43 yX1_init, Cond.instanceMethod yX1_init, Cond.code yX1_init cX1_init 2 none, Cond.methodLink RX1 3 objectInit, Cond.fieldLink RX1 9 "Topplemoor$Money" "coins" "[I", Cond.fieldLink RX1 15 "Topplemoor$Money" "moor" "LTopplemoor$Moor;", Cond.classLink RX1 19 RX0, Cond.fieldLink RX1 24 "Topplemoor$Money" "lasting" "LTopplemoor$Heap;", Cond.fieldLink RX1 28 "Topplemoor$Money" "poorer" "LTopplemoor$Heap;", Cond.methodLink RX1 21 yX0_init, Cond.methodLink RL 87 yX5_init, Cond.instanceMethod yX5_init, Cond.code yX5_init cX5_init 1 none, Cond.methodLink RX5 1 objectInit, Cond.classLink RX5 9 "[[I", Cond.fieldLink RX5 11 "TopplemoorModel" "edges" "[[I"]
def wsL_law0_r4 : List Cond := [Cond.fieldLink RX5 14 "TopplemoorModel" "grains" "[I", Cond.fieldLink RX5 18 "TopplemoorModel" "avalanche" "[I", Cond.fieldLink RX5 21 "TopplemoorModel" "rotors" "[I", Cond.fieldLink RX5 24 "TopplemoorModel" "coins" "[I", Cond.classLink RX5 27 RJx4a65c, Cond.instantiable RJx4a65c 3, Cond.initialized RJx4a65c, Cond.fieldLink RX5 30 "TopplemoorModel" "kept" "Ljava/util/ArrayList;", Cond.methodLink RX5 29 yJx4a65c_init_da8c8, Cond.instanceMethod yJx4a65c_init_da8c8, Cond.code yJx4a65c_init_da8c8 cJx4a65c_init_da8c8 1 none, Cond.fieldLink RJx4a65c 39 "java/util/ArrayList" "DEFAULTCAPACITY_EMPTY_ELEMENTDATA" "[Ljava/lang/Object;", Cond.fieldLink RJx4a65c 9 "java/util/ArrayList" "elementData" "[Ljava/lang/Object;", Cond.methodLink RJx4a65c 1 yJxc12de_init_da8c8, Cond.instanceMethod yJxc12de_init_da8c8, Cond.initialized RJxc12de, Cond.code yJxc12de_init_da8c8 cJxc12de_init_da8c8 1 none, Cond.fieldLink RJxc12de 7 "java/util/AbstractList" "modCount" "I", Cond.methodLink RJxc12de 1 yJxa1e45_init_da8c8, Cond.instanceMethod yJxa1e45_init_da8c8, Cond.initialized RJxa1e45, Cond.code yJxa1e45_init_da8c8 cJxa1e45_init_da8c8 1 none, Cond.methodLink RJxa1e45 1 objectInit, Cond.methodLink RL 88 yL_spot]
def wsL_law0_r5 : List Cond := [Cond.static yL_spot, Cond.initialized RL, Cond.codeWith yL_spot cL_spot 3 (some .int) [(0, 8, 11, 13)], Cond.classLink RL 13 "java/lang/IllegalStateException", Cond.methodLink RL 7 yX4_spot, Cond.instanceMethod yX4_spot, Cond.selects RX4 yX4_spot yX4_spot, Cond.code yX4_spot cX4_spot 1 (some .int), Cond.classLink RX4 57 "java/lang/IllegalStateException", Cond.initialized "java/lang/IllegalStateException", Cond.fieldLink RX4 53 "Topplemoor$Moor" "spots" "I", Cond.methodLink RL 93 yX5_spot, Cond.instanceMethod yX5_spot, Cond.selects RX5 yX5_spot yX5_spot, Cond.code yX5_spot cX5_spot 1 (some .int), Cond.fieldLink RX5 42 "TopplemoorModel" "spots" "I", Cond.methodLink RX5 53 yX5_start, Cond.instanceMethod yX5_start, Cond.selects RX5 yX5_start yX5_start, Cond.code yX5_start cX5_start 3 (some .boolean), Cond.fieldLink RX5 34 "TopplemoorModel" "thrown" "I", Cond.methodLink RX5 38 yX5_refuse, Cond.instanceMethod yX5_refuse, Cond.selects RX5 yX5_refuse yX5_refuse]
def wsL_law0_r6 : List Cond := [Cond.code yX5_refuse cX5_refuse 3 (some .boolean), Cond.methodLink RL 94 yX5_thrown, Cond.instanceMethod yX5_thrown, Cond.selects RX5 yX5_thrown yX5_thrown, Cond.code yX5_thrown cX5_thrown 1 (some .int), Cond.methodLink RL 97 yL_edge, Cond.static yL_edge, Cond.codeWith yL_edge cL_edge 6 (some .int) [(0, 12, 15, 19), (0, 12, 19, 21)], Cond.classLink RL 19 "java/lang/IndexOutOfBoundsException", Cond.classLink RL 21 "java/lang/IllegalArgumentException", Cond.methodLink RL 15 yX4_edge, Cond.instanceMethod yX4_edge, Cond.selects RX4 yX4_edge yX4_edge, Cond.code yX4_edge cX4_edge 5 (some .int), Cond.classLink RX4 68 "java/lang/IllegalArgumentException", Cond.initialized "java/lang/IllegalArgumentException", Cond.fieldLink RX4 77 "Topplemoor$Moor" "edges" "[[I", Cond.methodLink RX4 64 yX4_requireNode, Cond.instanceMethod yX4_requireNode, Cond.selects RX4 yX4_requireNode yX4_requireNode, Cond.code yX4_requireNode cX4_requireNode 2 none, Cond.classLink RX4 227 "java/lang/IndexOutOfBoundsException", Cond.initialized "java/lang/IndexOutOfBoundsException", Cond.methodLink RX4 232 yX2_isNode]
def wsL_law0_r7 : List Cond := [Cond.instanceMethod yX2_isNode, Cond.selects RX2 yX2_isNode yX2_isNode, Cond.code yX2_isNode cX2_isNode 2 (some .boolean), Cond.methodLink RX2 29 yX2_isSpot, Cond.instanceMethod yX2_isSpot, Cond.selects RX2 yX2_isSpot yX2_isSpot, Cond.code yX2_isSpot cX2_isSpot 2 (some .boolean), Cond.fieldLink RX2 25 "Topplemoor$Moor" "spots" "I", Cond.methodLink RX4 73 yX4_requireWithin, Cond.static yX4_requireWithin, Cond.code yX4_requireWithin cX4_requireWithin 3 none, Cond.methodLink RX4 80 yX2_lay, Cond.instanceMethod yX2_lay, Cond.selects RX2 yX2_lay yX2_lay, Cond.code yX2_lay cX2_lay 5 none, Cond.methodLink RX4 83 yX3_reset, Cond.instanceMethod yX3_reset, Cond.selects RX3 yX3_reset yX3_reset, Cond.code yX3_reset cX3_reset 2 none, Cond.methodLink RX3 19 yX2_isSpot, Cond.methodLink RL 100 yX5_edge, Cond.instanceMethod yX5_edge, Cond.selects RX5 yX5_edge yX5_edge, Cond.code yX5_edge cX5_edge 5 (some .int)]
def wsL_law0_r8 : List Cond := [Cond.methodLink RX5 56 yX5_isNoNode, Cond.instanceMethod yX5_isNoNode, Cond.selects RX5 yX5_isNoNode yX5_isNoNode, Cond.code yX5_isNoNode cX5_isNoNode 2 (some .boolean), Cond.methodLink RX5 49 yX5_isNoSpot, Cond.instanceMethod yX5_isNoSpot, Cond.selects RX5 yX5_isNoSpot yX5_isNoSpot, Cond.code yX5_isNoSpot cX5_isNoSpot 2 (some .boolean), Cond.methodLink RX5 45 yX5_isIn, Cond.static yX5_isIn, Cond.code yX5_isIn cX5_isIn 3 (some .boolean), Cond.methodLink RL 101 yL_drop, Cond.static yL_drop, Cond.codeWith yL_drop cL_drop 5 (some .int) [(0, 10, 13, 19), (0, 10, 17, 21), (0, 10, 21, 13)], Cond.methodLink RL 23 yX4_drop, Cond.instanceMethod yX4_drop, Cond.selects RX4 yX4_drop yX4_drop, Cond.code yX4_drop cX4_drop 3 (some .int), Cond.fieldLink RX4 89 "Topplemoor$Heap" "grains" "[I", Cond.methodLink RX4 86 yX4_requireSpot, Cond.instanceMethod yX4_requireSpot, Cond.selects RX4 yX4_requireSpot yX4_requireSpot, Cond.code yX4_requireSpot cX4_requireSpot 2 none, Cond.methodLink RX4 224 yX2_isSpot]
def wsL_law0_r9 : List Cond := [Cond.methodLink RL 104 yX5_drop, Cond.instanceMethod yX5_drop, Cond.selects RX5 yX5_drop yX5_drop, Cond.code yX5_drop cX5_drop 3 (some .int), Cond.methodLink RL 105 yL_topple, Cond.static yL_topple, Cond.codeWith yL_topple cL_topple 4 (some .int) [(0, 9, 12, 19), (0, 9, 15, 13)], Cond.methodLink RL 27 yX4_topple, Cond.instanceMethod yX4_topple, Cond.selects RX4 yX4_topple yX4_topple, Cond.code yX4_topple cX4_topple 2 (some .int), Cond.fieldLink RX4 105 "Topplemoor" "topples" "I", Cond.fieldLink RX4 108 "Topplemoor" "swallowed" "I", Cond.methodLink RX4 95 yX0_isSteep, Cond.instanceMethod yX0_isSteep, Cond.selects RX0 yX0_isSteep yX0_isSteep, Cond.code yX0_isSteep cX0_isSteep 2 (some .boolean), Cond.fieldLink RX0 38 "Topplemoor$Moor" "degrees" "[I", Cond.methodLink RX4 101 yX0_tip, Cond.instanceMethod yX0_tip, Cond.selects RX0 yX0_tip yX0_tip, Cond.code yX0_tip cX0_tip 4 none, Cond.fieldLink RX0 28 "Topplemoor$Moor" "spots" "I", Cond.fieldLink RX0 34 "Topplemoor$Moor" "edges" "[[I"]
def wsL_law0_r10 : List Cond := [Cond.methodLink RL 108 yX5_topple, Cond.instanceMethod yX5_topple, Cond.selects RX5 yX5_topple yX5_topple, Cond.code yX5_topple cX5_topple 2 (some .int), Cond.fieldLink RX5 75 "TopplemoorModel" "topples" "I", Cond.fieldLink RX5 81 "TopplemoorModel" "swallowed" "I", Cond.methodLink RX5 63 yX5_isSteep, Cond.instanceMethod yX5_isSteep, Cond.selects RX5 yX5_isSteep yX5_isSteep, Cond.code yX5_isSteep cX5_isSteep 3 (some .boolean), Cond.methodLink RX5 59 yX5_degree, Cond.instanceMethod yX5_degree, Cond.selects RX5 yX5_degree yX5_degree, Cond.code yX5_degree cX5_degree 7 (some .int), Cond.methodLink RX5 71 yX5_fall, Cond.instanceMethod yX5_fall, Cond.selects RX5 yX5_fall yX5_fall, Cond.code yX5_fall cX5_fall 4 none, Cond.methodLink RL 109 yL_settle, Cond.static yL_settle, Cond.codeWith yL_settle cL_settle 3 (some .int) [(0, 8, 11, 13)], Cond.methodLink RL 31 yX4_settle, Cond.instanceMethod yX4_settle, Cond.selects RX4 yX4_settle yX4_settle]
def wsL_law0_r11 : List Cond := [Cond.code yX4_settle cX4_settle 1 (some .int), Cond.methodLink RX4 111 yX4_requireFast, Cond.instanceMethod yX4_requireFast, Cond.selects RX4 yX4_requireFast yX4_requireFast, Cond.code yX4_requireFast cX4_requireFast 1 none, Cond.methodLink RX4 218 yX2_isFast, Cond.instanceMethod yX2_isFast, Cond.selects RX2 yX2_isFast yX2_isFast, Cond.code yX2_isFast cX2_isFast 4 (some .boolean), Cond.methodLink RX2 33 yX2_edgesInto, Cond.instanceMethod yX2_edgesInto, Cond.selects RX2 yX2_edgesInto yX2_edgesInto, Cond.code yX2_edgesInto cX2_edgesInto 5 (some .int), Cond.methodLink RX2 37 yJ6_bitCount_0f7a4, Cond.static yJ6_bitCount_0f7a4, Cond.initialized RJ6, Cond.code yJ6_bitCount_0f7a4 cJ6_bitCount_0f7a4 1 (some .int), Cond.constant RJ6 265 (1431655765), Cond.constant RJ6 266 (858993459), Cond.constant RJ6 267 (252645135), Cond.methodLink RX4 114 yX4_settleLying, Cond.instanceMethod yX4_settleLying, Cond.selects RX4 yX4_settleLying yX4_settleLying, Cond.code yX4_settleLying cX4_settleLying 2 (some .int)]
def wsL_law0_r12 : List Cond := [Cond.methodLink RX4 193 yX0_roll, Cond.instanceMethod yX0_roll, Cond.selects RX0 yX0_roll yX0_roll, Cond.code yX0_roll cX0_roll 3 none, Cond.constant RX0 51 (1000000), Cond.methodLink RX0 45 yJ7_fill_53178, Cond.static yJ7_fill_53178, Cond.initialized RJ7, Cond.code yJ7_fill_53178 cJ7_fill_53178 4 none, Cond.methodLink RX0 52 yX0_rollRound, Cond.instanceMethod yX0_rollRound, Cond.selects RX0 yX0_rollRound yX0_rollRound, Cond.code yX0_rollRound cX0_rollRound 5 (some .boolean), Cond.methodLink RX0 56 yX0_tip, Cond.methodLink RX4 171 yX0_allTimes, Cond.instanceMethod yX0_allTimes, Cond.selects RX0 yX0_allTimes yX0_allTimes, Cond.code yX0_allTimes cX0_allTimes 3 (some .int), Cond.methodLink RX4 174 yX0_swallowedByRoll, Cond.instanceMethod yX0_swallowedByRoll, Cond.selects RX0 yX0_swallowedByRoll yX0_swallowedByRoll, Cond.code yX0_swallowedByRoll cX0_swallowedByRoll 3 (some .int), Cond.methodLink RL 111 yX5_settle, Cond.instanceMethod yX5_settle]
def wsL_law0_r13 : List Cond := [Cond.selects RX5 yX5_settle yX5_settle, Cond.code yX5_settle cX5_settle 1 (some .int), Cond.methodLink RX5 87 yX5_isFast, Cond.instanceMethod yX5_isFast, Cond.selects RX5 yX5_isFast yX5_isFast, Cond.code yX5_isFast cX5_isFast 5 (some .boolean), Cond.arrayClass .boolean, Cond.methodLink RX5 91 yX5_settled, Cond.instanceMethod yX5_settled, Cond.selects RX5 yX5_settled yX5_settled, Cond.code yX5_settled cX5_settled 4 (some (.array .int)), Cond.methodLink RX5 67 yX5_steepest, Cond.instanceMethod yX5_steepest, Cond.selects RX5 yX5_steepest yX5_steepest, Cond.code yX5_steepest cX5_steepest 3 (some .int), Cond.methodLink RX5 95 yX5_land, Cond.instanceMethod yX5_land, Cond.selects RX5 yX5_land yX5_land, Cond.code yX5_land cX5_land 2 (some .int), Cond.methodLink RX5 78 yX5_sum, Cond.static yX5_sum, Cond.code yX5_sum cX5_sum 6 (some .int), Cond.methodLink RX5 84 yX5_swallowedBy, Cond.instanceMethod yX5_swallowedBy]
def wsL_law0_r14 : List Cond := [Cond.selects RX5 yX5_swallowedBy yX5_swallowedBy, Cond.code yX5_swallowedBy cX5_swallowedBy 4 (some .int), Cond.methodLink RL 112 yL_keep, Cond.static yL_keep, Cond.codeWith yL_keep cL_keep 3 (some .int) [(0, 8, 11, 13)], Cond.methodLink RL 34 yX4_keep, Cond.instanceMethod yX4_keep, Cond.selects RX4 yX4_keep yX4_keep, Cond.code yX4_keep cX4_keep 1 (some .int), Cond.fieldLink RX4 118 "Topplemoor" "keptMany" "I", Cond.methodLink RX4 123 arraycopyName, Cond.native arraycopyName, Cond.static arraycopyName, Cond.initialized "java/lang/System", Cond.methodLink RL 114 yX5_keep, Cond.instanceMethod yX5_keep, Cond.selects RX5 yX5_keep yX5_keep, Cond.code yX5_keep cX5_keep 1 (some .int), Cond.methodLink RX5 104 yJx4a65c_size_8abf5, Cond.instanceMethod yJx4a65c_size_8abf5, Cond.selects RJx4a65c yJx4a65c_size_8abf5 yJx4a65c_size_8abf5, Cond.code yJx4a65c_size_8abf5 cJx4a65c_size_8abf5 1 (some .int), Cond.fieldLink RJx4a65c 48 "java/util/ArrayList" "size" "I", Cond.methodLink RX5 108 yX5_copy]
def wsL_law0_r15 : List Cond := [Cond.static yX5_copy, Cond.code yX5_copy cX5_copy 2 (some (.array .int)), Cond.methodLink RX5 98 arraycopyName, Cond.methodLink RX5 111 yJx4a65c_add_9ea2d, Cond.instanceMethod yJx4a65c_add_9ea2d, Cond.selects RJx4a65c yJx4a65c_add_9ea2d yJx4a65c_add_9ea2d, Cond.code yJx4a65c_add_9ea2d cJx4a65c_add_9ea2d 2 (some .boolean), Cond.fieldLink RJx4a65c 63 "java/util/ArrayList" "modCount" "I", Cond.sameField "java/util/ArrayList" "java/util/AbstractList" "modCount" "I", Cond.methodLink RJx4a65c 131 yJx4a65c_add_72be8, Cond.instanceMethod yJx4a65c_add_72be8, Cond.selects RJx4a65c yJx4a65c_add_72be8 yJx4a65c_add_72be8, Cond.code yJx4a65c_add_72be8 cJx4a65c_add_72be8 4 none, Cond.methodLink RJx4a65c 129 yJx4a65c_grow_d5877, Cond.instanceMethod yJx4a65c_grow_d5877, Cond.selects RJx4a65c yJx4a65c_grow_d5877 yJx4a65c_grow_d5877, Cond.code yJx4a65c_grow_d5877 cJx4a65c_grow_d5877 1 (some (.array (.object "java/lang/Object"))), Cond.methodLink RJx4a65c 69 yJx4a65c_grow_92f84, Cond.instanceMethod yJx4a65c_grow_92f84, Cond.selects RJx4a65c yJx4a65c_grow_92f84 yJx4a65c_grow_92f84, Cond.code yJx4a65c_grow_92f84 cJx4a65c_grow_92f84 4 (some (.array (.object "java/lang/Object"))), Cond.methodLink RJx4a65c 79 Lib.Math.max.name, Cond.static Lib.Math.max.name, Cond.initialized "java/lang/Math"]
def wsL_law0_r16 : List Cond := [Cond.code Lib.Math.max.name Lib.Math.max.code 2 (some .int), Cond.classLink RJx4a65c 7 "java/lang/Object", Cond.methodLink RJx4a65c 73 yJ8_newLength_cabcc, Cond.static yJ8_newLength_cabcc, Cond.initialized RJ8, Cond.code yJ8_newLength_cabcc cJ8_newLength_cabcc 4 (some .int), Cond.methodLink RJ8 194 Lib.Math.max.name, Cond.constant RJ8 200 (2147483639), Cond.methodLink RJ8 201 yJ8_hugeLength_7cf53, Cond.static yJ8_hugeLength_7cf53, Cond.code yJ8_hugeLength_7cf53 cJ8_hugeLength_7cf53 3 (some .int), Cond.methodLink RJx4a65c 66 yJ7_copyOf_1904c, Cond.static yJ7_copyOf_1904c, Cond.code yJ7_copyOf_1904c cJ7_copyOf_1904c 2 (some (.array (.object "java/lang/Object"))), Cond.methodLink RJ7 86 ⟨"java/lang/Object", "getClass", "()Ljava/lang/Class;"⟩, Cond.selects "[Ljava/lang/Object;" ⟨"java/lang/Object", "getClass", "()Ljava/lang/Class;"⟩ ⟨"java/lang/Object", "getClass", "()Ljava/lang/Class;"⟩, Cond.instanceMethod ⟨"java/lang/Object", "getClass", "()Ljava/lang/Class;"⟩, Cond.native ⟨"java/lang/Object", "getClass", "()Ljava/lang/Class;"⟩, Cond.methodLink RJ7 300 yJ7_copyOf_6403c, Cond.static yJ7_copyOf_6403c, Cond.code yJ7_copyOf_6403c cJ7_copyOf_6403c 4 (some (.array (.object "java/lang/Object"))), Cond.classLink RJ7 110 "[Ljava/lang/Object;", Cond.classLink RJ7 2 "java/lang/Object", Cond.methodLink RJ7 304 Lib.Math.min.name]
def wsL_law0_r17 : List Cond := [Cond.static Lib.Math.min.name, Cond.code Lib.Math.min.name Lib.Math.min.code 2 (some .int), Cond.methodLink RJ7 150 arraycopyName, Cond.methodLink RL 115 yL_add, Cond.static yL_add, Cond.codeWith yL_add cL_add 4 (some .int) [(0, 9, 12, 19), (0, 9, 15, 13)], Cond.methodLink RL 37 yX4_add, Cond.instanceMethod yX4_add, Cond.selects RX4 yX4_add yX4_add, Cond.code yX4_add cX4_add 3 (some .int), Cond.methodLink RX4 129 yX4_requireHeap, Cond.instanceMethod yX4_requireHeap, Cond.selects RX4 yX4_requireHeap yX4_requireHeap, Cond.code yX4_requireHeap cX4_requireHeap 2 none, Cond.methodLink RX4 132 yX0_addRow, Cond.instanceMethod yX0_addRow, Cond.selects RX0 yX0_addRow yX0_addRow, Cond.code yX0_addRow cX0_addRow 3 none, Cond.methodLink RL 117 yX5_add, Cond.instanceMethod yX5_add, Cond.selects RX5 yX5_add yX5_add, Cond.code yX5_add cX5_add 8 (some .int), Cond.classLink RX5 119 "[I", Cond.methodLink RX5 115 yJx4a65c_get_915e3]
def wsL_law0_r18 : List Cond := [Cond.instanceMethod yJx4a65c_get_915e3, Cond.selects RJx4a65c yJx4a65c_get_915e3 yJx4a65c_get_915e3, Cond.code yJx4a65c_get_915e3 cJx4a65c_get_915e3 2 (some (.object "java/lang/Object")), Cond.methodLink RJx4a65c 118 yJ15_checkIndex_7cf53, Cond.static yJ15_checkIndex_7cf53, Cond.initialized RJ15, Cond.code yJ15_checkIndex_7cf53 cJ15_checkIndex_7cf53 2 (some .int), Cond.methodLink RJ15 105 yJ3_checkIndex_8e157, Cond.static yJ3_checkIndex_8e157, Cond.initialized RJ3, Cond.code yJ3_checkIndex_8e157 cJ3_checkIndex_8e157 3 (some .int), Cond.methodLink RJx4a65c 123 yJx4a65c_elementData_915e3, Cond.instanceMethod yJx4a65c_elementData_915e3, Cond.selects RJx4a65c yJx4a65c_elementData_915e3 yJx4a65c_elementData_915e3, Cond.code yJx4a65c_elementData_915e3 cJx4a65c_elementData_915e3 2 (some (.object "java/lang/Object")), Cond.methodLink RX5 120 yX5_plus, Cond.static yX5_plus, Cond.code yX5_plus cX5_plus 4 (some (.array .int)), Cond.methodLink RL 118 yX4_sweep, Cond.instanceMethod yX4_sweep, Cond.selects RX4 yX4_sweep yX4_sweep, Cond.code yX4_sweep cX4_sweep 2 (some .int), Cond.methodLink RX4 136 yX0_allGrains, Cond.instanceMethod yX0_allGrains]
def wsL_law0_r19 : List Cond := [Cond.selects RX0 yX0_allGrains yX0_allGrains, Cond.code yX0_allGrains cX0_allGrains 3 (some .int), Cond.methodLink RX4 139 yJ7_fill_53178, Cond.methodLink RL 121 yX5_sweep, Cond.instanceMethod yX5_sweep, Cond.selects RX5 yX5_sweep yX5_sweep, Cond.code yX5_sweep cX5_sweep 2 (some .int), Cond.methodLink RL 122 yL_walk, Cond.static yL_walk, Cond.codeWith yL_walk cL_walk 4 (some .int) [(0, 9, 12, 19), (0, 9, 15, 13)], Cond.methodLink RL 40 yX4_walk, Cond.instanceMethod yX4_walk, Cond.selects RX4 yX4_walk yX4_walk, Cond.code yX4_walk cX4_walk 2 (some .int), Cond.methodLink RX4 145 yX3_send, Cond.instanceMethod yX3_send, Cond.selects RX3 yX3_send yX3_send, Cond.code yX3_send cX3_send 4 (some .int), Cond.constant RX3 29 (1000000), Cond.fieldLink RX3 38 "Topplemoor$Rotors" "steps" "I", Cond.methodLink RX3 30 yX3_turn, Cond.instanceMethod yX3_turn, Cond.selects RX3 yX3_turn yX3_turn, Cond.code yX3_turn cX3_turn 3 none]
def wsL_law0_r20 : List Cond := [Cond.fieldLink RX3 42 "Topplemoor$Moor" "degrees" "[I", Cond.methodLink RX3 34 yX3_pointedFrom, Cond.instanceMethod yX3_pointedFrom, Cond.selects RX3 yX3_pointedFrom yX3_pointedFrom, Cond.code yX3_pointedFrom cX3_pointedFrom 2 (some .int), Cond.methodLink RX3 25 yX2_neighbourAt, Cond.instanceMethod yX2_neighbourAt, Cond.selects RX2 yX2_neighbourAt yX2_neighbourAt, Cond.code yX2_neighbourAt cX2_neighbourAt 5 (some .int), Cond.methodLink RL 124 yX5_walk, Cond.instanceMethod yX5_walk, Cond.selects RX5 yX5_walk yX5_walk, Cond.code yX5_walk cX5_walk 4 (some .int), Cond.fieldLink RX5 128 "TopplemoorModel" "walked" "I", Cond.methodLink RX5 124 yX5_pointed, Cond.instanceMethod yX5_pointed, Cond.selects RX5 yX5_pointed yX5_pointed, Cond.code yX5_pointed cX5_pointed 5 (some .int), Cond.methodLink RL 125 yL_pay, Cond.static yL_pay, Cond.codeWith yL_pay cL_pay 5 (some .int) [(0, 10, 13, 19), (0, 10, 17, 21)], Cond.methodLink RL 43 yX4_pay, Cond.instanceMethod yX4_pay, Cond.selects RX4 yX4_pay yX4_pay]
def wsL_law0_r21 : List Cond := [Cond.code yX4_pay cX4_pay 3 (some .int), Cond.fieldLink RX4 149 "Topplemoor$Money" "coins" "[I", Cond.methodLink RL 127 yX5_pay, Cond.instanceMethod yX5_pay, Cond.selects RX5 yX5_pay yX5_pay, Cond.code yX5_pay cX5_pay 3 (some .int), Cond.methodLink RL 128 yL_lend, Cond.static yL_lend, Cond.codeWith yL_lend cL_lend 5 (some .int) [(0, 10, 13, 19)], Cond.methodLink RL 46 yX4_lend, Cond.instanceMethod yX4_lend, Cond.selects RX4 yX4_lend yX4_lend, Cond.code yX4_lend cX4_lend 3 (some .int), Cond.methodLink RX4 152 yX1_give, Cond.instanceMethod yX1_give, Cond.selects RX1 yX1_give yX1_give, Cond.code yX1_give cX1_give 4 none, Cond.fieldLink RX1 31 "Topplemoor$Moor" "degrees" "[I", Cond.fieldLink RX1 36 "Topplemoor$Moor" "edges" "[[I", Cond.methodLink RL 131 yX5_lend, Cond.instanceMethod yX5_lend, Cond.selects RX5 yX5_lend yX5_lend, Cond.code yX5_lend cX5_lend 3 (some .int), Cond.methodLink RX5 131 yX5_give]
def wsL_law0_r22 : List Cond := [Cond.instanceMethod yX5_give, Cond.selects RX5 yX5_give yX5_give, Cond.code yX5_give cX5_give 5 none, Cond.methodLink RL 132 yL_ofSpot, Cond.static yL_ofSpot, Cond.codeWith yL_ofSpot cL_ofSpot 5 (some .int) [(0, 10, 13, 19), (0, 10, 17, 21)], Cond.methodLink RL 50 yX4_ofSpot, Cond.instanceMethod yX4_ofSpot, Cond.selects RX4 yX4_ofSpot yX4_ofSpot, Cond.code yX4_ofSpot cX4_ofSpot 3 (some .int), Cond.methodLink RX4 155 yX4_spotValue, Cond.instanceMethod yX4_spotValue, Cond.selects RX4 yX4_spotValue yX4_spotValue, Cond.code yX4_spotValue cX4_spotValue 3 (some .int), Cond.fieldLink RX4 252 "Topplemoor$Moor" "degrees" "[I", Cond.fieldLink RX4 255 "Topplemoor$Heap" "times" "[I", Cond.fieldLink RX4 258 "Topplemoor$Rotors" "places" "[I", Cond.methodLink RX4 261 yX3_pointedFrom, Cond.methodLink RL 134 yX5_ofSpot, Cond.instanceMethod yX5_ofSpot, Cond.selects RX5 yX5_ofSpot yX5_ofSpot, Cond.code yX5_ofSpot cX5_ofSpot 3 (some .int), Cond.methodLink RX5 139 yX5_toldOfSpot, Cond.instanceMethod yX5_toldOfSpot]
def wsL_law0_r23 : List Cond := [Cond.selects RX5 yX5_toldOfSpot yX5_toldOfSpot, Cond.code yX5_toldOfSpot cX5_toldOfSpot 4 (some .int), Cond.methodLink RX5 135 yX5_one, Cond.static yX5_one, Cond.code yX5_one cX5_one 1 (some .int), Cond.methodLink RL 135 yL_between, Cond.static yL_between, Cond.codeWith yL_between cL_between 5 (some .int) [(0, 10, 13, 19)], Cond.methodLink RL 53 yX4_between, Cond.instanceMethod yX4_between, Cond.selects RX4 yX4_between yX4_between, Cond.code yX4_between cX4_between 3 (some .int), Cond.methodLink RL 137 yX5_between, Cond.instanceMethod yX5_between, Cond.selects RX5 yX5_between yX5_between, Cond.code yX5_between cX5_between 3 (some .int), Cond.methodLink RL 138 yL_coins, Cond.static yL_coins, Cond.codeWith yL_coins cL_coins 4 (some .int) [(0, 9, 12, 19)], Cond.methodLink RL 56 yX4_coins, Cond.instanceMethod yX4_coins, Cond.selects RX4 yX4_coins yX4_coins, Cond.code yX4_coins cX4_coins 2 (some .int), Cond.methodLink RL 140 yX5_coins]
def wsL_law0_r24 : List Cond := [Cond.instanceMethod yX5_coins, Cond.selects RX5 yX5_coins yX5_coins, Cond.code yX5_coins cX5_coins 2 (some .int), Cond.methodLink RL 141 yL_kept, Cond.static yL_kept, Cond.codeWith yL_kept cL_kept 5 (some .int) [(0, 10, 13, 19)], Cond.methodLink RL 59 yX4_kept, Cond.instanceMethod yX4_kept, Cond.selects RX4 yX4_kept yX4_kept, Cond.code yX4_kept cX4_kept 3 (some .int), Cond.methodLink RL 143 yX5_kept, Cond.instanceMethod yX5_kept, Cond.selects RX5 yX5_kept yX5_kept, Cond.code yX5_kept cX5_kept 3 (some .int), Cond.methodLink RL 144 yL_many, Cond.static yL_many, Cond.codeWith yL_many cL_many 4 (some .int) [(0, 9, 12, 21)], Cond.methodLink RL 62 yX4_many, Cond.instanceMethod yX4_many, Cond.selects RX4 yX4_many yX4_many, Cond.code yX4_many cX4_many 2 (some .int), Cond.methodLink RX4 159 yX4_manyValue, Cond.instanceMethod yX4_manyValue, Cond.selects RX4 yX4_manyValue yX4_manyValue]
def wsL_law0_r25 : List Cond := [Cond.code yX4_manyValue cX4_manyValue 2 (some .int), Cond.fieldLink RX4 273 "Topplemoor$Rotors" "steps" "I", Cond.methodLink RX4 264 yX2_allEdges, Cond.instanceMethod yX2_allEdges, Cond.selects RX2 yX2_allEdges yX2_allEdges, Cond.code yX2_allEdges cX2_allEdges 3 (some .int), Cond.methodLink RX4 243 yX0_steepSet, Cond.instanceMethod yX0_steepSet, Cond.selects RX0 yX0_steepSet yX0_steepSet, Cond.code yX0_steepSet cX0_steepSet 3 (some .int), Cond.methodLink RX0 41 yX0_isSteep, Cond.methodLink RX4 267 yX1_allCoins, Cond.instanceMethod yX1_allCoins, Cond.selects RX1 yX1_allCoins yX1_allCoins, Cond.code yX1_allCoins cX1_allCoins 3 (some .int), Cond.methodLink RX4 270 yX1_debtors, Cond.instanceMethod yX1_debtors, Cond.selects RX1 yX1_debtors yX1_debtors, Cond.code yX1_debtors cX1_debtors 3 (some .int), Cond.methodLink RX4 276 yX3_areTree, Cond.instanceMethod yX3_areTree, Cond.selects RX3 yX3_areTree yX3_areTree, Cond.code yX3_areTree cX3_areTree 2 (some .boolean), Cond.fieldLink RX3 45 "Topplemoor$Moor" "spots" "I"]
def wsL_law0_r26 : List Cond := [Cond.methodLink RX3 48 yX3_leadsToSink, Cond.instanceMethod yX3_leadsToSink, Cond.selects RX3 yX3_leadsToSink yX3_leadsToSink, Cond.code yX3_leadsToSink cX3_leadsToSink 4 (some .boolean), Cond.methodLink RL 146 yX5_many, Cond.instanceMethod yX5_many, Cond.selects RX5 yX5_many yX5_many, Cond.code yX5_many cX5_many 2 (some .int), Cond.methodLink RX5 145 yX5_told, Cond.instanceMethod yX5_told, Cond.selects RX5 yX5_told yX5_told, Cond.code yX5_told cX5_told 6 (some .int), Cond.methodLink RX5 142 yX5_isTree, Cond.instanceMethod yX5_isTree, Cond.selects RX5 yX5_isTree yX5_isTree, Cond.code yX5_isTree cX5_isTree 4 (some .boolean), Cond.methodLink RL 147 yX4_count, Cond.instanceMethod yX4_count, Cond.selects RX4 yX4_count yX4_count, Cond.code yX4_count cX4_count 1 (some .long), Cond.methodLink RX4 162 yX2_trees, Cond.instanceMethod yX2_trees, Cond.selects RX2 yX2_trees yX2_trees, Cond.code yX2_trees cX2_trees 4 (some .long)]
def wsL_law0_r27 : List Cond := [Cond.methodLink RX2 43 yX2_fillTable, Cond.instanceMethod yX2_fillTable, Cond.selects RX2 yX2_fillTable yX2_fillTable, Cond.code yX2_fillTable cX2_fillTable 3 none, Cond.methodLink RX2 46 yX2_eliminate, Cond.instanceMethod yX2_eliminate, Cond.selects RX2 yX2_eliminate yX2_eliminate, Cond.code yX2_eliminate cX2_eliminate 10 none, Cond.methodLink RL 151 yX5_count, Cond.instanceMethod yX5_count, Cond.selects RX5 yX5_count yX5_count, Cond.code yX5_count cX5_count 1 (some .long), Cond.methodLink RX5 152 yX5_counted, Cond.instanceMethod yX5_counted, Cond.selects RX5 yX5_counted yX5_counted, Cond.code yX5_counted cX5_counted 4 (some .long), Cond.methodLink RX5 148 yX5_determinant, Cond.static yX5_determinant, Cond.code yX5_determinant cX5_determinant 7 (some .long), Cond.methodLink RL 152 yX4_density, Cond.instanceMethod yX4_density, Cond.selects RX4 yX4_density yX4_density, Cond.code yX4_density cX4_density 5 (some .double), Cond.constantDouble RX4 166 (4616189618054758400)]
def wsL_law0_r28 : List Cond := [Cond.methodLink RL 156 yX5_density, Cond.instanceMethod yX5_density, Cond.selects RX5 yX5_density yX5_density, Cond.code yX5_density cX5_density 1 (some .double), Cond.constantDouble RX5 156 (4616189618054758400), Cond.methodLink RX5 158 yJ9_rint_294c1, Cond.static yJ9_rint_294c1, Cond.initialized RJ9, Cond.code yJ9_rint_294c1 cJ9_rint_294c1 2 (some .double), Cond.methodLink RJ9 59 yJxfc994_rint_294c1, Cond.static yJxfc994_rint_294c1, Cond.initialized RJxfc994, Cond.code yJxfc994_rint_294c1 cJxfc994_rint_294c1 6 (some .double), Cond.constantDouble RJxfc994 93 (4841369599423283200), Cond.methodLink RJxfc994 95 yJ9_copySign_eb370, Cond.static yJ9_copySign_eb370, Cond.code yJ9_copySign_eb370 cJ9_copySign_eb370 4 (some .double), Cond.methodLink RJ9 79 ⟨"java/lang/Double", "doubleToRawLongBits", "(D)J"⟩, Cond.native ⟨"java/lang/Double", "doubleToRawLongBits", "(D)J"⟩, Cond.static ⟨"java/lang/Double", "doubleToRawLongBits", "(D)J"⟩, Cond.initialized "java/lang/Double", Cond.constantLong RJ9 128 (-9223372036854775808), Cond.constantLong RJ9 135 (9223372036854775807), Cond.methodLink RJ9 166 ⟨"java/lang/Double", "longBitsToDouble", "(J)D"⟩]
def wsL_law0_r29 : List Cond := [Cond.native ⟨"java/lang/Double", "longBitsToDouble", "(J)D"⟩, Cond.static ⟨"java/lang/Double", "longBitsToDouble", "(J)D"⟩, Cond.methodLink RJxfc994 98 yJ9_abs_294c1, Cond.static yJ9_abs_294c1, Cond.code yJ9_abs_294c1 cJ9_abs_294c1 2 (some .double), Cond.methodLink RL 157 yL_would, Cond.static yL_would, Cond.codeWith yL_would cL_would 6 (some .int) [(0, 12, 15, 19), (0, 12, 19, 21), (0, 12, 23, 13)], Cond.methodLink RL 65 yX4_would, Cond.instanceMethod yX4_would, Cond.selects RX4 yX4_would yX4_would, Cond.code yX4_would cX4_would 4 (some .int), Cond.methodLink RX4 168 yX4_rollTrialWith, Cond.instanceMethod yX4_rollTrialWith, Cond.selects RX4 yX4_rollTrialWith yX4_rollTrialWith, Cond.code yX4_rollTrialWith cX4_rollTrialWith 3 none, Cond.methodLink RX4 190 yX0_copyRow, Cond.instanceMethod yX0_copyRow, Cond.selects RX0 yX0_copyRow yX0_copyRow, Cond.code yX0_copyRow cX0_copyRow 2 none, Cond.methodLink RX0 22 arraycopyName, Cond.methodLink RX4 177 yX0_toppledSet, Cond.instanceMethod yX0_toppledSet, Cond.selects RX0 yX0_toppledSet yX0_toppledSet]
def wsL_law0_r30 : List Cond := [Cond.code yX0_toppledSet cX0_toppledSet 3 (some .int), Cond.methodLink RL 159 yX5_would, Cond.instanceMethod yX5_would, Cond.selects RX5 yX5_would yX5_would, Cond.code yX5_would cX5_would 4 (some .int), Cond.methodLink RX5 164 yX5_wouldDo, Cond.instanceMethod yX5_wouldDo, Cond.selects RX5 yX5_wouldDo yX5_wouldDo, Cond.code yX5_wouldDo cX5_wouldDo 8 (some .int), Cond.methodLink RL 160 yL_isLasting, Cond.static yL_isLasting, Cond.codeWith yL_isLasting cL_isLasting 3 (some .int) [(0, 15, 18, 13)], Cond.methodLink RL 68 yX4_isLasting, Cond.instanceMethod yX4_isLasting, Cond.selects RX4 yX4_isLasting yX4_isLasting, Cond.code yX4_isLasting cX4_isLasting 1 (some .boolean), Cond.methodLink RX4 180 yX4_liesLasting, Cond.instanceMethod yX4_liesLasting, Cond.selects RX4 yX4_liesLasting yX4_liesLasting, Cond.code yX4_liesLasting cX4_liesLasting 1 (some .boolean), Cond.methodLink RX4 246 yX0_addFromSink, Cond.instanceMethod yX0_addFromSink, Cond.selects RX0 yX0_addFromSink yX0_addFromSink, Cond.code yX0_addFromSink cX0_addFromSink 2 none]
def wsL_law0_r31 : List Cond := [Cond.methodLink RX4 249 yX0_hasEachToppledOnce, Cond.instanceMethod yX0_hasEachToppledOnce, Cond.selects RX0 yX0_hasEachToppledOnce yX0_hasEachToppledOnce, Cond.code yX0_hasEachToppledOnce cX0_hasEachToppledOnce 2 (some .boolean), Cond.methodLink RL 162 yX5_isLasting, Cond.instanceMethod yX5_isLasting, Cond.selects RX5 yX5_isLasting yX5_isLasting, Cond.code yX5_isLasting cX5_isLasting 1 (some .boolean), Cond.methodLink RX5 168 yX5_isKeptOn, Cond.instanceMethod yX5_isKeptOn, Cond.selects RX5 yX5_isKeptOn yX5_isKeptOn, Cond.code yX5_isKeptOn cX5_isKeptOn 4 (some .boolean), Cond.methodLink RL 163 yL_neutral, Cond.static yL_neutral, Cond.codeWith yL_neutral cL_neutral 4 (some .int) [(0, 9, 12, 19), (0, 9, 15, 13)], Cond.methodLink RL 72 yX4_neutral, Cond.instanceMethod yX4_neutral, Cond.selects RX4 yX4_neutral yX4_neutral, Cond.code yX4_neutral cX4_neutral 2 (some .int), Cond.methodLink RX4 184 yX0_becomeNeutral, Cond.instanceMethod yX0_becomeNeutral, Cond.selects RX0 yX0_becomeNeutral yX0_becomeNeutral, Cond.code yX0_becomeNeutral cX0_becomeNeutral 2 none, Cond.methodLink RX0 60 yX0_roll]
def wsL_law0_r32 : List Cond := [Cond.methodLink RL 165 yX5_neutral_, Cond.instanceMethod yX5_neutral_, Cond.selects RX5 yX5_neutral_ yX5_neutral_, Cond.code yX5_neutral_ cX5_neutral_ 2 (some .int), Cond.methodLink RX5 171 yX5_neutral, Cond.instanceMethod yX5_neutral, Cond.selects RX5 yX5_neutral yX5_neutral, Cond.code yX5_neutral cX5_neutral 4 (some (.array .int)), Cond.methodLink RL 166 yX4_fire, Cond.instanceMethod yX4_fire, Cond.selects RX4 yX4_fire yX4_fire, Cond.code yX4_fire cX4_fire 1 (some .int), Cond.methodLink RX4 187 yX0_burningOrder, Cond.instanceMethod yX0_burningOrder, Cond.selects RX0 yX0_burningOrder yX0_burningOrder, Cond.code yX0_burningOrder cX0_burningOrder 5 (some .int), Cond.methodLink RX0 63 yX0_nextToBurn, Cond.instanceMethod yX0_nextToBurn, Cond.selects RX0 yX0_nextToBurn yX0_nextToBurn, Cond.code yX0_nextToBurn cX0_nextToBurn 4 (some .int), Cond.methodLink RX0 67 yX2_edgesInto, Cond.methodLink RL 169 yX5_fire, Cond.instanceMethod yX5_fire, Cond.selects RX5 yX5_fire yX5_fire]
def wsL_law0_r33 : List Cond := [Cond.code yX5_fire cX5_fire 1 (some .int), Cond.methodLink RX5 175 yX5_burnt, Cond.instanceMethod yX5_burnt, Cond.selects RX5 yX5_burnt yX5_burnt, Cond.code yX5_burnt cX5_burnt 7 (some .int), Cond.methodLink RL 170 yL_order, Cond.static yL_order, Cond.codeWith yL_order cL_order 3 (some .int) [(0, 8, 11, 13)], Cond.methodLink RL 75 yX4_order, Cond.instanceMethod yX4_order, Cond.selects RX4 yX4_order yX4_order, Cond.code yX4_order cX4_order 2 (some .int), Cond.methodLink RX4 196 yX0_isLike, Cond.instanceMethod yX0_isLike, Cond.selects RX0 yX0_isLike yX0_isLike, Cond.code yX0_isLike cX0_isLike 3 (some .boolean), Cond.methodLink RL 172 yX5_order, Cond.instanceMethod yX5_order, Cond.selects RX5 yX5_order yX5_order, Cond.code yX5_order cX5_order 4 (some .int), Cond.methodLink RX5 178 yX5_isSame, Cond.static yX5_isSame, Cond.code yX5_isSame cX5_isSame 3 (some .boolean), Cond.methodLink RL 173 yL_canPay]
def wsL_law0_r34 : List Cond := [Cond.static yL_canPay, Cond.codeWith yL_canPay cL_canPay 3 (some .int) [(0, 15, 18, 13)], Cond.methodLink RL 78 yX4_canPay, Cond.instanceMethod yX4_canPay, Cond.selects RX4 yX4_canPay yX4_canPay, Cond.code yX4_canPay cX4_canPay 1 (some .boolean), Cond.methodLink RX4 200 yX1_isPayable, Cond.instanceMethod yX1_isPayable, Cond.selects RX1 yX1_isPayable yX1_isPayable, Cond.code yX1_isPayable cX1_isPayable 1 (some .boolean), Cond.methodLink RX1 40 yX1_findLasting, Cond.instanceMethod yX1_findLasting, Cond.selects RX1 yX1_findLasting yX1_findLasting, Cond.code yX1_findLasting cX1_findLasting 3 none, Cond.fieldLink RX1 51 "Topplemoor$Moor" "spots" "I", Cond.fieldLink RX1 55 "Topplemoor$Heap" "grains" "[I", Cond.constant RX1 68 (1000000), Cond.methodLink RX1 65 yX1_readOtherWay, Cond.instanceMethod yX1_readOtherWay, Cond.selects RX1 yX1_readOtherWay yX1_readOtherWay, Cond.code yX1_readOtherWay cX1_readOtherWay 2 none, Cond.methodLink RX1 62 yX0_roll, Cond.methodLink RX1 69 yX0_addFromSink, Cond.methodLink RX1 72 yX0_hasEachToppledOnce]
def wsL_law0_r35 : List Cond := [Cond.methodLink RX1 43 yX1_allCoins, Cond.methodLink RX1 47 yX1_leastNeeded, Cond.instanceMethod yX1_leastNeeded, Cond.selects RX1 yX1_leastNeeded yX1_leastNeeded, Cond.code yX1_leastNeeded cX1_leastNeeded 4 (some .int), Cond.methodLink RL 175 yX5_canPay, Cond.instanceMethod yX5_canPay, Cond.selects RX5 yX5_canPay yX5_canPay, Cond.code yX5_canPay cX5_canPay 1 (some .boolean), Cond.methodLink RX5 182 yX5_isPaid, Cond.instanceMethod yX5_isPaid, Cond.selects RX5 yX5_isPaid yX5_isPaid, Cond.code yX5_isPaid cX5_isPaid 9 (some .boolean), Cond.methodLink RL 176 yL_weakest, Cond.static yL_weakest, Cond.codeWith yL_weakest cL_weakest 3 (some .int) [(0, 8, 11, 13)], Cond.methodLink RL 81 yX4_weakest, Cond.instanceMethod yX4_weakest, Cond.selects RX4 yX4_weakest yX4_weakest, Cond.code yX4_weakest cX4_weakest 1 (some .int), Cond.methodLink RX4 203 yX1_weakestNode, Cond.instanceMethod yX1_weakestNode, Cond.selects RX1 yX1_weakestNode yX1_weakestNode, Cond.code yX1_weakestNode cX1_weakestNode 3 (some .int)]
def wsL_law0_r36 : List Cond := [Cond.methodLink RX1 58 yX0_copyRow, Cond.methodLink RL 178 yX5_weakest, Cond.instanceMethod yX5_weakest, Cond.selects RX5 yX5_weakest yX5_weakest, Cond.code yX5_weakest cX5_weakest 1 (some .int), Cond.methodLink RX5 186 yX5_weak, Cond.instanceMethod yX5_weak, Cond.selects RX5 yX5_weak yX5_weak, Cond.code yX5_weak cX5_weak 3 (some .int), Cond.methodLink RL 179 yX4_digest, Cond.instanceMethod yX4_digest, Cond.selects RX4 yX4_digest yX4_digest, Cond.code yX4_digest cX4_digest 5 (some .long), Cond.constantLong RX4 206 (58310), Cond.constantLong RX4 208 (31), Cond.methodLink RX4 210 yX4_digestNode, Cond.instanceMethod yX4_digestNode, Cond.selects RX4 yX4_digestNode yX4_digestNode, Cond.code yX4_digestNode cX4_digestNode 7 (some .long), Cond.methodLink RX4 214 yX4_digestKept, Cond.instanceMethod yX4_digestKept, Cond.selects RX4 yX4_digestKept yX4_digestKept, Cond.code yX4_digestKept cX4_digestKept 7 (some .long), Cond.methodLink RX4 221 yX4_digestFast]
def wsL_law0_r37 : List Cond := [Cond.instanceMethod yX4_digestFast, Cond.selects RX4 yX4_digestFast yX4_digestFast, Cond.code yX4_digestFast cX4_digestFast 6 (some .long), Cond.methodLink RL 182 yX5_digest, Cond.instanceMethod yX5_digest, Cond.selects RX5 yX5_digest yX5_digest, Cond.code yX5_digest cX5_digest 6 (some .long), Cond.constantLong RX5 191 (58310), Cond.methodLink RX5 193 yX5_add_, Cond.static yX5_add_, Cond.code yX5_add_ cX5_add_ 4 (some .long), Cond.constantLong RX5 189 (31), Cond.methodLink RX5 196 yJx4a65c_iterator_32c93, Cond.instanceMethod yJx4a65c_iterator_32c93, Cond.selects RJx4a65c yJx4a65c_iterator_32c93 yJx4a65c_iterator_32c93, Cond.code yJx4a65c_iterator_32c93 cJx4a65c_iterator_32c93 1 (some (.object "java/util/Iterator")), Cond.classLink RJx4a65c 267 RJx35411, Cond.instantiable RJx35411 4, Cond.initialized RJx35411, Cond.methodLink RJx4a65c 269 yJx35411_init_45d68, Cond.instanceMethod yJx35411_init_45d68, Cond.code yJx35411_init_45d68 cJx35411_init_45d68 2 none, Cond.fieldLink RJx35411 1 "java/util/ArrayList$Itr" "this$0" "Ljava/util/ArrayList;", Cond.methodLink RJx35411 7 objectInit]
def wsL_law0_r38 : List Cond := [Cond.fieldLink RJx35411 13 "java/util/ArrayList$Itr" "lastRet" "I", Cond.fieldLink RJx35411 17 "java/util/ArrayList" "modCount" "I", Cond.fieldLink RJx35411 22 "java/util/ArrayList$Itr" "expectedModCount" "I", Cond.methodLink RX5 200 ⟨"java/util/Iterator", "hasNext", "()Z"⟩, Cond.selects RJx35411 ⟨"java/util/Iterator", "hasNext", "()Z"⟩ yJx35411_hasNext_aae02, Cond.instanceMethod yJx35411_hasNext_aae02, Cond.code yJx35411_hasNext_aae02 cJx35411_hasNext_aae02 1 (some .boolean), Cond.fieldLink RJx35411 25 "java/util/ArrayList$Itr" "cursor" "I", Cond.methodLink RX5 205 ⟨"java/util/Iterator", "next", "()Ljava/lang/Object;"⟩, Cond.selects RJx35411 ⟨"java/util/Iterator", "next", "()Ljava/lang/Object;"⟩ yJx35411_next_0502b, Cond.instanceMethod yJx35411_next_0502b, Cond.code yJx35411_next_0502b cJx35411_next_0502b 3 (some (.object "java/lang/Object")), Cond.fieldLink RJx35411 37 "java/util/ArrayList" "elementData" "[Ljava/lang/Object;", Cond.methodLink RJx35411 31 yJx35411_checkForComodification_da8c8, Cond.instanceMethod yJx35411_checkForComodification_da8c8, Cond.selects RJx35411 yJx35411_checkForComodification_da8c8 yJx35411_checkForComodification_da8c8, Cond.code yJx35411_checkForComodification_da8c8 cJx35411_checkForComodification_da8c8 1 none]
def wsL_law0 : List Cond := (wsL_law0_r1 ++ (wsL_law0_r2 ++ (wsL_law0_r3 ++ (wsL_law0_r4 ++ (wsL_law0_r5 ++ (wsL_law0_r6 ++ (wsL_law0_r7 ++ (wsL_law0_r8 ++ (wsL_law0_r9 ++ (wsL_law0_r10 ++ (wsL_law0_r11 ++ (wsL_law0_r12 ++ (wsL_law0_r13 ++ (wsL_law0_r14 ++ (wsL_law0_r15 ++ (wsL_law0_r16 ++ (wsL_law0_r17 ++ (wsL_law0_r18 ++ (wsL_law0_r19 ++ (wsL_law0_r20 ++ (wsL_law0_r21 ++ (wsL_law0_r22 ++ (wsL_law0_r23 ++ (wsL_law0_r24 ++ (wsL_law0_r25 ++ (wsL_law0_r26 ++ (wsL_law0_r27 ++ (wsL_law0_r28 ++ (wsL_law0_r29 ++ (wsL_law0_r30 ++ (wsL_law0_r31 ++ (wsL_law0_r32 ++ (wsL_law0_r33 ++ (wsL_law0_r34 ++ (wsL_law0_r35 ++ (wsL_law0_r36 ++ (wsL_law0_r37 ++ wsL_law0_r38))))))))))))))))))))))))))))))))))))) ++ wsX40 ++ wsX50 ++ wsX20 ++ wsX00 ++ wsX30 ++ wsX10 ++ wsJx4a65c0 ++ wsJx354110 ++ ([] : List Cond)
def wsL_law : List Cond := wsL_law0 ++ (vx_atS RX4 61 "java/lang/IllegalStateException" ["java/lang/RuntimeException", "java/lang/Exception"]).filter goodWord ++ (vx_atS RX4 72 "java/lang/IllegalArgumentException" ["java/lang/RuntimeException", "java/lang/Exception"]).filter goodWord ++ (vx_atS RX4 231 "java/lang/IndexOutOfBoundsException" ["java/lang/RuntimeException", "java/lang/Exception"]).filter goodWord
abbrev vwCl : List vw_C := [(RJx35411, TJx35411, 4), (RJx4a65c, TJx4a65c, 3), (RX0, TX0, 3), (RX1, TX1, 4), (RX2, TX2, 4), (RX3, TX3, 3), (RX4, TX4, 11), (RX5, TX5, 11)]
end
section
theorem dX0_init_0 : decode cX0_init 0 = .ok (.aload_n 0, 1) := by decide +kernel
theorem dX0_init_1 : decode cX0_init 1 = .ok (.invokespecial 3, 3) := by decide +kernel
theorem dX0_init_4 : decode cX0_init 4 = .ok (.aload_n 0, 1) := by decide +kernel
theorem dX0_init_5 : decode cX0_init 5 = .ok (.bipush 6, 2) := by decide +kernel
theorem dX0_init_7 : decode cX0_init 7 = .ok (.newarray .int, 2) := by decide +kernel
theorem dX0_init_9 : decode cX0_init 9 = .ok (.putfield 9, 3) := by decide +kernel
theorem dX0_init_12 : decode cX0_init 12 = .ok (.aload_n 0, 1) := by decide +kernel
theorem dX0_init_13 : decode cX0_init 13 = .ok (.bipush 6, 2) := by decide +kernel
theorem dX0_init_15 : decode cX0_init 15 = .ok (.newarray .int, 2) := by decide +kernel
theorem dX0_init_17 : decode cX0_init 17 = .ok (.putfield 15, 3) := by decide +kernel
theorem dX0_init_20 : decode cX0_init 20 = .ok (.aload_n 0, 1) := by decide +kernel
theorem dX0_init_21 : decode cX0_init 21 = .ok (.aload_n 1, 1) := by decide +kernel
theorem dX0_init_22 : decode cX0_init 22 = .ok (.putfield 18, 3) := by decide +kernel
theorem dX0_init_25 : decode cX0_init 25 = .ok (.return_, 1) := by decide +kernel
theorem dX0_copyRow_0 : decode cX0_copyRow 0 = .ok (.aload_n 1, 1) := by decide +kernel
theorem dX0_copyRow_1 : decode cX0_copyRow 1 = .ok (.iconst 0, 1) := by decide +kernel
theorem dX0_copyRow_2 : decode cX0_copyRow 2 = .ok (.aload_n 0, 1) := by decide +kernel
theorem dX0_copyRow_3 : decode cX0_copyRow 3 = .ok (.getfield 9, 3) := by decide +kernel
theorem dX0_copyRow_6 : decode cX0_copyRow 6 = .ok (.iconst 0, 1) := by decide +kernel
theorem dX0_copyRow_7 : decode cX0_copyRow 7 = .ok (.bipush 6, 2) := by decide +kernel
theorem dX0_copyRow_9 : decode cX0_copyRow 9 = .ok (.invokestatic 22, 3) := by decide +kernel
theorem dX0_copyRow_12 : decode cX0_copyRow 12 = .ok (.return_, 1) := by decide +kernel
theorem dX0_addRow_0 : decode cX0_addRow 0 = .ok (.iconst 0, 1) := by decide +kernel
theorem dX0_addRow_1 : decode cX0_addRow 1 = .ok (.istore_n 2, 1) := by decide +kernel
theorem dX0_addRow_2 : decode cX0_addRow 2 = .ok (.iload_n 2, 1) := by decide +kernel
theorem dX0_addRow_3 : decode cX0_addRow 3 = .ok (.aload_n 0, 1) := by decide +kernel
theorem dX0_addRow_4 : decode cX0_addRow 4 = .ok (.getfield 18, 3) := by decide +kernel
theorem dX0_addRow_7 : decode cX0_addRow 7 = .ok (.getfield 28, 3) := by decide +kernel
theorem dX0_addRow_10 : decode cX0_addRow 10 = .ok (.if_icmp .ge 21, 3) := by decide +kernel
theorem dX0_addRow_13 : decode cX0_addRow 13 = .ok (.aload_n 0, 1) := by decide +kernel
theorem dX0_addRow_14 : decode cX0_addRow 14 = .ok (.getfield 9, 3) := by decide +kernel
theorem dX0_addRow_17 : decode cX0_addRow 17 = .ok (.iload_n 2, 1) := by decide +kernel
theorem dX0_addRow_18 : decode cX0_addRow 18 = .ok (.dup2, 1) := by decide +kernel
theorem dX0_addRow_19 : decode cX0_addRow 19 = .ok (.iaload, 1) := by decide +kernel
theorem dX0_addRow_20 : decode cX0_addRow 20 = .ok (.aload_n 1, 1) := by decide +kernel
theorem dX0_addRow_21 : decode cX0_addRow 21 = .ok (.iload_n 2, 1) := by decide +kernel
theorem dX0_addRow_22 : decode cX0_addRow 22 = .ok (.iaload, 1) := by decide +kernel
theorem dX0_addRow_23 : decode cX0_addRow 23 = .ok (.iadd, 1) := by decide +kernel
theorem dX0_addRow_24 : decode cX0_addRow 24 = .ok (.iastore, 1) := by decide +kernel
theorem dX0_addRow_25 : decode cX0_addRow 25 = .ok (.iinc 2 1, 3) := by decide +kernel
theorem dX0_addRow_28 : decode cX0_addRow 28 = .ok (.goto (-26), 3) := by decide +kernel
theorem dX0_addRow_31 : decode cX0_addRow 31 = .ok (.return_, 1) := by decide +kernel
theorem dX0_addFromSink_0 : decode cX0_addFromSink 0 = .ok (.iconst 0, 1) := by decide +kernel
theorem dX0_addFromSink_1 : decode cX0_addFromSink 1 = .ok (.istore_n 1, 1) := by decide +kernel
theorem dX0_addFromSink_2 : decode cX0_addFromSink 2 = .ok (.iload_n 1, 1) := by decide +kernel
theorem dX0_addFromSink_3 : decode cX0_addFromSink 3 = .ok (.aload_n 0, 1) := by decide +kernel
theorem dX0_addFromSink_4 : decode cX0_addFromSink 4 = .ok (.getfield 18, 3) := by decide +kernel
theorem dX0_addFromSink_7 : decode cX0_addFromSink 7 = .ok (.getfield 28, 3) := by decide +kernel
theorem dX0_addFromSink_10 : decode cX0_addFromSink 10 = .ok (.if_icmp .ge 30, 3) := by decide +kernel
theorem dX0_addFromSink_13 : decode cX0_addFromSink 13 = .ok (.aload_n 0, 1) := by decide +kernel
theorem dX0_addFromSink_14 : decode cX0_addFromSink 14 = .ok (.getfield 9, 3) := by decide +kernel
theorem dX0_addFromSink_17 : decode cX0_addFromSink 17 = .ok (.iload_n 1, 1) := by decide +kernel
theorem dX0_addFromSink_18 : decode cX0_addFromSink 18 = .ok (.dup2, 1) := by decide +kernel
theorem dX0_addFromSink_19 : decode cX0_addFromSink 19 = .ok (.iaload, 1) := by decide +kernel
theorem dX0_addFromSink_20 : decode cX0_addFromSink 20 = .ok (.aload_n 0, 1) := by decide +kernel
theorem dX0_addFromSink_21 : decode cX0_addFromSink 21 = .ok (.getfield 18, 3) := by decide +kernel
theorem dX0_addFromSink_24 : decode cX0_addFromSink 24 = .ok (.getfield 34, 3) := by decide +kernel
theorem dX0_addFromSink_27 : decode cX0_addFromSink 27 = .ok (.iload_n 1, 1) := by decide +kernel
theorem dX0_addFromSink_28 : decode cX0_addFromSink 28 = .ok (.aaload, 1) := by decide +kernel
theorem dX0_addFromSink_29 : decode cX0_addFromSink 29 = .ok (.bipush 6, 2) := by decide +kernel
theorem dX0_addFromSink_31 : decode cX0_addFromSink 31 = .ok (.iaload, 1) := by decide +kernel
theorem dX0_addFromSink_32 : decode cX0_addFromSink 32 = .ok (.iadd, 1) := by decide +kernel
theorem dX0_addFromSink_33 : decode cX0_addFromSink 33 = .ok (.iastore, 1) := by decide +kernel
theorem dX0_addFromSink_34 : decode cX0_addFromSink 34 = .ok (.iinc 1 1, 3) := by decide +kernel
theorem dX0_addFromSink_37 : decode cX0_addFromSink 37 = .ok (.goto (-35), 3) := by decide +kernel
theorem dX0_addFromSink_40 : decode cX0_addFromSink 40 = .ok (.return_, 1) := by decide +kernel
theorem dX0_isLike_0 : decode cX0_isLike 0 = .ok (.iconst 0, 1) := by decide +kernel
theorem dX0_isLike_1 : decode cX0_isLike 1 = .ok (.istore_n 2, 1) := by decide +kernel
theorem dX0_isLike_2 : decode cX0_isLike 2 = .ok (.iload_n 2, 1) := by decide +kernel
theorem dX0_isLike_3 : decode cX0_isLike 3 = .ok (.aload_n 0, 1) := by decide +kernel
theorem dX0_isLike_4 : decode cX0_isLike 4 = .ok (.getfield 18, 3) := by decide +kernel
theorem dX0_isLike_7 : decode cX0_isLike 7 = .ok (.getfield 28, 3) := by decide +kernel
theorem dX0_isLike_10 : decode cX0_isLike 10 = .ok (.if_icmp .ge 23, 3) := by decide +kernel
theorem dX0_isLike_13 : decode cX0_isLike 13 = .ok (.aload_n 0, 1) := by decide +kernel
theorem dX0_isLike_14 : decode cX0_isLike 14 = .ok (.getfield 9, 3) := by decide +kernel
theorem dX0_isLike_17 : decode cX0_isLike 17 = .ok (.iload_n 2, 1) := by decide +kernel
theorem dX0_isLike_18 : decode cX0_isLike 18 = .ok (.iaload, 1) := by decide +kernel
theorem dX0_isLike_19 : decode cX0_isLike 19 = .ok (.aload_n 1, 1) := by decide +kernel
theorem dX0_isLike_20 : decode cX0_isLike 20 = .ok (.iload_n 2, 1) := by decide +kernel
theorem dX0_isLike_21 : decode cX0_isLike 21 = .ok (.iaload, 1) := by decide +kernel
theorem dX0_isLike_22 : decode cX0_isLike 22 = .ok (.if_icmp .eq 5, 3) := by decide +kernel
theorem dX0_isLike_25 : decode cX0_isLike 25 = .ok (.iconst 0, 1) := by decide +kernel
theorem dX0_isLike_26 : decode cX0_isLike 26 = .ok (.ireturn, 1) := by decide +kernel
theorem dX0_isLike_27 : decode cX0_isLike 27 = .ok (.iinc 2 1, 3) := by decide +kernel
theorem dX0_isLike_30 : decode cX0_isLike 30 = .ok (.goto (-28), 3) := by decide +kernel
theorem dX0_isLike_33 : decode cX0_isLike 33 = .ok (.iconst 1, 1) := by decide +kernel
theorem dX0_isLike_34 : decode cX0_isLike 34 = .ok (.ireturn, 1) := by decide +kernel
theorem dX0_allGrains_0 : decode cX0_allGrains 0 = .ok (.iconst 0, 1) := by decide +kernel
theorem dX0_allGrains_1 : decode cX0_allGrains 1 = .ok (.istore_n 1, 1) := by decide +kernel
theorem dX0_allGrains_2 : decode cX0_allGrains 2 = .ok (.iconst 0, 1) := by decide +kernel
theorem dX0_allGrains_3 : decode cX0_allGrains 3 = .ok (.istore_n 2, 1) := by decide +kernel
theorem dX0_allGrains_4 : decode cX0_allGrains 4 = .ok (.iload_n 2, 1) := by decide +kernel
theorem dX0_allGrains_5 : decode cX0_allGrains 5 = .ok (.aload_n 0, 1) := by decide +kernel
theorem dX0_allGrains_6 : decode cX0_allGrains 6 = .ok (.getfield 18, 3) := by decide +kernel
theorem dX0_allGrains_9 : decode cX0_allGrains 9 = .ok (.getfield 28, 3) := by decide +kernel
theorem dX0_allGrains_12 : decode cX0_allGrains 12 = .ok (.if_icmp .ge 18, 3) := by decide +kernel
theorem dX0_allGrains_15 : decode cX0_allGrains 15 = .ok (.iload_n 1, 1) := by decide +kernel
theorem dX0_allGrains_16 : decode cX0_allGrains 16 = .ok (.aload_n 0, 1) := by decide +kernel
theorem dX0_allGrains_17 : decode cX0_allGrains 17 = .ok (.getfield 9, 3) := by decide +kernel
theorem dX0_allGrains_20 : decode cX0_allGrains 20 = .ok (.iload_n 2, 1) := by decide +kernel
theorem dX0_allGrains_21 : decode cX0_allGrains 21 = .ok (.iaload, 1) := by decide +kernel
theorem dX0_allGrains_22 : decode cX0_allGrains 22 = .ok (.iadd, 1) := by decide +kernel
theorem dX0_allGrains_23 : decode cX0_allGrains 23 = .ok (.istore_n 1, 1) := by decide +kernel
theorem dX0_allGrains_24 : decode cX0_allGrains 24 = .ok (.iinc 2 1, 3) := by decide +kernel
theorem dX0_allGrains_27 : decode cX0_allGrains 27 = .ok (.goto (-23), 3) := by decide +kernel
theorem dX0_allGrains_30 : decode cX0_allGrains 30 = .ok (.iload_n 1, 1) := by decide +kernel
theorem dX0_allGrains_31 : decode cX0_allGrains 31 = .ok (.ireturn, 1) := by decide +kernel
theorem dX0_isSteep_0 : decode cX0_isSteep 0 = .ok (.aload_n 0, 1) := by decide +kernel
theorem dX0_isSteep_1 : decode cX0_isSteep 1 = .ok (.getfield 18, 3) := by decide +kernel
theorem dX0_isSteep_4 : decode cX0_isSteep 4 = .ok (.getfield 38, 3) := by decide +kernel
theorem dX0_isSteep_7 : decode cX0_isSteep 7 = .ok (.iload_n 1, 1) := by decide +kernel
theorem dX0_isSteep_8 : decode cX0_isSteep 8 = .ok (.iaload, 1) := by decide +kernel
theorem dX0_isSteep_9 : decode cX0_isSteep 9 = .ok (.ifCond .le 25, 3) := by decide +kernel
theorem dX0_isSteep_12 : decode cX0_isSteep 12 = .ok (.aload_n 0, 1) := by decide +kernel
theorem dX0_isSteep_13 : decode cX0_isSteep 13 = .ok (.getfield 9, 3) := by decide +kernel
theorem dX0_isSteep_16 : decode cX0_isSteep 16 = .ok (.iload_n 1, 1) := by decide +kernel
theorem dX0_isSteep_17 : decode cX0_isSteep 17 = .ok (.iaload, 1) := by decide +kernel
theorem dX0_isSteep_18 : decode cX0_isSteep 18 = .ok (.aload_n 0, 1) := by decide +kernel
theorem dX0_isSteep_19 : decode cX0_isSteep 19 = .ok (.getfield 18, 3) := by decide +kernel
theorem dX0_isSteep_22 : decode cX0_isSteep 22 = .ok (.getfield 38, 3) := by decide +kernel
theorem dX0_isSteep_25 : decode cX0_isSteep 25 = .ok (.iload_n 1, 1) := by decide +kernel
theorem dX0_isSteep_26 : decode cX0_isSteep 26 = .ok (.iaload, 1) := by decide +kernel
theorem dX0_isSteep_27 : decode cX0_isSteep 27 = .ok (.if_icmp .lt 7, 3) := by decide +kernel
theorem dX0_isSteep_30 : decode cX0_isSteep 30 = .ok (.iconst 1, 1) := by decide +kernel
theorem dX0_isSteep_31 : decode cX0_isSteep 31 = .ok (.goto 4, 3) := by decide +kernel
theorem dX0_isSteep_34 : decode cX0_isSteep 34 = .ok (.iconst 0, 1) := by decide +kernel
theorem dX0_isSteep_35 : decode cX0_isSteep 35 = .ok (.ireturn, 1) := by decide +kernel
set_option maxRecDepth 20000 in
theorem ggX0_steepSet_X0_isSteep : GoodIn wsX0_steepSet wsX0_isSteep := goodIn_r _ [7, 1, 8, 9, 10, 11, 12, 13, 14, 15, 16] (by decide +kernel) (by decide +kernel)
set_option maxRecDepth 20000 in
theorem gX0_steepSet_X0_isSteep : GoodIn wsX0_steepSet (wsV RX0 41 RX0 yX0_isSteep wsX0_isSteep) := goodIn_app (goodIn_of _ (by decide +kernel)) ggX0_steepSet_X0_isSteep
theorem dX0_steepSet_0 : decode cX0_steepSet 0 = .ok (.iconst 0, 1) := by decide +kernel
theorem dX0_steepSet_1 : decode cX0_steepSet 1 = .ok (.istore_n 1, 1) := by decide +kernel
theorem dX0_steepSet_2 : decode cX0_steepSet 2 = .ok (.iconst 0, 1) := by decide +kernel
theorem dX0_steepSet_3 : decode cX0_steepSet 3 = .ok (.istore_n 2, 1) := by decide +kernel
theorem dX0_steepSet_4 : decode cX0_steepSet 4 = .ok (.iload_n 2, 1) := by decide +kernel
theorem dX0_steepSet_5 : decode cX0_steepSet 5 = .ok (.aload_n 0, 1) := by decide +kernel
theorem dX0_steepSet_6 : decode cX0_steepSet 6 = .ok (.getfield 18, 3) := by decide +kernel
theorem dX0_steepSet_9 : decode cX0_steepSet 9 = .ok (.getfield 28, 3) := by decide +kernel
theorem dX0_steepSet_12 : decode cX0_steepSet 12 = .ok (.if_icmp .ge 23, 3) := by decide +kernel
theorem dX0_steepSet_15 : decode cX0_steepSet 15 = .ok (.aload_n 0, 1) := by decide +kernel
theorem dX0_steepSet_16 : decode cX0_steepSet 16 = .ok (.iload_n 2, 1) := by decide +kernel
theorem dX0_steepSet_17 : decode cX0_steepSet 17 = .ok (.invokevirtual 41, 3) := by decide +kernel
theorem dX0_steepSet_20 : decode cX0_steepSet 20 = .ok (.ifCond .eq 9, 3) := by decide +kernel
theorem dX0_steepSet_23 : decode cX0_steepSet 23 = .ok (.iload_n 1, 1) := by decide +kernel
theorem dX0_steepSet_24 : decode cX0_steepSet 24 = .ok (.iconst 1, 1) := by decide +kernel
theorem dX0_steepSet_25 : decode cX0_steepSet 25 = .ok (.iload_n 2, 1) := by decide +kernel
theorem dX0_steepSet_26 : decode cX0_steepSet 26 = .ok (.ishl, 1) := by decide +kernel
theorem dX0_steepSet_27 : decode cX0_steepSet 27 = .ok (.ior, 1) := by decide +kernel
theorem dX0_steepSet_28 : decode cX0_steepSet 28 = .ok (.istore_n 1, 1) := by decide +kernel
theorem dX0_steepSet_29 : decode cX0_steepSet 29 = .ok (.iinc 2 1, 3) := by decide +kernel
theorem dX0_steepSet_32 : decode cX0_steepSet 32 = .ok (.goto (-28), 3) := by decide +kernel
theorem dX0_steepSet_35 : decode cX0_steepSet 35 = .ok (.iload_n 1, 1) := by decide +kernel
theorem dX0_steepSet_36 : decode cX0_steepSet 36 = .ok (.ireturn, 1) := by decide +kernel
theorem dX0_tip_0 : decode cX0_tip 0 = .ok (.aload_n 0, 1) := by decide +kernel
theorem dX0_tip_1 : decode cX0_tip 1 = .ok (.getfield 9, 3) := by decide +kernel
theorem dX0_tip_4 : decode cX0_tip 4 = .ok (.iload_n 1, 1) := by decide +kernel
theorem dX0_tip_5 : decode cX0_tip 5 = .ok (.dup2, 1) := by decide +kernel
theorem dX0_tip_6 : decode cX0_tip 6 = .ok (.iaload, 1) := by decide +kernel
theorem dX0_tip_7 : decode cX0_tip 7 = .ok (.iload_n 2, 1) := by decide +kernel
theorem dX0_tip_8 : decode cX0_tip 8 = .ok (.aload_n 0, 1) := by decide +kernel
theorem dX0_tip_9 : decode cX0_tip 9 = .ok (.getfield 18, 3) := by decide +kernel
theorem dX0_tip_12 : decode cX0_tip 12 = .ok (.getfield 38, 3) := by decide +kernel
theorem dX0_tip_15 : decode cX0_tip 15 = .ok (.iload_n 1, 1) := by decide +kernel
theorem dX0_tip_16 : decode cX0_tip 16 = .ok (.iaload, 1) := by decide +kernel
theorem dX0_tip_17 : decode cX0_tip 17 = .ok (.imul, 1) := by decide +kernel
theorem dX0_tip_18 : decode cX0_tip 18 = .ok (.isub, 1) := by decide +kernel
theorem dX0_tip_19 : decode cX0_tip 19 = .ok (.iastore, 1) := by decide +kernel
theorem dX0_tip_20 : decode cX0_tip 20 = .ok (.iconst 0, 1) := by decide +kernel
theorem dX0_tip_21 : decode cX0_tip 21 = .ok (.istore_n 3, 1) := by decide +kernel
theorem dX0_tip_22 : decode cX0_tip 22 = .ok (.iload_n 3, 1) := by decide +kernel
theorem dX0_tip_23 : decode cX0_tip 23 = .ok (.aload_n 0, 1) := by decide +kernel
theorem dX0_tip_24 : decode cX0_tip 24 = .ok (.getfield 18, 3) := by decide +kernel
theorem dX0_tip_27 : decode cX0_tip 27 = .ok (.getfield 28, 3) := by decide +kernel
theorem dX0_tip_30 : decode cX0_tip 30 = .ok (.if_icmp .ge 31, 3) := by decide +kernel
theorem dX0_tip_33 : decode cX0_tip 33 = .ok (.aload_n 0, 1) := by decide +kernel
theorem dX0_tip_34 : decode cX0_tip 34 = .ok (.getfield 9, 3) := by decide +kernel
theorem dX0_tip_37 : decode cX0_tip 37 = .ok (.iload_n 3, 1) := by decide +kernel
theorem dX0_tip_38 : decode cX0_tip 38 = .ok (.dup2, 1) := by decide +kernel
theorem dX0_tip_39 : decode cX0_tip 39 = .ok (.iaload, 1) := by decide +kernel
theorem dX0_tip_40 : decode cX0_tip 40 = .ok (.iload_n 2, 1) := by decide +kernel
theorem dX0_tip_41 : decode cX0_tip 41 = .ok (.aload_n 0, 1) := by decide +kernel
theorem dX0_tip_42 : decode cX0_tip 42 = .ok (.getfield 18, 3) := by decide +kernel
theorem dX0_tip_45 : decode cX0_tip 45 = .ok (.getfield 34, 3) := by decide +kernel
theorem dX0_tip_48 : decode cX0_tip 48 = .ok (.iload_n 1, 1) := by decide +kernel
theorem dX0_tip_49 : decode cX0_tip 49 = .ok (.aaload, 1) := by decide +kernel
theorem dX0_tip_50 : decode cX0_tip 50 = .ok (.iload_n 3, 1) := by decide +kernel
theorem dX0_tip_51 : decode cX0_tip 51 = .ok (.iaload, 1) := by decide +kernel
theorem dX0_tip_52 : decode cX0_tip 52 = .ok (.imul, 1) := by decide +kernel
theorem dX0_tip_53 : decode cX0_tip 53 = .ok (.iadd, 1) := by decide +kernel
theorem dX0_tip_54 : decode cX0_tip 54 = .ok (.iastore, 1) := by decide +kernel
theorem dX0_tip_55 : decode cX0_tip 55 = .ok (.iinc 3 1, 3) := by decide +kernel
theorem dX0_tip_58 : decode cX0_tip 58 = .ok (.goto (-36), 3) := by decide +kernel
theorem dX0_tip_61 : decode cX0_tip 61 = .ok (.return_, 1) := by decide +kernel
set_option maxRecDepth 20000 in
theorem ggX0_roll_J7_fill_53178 : GoodIn wsX0_roll wsJ7_fill_53178 := goodIn_r _ [6] (by decide +kernel) (by decide +kernel)
set_option maxRecDepth 20000 in
theorem gX0_roll_J7_fill_53178 : GoodIn wsX0_roll (va_wsS RX0 45 yJ7_fill_53178 wsJ7_fill_53178) := goodIn_app (goodIn_of _ (by decide +kernel)) ggX0_roll_J7_fill_53178
set_option maxRecDepth 20000 in
theorem ggX0_roll_X0_rollRound : GoodIn wsX0_roll wsX0_rollRound := goodIn_r _ [11, 12, 13, 14, 15, 1, 16, 17, 18, 10, 19, 20, 21, 22, 23, 24, 25, 26, 27] (by decide +kernel) (by decide +kernel)
set_option maxRecDepth 20000 in
theorem gX0_roll_X0_rollRound : GoodIn wsX0_roll (wsV RX0 52 RX0 yX0_rollRound wsX0_rollRound) := goodIn_app (goodIn_of _ (by decide +kernel)) ggX0_roll_X0_rollRound
theorem dX0_roll_0 : decode cX0_roll 0 = .ok (.aload_n 0, 1) := by decide +kernel
theorem dX0_roll_1 : decode cX0_roll 1 = .ok (.getfield 15, 3) := by decide +kernel
theorem dX0_roll_4 : decode cX0_roll 4 = .ok (.iconst 0, 1) := by decide +kernel
theorem dX0_roll_5 : decode cX0_roll 5 = .ok (.invokestatic 45, 3) := by decide +kernel
theorem dX0_roll_8 : decode cX0_roll 8 = .ok (.iconst 1, 1) := by decide +kernel
theorem dX0_roll_9 : decode cX0_roll 9 = .ok (.istore_n 1, 1) := by decide +kernel
theorem dX0_roll_10 : decode cX0_roll 10 = .ok (.iconst 0, 1) := by decide +kernel
theorem dX0_roll_11 : decode cX0_roll 11 = .ok (.istore_n 2, 1) := by decide +kernel
theorem dX0_roll_12 : decode cX0_roll 12 = .ok (.iload_n 1, 1) := by decide +kernel
theorem dX0_roll_13 : decode cX0_roll 13 = .ok (.ifCond .eq 20, 3) := by decide +kernel
theorem dX0_roll_16 : decode cX0_roll 16 = .ok (.iload_n 2, 1) := by decide +kernel
theorem dX0_roll_17 : decode cX0_roll 17 = .ok (.ldc 51, 2) := by decide +kernel
theorem dX0_roll_19 : decode cX0_roll 19 = .ok (.if_icmp .ge 14, 3) := by decide +kernel
theorem dX0_roll_22 : decode cX0_roll 22 = .ok (.aload_n 0, 1) := by decide +kernel
theorem dX0_roll_23 : decode cX0_roll 23 = .ok (.invokevirtual 52, 3) := by decide +kernel
theorem dX0_roll_26 : decode cX0_roll 26 = .ok (.istore_n 1, 1) := by decide +kernel
theorem dX0_roll_27 : decode cX0_roll 27 = .ok (.iinc 2 1, 3) := by decide +kernel
theorem dX0_roll_30 : decode cX0_roll 30 = .ok (.goto (-18), 3) := by decide +kernel
theorem dX0_roll_33 : decode cX0_roll 33 = .ok (.return_, 1) := by decide +kernel
set_option maxRecDepth 20000 in
theorem ggX0_rollRound_X0_tip : GoodIn wsX0_rollRound wsX0_tip := goodIn_r _ [10, 4, 1, 3, 2, 11, 12, 13, 14, 15, 16, 17, 18] (by decide +kernel) (by decide +kernel)
set_option maxRecDepth 20000 in
theorem gX0_rollRound_X0_tip : GoodIn wsX0_rollRound (wsV RX0 56 RX0 yX0_tip wsX0_tip) := goodIn_app (goodIn_of _ (by decide +kernel)) ggX0_rollRound_X0_tip
theorem dX0_rollRound_0 : decode cX0_rollRound 0 = .ok (.iconst 0, 1) := by decide +kernel
theorem dX0_rollRound_1 : decode cX0_rollRound 1 = .ok (.istore_n 1, 1) := by decide +kernel
theorem dX0_rollRound_2 : decode cX0_rollRound 2 = .ok (.iconst 0, 1) := by decide +kernel
theorem dX0_rollRound_3 : decode cX0_rollRound 3 = .ok (.istore_n 2, 1) := by decide +kernel
theorem dX0_rollRound_4 : decode cX0_rollRound 4 = .ok (.iload_n 2, 1) := by decide +kernel
theorem dX0_rollRound_5 : decode cX0_rollRound 5 = .ok (.aload_n 0, 1) := by decide +kernel
theorem dX0_rollRound_6 : decode cX0_rollRound 6 = .ok (.getfield 18, 3) := by decide +kernel
theorem dX0_rollRound_9 : decode cX0_rollRound 9 = .ok (.getfield 28, 3) := by decide +kernel
theorem dX0_rollRound_12 : decode cX0_rollRound 12 = .ok (.if_icmp .ge 63, 3) := by decide +kernel
theorem dX0_rollRound_15 : decode cX0_rollRound 15 = .ok (.aload_n 0, 1) := by decide +kernel
theorem dX0_rollRound_16 : decode cX0_rollRound 16 = .ok (.getfield 18, 3) := by decide +kernel
theorem dX0_rollRound_19 : decode cX0_rollRound 19 = .ok (.getfield 38, 3) := by decide +kernel
theorem dX0_rollRound_22 : decode cX0_rollRound 22 = .ok (.iload_n 2, 1) := by decide +kernel
theorem dX0_rollRound_23 : decode cX0_rollRound 23 = .ok (.iaload, 1) := by decide +kernel
theorem dX0_rollRound_24 : decode cX0_rollRound 24 = .ok (.istore_n 3, 1) := by decide +kernel
theorem dX0_rollRound_25 : decode cX0_rollRound 25 = .ok (.iload_n 3, 1) := by decide +kernel
theorem dX0_rollRound_26 : decode cX0_rollRound 26 = .ok (.ifCond .le 43, 3) := by decide +kernel
theorem dX0_rollRound_29 : decode cX0_rollRound 29 = .ok (.aload_n 0, 1) := by decide +kernel
theorem dX0_rollRound_30 : decode cX0_rollRound 30 = .ok (.getfield 9, 3) := by decide +kernel
theorem dX0_rollRound_33 : decode cX0_rollRound 33 = .ok (.iload_n 2, 1) := by decide +kernel
theorem dX0_rollRound_34 : decode cX0_rollRound 34 = .ok (.iaload, 1) := by decide +kernel
theorem dX0_rollRound_35 : decode cX0_rollRound 35 = .ok (.iload_n 3, 1) := by decide +kernel
theorem dX0_rollRound_36 : decode cX0_rollRound 36 = .ok (.if_icmp .lt 33, 3) := by decide +kernel
theorem dX0_rollRound_39 : decode cX0_rollRound 39 = .ok (.aload_n 0, 1) := by decide +kernel
theorem dX0_rollRound_40 : decode cX0_rollRound 40 = .ok (.getfield 9, 3) := by decide +kernel
theorem dX0_rollRound_43 : decode cX0_rollRound 43 = .ok (.iload_n 2, 1) := by decide +kernel
theorem dX0_rollRound_44 : decode cX0_rollRound 44 = .ok (.iaload, 1) := by decide +kernel
theorem dX0_rollRound_45 : decode cX0_rollRound 45 = .ok (.iload_n 3, 1) := by decide +kernel
theorem dX0_rollRound_46 : decode cX0_rollRound 46 = .ok (.idiv, 1) := by decide +kernel
theorem dX0_rollRound_47 : decode cX0_rollRound 47 = .ok (.istore 4, 2) := by decide +kernel
theorem dX0_rollRound_49 : decode cX0_rollRound 49 = .ok (.aload_n 0, 1) := by decide +kernel
theorem dX0_rollRound_50 : decode cX0_rollRound 50 = .ok (.iload_n 2, 1) := by decide +kernel
theorem dX0_rollRound_51 : decode cX0_rollRound 51 = .ok (.iload 4, 2) := by decide +kernel
theorem dX0_rollRound_53 : decode cX0_rollRound 53 = .ok (.invokevirtual 56, 3) := by decide +kernel
theorem dX0_rollRound_56 : decode cX0_rollRound 56 = .ok (.aload_n 0, 1) := by decide +kernel
theorem dX0_rollRound_57 : decode cX0_rollRound 57 = .ok (.getfield 15, 3) := by decide +kernel
theorem dX0_rollRound_60 : decode cX0_rollRound 60 = .ok (.iload_n 2, 1) := by decide +kernel
theorem dX0_rollRound_61 : decode cX0_rollRound 61 = .ok (.dup2, 1) := by decide +kernel
theorem dX0_rollRound_62 : decode cX0_rollRound 62 = .ok (.iaload, 1) := by decide +kernel
theorem dX0_rollRound_63 : decode cX0_rollRound 63 = .ok (.iload 4, 2) := by decide +kernel
theorem dX0_rollRound_65 : decode cX0_rollRound 65 = .ok (.iadd, 1) := by decide +kernel
theorem dX0_rollRound_66 : decode cX0_rollRound 66 = .ok (.iastore, 1) := by decide +kernel
theorem dX0_rollRound_67 : decode cX0_rollRound 67 = .ok (.iconst 1, 1) := by decide +kernel
theorem dX0_rollRound_68 : decode cX0_rollRound 68 = .ok (.istore_n 1, 1) := by decide +kernel
theorem dX0_rollRound_69 : decode cX0_rollRound 69 = .ok (.iinc 2 1, 3) := by decide +kernel
theorem dX0_rollRound_72 : decode cX0_rollRound 72 = .ok (.goto (-68), 3) := by decide +kernel
theorem dX0_rollRound_75 : decode cX0_rollRound 75 = .ok (.iload_n 1, 1) := by decide +kernel
theorem dX0_rollRound_76 : decode cX0_rollRound 76 = .ok (.ireturn, 1) := by decide +kernel
theorem dX0_allTimes_0 : decode cX0_allTimes 0 = .ok (.iconst 0, 1) := by decide +kernel
theorem dX0_allTimes_1 : decode cX0_allTimes 1 = .ok (.istore_n 1, 1) := by decide +kernel
theorem dX0_allTimes_2 : decode cX0_allTimes 2 = .ok (.iconst 0, 1) := by decide +kernel
theorem dX0_allTimes_3 : decode cX0_allTimes 3 = .ok (.istore_n 2, 1) := by decide +kernel
theorem dX0_allTimes_4 : decode cX0_allTimes 4 = .ok (.iload_n 2, 1) := by decide +kernel
theorem dX0_allTimes_5 : decode cX0_allTimes 5 = .ok (.aload_n 0, 1) := by decide +kernel
theorem dX0_allTimes_6 : decode cX0_allTimes 6 = .ok (.getfield 18, 3) := by decide +kernel
theorem dX0_allTimes_9 : decode cX0_allTimes 9 = .ok (.getfield 28, 3) := by decide +kernel
theorem dX0_allTimes_12 : decode cX0_allTimes 12 = .ok (.if_icmp .ge 18, 3) := by decide +kernel
theorem dX0_allTimes_15 : decode cX0_allTimes 15 = .ok (.iload_n 1, 1) := by decide +kernel
theorem dX0_allTimes_16 : decode cX0_allTimes 16 = .ok (.aload_n 0, 1) := by decide +kernel
theorem dX0_allTimes_17 : decode cX0_allTimes 17 = .ok (.getfield 15, 3) := by decide +kernel
theorem dX0_allTimes_20 : decode cX0_allTimes 20 = .ok (.iload_n 2, 1) := by decide +kernel
theorem dX0_allTimes_21 : decode cX0_allTimes 21 = .ok (.iaload, 1) := by decide +kernel
theorem dX0_allTimes_22 : decode cX0_allTimes 22 = .ok (.iadd, 1) := by decide +kernel
theorem dX0_allTimes_23 : decode cX0_allTimes 23 = .ok (.istore_n 1, 1) := by decide +kernel
theorem dX0_allTimes_24 : decode cX0_allTimes 24 = .ok (.iinc 2 1, 3) := by decide +kernel
theorem dX0_allTimes_27 : decode cX0_allTimes 27 = .ok (.goto (-23), 3) := by decide +kernel
theorem dX0_allTimes_30 : decode cX0_allTimes 30 = .ok (.iload_n 1, 1) := by decide +kernel
theorem dX0_allTimes_31 : decode cX0_allTimes 31 = .ok (.ireturn, 1) := by decide +kernel
theorem dX0_swallowedByRoll_0 : decode cX0_swallowedByRoll 0 = .ok (.iconst 0, 1) := by decide +kernel
theorem dX0_swallowedByRoll_1 : decode cX0_swallowedByRoll 1 = .ok (.istore_n 1, 1) := by decide +kernel
theorem dX0_swallowedByRoll_2 : decode cX0_swallowedByRoll 2 = .ok (.iconst 0, 1) := by decide +kernel
theorem dX0_swallowedByRoll_3 : decode cX0_swallowedByRoll 3 = .ok (.istore_n 2, 1) := by decide +kernel
theorem dX0_swallowedByRoll_4 : decode cX0_swallowedByRoll 4 = .ok (.iload_n 2, 1) := by decide +kernel
theorem dX0_swallowedByRoll_5 : decode cX0_swallowedByRoll 5 = .ok (.aload_n 0, 1) := by decide +kernel
theorem dX0_swallowedByRoll_6 : decode cX0_swallowedByRoll 6 = .ok (.getfield 18, 3) := by decide +kernel
theorem dX0_swallowedByRoll_9 : decode cX0_swallowedByRoll 9 = .ok (.getfield 28, 3) := by decide +kernel
theorem dX0_swallowedByRoll_12 : decode cX0_swallowedByRoll 12 = .ok (.if_icmp .ge 31, 3) := by decide +kernel
theorem dX0_swallowedByRoll_15 : decode cX0_swallowedByRoll 15 = .ok (.iload_n 1, 1) := by decide +kernel
theorem dX0_swallowedByRoll_16 : decode cX0_swallowedByRoll 16 = .ok (.aload_n 0, 1) := by decide +kernel
theorem dX0_swallowedByRoll_17 : decode cX0_swallowedByRoll 17 = .ok (.getfield 15, 3) := by decide +kernel
theorem dX0_swallowedByRoll_20 : decode cX0_swallowedByRoll 20 = .ok (.iload_n 2, 1) := by decide +kernel
theorem dX0_swallowedByRoll_21 : decode cX0_swallowedByRoll 21 = .ok (.iaload, 1) := by decide +kernel
theorem dX0_swallowedByRoll_22 : decode cX0_swallowedByRoll 22 = .ok (.aload_n 0, 1) := by decide +kernel
theorem dX0_swallowedByRoll_23 : decode cX0_swallowedByRoll 23 = .ok (.getfield 18, 3) := by decide +kernel
theorem dX0_swallowedByRoll_26 : decode cX0_swallowedByRoll 26 = .ok (.getfield 34, 3) := by decide +kernel
theorem dX0_swallowedByRoll_29 : decode cX0_swallowedByRoll 29 = .ok (.iload_n 2, 1) := by decide +kernel
theorem dX0_swallowedByRoll_30 : decode cX0_swallowedByRoll 30 = .ok (.aaload, 1) := by decide +kernel
theorem dX0_swallowedByRoll_31 : decode cX0_swallowedByRoll 31 = .ok (.bipush 6, 2) := by decide +kernel
theorem dX0_swallowedByRoll_33 : decode cX0_swallowedByRoll 33 = .ok (.iaload, 1) := by decide +kernel
theorem dX0_swallowedByRoll_34 : decode cX0_swallowedByRoll 34 = .ok (.imul, 1) := by decide +kernel
theorem dX0_swallowedByRoll_35 : decode cX0_swallowedByRoll 35 = .ok (.iadd, 1) := by decide +kernel
theorem dX0_swallowedByRoll_36 : decode cX0_swallowedByRoll 36 = .ok (.istore_n 1, 1) := by decide +kernel
theorem dX0_swallowedByRoll_37 : decode cX0_swallowedByRoll 37 = .ok (.iinc 2 1, 3) := by decide +kernel
theorem dX0_swallowedByRoll_40 : decode cX0_swallowedByRoll 40 = .ok (.goto (-36), 3) := by decide +kernel
theorem dX0_swallowedByRoll_43 : decode cX0_swallowedByRoll 43 = .ok (.iload_n 1, 1) := by decide +kernel
theorem dX0_swallowedByRoll_44 : decode cX0_swallowedByRoll 44 = .ok (.ireturn, 1) := by decide +kernel
theorem dX0_toppledSet_0 : decode cX0_toppledSet 0 = .ok (.iconst 0, 1) := by decide +kernel
theorem dX0_toppledSet_1 : decode cX0_toppledSet 1 = .ok (.istore_n 1, 1) := by decide +kernel
theorem dX0_toppledSet_2 : decode cX0_toppledSet 2 = .ok (.iconst 0, 1) := by decide +kernel
theorem dX0_toppledSet_3 : decode cX0_toppledSet 3 = .ok (.istore_n 2, 1) := by decide +kernel
theorem dX0_toppledSet_4 : decode cX0_toppledSet 4 = .ok (.iload_n 2, 1) := by decide +kernel
theorem dX0_toppledSet_5 : decode cX0_toppledSet 5 = .ok (.aload_n 0, 1) := by decide +kernel
theorem dX0_toppledSet_6 : decode cX0_toppledSet 6 = .ok (.getfield 18, 3) := by decide +kernel
theorem dX0_toppledSet_9 : decode cX0_toppledSet 9 = .ok (.getfield 28, 3) := by decide +kernel
theorem dX0_toppledSet_12 : decode cX0_toppledSet 12 = .ok (.if_icmp .ge 24, 3) := by decide +kernel
theorem dX0_toppledSet_15 : decode cX0_toppledSet 15 = .ok (.aload_n 0, 1) := by decide +kernel
theorem dX0_toppledSet_16 : decode cX0_toppledSet 16 = .ok (.getfield 15, 3) := by decide +kernel
theorem dX0_toppledSet_19 : decode cX0_toppledSet 19 = .ok (.iload_n 2, 1) := by decide +kernel
theorem dX0_toppledSet_20 : decode cX0_toppledSet 20 = .ok (.iaload, 1) := by decide +kernel
theorem dX0_toppledSet_21 : decode cX0_toppledSet 21 = .ok (.ifCond .le 9, 3) := by decide +kernel
theorem dX0_toppledSet_24 : decode cX0_toppledSet 24 = .ok (.iload_n 1, 1) := by decide +kernel
theorem dX0_toppledSet_25 : decode cX0_toppledSet 25 = .ok (.iconst 1, 1) := by decide +kernel
theorem dX0_toppledSet_26 : decode cX0_toppledSet 26 = .ok (.iload_n 2, 1) := by decide +kernel
theorem dX0_toppledSet_27 : decode cX0_toppledSet 27 = .ok (.ishl, 1) := by decide +kernel
theorem dX0_toppledSet_28 : decode cX0_toppledSet 28 = .ok (.ior, 1) := by decide +kernel
theorem dX0_toppledSet_29 : decode cX0_toppledSet 29 = .ok (.istore_n 1, 1) := by decide +kernel
theorem dX0_toppledSet_30 : decode cX0_toppledSet 30 = .ok (.iinc 2 1, 3) := by decide +kernel
theorem dX0_toppledSet_33 : decode cX0_toppledSet 33 = .ok (.goto (-29), 3) := by decide +kernel
theorem dX0_toppledSet_36 : decode cX0_toppledSet 36 = .ok (.iload_n 1, 1) := by decide +kernel
theorem dX0_toppledSet_37 : decode cX0_toppledSet 37 = .ok (.ireturn, 1) := by decide +kernel
theorem dX0_hasEachToppledOnce_0 : decode cX0_hasEachToppledOnce 0 = .ok (.iconst 0, 1) := by decide +kernel
theorem dX0_hasEachToppledOnce_1 : decode cX0_hasEachToppledOnce 1 = .ok (.istore_n 1, 1) := by decide +kernel
theorem dX0_hasEachToppledOnce_2 : decode cX0_hasEachToppledOnce 2 = .ok (.iload_n 1, 1) := by decide +kernel
theorem dX0_hasEachToppledOnce_3 : decode cX0_hasEachToppledOnce 3 = .ok (.aload_n 0, 1) := by decide +kernel
theorem dX0_hasEachToppledOnce_4 : decode cX0_hasEachToppledOnce 4 = .ok (.getfield 18, 3) := by decide +kernel
theorem dX0_hasEachToppledOnce_7 : decode cX0_hasEachToppledOnce 7 = .ok (.getfield 28, 3) := by decide +kernel
theorem dX0_hasEachToppledOnce_10 : decode cX0_hasEachToppledOnce 10 = .ok (.if_icmp .ge 21, 3) := by decide +kernel
theorem dX0_hasEachToppledOnce_13 : decode cX0_hasEachToppledOnce 13 = .ok (.aload_n 0, 1) := by decide +kernel
theorem dX0_hasEachToppledOnce_14 : decode cX0_hasEachToppledOnce 14 = .ok (.getfield 15, 3) := by decide +kernel
theorem dX0_hasEachToppledOnce_17 : decode cX0_hasEachToppledOnce 17 = .ok (.iload_n 1, 1) := by decide +kernel
theorem dX0_hasEachToppledOnce_18 : decode cX0_hasEachToppledOnce 18 = .ok (.iaload, 1) := by decide +kernel
theorem dX0_hasEachToppledOnce_19 : decode cX0_hasEachToppledOnce 19 = .ok (.iconst 1, 1) := by decide +kernel
theorem dX0_hasEachToppledOnce_20 : decode cX0_hasEachToppledOnce 20 = .ok (.if_icmp .eq 5, 3) := by decide +kernel
theorem dX0_hasEachToppledOnce_23 : decode cX0_hasEachToppledOnce 23 = .ok (.iconst 0, 1) := by decide +kernel
theorem dX0_hasEachToppledOnce_24 : decode cX0_hasEachToppledOnce 24 = .ok (.ireturn, 1) := by decide +kernel
theorem dX0_hasEachToppledOnce_25 : decode cX0_hasEachToppledOnce 25 = .ok (.iinc 1 1, 3) := by decide +kernel
theorem dX0_hasEachToppledOnce_28 : decode cX0_hasEachToppledOnce 28 = .ok (.goto (-26), 3) := by decide +kernel
theorem dX0_hasEachToppledOnce_31 : decode cX0_hasEachToppledOnce 31 = .ok (.iconst 1, 1) := by decide +kernel
theorem dX0_hasEachToppledOnce_32 : decode cX0_hasEachToppledOnce 32 = .ok (.ireturn, 1) := by decide +kernel
set_option maxRecDepth 20000 in
theorem ggX0_becomeNeutral_X0_roll : GoodIn wsX0_becomeNeutral wsX0_roll := goodIn_r _ [9, 10, 11, 12, 13, 14, 15, 16, 17, 18, 8, 19, 1, 2, 4, 3, 20, 21, 22, 23, 24, 25, 26, 27, 28, 29, 30, 31] (by decide +kernel) (by decide +kernel)
set_option maxRecDepth 20000 in
theorem gX0_becomeNeutral_X0_roll : GoodIn wsX0_becomeNeutral (wsV RX0 60 RX0 yX0_roll wsX0_roll) := goodIn_app (goodIn_of _ (by decide +kernel)) ggX0_becomeNeutral_X0_roll
theorem dX0_becomeNeutral_0 : decode cX0_becomeNeutral 0 = .ok (.iconst 0, 1) := by decide +kernel
theorem dX0_becomeNeutral_1 : decode cX0_becomeNeutral 1 = .ok (.istore_n 1, 1) := by decide +kernel
theorem dX0_becomeNeutral_2 : decode cX0_becomeNeutral 2 = .ok (.iload_n 1, 1) := by decide +kernel
theorem dX0_becomeNeutral_3 : decode cX0_becomeNeutral 3 = .ok (.aload_n 0, 1) := by decide +kernel
theorem dX0_becomeNeutral_4 : decode cX0_becomeNeutral 4 = .ok (.getfield 18, 3) := by decide +kernel
theorem dX0_becomeNeutral_7 : decode cX0_becomeNeutral 7 = .ok (.getfield 28, 3) := by decide +kernel
theorem dX0_becomeNeutral_10 : decode cX0_becomeNeutral 10 = .ok (.if_icmp .ge 28, 3) := by decide +kernel
theorem dX0_becomeNeutral_13 : decode cX0_becomeNeutral 13 = .ok (.aload_n 0, 1) := by decide +kernel
theorem dX0_becomeNeutral_14 : decode cX0_becomeNeutral 14 = .ok (.getfield 9, 3) := by decide +kernel
theorem dX0_becomeNeutral_17 : decode cX0_becomeNeutral 17 = .ok (.iload_n 1, 1) := by decide +kernel
theorem dX0_becomeNeutral_18 : decode cX0_becomeNeutral 18 = .ok (.iconst 2, 1) := by decide +kernel
theorem dX0_becomeNeutral_19 : decode cX0_becomeNeutral 19 = .ok (.aload_n 0, 1) := by decide +kernel
theorem dX0_becomeNeutral_20 : decode cX0_becomeNeutral 20 = .ok (.getfield 18, 3) := by decide +kernel
theorem dX0_becomeNeutral_23 : decode cX0_becomeNeutral 23 = .ok (.getfield 38, 3) := by decide +kernel
theorem dX0_becomeNeutral_26 : decode cX0_becomeNeutral 26 = .ok (.iload_n 1, 1) := by decide +kernel
theorem dX0_becomeNeutral_27 : decode cX0_becomeNeutral 27 = .ok (.iaload, 1) := by decide +kernel
theorem dX0_becomeNeutral_28 : decode cX0_becomeNeutral 28 = .ok (.iconst 1, 1) := by decide +kernel
theorem dX0_becomeNeutral_29 : decode cX0_becomeNeutral 29 = .ok (.isub, 1) := by decide +kernel
theorem dX0_becomeNeutral_30 : decode cX0_becomeNeutral 30 = .ok (.imul, 1) := by decide +kernel
theorem dX0_becomeNeutral_31 : decode cX0_becomeNeutral 31 = .ok (.iastore, 1) := by decide +kernel
theorem dX0_becomeNeutral_32 : decode cX0_becomeNeutral 32 = .ok (.iinc 1 1, 3) := by decide +kernel
theorem dX0_becomeNeutral_35 : decode cX0_becomeNeutral 35 = .ok (.goto (-33), 3) := by decide +kernel
theorem dX0_becomeNeutral_38 : decode cX0_becomeNeutral 38 = .ok (.aload_n 0, 1) := by decide +kernel
theorem dX0_becomeNeutral_39 : decode cX0_becomeNeutral 39 = .ok (.invokevirtual 60, 3) := by decide +kernel
theorem dX0_becomeNeutral_42 : decode cX0_becomeNeutral 42 = .ok (.iconst 0, 1) := by decide +kernel
theorem dX0_becomeNeutral_43 : decode cX0_becomeNeutral 43 = .ok (.istore_n 1, 1) := by decide +kernel
theorem dX0_becomeNeutral_44 : decode cX0_becomeNeutral 44 = .ok (.iload_n 1, 1) := by decide +kernel
theorem dX0_becomeNeutral_45 : decode cX0_becomeNeutral 45 = .ok (.aload_n 0, 1) := by decide +kernel
theorem dX0_becomeNeutral_46 : decode cX0_becomeNeutral 46 = .ok (.getfield 18, 3) := by decide +kernel
theorem dX0_becomeNeutral_49 : decode cX0_becomeNeutral 49 = .ok (.getfield 28, 3) := by decide +kernel
theorem dX0_becomeNeutral_52 : decode cX0_becomeNeutral 52 = .ok (.if_icmp .ge 35, 3) := by decide +kernel
theorem dX0_becomeNeutral_55 : decode cX0_becomeNeutral 55 = .ok (.aload_n 0, 1) := by decide +kernel
theorem dX0_becomeNeutral_56 : decode cX0_becomeNeutral 56 = .ok (.getfield 9, 3) := by decide +kernel
theorem dX0_becomeNeutral_59 : decode cX0_becomeNeutral 59 = .ok (.iload_n 1, 1) := by decide +kernel
theorem dX0_becomeNeutral_60 : decode cX0_becomeNeutral 60 = .ok (.iconst 2, 1) := by decide +kernel
theorem dX0_becomeNeutral_61 : decode cX0_becomeNeutral 61 = .ok (.aload_n 0, 1) := by decide +kernel
theorem dX0_becomeNeutral_62 : decode cX0_becomeNeutral 62 = .ok (.getfield 18, 3) := by decide +kernel
theorem dX0_becomeNeutral_65 : decode cX0_becomeNeutral 65 = .ok (.getfield 38, 3) := by decide +kernel
theorem dX0_becomeNeutral_68 : decode cX0_becomeNeutral 68 = .ok (.iload_n 1, 1) := by decide +kernel
theorem dX0_becomeNeutral_69 : decode cX0_becomeNeutral 69 = .ok (.iaload, 1) := by decide +kernel
theorem dX0_becomeNeutral_70 : decode cX0_becomeNeutral 70 = .ok (.iconst 1, 1) := by decide +kernel
theorem dX0_becomeNeutral_71 : decode cX0_becomeNeutral 71 = .ok (.isub, 1) := by decide +kernel
theorem dX0_becomeNeutral_72 : decode cX0_becomeNeutral 72 = .ok (.imul, 1) := by decide +kernel
theorem dX0_becomeNeutral_73 : decode cX0_becomeNeutral 73 = .ok (.aload_n 0, 1) := by decide +kernel
theorem dX0_becomeNeutral_74 : decode cX0_becomeNeutral 74 = .ok (.getfield 9, 3) := by decide +kernel
theorem dX0_becomeNeutral_77 : decode cX0_becomeNeutral 77 = .ok (.iload_n 1, 1) := by decide +kernel
theorem dX0_becomeNeutral_78 : decode cX0_becomeNeutral 78 = .ok (.iaload, 1) := by decide +kernel
theorem dX0_becomeNeutral_79 : decode cX0_becomeNeutral 79 = .ok (.isub, 1) := by decide +kernel
theorem dX0_becomeNeutral_80 : decode cX0_becomeNeutral 80 = .ok (.iastore, 1) := by decide +kernel
theorem dX0_becomeNeutral_81 : decode cX0_becomeNeutral 81 = .ok (.iinc 1 1, 3) := by decide +kernel
theorem dX0_becomeNeutral_84 : decode cX0_becomeNeutral 84 = .ok (.goto (-40), 3) := by decide +kernel
theorem dX0_becomeNeutral_87 : decode cX0_becomeNeutral 87 = .ok (.aload_n 0, 1) := by decide +kernel
theorem dX0_becomeNeutral_88 : decode cX0_becomeNeutral 88 = .ok (.invokevirtual 60, 3) := by decide +kernel
theorem dX0_becomeNeutral_91 : decode cX0_becomeNeutral 91 = .ok (.return_, 1) := by decide +kernel
set_option maxRecDepth 20000 in
theorem ggX0_burningOrder_X0_nextToBurn : GoodIn wsX0_burningOrder wsX0_nextToBurn := goodIn_r _ [7, 1, 2, 8, 9, 10, 11, 12, 13, 14, 15, 16, 17, 18, 19, 20, 21] (by decide +kernel) (by decide +kernel)
set_option maxRecDepth 20000 in
theorem gX0_burningOrder_X0_nextToBurn : GoodIn wsX0_burningOrder (wsV RX0 63 RX0 yX0_nextToBurn wsX0_nextToBurn) := goodIn_app (goodIn_of _ (by decide +kernel)) ggX0_burningOrder_X0_nextToBurn
theorem dX0_burningOrder_0 : decode cX0_burningOrder 0 = .ok (.bipush 64, 2) := by decide +kernel
theorem dX0_burningOrder_2 : decode cX0_burningOrder 2 = .ok (.istore_n 1, 1) := by decide +kernel
theorem dX0_burningOrder_3 : decode cX0_burningOrder 3 = .ok (.iconst 0, 1) := by decide +kernel
theorem dX0_burningOrder_4 : decode cX0_burningOrder 4 = .ok (.istore_n 2, 1) := by decide +kernel
theorem dX0_burningOrder_5 : decode cX0_burningOrder 5 = .ok (.iconst 0, 1) := by decide +kernel
theorem dX0_burningOrder_6 : decode cX0_burningOrder 6 = .ok (.istore_n 3, 1) := by decide +kernel
theorem dX0_burningOrder_7 : decode cX0_burningOrder 7 = .ok (.iload_n 3, 1) := by decide +kernel
theorem dX0_burningOrder_8 : decode cX0_burningOrder 8 = .ok (.aload_n 0, 1) := by decide +kernel
theorem dX0_burningOrder_9 : decode cX0_burningOrder 9 = .ok (.getfield 18, 3) := by decide +kernel
theorem dX0_burningOrder_12 : decode cX0_burningOrder 12 = .ok (.getfield 28, 3) := by decide +kernel
theorem dX0_burningOrder_15 : decode cX0_burningOrder 15 = .ok (.if_icmp .ge 41, 3) := by decide +kernel
theorem dX0_burningOrder_18 : decode cX0_burningOrder 18 = .ok (.aload_n 0, 1) := by decide +kernel
theorem dX0_burningOrder_19 : decode cX0_burningOrder 19 = .ok (.iload_n 1, 1) := by decide +kernel
theorem dX0_burningOrder_20 : decode cX0_burningOrder 20 = .ok (.invokevirtual 63, 3) := by decide +kernel
theorem dX0_burningOrder_23 : decode cX0_burningOrder 23 = .ok (.istore 4, 2) := by decide +kernel
theorem dX0_burningOrder_25 : decode cX0_burningOrder 25 = .ok (.iload 4, 2) := by decide +kernel
theorem dX0_burningOrder_27 : decode cX0_burningOrder 27 = .ok (.iconst (-1), 1) := by decide +kernel
theorem dX0_burningOrder_28 : decode cX0_burningOrder 28 = .ok (.if_icmp .ne 5, 3) := by decide +kernel
theorem dX0_burningOrder_31 : decode cX0_burningOrder 31 = .ok (.iload_n 2, 1) := by decide +kernel
theorem dX0_burningOrder_32 : decode cX0_burningOrder 32 = .ok (.ireturn, 1) := by decide +kernel
theorem dX0_burningOrder_33 : decode cX0_burningOrder 33 = .ok (.iload_n 1, 1) := by decide +kernel
theorem dX0_burningOrder_34 : decode cX0_burningOrder 34 = .ok (.iconst 1, 1) := by decide +kernel
theorem dX0_burningOrder_35 : decode cX0_burningOrder 35 = .ok (.iload 4, 2) := by decide +kernel
theorem dX0_burningOrder_37 : decode cX0_burningOrder 37 = .ok (.ishl, 1) := by decide +kernel
theorem dX0_burningOrder_38 : decode cX0_burningOrder 38 = .ok (.ior, 1) := by decide +kernel
theorem dX0_burningOrder_39 : decode cX0_burningOrder 39 = .ok (.istore_n 1, 1) := by decide +kernel
theorem dX0_burningOrder_40 : decode cX0_burningOrder 40 = .ok (.iload_n 2, 1) := by decide +kernel
theorem dX0_burningOrder_41 : decode cX0_burningOrder 41 = .ok (.bipush 10, 2) := by decide +kernel
theorem dX0_burningOrder_43 : decode cX0_burningOrder 43 = .ok (.imul, 1) := by decide +kernel
theorem dX0_burningOrder_44 : decode cX0_burningOrder 44 = .ok (.iload 4, 2) := by decide +kernel
theorem dX0_burningOrder_46 : decode cX0_burningOrder 46 = .ok (.iadd, 1) := by decide +kernel
theorem dX0_burningOrder_47 : decode cX0_burningOrder 47 = .ok (.iconst 1, 1) := by decide +kernel
theorem dX0_burningOrder_48 : decode cX0_burningOrder 48 = .ok (.iadd, 1) := by decide +kernel
theorem dX0_burningOrder_49 : decode cX0_burningOrder 49 = .ok (.istore_n 2, 1) := by decide +kernel
theorem dX0_burningOrder_50 : decode cX0_burningOrder 50 = .ok (.iinc 3 1, 3) := by decide +kernel
theorem dX0_burningOrder_53 : decode cX0_burningOrder 53 = .ok (.goto (-46), 3) := by decide +kernel
theorem dX0_burningOrder_56 : decode cX0_burningOrder 56 = .ok (.iload_n 2, 1) := by decide +kernel
theorem dX0_burningOrder_57 : decode cX0_burningOrder 57 = .ok (.ireturn, 1) := by decide +kernel
set_option maxRecDepth 20000 in
theorem ggX0_nextToBurn_X2_edgesInto : GoodIn wsX0_nextToBurn wsX2_edgesInto := goodIn_r _ [8, 9, 13, 14, 15, 16] (by decide +kernel) (by decide +kernel)
set_option maxRecDepth 20000 in
theorem gX0_nextToBurn_X2_edgesInto : GoodIn wsX0_nextToBurn (wsV RX0 67 RX2 yX2_edgesInto wsX2_edgesInto) := goodIn_app (goodIn_of _ (by decide +kernel)) ggX0_nextToBurn_X2_edgesInto
theorem dX0_nextToBurn_0 : decode cX0_nextToBurn 0 = .ok (.iconst 0, 1) := by decide +kernel
theorem dX0_nextToBurn_1 : decode cX0_nextToBurn 1 = .ok (.istore_n 2, 1) := by decide +kernel
theorem dX0_nextToBurn_2 : decode cX0_nextToBurn 2 = .ok (.iload_n 2, 1) := by decide +kernel
theorem dX0_nextToBurn_3 : decode cX0_nextToBurn 3 = .ok (.aload_n 0, 1) := by decide +kernel
theorem dX0_nextToBurn_4 : decode cX0_nextToBurn 4 = .ok (.getfield 18, 3) := by decide +kernel
theorem dX0_nextToBurn_7 : decode cX0_nextToBurn 7 = .ok (.getfield 28, 3) := by decide +kernel
theorem dX0_nextToBurn_10 : decode cX0_nextToBurn 10 = .ok (.if_icmp .ge 47, 3) := by decide +kernel
theorem dX0_nextToBurn_13 : decode cX0_nextToBurn 13 = .ok (.iload_n 1, 1) := by decide +kernel
theorem dX0_nextToBurn_14 : decode cX0_nextToBurn 14 = .ok (.iload_n 2, 1) := by decide +kernel
theorem dX0_nextToBurn_15 : decode cX0_nextToBurn 15 = .ok (.ishr, 1) := by decide +kernel
theorem dX0_nextToBurn_16 : decode cX0_nextToBurn 16 = .ok (.iconst 1, 1) := by decide +kernel
theorem dX0_nextToBurn_17 : decode cX0_nextToBurn 17 = .ok (.iand, 1) := by decide +kernel
theorem dX0_nextToBurn_18 : decode cX0_nextToBurn 18 = .ok (.ifCond .eq 7, 3) := by decide +kernel
theorem dX0_nextToBurn_21 : decode cX0_nextToBurn 21 = .ok (.iconst 1, 1) := by decide +kernel
theorem dX0_nextToBurn_22 : decode cX0_nextToBurn 22 = .ok (.goto 4, 3) := by decide +kernel
theorem dX0_nextToBurn_25 : decode cX0_nextToBurn 25 = .ok (.iconst 0, 1) := by decide +kernel
theorem dX0_nextToBurn_26 : decode cX0_nextToBurn 26 = .ok (.istore_n 3, 1) := by decide +kernel
theorem dX0_nextToBurn_27 : decode cX0_nextToBurn 27 = .ok (.iload_n 3, 1) := by decide +kernel
theorem dX0_nextToBurn_28 : decode cX0_nextToBurn 28 = .ok (.ifCond .ne 23, 3) := by decide +kernel
theorem dX0_nextToBurn_31 : decode cX0_nextToBurn 31 = .ok (.aload_n 0, 1) := by decide +kernel
theorem dX0_nextToBurn_32 : decode cX0_nextToBurn 32 = .ok (.getfield 18, 3) := by decide +kernel
theorem dX0_nextToBurn_35 : decode cX0_nextToBurn 35 = .ok (.iload_n 2, 1) := by decide +kernel
theorem dX0_nextToBurn_36 : decode cX0_nextToBurn 36 = .ok (.iload_n 1, 1) := by decide +kernel
theorem dX0_nextToBurn_37 : decode cX0_nextToBurn 37 = .ok (.invokevirtual 67, 3) := by decide +kernel
theorem dX0_nextToBurn_40 : decode cX0_nextToBurn 40 = .ok (.aload_n 0, 1) := by decide +kernel
theorem dX0_nextToBurn_41 : decode cX0_nextToBurn 41 = .ok (.getfield 9, 3) := by decide +kernel
theorem dX0_nextToBurn_44 : decode cX0_nextToBurn 44 = .ok (.iload_n 2, 1) := by decide +kernel
theorem dX0_nextToBurn_45 : decode cX0_nextToBurn 45 = .ok (.iaload, 1) := by decide +kernel
theorem dX0_nextToBurn_46 : decode cX0_nextToBurn 46 = .ok (.if_icmp .le 5, 3) := by decide +kernel
theorem dX0_nextToBurn_49 : decode cX0_nextToBurn 49 = .ok (.iload_n 2, 1) := by decide +kernel
theorem dX0_nextToBurn_50 : decode cX0_nextToBurn 50 = .ok (.ireturn, 1) := by decide +kernel
theorem dX0_nextToBurn_51 : decode cX0_nextToBurn 51 = .ok (.iinc 2 1, 3) := by decide +kernel
theorem dX0_nextToBurn_54 : decode cX0_nextToBurn 54 = .ok (.goto (-52), 3) := by decide +kernel
theorem dX0_nextToBurn_57 : decode cX0_nextToBurn 57 = .ok (.iconst (-1), 1) := by decide +kernel
theorem dX0_nextToBurn_58 : decode cX0_nextToBurn 58 = .ok (.ireturn, 1) := by decide +kernel
set_option maxRecDepth 20000 in
theorem ggX1_init_X0_init : GoodIn wsX1_init wsX0_init := goodIn_r _ [14, 15, 2, 3, 4, 16, 17, 18, 23, 24, 25] (by decide +kernel) (by decide +kernel)
set_option maxRecDepth 20000 in
theorem gX1_init_X0_init : GoodIn wsX1_init (wsX0_init) := ggX1_init_X0_init
theorem dX1_init_0 : decode cX1_init 0 = .ok (.aload_n 0, 1) := by decide +kernel
theorem dX1_init_1 : decode cX1_init 1 = .ok (.invokespecial 3, 3) := by decide +kernel
theorem dX1_init_4 : decode cX1_init 4 = .ok (.aload_n 0, 1) := by decide +kernel
theorem dX1_init_5 : decode cX1_init 5 = .ok (.bipush 7, 2) := by decide +kernel
theorem dX1_init_7 : decode cX1_init 7 = .ok (.newarray .int, 2) := by decide +kernel
theorem dX1_init_9 : decode cX1_init 9 = .ok (.putfield 9, 3) := by decide +kernel
theorem dX1_init_12 : decode cX1_init 12 = .ok (.aload_n 0, 1) := by decide +kernel
theorem dX1_init_13 : decode cX1_init 13 = .ok (.aload_n 1, 1) := by decide +kernel
theorem dX1_init_14 : decode cX1_init 14 = .ok (.putfield 15, 3) := by decide +kernel
theorem dX1_init_17 : decode cX1_init 17 = .ok (.aload_n 0, 1) := by decide +kernel
theorem dX1_init_18 : decode cX1_init 18 = .ok (.new 19, 3) := by decide +kernel
theorem dX1_init_21 : decode cX1_init 21 = .ok (.dup, 1) := by decide +kernel
theorem dX1_init_22 : decode cX1_init 22 = .ok (.aload_n 1, 1) := by decide +kernel
theorem dX1_init_23 : decode cX1_init 23 = .ok (.invokespecial 21, 3) := by decide +kernel
theorem dX1_init_26 : decode cX1_init 26 = .ok (.putfield 24, 3) := by decide +kernel
theorem dX1_init_29 : decode cX1_init 29 = .ok (.aload_n 0, 1) := by decide +kernel
theorem dX1_init_30 : decode cX1_init 30 = .ok (.new 19, 3) := by decide +kernel
theorem dX1_init_33 : decode cX1_init 33 = .ok (.dup, 1) := by decide +kernel
theorem dX1_init_34 : decode cX1_init 34 = .ok (.aload_n 1, 1) := by decide +kernel
theorem dX1_init_35 : decode cX1_init 35 = .ok (.invokespecial 21, 3) := by decide +kernel
theorem dX1_init_38 : decode cX1_init 38 = .ok (.putfield 28, 3) := by decide +kernel
theorem dX1_init_41 : decode cX1_init 41 = .ok (.return_, 1) := by decide +kernel
theorem dX1_give_0 : decode cX1_give 0 = .ok (.aload_n 0, 1) := by decide +kernel
theorem dX1_give_1 : decode cX1_give 1 = .ok (.getfield 9, 3) := by decide +kernel
theorem dX1_give_4 : decode cX1_give 4 = .ok (.iload_n 1, 1) := by decide +kernel
theorem dX1_give_5 : decode cX1_give 5 = .ok (.dup2, 1) := by decide +kernel
theorem dX1_give_6 : decode cX1_give 6 = .ok (.iaload, 1) := by decide +kernel
theorem dX1_give_7 : decode cX1_give 7 = .ok (.iload_n 2, 1) := by decide +kernel
theorem dX1_give_8 : decode cX1_give 8 = .ok (.aload_n 0, 1) := by decide +kernel
theorem dX1_give_9 : decode cX1_give 9 = .ok (.getfield 15, 3) := by decide +kernel
theorem dX1_give_12 : decode cX1_give 12 = .ok (.getfield 31, 3) := by decide +kernel
theorem dX1_give_15 : decode cX1_give 15 = .ok (.iload_n 1, 1) := by decide +kernel
theorem dX1_give_16 : decode cX1_give 16 = .ok (.iaload, 1) := by decide +kernel
theorem dX1_give_17 : decode cX1_give 17 = .ok (.imul, 1) := by decide +kernel
theorem dX1_give_18 : decode cX1_give 18 = .ok (.isub, 1) := by decide +kernel
theorem dX1_give_19 : decode cX1_give 19 = .ok (.iastore, 1) := by decide +kernel
theorem dX1_give_20 : decode cX1_give 20 = .ok (.iconst 0, 1) := by decide +kernel
theorem dX1_give_21 : decode cX1_give 21 = .ok (.istore_n 3, 1) := by decide +kernel
theorem dX1_give_22 : decode cX1_give 22 = .ok (.iload_n 3, 1) := by decide +kernel
theorem dX1_give_23 : decode cX1_give 23 = .ok (.bipush 7, 2) := by decide +kernel
theorem dX1_give_25 : decode cX1_give 25 = .ok (.if_icmp .ge 31, 3) := by decide +kernel
theorem dX1_give_28 : decode cX1_give 28 = .ok (.aload_n 0, 1) := by decide +kernel
theorem dX1_give_29 : decode cX1_give 29 = .ok (.getfield 9, 3) := by decide +kernel
theorem dX1_give_32 : decode cX1_give 32 = .ok (.iload_n 3, 1) := by decide +kernel
theorem dX1_give_33 : decode cX1_give 33 = .ok (.dup2, 1) := by decide +kernel
theorem dX1_give_34 : decode cX1_give 34 = .ok (.iaload, 1) := by decide +kernel
theorem dX1_give_35 : decode cX1_give 35 = .ok (.iload_n 2, 1) := by decide +kernel
theorem dX1_give_36 : decode cX1_give 36 = .ok (.aload_n 0, 1) := by decide +kernel
theorem dX1_give_37 : decode cX1_give 37 = .ok (.getfield 15, 3) := by decide +kernel
theorem dX1_give_40 : decode cX1_give 40 = .ok (.getfield 36, 3) := by decide +kernel
theorem dX1_give_43 : decode cX1_give 43 = .ok (.iload_n 1, 1) := by decide +kernel
theorem dX1_give_44 : decode cX1_give 44 = .ok (.aaload, 1) := by decide +kernel
theorem dX1_give_45 : decode cX1_give 45 = .ok (.iload_n 3, 1) := by decide +kernel
theorem dX1_give_46 : decode cX1_give 46 = .ok (.iaload, 1) := by decide +kernel
theorem dX1_give_47 : decode cX1_give 47 = .ok (.imul, 1) := by decide +kernel
theorem dX1_give_48 : decode cX1_give 48 = .ok (.iadd, 1) := by decide +kernel
theorem dX1_give_49 : decode cX1_give 49 = .ok (.iastore, 1) := by decide +kernel
theorem dX1_give_50 : decode cX1_give 50 = .ok (.iinc 3 1, 3) := by decide +kernel
theorem dX1_give_53 : decode cX1_give 53 = .ok (.goto (-31), 3) := by decide +kernel
theorem dX1_give_56 : decode cX1_give 56 = .ok (.return_, 1) := by decide +kernel
theorem dX1_allCoins_0 : decode cX1_allCoins 0 = .ok (.iconst 0, 1) := by decide +kernel
theorem dX1_allCoins_1 : decode cX1_allCoins 1 = .ok (.istore_n 1, 1) := by decide +kernel
theorem dX1_allCoins_2 : decode cX1_allCoins 2 = .ok (.iconst 0, 1) := by decide +kernel
theorem dX1_allCoins_3 : decode cX1_allCoins 3 = .ok (.istore_n 2, 1) := by decide +kernel
theorem dX1_allCoins_4 : decode cX1_allCoins 4 = .ok (.iload_n 2, 1) := by decide +kernel
theorem dX1_allCoins_5 : decode cX1_allCoins 5 = .ok (.bipush 7, 2) := by decide +kernel
theorem dX1_allCoins_7 : decode cX1_allCoins 7 = .ok (.if_icmp .ge 18, 3) := by decide +kernel
theorem dX1_allCoins_10 : decode cX1_allCoins 10 = .ok (.iload_n 1, 1) := by decide +kernel
theorem dX1_allCoins_11 : decode cX1_allCoins 11 = .ok (.aload_n 0, 1) := by decide +kernel
theorem dX1_allCoins_12 : decode cX1_allCoins 12 = .ok (.getfield 9, 3) := by decide +kernel
theorem dX1_allCoins_15 : decode cX1_allCoins 15 = .ok (.iload_n 2, 1) := by decide +kernel
theorem dX1_allCoins_16 : decode cX1_allCoins 16 = .ok (.iaload, 1) := by decide +kernel
theorem dX1_allCoins_17 : decode cX1_allCoins 17 = .ok (.iadd, 1) := by decide +kernel
theorem dX1_allCoins_18 : decode cX1_allCoins 18 = .ok (.istore_n 1, 1) := by decide +kernel
theorem dX1_allCoins_19 : decode cX1_allCoins 19 = .ok (.iinc 2 1, 3) := by decide +kernel
theorem dX1_allCoins_22 : decode cX1_allCoins 22 = .ok (.goto (-18), 3) := by decide +kernel
theorem dX1_allCoins_25 : decode cX1_allCoins 25 = .ok (.iload_n 1, 1) := by decide +kernel
theorem dX1_allCoins_26 : decode cX1_allCoins 26 = .ok (.ireturn, 1) := by decide +kernel
theorem dX1_debtors_0 : decode cX1_debtors 0 = .ok (.iconst 0, 1) := by decide +kernel
theorem dX1_debtors_1 : decode cX1_debtors 1 = .ok (.istore_n 1, 1) := by decide +kernel
theorem dX1_debtors_2 : decode cX1_debtors 2 = .ok (.iconst 0, 1) := by decide +kernel
theorem dX1_debtors_3 : decode cX1_debtors 3 = .ok (.istore_n 2, 1) := by decide +kernel
theorem dX1_debtors_4 : decode cX1_debtors 4 = .ok (.iload_n 2, 1) := by decide +kernel
theorem dX1_debtors_5 : decode cX1_debtors 5 = .ok (.bipush 7, 2) := by decide +kernel
theorem dX1_debtors_7 : decode cX1_debtors 7 = .ok (.if_icmp .ge 21, 3) := by decide +kernel
theorem dX1_debtors_10 : decode cX1_debtors 10 = .ok (.aload_n 0, 1) := by decide +kernel
theorem dX1_debtors_11 : decode cX1_debtors 11 = .ok (.getfield 9, 3) := by decide +kernel
theorem dX1_debtors_14 : decode cX1_debtors 14 = .ok (.iload_n 2, 1) := by decide +kernel
theorem dX1_debtors_15 : decode cX1_debtors 15 = .ok (.iaload, 1) := by decide +kernel
theorem dX1_debtors_16 : decode cX1_debtors 16 = .ok (.ifCond .ge 6, 3) := by decide +kernel
theorem dX1_debtors_19 : decode cX1_debtors 19 = .ok (.iinc 1 1, 3) := by decide +kernel
theorem dX1_debtors_22 : decode cX1_debtors 22 = .ok (.iinc 2 1, 3) := by decide +kernel
theorem dX1_debtors_25 : decode cX1_debtors 25 = .ok (.goto (-21), 3) := by decide +kernel
theorem dX1_debtors_28 : decode cX1_debtors 28 = .ok (.iload_n 1, 1) := by decide +kernel
theorem dX1_debtors_29 : decode cX1_debtors 29 = .ok (.ireturn, 1) := by decide +kernel
set_option maxRecDepth 20000 in
theorem ggX1_isPayable_X1_findLasting : GoodIn wsX1_isPayable wsX1_findLasting := goodIn_r _ [6, 7, 8, 1, 9, 10, 11, 12, 13, 14, 5, 15, 16, 17, 18, 19, 20, 21, 22, 23, 24, 25, 26, 27, 28, 29, 30, 31, 32, 33, 34, 35, 36, 37, 38, 39, 40, 41, 42, 43, 44, 45, 46, 47, 48, 57, 58, 59, 60, 61, 62, 63, 64, 65, 66, 67] (by decide +kernel) (by decide +kernel)
set_option maxRecDepth 20000 in
theorem gX1_isPayable_X1_findLasting : GoodIn wsX1_isPayable (wsV RX1 40 RX1 yX1_findLasting wsX1_findLasting) := goodIn_app (goodIn_of _ (by decide +kernel)) ggX1_isPayable_X1_findLasting
set_option maxRecDepth 20000 in
theorem ggX1_isPayable_X1_allCoins : GoodIn wsX1_isPayable wsX1_allCoins := goodIn_r _ [52, 10, 57, 58, 59, 60] (by decide +kernel) (by decide +kernel)
set_option maxRecDepth 20000 in
theorem gX1_isPayable_X1_allCoins : GoodIn wsX1_isPayable (wsV RX1 43 RX1 yX1_allCoins wsX1_allCoins) := goodIn_app (goodIn_of _ (by decide +kernel)) ggX1_isPayable_X1_allCoins
set_option maxRecDepth 20000 in
theorem ggX1_isPayable_X1_leastNeeded : GoodIn wsX1_isPayable wsX1_leastNeeded := goodIn_r _ [56, 7, 8, 16, 9, 57, 58, 59, 60, 61, 62, 63, 64, 65, 66, 67] (by decide +kernel) (by decide +kernel)
set_option maxRecDepth 20000 in
theorem gX1_isPayable_X1_leastNeeded : GoodIn wsX1_isPayable (wsV RX1 47 RX1 yX1_leastNeeded wsX1_leastNeeded) := goodIn_app (goodIn_of _ (by decide +kernel)) ggX1_isPayable_X1_leastNeeded
theorem dX1_isPayable_0 : decode cX1_isPayable 0 = .ok (.aload_n 0, 1) := by decide +kernel
theorem dX1_isPayable_1 : decode cX1_isPayable 1 = .ok (.invokevirtual 40, 3) := by decide +kernel
theorem dX1_isPayable_4 : decode cX1_isPayable 4 = .ok (.aload_n 0, 1) := by decide +kernel
theorem dX1_isPayable_5 : decode cX1_isPayable 5 = .ok (.invokevirtual 43, 3) := by decide +kernel
theorem dX1_isPayable_8 : decode cX1_isPayable 8 = .ok (.aload_n 0, 1) := by decide +kernel
theorem dX1_isPayable_9 : decode cX1_isPayable 9 = .ok (.aload_n 0, 1) := by decide +kernel
theorem dX1_isPayable_10 : decode cX1_isPayable 10 = .ok (.getfield 24, 3) := by decide +kernel
theorem dX1_isPayable_13 : decode cX1_isPayable 13 = .ok (.invokevirtual 47, 3) := by decide +kernel
theorem dX1_isPayable_16 : decode cX1_isPayable 16 = .ok (.if_icmp .lt 7, 3) := by decide +kernel
theorem dX1_isPayable_19 : decode cX1_isPayable 19 = .ok (.iconst 1, 1) := by decide +kernel
theorem dX1_isPayable_20 : decode cX1_isPayable 20 = .ok (.goto 4, 3) := by decide +kernel
theorem dX1_isPayable_23 : decode cX1_isPayable 23 = .ok (.iconst 0, 1) := by decide +kernel
theorem dX1_isPayable_24 : decode cX1_isPayable 24 = .ok (.ireturn, 1) := by decide +kernel
set_option maxRecDepth 20000 in
theorem ggX1_weakestNode_X1_findLasting : GoodIn wsX1_weakestNode wsX1_findLasting := goodIn_r _ [10, 1, 2, 4, 5, 11, 12, 13, 14, 15, 9, 16, 17, 18, 19, 20, 21, 22, 23, 24, 25, 26, 27, 28, 29, 30, 31, 32, 33, 34, 35, 36, 37, 38, 39, 40, 41, 42, 43, 44, 45, 46, 47, 48, 49, 66, 67, 68, 69, 70, 71, 72, 73, 74, 75, 76] (by decide +kernel) (by decide +kernel)
set_option maxRecDepth 20000 in
theorem gX1_weakestNode_X1_findLasting : GoodIn wsX1_weakestNode (wsV RX1 40 RX1 yX1_findLasting wsX1_findLasting) := goodIn_app (goodIn_of _ (by decide +kernel)) ggX1_weakestNode_X1_findLasting
set_option maxRecDepth 20000 in
theorem ggX1_weakestNode_X1_allCoins : GoodIn wsX1_weakestNode wsX1_allCoins := goodIn_r _ [53, 11, 66, 67, 68, 69] (by decide +kernel) (by decide +kernel)
set_option maxRecDepth 20000 in
theorem gX1_weakestNode_X1_allCoins : GoodIn wsX1_weakestNode (wsV RX1 43 RX1 yX1_allCoins wsX1_allCoins) := goodIn_app (goodIn_of _ (by decide +kernel)) ggX1_weakestNode_X1_allCoins
set_option maxRecDepth 20000 in
theorem ggX1_weakestNode_X0_copyRow : GoodIn wsX1_weakestNode wsX0_copyRow := goodIn_r _ [57, 36, 58, 59, 60, 61, 74, 75, 76] (by decide +kernel) (by decide +kernel)
set_option maxRecDepth 20000 in
theorem gX1_weakestNode_X0_copyRow : GoodIn wsX1_weakestNode (wsV RX1 58 RX0 yX0_copyRow wsX0_copyRow) := goodIn_app (goodIn_of _ (by decide +kernel)) ggX1_weakestNode_X0_copyRow
set_option maxRecDepth 20000 in
theorem ggX1_weakestNode_X0_roll : GoodIn wsX1_weakestNode wsX0_roll := goodIn_r _ [22, 23, 24, 25, 26, 27, 28, 29, 30, 31, 21, 32, 33, 34, 35, 36, 37, 38, 39, 40, 41, 74, 75, 76, 70, 71, 72, 73] (by decide +kernel) (by decide +kernel)
set_option maxRecDepth 20000 in
theorem gX1_weakestNode_X0_roll : GoodIn wsX1_weakestNode (wsV RX1 62 RX0 yX0_roll wsX0_roll) := goodIn_app (goodIn_of _ (by decide +kernel)) ggX1_weakestNode_X0_roll
set_option maxRecDepth 20000 in
theorem ggX1_weakestNode_X1_leastNeeded : GoodIn wsX1_weakestNode wsX1_leastNeeded := goodIn_r _ [65, 1, 2, 17, 5, 66, 67, 68, 69, 70, 71, 72, 73, 74, 75, 76] (by decide +kernel) (by decide +kernel)
set_option maxRecDepth 20000 in
theorem gX1_weakestNode_X1_leastNeeded : GoodIn wsX1_weakestNode (wsV RX1 47 RX1 yX1_leastNeeded wsX1_leastNeeded) := goodIn_app (goodIn_of _ (by decide +kernel)) ggX1_weakestNode_X1_leastNeeded
theorem dX1_weakestNode_0 : decode cX1_weakestNode 0 = .ok (.aload_n 0, 1) := by decide +kernel
theorem dX1_weakestNode_1 : decode cX1_weakestNode 1 = .ok (.invokevirtual 40, 3) := by decide +kernel
theorem dX1_weakestNode_4 : decode cX1_weakestNode 4 = .ok (.aload_n 0, 1) := by decide +kernel
theorem dX1_weakestNode_5 : decode cX1_weakestNode 5 = .ok (.invokevirtual 43, 3) := by decide +kernel
theorem dX1_weakestNode_8 : decode cX1_weakestNode 8 = .ok (.iconst 1, 1) := by decide +kernel
theorem dX1_weakestNode_9 : decode cX1_weakestNode 9 = .ok (.isub, 1) := by decide +kernel
theorem dX1_weakestNode_10 : decode cX1_weakestNode 10 = .ok (.istore_n 1, 1) := by decide +kernel
theorem dX1_weakestNode_11 : decode cX1_weakestNode 11 = .ok (.iconst 0, 1) := by decide +kernel
theorem dX1_weakestNode_12 : decode cX1_weakestNode 12 = .ok (.istore_n 2, 1) := by decide +kernel
theorem dX1_weakestNode_13 : decode cX1_weakestNode 13 = .ok (.iload_n 2, 1) := by decide +kernel
theorem dX1_weakestNode_14 : decode cX1_weakestNode 14 = .ok (.aload_n 0, 1) := by decide +kernel
theorem dX1_weakestNode_15 : decode cX1_weakestNode 15 = .ok (.getfield 15, 3) := by decide +kernel
theorem dX1_weakestNode_18 : decode cX1_weakestNode 18 = .ok (.getfield 51, 3) := by decide +kernel
theorem dX1_weakestNode_21 : decode cX1_weakestNode 21 = .ok (.if_icmp .ge 57, 3) := by decide +kernel
theorem dX1_weakestNode_24 : decode cX1_weakestNode 24 = .ok (.aload_n 0, 1) := by decide +kernel
theorem dX1_weakestNode_25 : decode cX1_weakestNode 25 = .ok (.getfield 28, 3) := by decide +kernel
theorem dX1_weakestNode_28 : decode cX1_weakestNode 28 = .ok (.aload_n 0, 1) := by decide +kernel
theorem dX1_weakestNode_29 : decode cX1_weakestNode 29 = .ok (.getfield 24, 3) := by decide +kernel
theorem dX1_weakestNode_32 : decode cX1_weakestNode 32 = .ok (.getfield 55, 3) := by decide +kernel
theorem dX1_weakestNode_35 : decode cX1_weakestNode 35 = .ok (.invokevirtual 58, 3) := by decide +kernel
theorem dX1_weakestNode_38 : decode cX1_weakestNode 38 = .ok (.aload_n 0, 1) := by decide +kernel
theorem dX1_weakestNode_39 : decode cX1_weakestNode 39 = .ok (.getfield 28, 3) := by decide +kernel
theorem dX1_weakestNode_42 : decode cX1_weakestNode 42 = .ok (.getfield 55, 3) := by decide +kernel
theorem dX1_weakestNode_45 : decode cX1_weakestNode 45 = .ok (.iload_n 2, 1) := by decide +kernel
theorem dX1_weakestNode_46 : decode cX1_weakestNode 46 = .ok (.dup2, 1) := by decide +kernel
theorem dX1_weakestNode_47 : decode cX1_weakestNode 47 = .ok (.iaload, 1) := by decide +kernel
theorem dX1_weakestNode_48 : decode cX1_weakestNode 48 = .ok (.iconst 1, 1) := by decide +kernel
theorem dX1_weakestNode_49 : decode cX1_weakestNode 49 = .ok (.iadd, 1) := by decide +kernel
theorem dX1_weakestNode_50 : decode cX1_weakestNode 50 = .ok (.iastore, 1) := by decide +kernel
theorem dX1_weakestNode_51 : decode cX1_weakestNode 51 = .ok (.aload_n 0, 1) := by decide +kernel
theorem dX1_weakestNode_52 : decode cX1_weakestNode 52 = .ok (.getfield 28, 3) := by decide +kernel
theorem dX1_weakestNode_55 : decode cX1_weakestNode 55 = .ok (.invokevirtual 62, 3) := by decide +kernel
theorem dX1_weakestNode_58 : decode cX1_weakestNode 58 = .ok (.iload_n 1, 1) := by decide +kernel
theorem dX1_weakestNode_59 : decode cX1_weakestNode 59 = .ok (.aload_n 0, 1) := by decide +kernel
theorem dX1_weakestNode_60 : decode cX1_weakestNode 60 = .ok (.aload_n 0, 1) := by decide +kernel
theorem dX1_weakestNode_61 : decode cX1_weakestNode 61 = .ok (.getfield 28, 3) := by decide +kernel
theorem dX1_weakestNode_64 : decode cX1_weakestNode 64 = .ok (.invokevirtual 47, 3) := by decide +kernel
theorem dX1_weakestNode_67 : decode cX1_weakestNode 67 = .ok (.if_icmp .ge 5, 3) := by decide +kernel
theorem dX1_weakestNode_70 : decode cX1_weakestNode 70 = .ok (.iload_n 2, 1) := by decide +kernel
theorem dX1_weakestNode_71 : decode cX1_weakestNode 71 = .ok (.ireturn, 1) := by decide +kernel
theorem dX1_weakestNode_72 : decode cX1_weakestNode 72 = .ok (.iinc 2 1, 3) := by decide +kernel
theorem dX1_weakestNode_75 : decode cX1_weakestNode 75 = .ok (.goto (-62), 3) := by decide +kernel
theorem dX1_weakestNode_78 : decode cX1_weakestNode 78 = .ok (.iload_n 1, 1) := by decide +kernel
theorem dX1_weakestNode_79 : decode cX1_weakestNode 79 = .ok (.aload_n 0, 1) := by decide +kernel
theorem dX1_weakestNode_80 : decode cX1_weakestNode 80 = .ok (.aload_n 0, 1) := by decide +kernel
theorem dX1_weakestNode_81 : decode cX1_weakestNode 81 = .ok (.getfield 24, 3) := by decide +kernel
theorem dX1_weakestNode_84 : decode cX1_weakestNode 84 = .ok (.invokevirtual 47, 3) := by decide +kernel
theorem dX1_weakestNode_87 : decode cX1_weakestNode 87 = .ok (.if_icmp .ge 8, 3) := by decide +kernel
theorem dX1_weakestNode_90 : decode cX1_weakestNode 90 = .ok (.bipush 6, 2) := by decide +kernel
theorem dX1_weakestNode_92 : decode cX1_weakestNode 92 = .ok (.goto 4, 3) := by decide +kernel
theorem dX1_weakestNode_95 : decode cX1_weakestNode 95 = .ok (.iconst (-1), 1) := by decide +kernel
theorem dX1_weakestNode_96 : decode cX1_weakestNode 96 = .ok (.ireturn, 1) := by decide +kernel
set_option maxRecDepth 20000 in
theorem ggX1_findLasting_X1_readOtherWay : GoodIn wsX1_findLasting wsX1_readOtherWay := goodIn_r _ [11, 1, 2, 3, 4, 12, 45, 46, 47, 48, 49, 50, 51, 52, 53, 54, 55] (by decide +kernel) (by decide +kernel)
set_option maxRecDepth 20000 in
theorem gX1_findLasting_X1_readOtherWay : GoodIn wsX1_findLasting (wsV RX1 65 RX1 yX1_readOtherWay wsX1_readOtherWay) := goodIn_app (goodIn_of _ (by decide +kernel)) ggX1_findLasting_X1_readOtherWay
set_option maxRecDepth 20000 in
theorem ggX1_findLasting_X0_roll : GoodIn wsX1_findLasting wsX0_roll := goodIn_r _ [17, 18, 19, 20, 21, 22, 23, 24, 25, 26, 16, 27, 28, 29, 30, 31, 32, 33, 34, 35, 36, 53, 54, 55, 49, 50, 51, 52] (by decide +kernel) (by decide +kernel)
set_option maxRecDepth 20000 in
theorem gX1_findLasting_X0_roll : GoodIn wsX1_findLasting (wsV RX1 62 RX0 yX0_roll wsX0_roll) := goodIn_app (goodIn_of _ (by decide +kernel)) ggX1_findLasting_X0_roll
set_option maxRecDepth 20000 in
theorem ggX1_findLasting_X0_addFromSink : GoodIn wsX1_findLasting wsX0_addFromSink := goodIn_r _ [40, 28, 29, 31, 36, 53, 54, 55, 49, 50, 51, 52] (by decide +kernel) (by decide +kernel)
set_option maxRecDepth 20000 in
theorem gX1_findLasting_X0_addFromSink : GoodIn wsX1_findLasting (wsV RX1 69 RX0 yX0_addFromSink wsX0_addFromSink) := goodIn_app (goodIn_of _ (by decide +kernel)) ggX1_findLasting_X0_addFromSink
set_option maxRecDepth 20000 in
theorem ggX1_findLasting_X0_hasEachToppledOnce : GoodIn wsX1_findLasting wsX0_hasEachToppledOnce := goodIn_r _ [44, 28, 29, 18, 53, 54, 55, 49, 50, 51, 52] (by decide +kernel) (by decide +kernel)
set_option maxRecDepth 20000 in
theorem gX1_findLasting_X0_hasEachToppledOnce : GoodIn wsX1_findLasting (wsV RX1 72 RX0 yX0_hasEachToppledOnce wsX0_hasEachToppledOnce) := goodIn_app (goodIn_of _ (by decide +kernel)) ggX1_findLasting_X0_hasEachToppledOnce
theorem dX1_findLasting_0 : decode cX1_findLasting 0 = .ok (.iconst 0, 1) := by decide +kernel
theorem dX1_findLasting_1 : decode cX1_findLasting 1 = .ok (.istore_n 1, 1) := by decide +kernel
theorem dX1_findLasting_2 : decode cX1_findLasting 2 = .ok (.iload_n 1, 1) := by decide +kernel
theorem dX1_findLasting_3 : decode cX1_findLasting 3 = .ok (.aload_n 0, 1) := by decide +kernel
theorem dX1_findLasting_4 : decode cX1_findLasting 4 = .ok (.getfield 15, 3) := by decide +kernel
theorem dX1_findLasting_7 : decode cX1_findLasting 7 = .ok (.getfield 51, 3) := by decide +kernel
theorem dX1_findLasting_10 : decode cX1_findLasting 10 = .ok (.if_icmp .ge 24, 3) := by decide +kernel
theorem dX1_findLasting_13 : decode cX1_findLasting 13 = .ok (.aload_n 0, 1) := by decide +kernel
theorem dX1_findLasting_14 : decode cX1_findLasting 14 = .ok (.getfield 24, 3) := by decide +kernel
theorem dX1_findLasting_17 : decode cX1_findLasting 17 = .ok (.getfield 55, 3) := by decide +kernel
theorem dX1_findLasting_20 : decode cX1_findLasting 20 = .ok (.iload_n 1, 1) := by decide +kernel
theorem dX1_findLasting_21 : decode cX1_findLasting 21 = .ok (.aload_n 0, 1) := by decide +kernel
theorem dX1_findLasting_22 : decode cX1_findLasting 22 = .ok (.getfield 9, 3) := by decide +kernel
theorem dX1_findLasting_25 : decode cX1_findLasting 25 = .ok (.iload_n 1, 1) := by decide +kernel
theorem dX1_findLasting_26 : decode cX1_findLasting 26 = .ok (.iaload, 1) := by decide +kernel
theorem dX1_findLasting_27 : decode cX1_findLasting 27 = .ok (.iastore, 1) := by decide +kernel
theorem dX1_findLasting_28 : decode cX1_findLasting 28 = .ok (.iinc 1 1, 3) := by decide +kernel
theorem dX1_findLasting_31 : decode cX1_findLasting 31 = .ok (.goto (-29), 3) := by decide +kernel
theorem dX1_findLasting_34 : decode cX1_findLasting 34 = .ok (.aload_n 0, 1) := by decide +kernel
theorem dX1_findLasting_35 : decode cX1_findLasting 35 = .ok (.invokevirtual 65, 3) := by decide +kernel
theorem dX1_findLasting_38 : decode cX1_findLasting 38 = .ok (.aload_n 0, 1) := by decide +kernel
theorem dX1_findLasting_39 : decode cX1_findLasting 39 = .ok (.getfield 24, 3) := by decide +kernel
theorem dX1_findLasting_42 : decode cX1_findLasting 42 = .ok (.invokevirtual 62, 3) := by decide +kernel
theorem dX1_findLasting_45 : decode cX1_findLasting 45 = .ok (.aload_n 0, 1) := by decide +kernel
theorem dX1_findLasting_46 : decode cX1_findLasting 46 = .ok (.invokevirtual 65, 3) := by decide +kernel
theorem dX1_findLasting_49 : decode cX1_findLasting 49 = .ok (.aload_n 0, 1) := by decide +kernel
theorem dX1_findLasting_50 : decode cX1_findLasting 50 = .ok (.getfield 24, 3) := by decide +kernel
theorem dX1_findLasting_53 : decode cX1_findLasting 53 = .ok (.invokevirtual 62, 3) := by decide +kernel
theorem dX1_findLasting_56 : decode cX1_findLasting 56 = .ok (.aload_n 0, 1) := by decide +kernel
theorem dX1_findLasting_57 : decode cX1_findLasting 57 = .ok (.invokevirtual 65, 3) := by decide +kernel
theorem dX1_findLasting_60 : decode cX1_findLasting 60 = .ok (.iconst 0, 1) := by decide +kernel
theorem dX1_findLasting_61 : decode cX1_findLasting 61 = .ok (.istore_n 1, 1) := by decide +kernel
theorem dX1_findLasting_62 : decode cX1_findLasting 62 = .ok (.iconst 0, 1) := by decide +kernel
theorem dX1_findLasting_63 : decode cX1_findLasting 63 = .ok (.istore_n 2, 1) := by decide +kernel
theorem dX1_findLasting_64 : decode cX1_findLasting 64 = .ok (.iload_n 1, 1) := by decide +kernel
theorem dX1_findLasting_65 : decode cX1_findLasting 65 = .ok (.ifCond .ne 37, 3) := by decide +kernel
theorem dX1_findLasting_68 : decode cX1_findLasting 68 = .ok (.iload_n 2, 1) := by decide +kernel
theorem dX1_findLasting_69 : decode cX1_findLasting 69 = .ok (.ldc 68, 2) := by decide +kernel
theorem dX1_findLasting_71 : decode cX1_findLasting 71 = .ok (.if_icmp .ge 31, 3) := by decide +kernel
theorem dX1_findLasting_74 : decode cX1_findLasting 74 = .ok (.aload_n 0, 1) := by decide +kernel
theorem dX1_findLasting_75 : decode cX1_findLasting 75 = .ok (.getfield 24, 3) := by decide +kernel
theorem dX1_findLasting_78 : decode cX1_findLasting 78 = .ok (.invokevirtual 69, 3) := by decide +kernel
theorem dX1_findLasting_81 : decode cX1_findLasting 81 = .ok (.aload_n 0, 1) := by decide +kernel
theorem dX1_findLasting_82 : decode cX1_findLasting 82 = .ok (.getfield 24, 3) := by decide +kernel
theorem dX1_findLasting_85 : decode cX1_findLasting 85 = .ok (.invokevirtual 62, 3) := by decide +kernel
theorem dX1_findLasting_88 : decode cX1_findLasting 88 = .ok (.aload_n 0, 1) := by decide +kernel
theorem dX1_findLasting_89 : decode cX1_findLasting 89 = .ok (.getfield 24, 3) := by decide +kernel
theorem dX1_findLasting_92 : decode cX1_findLasting 92 = .ok (.invokevirtual 72, 3) := by decide +kernel
theorem dX1_findLasting_95 : decode cX1_findLasting 95 = .ok (.istore_n 1, 1) := by decide +kernel
theorem dX1_findLasting_96 : decode cX1_findLasting 96 = .ok (.iinc 2 1, 3) := by decide +kernel
theorem dX1_findLasting_99 : decode cX1_findLasting 99 = .ok (.goto (-35), 3) := by decide +kernel
theorem dX1_findLasting_102 : decode cX1_findLasting 102 = .ok (.return_, 1) := by decide +kernel
theorem dX1_readOtherWay_0 : decode cX1_readOtherWay 0 = .ok (.iconst 0, 1) := by decide +kernel
theorem dX1_readOtherWay_1 : decode cX1_readOtherWay 1 = .ok (.istore_n 1, 1) := by decide +kernel
theorem dX1_readOtherWay_2 : decode cX1_readOtherWay 2 = .ok (.iload_n 1, 1) := by decide +kernel
theorem dX1_readOtherWay_3 : decode cX1_readOtherWay 3 = .ok (.aload_n 0, 1) := by decide +kernel
theorem dX1_readOtherWay_4 : decode cX1_readOtherWay 4 = .ok (.getfield 15, 3) := by decide +kernel
theorem dX1_readOtherWay_7 : decode cX1_readOtherWay 7 = .ok (.getfield 51, 3) := by decide +kernel
theorem dX1_readOtherWay_10 : decode cX1_readOtherWay 10 = .ok (.if_icmp .ge 39, 3) := by decide +kernel
theorem dX1_readOtherWay_13 : decode cX1_readOtherWay 13 = .ok (.aload_n 0, 1) := by decide +kernel
theorem dX1_readOtherWay_14 : decode cX1_readOtherWay 14 = .ok (.getfield 24, 3) := by decide +kernel
theorem dX1_readOtherWay_17 : decode cX1_readOtherWay 17 = .ok (.getfield 55, 3) := by decide +kernel
theorem dX1_readOtherWay_20 : decode cX1_readOtherWay 20 = .ok (.iload_n 1, 1) := by decide +kernel
theorem dX1_readOtherWay_21 : decode cX1_readOtherWay 21 = .ok (.aload_n 0, 1) := by decide +kernel
theorem dX1_readOtherWay_22 : decode cX1_readOtherWay 22 = .ok (.getfield 15, 3) := by decide +kernel
theorem dX1_readOtherWay_25 : decode cX1_readOtherWay 25 = .ok (.getfield 31, 3) := by decide +kernel
theorem dX1_readOtherWay_28 : decode cX1_readOtherWay 28 = .ok (.iload_n 1, 1) := by decide +kernel
theorem dX1_readOtherWay_29 : decode cX1_readOtherWay 29 = .ok (.iaload, 1) := by decide +kernel
theorem dX1_readOtherWay_30 : decode cX1_readOtherWay 30 = .ok (.iconst 1, 1) := by decide +kernel
theorem dX1_readOtherWay_31 : decode cX1_readOtherWay 31 = .ok (.isub, 1) := by decide +kernel
theorem dX1_readOtherWay_32 : decode cX1_readOtherWay 32 = .ok (.aload_n 0, 1) := by decide +kernel
theorem dX1_readOtherWay_33 : decode cX1_readOtherWay 33 = .ok (.getfield 24, 3) := by decide +kernel
theorem dX1_readOtherWay_36 : decode cX1_readOtherWay 36 = .ok (.getfield 55, 3) := by decide +kernel
theorem dX1_readOtherWay_39 : decode cX1_readOtherWay 39 = .ok (.iload_n 1, 1) := by decide +kernel
theorem dX1_readOtherWay_40 : decode cX1_readOtherWay 40 = .ok (.iaload, 1) := by decide +kernel
theorem dX1_readOtherWay_41 : decode cX1_readOtherWay 41 = .ok (.isub, 1) := by decide +kernel
theorem dX1_readOtherWay_42 : decode cX1_readOtherWay 42 = .ok (.iastore, 1) := by decide +kernel
theorem dX1_readOtherWay_43 : decode cX1_readOtherWay 43 = .ok (.iinc 1 1, 3) := by decide +kernel
theorem dX1_readOtherWay_46 : decode cX1_readOtherWay 46 = .ok (.goto (-44), 3) := by decide +kernel
theorem dX1_readOtherWay_49 : decode cX1_readOtherWay 49 = .ok (.return_, 1) := by decide +kernel
theorem dX1_leastNeeded_0 : decode cX1_leastNeeded 0 = .ok (.iconst 0, 1) := by decide +kernel
theorem dX1_leastNeeded_1 : decode cX1_leastNeeded 1 = .ok (.istore_n 2, 1) := by decide +kernel
theorem dX1_leastNeeded_2 : decode cX1_leastNeeded 2 = .ok (.iconst 0, 1) := by decide +kernel
theorem dX1_leastNeeded_3 : decode cX1_leastNeeded 3 = .ok (.istore_n 3, 1) := by decide +kernel
theorem dX1_leastNeeded_4 : decode cX1_leastNeeded 4 = .ok (.iload_n 3, 1) := by decide +kernel
theorem dX1_leastNeeded_5 : decode cX1_leastNeeded 5 = .ok (.aload_n 0, 1) := by decide +kernel
theorem dX1_leastNeeded_6 : decode cX1_leastNeeded 6 = .ok (.getfield 15, 3) := by decide +kernel
theorem dX1_leastNeeded_9 : decode cX1_leastNeeded 9 = .ok (.getfield 51, 3) := by decide +kernel
theorem dX1_leastNeeded_12 : decode cX1_leastNeeded 12 = .ok (.if_icmp .ge 30, 3) := by decide +kernel
theorem dX1_leastNeeded_15 : decode cX1_leastNeeded 15 = .ok (.iload_n 2, 1) := by decide +kernel
theorem dX1_leastNeeded_16 : decode cX1_leastNeeded 16 = .ok (.aload_n 0, 1) := by decide +kernel
theorem dX1_leastNeeded_17 : decode cX1_leastNeeded 17 = .ok (.getfield 15, 3) := by decide +kernel
theorem dX1_leastNeeded_20 : decode cX1_leastNeeded 20 = .ok (.getfield 31, 3) := by decide +kernel
theorem dX1_leastNeeded_23 : decode cX1_leastNeeded 23 = .ok (.iload_n 3, 1) := by decide +kernel
theorem dX1_leastNeeded_24 : decode cX1_leastNeeded 24 = .ok (.iaload, 1) := by decide +kernel
theorem dX1_leastNeeded_25 : decode cX1_leastNeeded 25 = .ok (.iconst 1, 1) := by decide +kernel
theorem dX1_leastNeeded_26 : decode cX1_leastNeeded 26 = .ok (.isub, 1) := by decide +kernel
theorem dX1_leastNeeded_27 : decode cX1_leastNeeded 27 = .ok (.aload_n 1, 1) := by decide +kernel
theorem dX1_leastNeeded_28 : decode cX1_leastNeeded 28 = .ok (.getfield 55, 3) := by decide +kernel
theorem dX1_leastNeeded_31 : decode cX1_leastNeeded 31 = .ok (.iload_n 3, 1) := by decide +kernel
theorem dX1_leastNeeded_32 : decode cX1_leastNeeded 32 = .ok (.iaload, 1) := by decide +kernel
theorem dX1_leastNeeded_33 : decode cX1_leastNeeded 33 = .ok (.isub, 1) := by decide +kernel
theorem dX1_leastNeeded_34 : decode cX1_leastNeeded 34 = .ok (.iadd, 1) := by decide +kernel
theorem dX1_leastNeeded_35 : decode cX1_leastNeeded 35 = .ok (.istore_n 2, 1) := by decide +kernel
theorem dX1_leastNeeded_36 : decode cX1_leastNeeded 36 = .ok (.iinc 3 1, 3) := by decide +kernel
theorem dX1_leastNeeded_39 : decode cX1_leastNeeded 39 = .ok (.goto (-35), 3) := by decide +kernel
theorem dX1_leastNeeded_42 : decode cX1_leastNeeded 42 = .ok (.iload_n 2, 1) := by decide +kernel
theorem dX1_leastNeeded_43 : decode cX1_leastNeeded 43 = .ok (.ireturn, 1) := by decide +kernel
theorem dX2_init_0 : decode cX2_init 0 = .ok (.aload_n 0, 1) := by decide +kernel
theorem dX2_init_1 : decode cX2_init 1 = .ok (.invokespecial 3, 3) := by decide +kernel
theorem dX2_init_4 : decode cX2_init 4 = .ok (.aload_n 0, 1) := by decide +kernel
theorem dX2_init_5 : decode cX2_init 5 = .ok (.bipush 7, 2) := by decide +kernel
theorem dX2_init_7 : decode cX2_init 7 = .ok (.bipush 7, 2) := by decide +kernel
theorem dX2_init_9 : decode cX2_init 9 = .ok (.multianewarray 9 2, 4) := by decide +kernel
theorem dX2_init_13 : decode cX2_init 13 = .ok (.putfield 11, 3) := by decide +kernel
theorem dX2_init_16 : decode cX2_init 16 = .ok (.aload_n 0, 1) := by decide +kernel
theorem dX2_init_17 : decode cX2_init 17 = .ok (.bipush 7, 2) := by decide +kernel
theorem dX2_init_19 : decode cX2_init 19 = .ok (.newarray .int, 2) := by decide +kernel
theorem dX2_init_21 : decode cX2_init 21 = .ok (.putfield 16, 3) := by decide +kernel
theorem dX2_init_24 : decode cX2_init 24 = .ok (.aload_n 0, 1) := by decide +kernel
theorem dX2_init_25 : decode cX2_init 25 = .ok (.bipush 6, 2) := by decide +kernel
theorem dX2_init_27 : decode cX2_init 27 = .ok (.bipush 6, 2) := by decide +kernel
theorem dX2_init_29 : decode cX2_init 29 = .ok (.multianewarray 20 2, 4) := by decide +kernel
theorem dX2_init_33 : decode cX2_init 33 = .ok (.putfield 22, 3) := by decide +kernel
theorem dX2_init_36 : decode cX2_init 36 = .ok (.return_, 1) := by decide +kernel
theorem dX2_isSpot_0 : decode cX2_isSpot 0 = .ok (.iload_n 1, 1) := by decide +kernel
theorem dX2_isSpot_1 : decode cX2_isSpot 1 = .ok (.ifCond .lt 15, 3) := by decide +kernel
theorem dX2_isSpot_4 : decode cX2_isSpot 4 = .ok (.iload_n 1, 1) := by decide +kernel
theorem dX2_isSpot_5 : decode cX2_isSpot 5 = .ok (.aload_n 0, 1) := by decide +kernel
theorem dX2_isSpot_6 : decode cX2_isSpot 6 = .ok (.getfield 25, 3) := by decide +kernel
theorem dX2_isSpot_9 : decode cX2_isSpot 9 = .ok (.if_icmp .ge 7, 3) := by decide +kernel
theorem dX2_isSpot_12 : decode cX2_isSpot 12 = .ok (.iconst 1, 1) := by decide +kernel
theorem dX2_isSpot_13 : decode cX2_isSpot 13 = .ok (.goto 4, 3) := by decide +kernel
theorem dX2_isSpot_16 : decode cX2_isSpot 16 = .ok (.iconst 0, 1) := by decide +kernel
theorem dX2_isSpot_17 : decode cX2_isSpot 17 = .ok (.ireturn, 1) := by decide +kernel
set_option maxRecDepth 20000 in
theorem ggX2_isNode_X2_isSpot : GoodIn wsX2_isNode wsX2_isSpot := goodIn_r _ [5, 6, 7, 8, 9, 10] (by decide +kernel) (by decide +kernel)
set_option maxRecDepth 20000 in
theorem gX2_isNode_X2_isSpot : GoodIn wsX2_isNode (wsV RX2 29 RX2 yX2_isSpot wsX2_isSpot) := goodIn_app (goodIn_of _ (by decide +kernel)) ggX2_isNode_X2_isSpot
theorem dX2_isNode_0 : decode cX2_isNode 0 = .ok (.iload_n 1, 1) := by decide +kernel
theorem dX2_isNode_1 : decode cX2_isNode 1 = .ok (.bipush 6, 2) := by decide +kernel
theorem dX2_isNode_3 : decode cX2_isNode 3 = .ok (.if_icmp .eq 11, 3) := by decide +kernel
theorem dX2_isNode_6 : decode cX2_isNode 6 = .ok (.aload_n 0, 1) := by decide +kernel
theorem dX2_isNode_7 : decode cX2_isNode 7 = .ok (.iload_n 1, 1) := by decide +kernel
theorem dX2_isNode_8 : decode cX2_isNode 8 = .ok (.invokevirtual 29, 3) := by decide +kernel
theorem dX2_isNode_11 : decode cX2_isNode 11 = .ok (.ifCond .eq 7, 3) := by decide +kernel
theorem dX2_isNode_14 : decode cX2_isNode 14 = .ok (.iconst 1, 1) := by decide +kernel
theorem dX2_isNode_15 : decode cX2_isNode 15 = .ok (.goto 4, 3) := by decide +kernel
theorem dX2_isNode_18 : decode cX2_isNode 18 = .ok (.iconst 0, 1) := by decide +kernel
theorem dX2_isNode_19 : decode cX2_isNode 19 = .ok (.ireturn, 1) := by decide +kernel
theorem dX2_lay_0 : decode cX2_lay 0 = .ok (.iload_n 3, 1) := by decide +kernel
theorem dX2_lay_1 : decode cX2_lay 1 = .ok (.aload_n 0, 1) := by decide +kernel
theorem dX2_lay_2 : decode cX2_lay 2 = .ok (.getfield 11, 3) := by decide +kernel
theorem dX2_lay_5 : decode cX2_lay 5 = .ok (.iload_n 1, 1) := by decide +kernel
theorem dX2_lay_6 : decode cX2_lay 6 = .ok (.aaload, 1) := by decide +kernel
theorem dX2_lay_7 : decode cX2_lay 7 = .ok (.iload_n 2, 1) := by decide +kernel
theorem dX2_lay_8 : decode cX2_lay 8 = .ok (.iaload, 1) := by decide +kernel
theorem dX2_lay_9 : decode cX2_lay 9 = .ok (.isub, 1) := by decide +kernel
theorem dX2_lay_10 : decode cX2_lay 10 = .ok (.istore 4, 2) := by decide +kernel
theorem dX2_lay_12 : decode cX2_lay 12 = .ok (.aload_n 0, 1) := by decide +kernel
theorem dX2_lay_13 : decode cX2_lay 13 = .ok (.getfield 11, 3) := by decide +kernel
theorem dX2_lay_16 : decode cX2_lay 16 = .ok (.iload_n 1, 1) := by decide +kernel
theorem dX2_lay_17 : decode cX2_lay 17 = .ok (.aaload, 1) := by decide +kernel
theorem dX2_lay_18 : decode cX2_lay 18 = .ok (.iload_n 2, 1) := by decide +kernel
theorem dX2_lay_19 : decode cX2_lay 19 = .ok (.iload_n 3, 1) := by decide +kernel
theorem dX2_lay_20 : decode cX2_lay 20 = .ok (.iastore, 1) := by decide +kernel
theorem dX2_lay_21 : decode cX2_lay 21 = .ok (.aload_n 0, 1) := by decide +kernel
theorem dX2_lay_22 : decode cX2_lay 22 = .ok (.getfield 11, 3) := by decide +kernel
theorem dX2_lay_25 : decode cX2_lay 25 = .ok (.iload_n 2, 1) := by decide +kernel
theorem dX2_lay_26 : decode cX2_lay 26 = .ok (.aaload, 1) := by decide +kernel
theorem dX2_lay_27 : decode cX2_lay 27 = .ok (.iload_n 1, 1) := by decide +kernel
theorem dX2_lay_28 : decode cX2_lay 28 = .ok (.iload_n 3, 1) := by decide +kernel
theorem dX2_lay_29 : decode cX2_lay 29 = .ok (.iastore, 1) := by decide +kernel
theorem dX2_lay_30 : decode cX2_lay 30 = .ok (.aload_n 0, 1) := by decide +kernel
theorem dX2_lay_31 : decode cX2_lay 31 = .ok (.getfield 16, 3) := by decide +kernel
theorem dX2_lay_34 : decode cX2_lay 34 = .ok (.iload_n 1, 1) := by decide +kernel
theorem dX2_lay_35 : decode cX2_lay 35 = .ok (.dup2, 1) := by decide +kernel
theorem dX2_lay_36 : decode cX2_lay 36 = .ok (.iaload, 1) := by decide +kernel
theorem dX2_lay_37 : decode cX2_lay 37 = .ok (.iload 4, 2) := by decide +kernel
theorem dX2_lay_39 : decode cX2_lay 39 = .ok (.iadd, 1) := by decide +kernel
theorem dX2_lay_40 : decode cX2_lay 40 = .ok (.iastore, 1) := by decide +kernel
theorem dX2_lay_41 : decode cX2_lay 41 = .ok (.aload_n 0, 1) := by decide +kernel
theorem dX2_lay_42 : decode cX2_lay 42 = .ok (.getfield 16, 3) := by decide +kernel
theorem dX2_lay_45 : decode cX2_lay 45 = .ok (.iload_n 2, 1) := by decide +kernel
theorem dX2_lay_46 : decode cX2_lay 46 = .ok (.dup2, 1) := by decide +kernel
theorem dX2_lay_47 : decode cX2_lay 47 = .ok (.iaload, 1) := by decide +kernel
theorem dX2_lay_48 : decode cX2_lay 48 = .ok (.iload 4, 2) := by decide +kernel
theorem dX2_lay_50 : decode cX2_lay 50 = .ok (.iadd, 1) := by decide +kernel
theorem dX2_lay_51 : decode cX2_lay 51 = .ok (.iastore, 1) := by decide +kernel
theorem dX2_lay_52 : decode cX2_lay 52 = .ok (.return_, 1) := by decide +kernel
theorem dX2_allEdges_0 : decode cX2_allEdges 0 = .ok (.iconst 0, 1) := by decide +kernel
theorem dX2_allEdges_1 : decode cX2_allEdges 1 = .ok (.istore_n 1, 1) := by decide +kernel
theorem dX2_allEdges_2 : decode cX2_allEdges 2 = .ok (.iconst 0, 1) := by decide +kernel
theorem dX2_allEdges_3 : decode cX2_allEdges 3 = .ok (.istore_n 2, 1) := by decide +kernel
theorem dX2_allEdges_4 : decode cX2_allEdges 4 = .ok (.iload_n 2, 1) := by decide +kernel
theorem dX2_allEdges_5 : decode cX2_allEdges 5 = .ok (.bipush 7, 2) := by decide +kernel
theorem dX2_allEdges_7 : decode cX2_allEdges 7 = .ok (.if_icmp .ge 18, 3) := by decide +kernel
theorem dX2_allEdges_10 : decode cX2_allEdges 10 = .ok (.iload_n 1, 1) := by decide +kernel
theorem dX2_allEdges_11 : decode cX2_allEdges 11 = .ok (.aload_n 0, 1) := by decide +kernel
theorem dX2_allEdges_12 : decode cX2_allEdges 12 = .ok (.getfield 16, 3) := by decide +kernel
theorem dX2_allEdges_15 : decode cX2_allEdges 15 = .ok (.iload_n 2, 1) := by decide +kernel
theorem dX2_allEdges_16 : decode cX2_allEdges 16 = .ok (.iaload, 1) := by decide +kernel
theorem dX2_allEdges_17 : decode cX2_allEdges 17 = .ok (.iadd, 1) := by decide +kernel
theorem dX2_allEdges_18 : decode cX2_allEdges 18 = .ok (.istore_n 1, 1) := by decide +kernel
theorem dX2_allEdges_19 : decode cX2_allEdges 19 = .ok (.iinc 2 1, 3) := by decide +kernel
theorem dX2_allEdges_22 : decode cX2_allEdges 22 = .ok (.goto (-18), 3) := by decide +kernel
theorem dX2_allEdges_25 : decode cX2_allEdges 25 = .ok (.iload_n 1, 1) := by decide +kernel
theorem dX2_allEdges_26 : decode cX2_allEdges 26 = .ok (.iconst 2, 1) := by decide +kernel
theorem dX2_allEdges_27 : decode cX2_allEdges 27 = .ok (.idiv, 1) := by decide +kernel
theorem dX2_allEdges_28 : decode cX2_allEdges 28 = .ok (.ireturn, 1) := by decide +kernel
theorem dX2_edgesInto_0 : decode cX2_edgesInto 0 = .ok (.iconst 0, 1) := by decide +kernel
theorem dX2_edgesInto_1 : decode cX2_edgesInto 1 = .ok (.istore_n 3, 1) := by decide +kernel
theorem dX2_edgesInto_2 : decode cX2_edgesInto 2 = .ok (.iconst 0, 1) := by decide +kernel
theorem dX2_edgesInto_3 : decode cX2_edgesInto 3 = .ok (.istore 4, 2) := by decide +kernel
theorem dX2_edgesInto_5 : decode cX2_edgesInto 5 = .ok (.iload 4, 2) := by decide +kernel
theorem dX2_edgesInto_7 : decode cX2_edgesInto 7 = .ok (.bipush 7, 2) := by decide +kernel
theorem dX2_edgesInto_9 : decode cX2_edgesInto 9 = .ok (.if_icmp .ge 30, 3) := by decide +kernel
theorem dX2_edgesInto_12 : decode cX2_edgesInto 12 = .ok (.iload_n 2, 1) := by decide +kernel
theorem dX2_edgesInto_13 : decode cX2_edgesInto 13 = .ok (.iload 4, 2) := by decide +kernel
theorem dX2_edgesInto_15 : decode cX2_edgesInto 15 = .ok (.ishr, 1) := by decide +kernel
theorem dX2_edgesInto_16 : decode cX2_edgesInto 16 = .ok (.iconst 1, 1) := by decide +kernel
theorem dX2_edgesInto_17 : decode cX2_edgesInto 17 = .ok (.iand, 1) := by decide +kernel
theorem dX2_edgesInto_18 : decode cX2_edgesInto 18 = .ok (.ifCond .eq 15, 3) := by decide +kernel
theorem dX2_edgesInto_21 : decode cX2_edgesInto 21 = .ok (.iload_n 3, 1) := by decide +kernel
theorem dX2_edgesInto_22 : decode cX2_edgesInto 22 = .ok (.aload_n 0, 1) := by decide +kernel
theorem dX2_edgesInto_23 : decode cX2_edgesInto 23 = .ok (.getfield 11, 3) := by decide +kernel
theorem dX2_edgesInto_26 : decode cX2_edgesInto 26 = .ok (.iload_n 1, 1) := by decide +kernel
theorem dX2_edgesInto_27 : decode cX2_edgesInto 27 = .ok (.aaload, 1) := by decide +kernel
theorem dX2_edgesInto_28 : decode cX2_edgesInto 28 = .ok (.iload 4, 2) := by decide +kernel
theorem dX2_edgesInto_30 : decode cX2_edgesInto 30 = .ok (.iaload, 1) := by decide +kernel
theorem dX2_edgesInto_31 : decode cX2_edgesInto 31 = .ok (.iadd, 1) := by decide +kernel
theorem dX2_edgesInto_32 : decode cX2_edgesInto 32 = .ok (.istore_n 3, 1) := by decide +kernel
theorem dX2_edgesInto_33 : decode cX2_edgesInto 33 = .ok (.iinc 4 1, 3) := by decide +kernel
theorem dX2_edgesInto_36 : decode cX2_edgesInto 36 = .ok (.goto (-31), 3) := by decide +kernel
theorem dX2_edgesInto_39 : decode cX2_edgesInto 39 = .ok (.iload_n 3, 1) := by decide +kernel
theorem dX2_edgesInto_40 : decode cX2_edgesInto 40 = .ok (.ireturn, 1) := by decide +kernel
set_option maxRecDepth 20000 in
theorem ggX2_isFast_X2_edgesInto : GoodIn wsX2_isFast wsX2_edgesInto := goodIn_r _ [6, 7, 15, 16, 17, 18] (by decide +kernel) (by decide +kernel)
set_option maxRecDepth 20000 in
theorem gX2_isFast_X2_edgesInto : GoodIn wsX2_isFast (wsV RX2 33 RX2 yX2_edgesInto wsX2_edgesInto) := goodIn_app (goodIn_of _ (by decide +kernel)) ggX2_isFast_X2_edgesInto
set_option maxRecDepth 20000 in
theorem ggX2_isFast_J6_bitCount_0f7a4 : GoodIn wsX2_isFast wsJ6_bitCount_0f7a4 := goodIn_r _ [11, 12, 13, 14] (by decide +kernel) (by decide +kernel)
set_option maxRecDepth 20000 in
theorem gX2_isFast_J6_bitCount_0f7a4 : GoodIn wsX2_isFast (va_wsS RX2 37 yJ6_bitCount_0f7a4 wsJ6_bitCount_0f7a4) := goodIn_app (goodIn_of _ (by decide +kernel)) ggX2_isFast_J6_bitCount_0f7a4
theorem dX2_isFast_0 : decode cX2_isFast 0 = .ok (.bipush 64, 2) := by decide +kernel
theorem dX2_isFast_2 : decode cX2_isFast 2 = .ok (.istore_n 1, 1) := by decide +kernel
theorem dX2_isFast_3 : decode cX2_isFast 3 = .ok (.iconst 0, 1) := by decide +kernel
theorem dX2_isFast_4 : decode cX2_isFast 4 = .ok (.istore_n 2, 1) := by decide +kernel
theorem dX2_isFast_5 : decode cX2_isFast 5 = .ok (.iload_n 2, 1) := by decide +kernel
theorem dX2_isFast_6 : decode cX2_isFast 6 = .ok (.aload_n 0, 1) := by decide +kernel
theorem dX2_isFast_7 : decode cX2_isFast 7 = .ok (.getfield 25, 3) := by decide +kernel
theorem dX2_isFast_10 : decode cX2_isFast 10 = .ok (.if_icmp .ge 40, 3) := by decide +kernel
theorem dX2_isFast_13 : decode cX2_isFast 13 = .ok (.iconst 0, 1) := by decide +kernel
theorem dX2_isFast_14 : decode cX2_isFast 14 = .ok (.istore_n 3, 1) := by decide +kernel
theorem dX2_isFast_15 : decode cX2_isFast 15 = .ok (.iload_n 3, 1) := by decide +kernel
theorem dX2_isFast_16 : decode cX2_isFast 16 = .ok (.aload_n 0, 1) := by decide +kernel
theorem dX2_isFast_17 : decode cX2_isFast 17 = .ok (.getfield 25, 3) := by decide +kernel
theorem dX2_isFast_20 : decode cX2_isFast 20 = .ok (.if_icmp .ge 24, 3) := by decide +kernel
theorem dX2_isFast_23 : decode cX2_isFast 23 = .ok (.aload_n 0, 1) := by decide +kernel
theorem dX2_isFast_24 : decode cX2_isFast 24 = .ok (.iload_n 3, 1) := by decide +kernel
theorem dX2_isFast_25 : decode cX2_isFast 25 = .ok (.iload_n 1, 1) := by decide +kernel
theorem dX2_isFast_26 : decode cX2_isFast 26 = .ok (.invokevirtual 33, 3) := by decide +kernel
theorem dX2_isFast_29 : decode cX2_isFast 29 = .ok (.ifCond .le 9, 3) := by decide +kernel
theorem dX2_isFast_32 : decode cX2_isFast 32 = .ok (.iload_n 1, 1) := by decide +kernel
theorem dX2_isFast_33 : decode cX2_isFast 33 = .ok (.iconst 1, 1) := by decide +kernel
theorem dX2_isFast_34 : decode cX2_isFast 34 = .ok (.iload_n 3, 1) := by decide +kernel
theorem dX2_isFast_35 : decode cX2_isFast 35 = .ok (.ishl, 1) := by decide +kernel
theorem dX2_isFast_36 : decode cX2_isFast 36 = .ok (.ior, 1) := by decide +kernel
theorem dX2_isFast_37 : decode cX2_isFast 37 = .ok (.istore_n 1, 1) := by decide +kernel
theorem dX2_isFast_38 : decode cX2_isFast 38 = .ok (.iinc 3 1, 3) := by decide +kernel
theorem dX2_isFast_41 : decode cX2_isFast 41 = .ok (.goto (-26), 3) := by decide +kernel
theorem dX2_isFast_44 : decode cX2_isFast 44 = .ok (.iinc 2 1, 3) := by decide +kernel
theorem dX2_isFast_47 : decode cX2_isFast 47 = .ok (.goto (-42), 3) := by decide +kernel
theorem dX2_isFast_50 : decode cX2_isFast 50 = .ok (.aload_n 0, 1) := by decide +kernel
theorem dX2_isFast_51 : decode cX2_isFast 51 = .ok (.getfield 25, 3) := by decide +kernel
theorem dX2_isFast_54 : decode cX2_isFast 54 = .ok (.ifCond .le 20, 3) := by decide +kernel
theorem dX2_isFast_57 : decode cX2_isFast 57 = .ok (.iload_n 1, 1) := by decide +kernel
theorem dX2_isFast_58 : decode cX2_isFast 58 = .ok (.invokestatic 37, 3) := by decide +kernel
theorem dX2_isFast_61 : decode cX2_isFast 61 = .ok (.aload_n 0, 1) := by decide +kernel
theorem dX2_isFast_62 : decode cX2_isFast 62 = .ok (.getfield 25, 3) := by decide +kernel
theorem dX2_isFast_65 : decode cX2_isFast 65 = .ok (.iconst 1, 1) := by decide +kernel
theorem dX2_isFast_66 : decode cX2_isFast 66 = .ok (.iadd, 1) := by decide +kernel
theorem dX2_isFast_67 : decode cX2_isFast 67 = .ok (.if_icmp .ne 7, 3) := by decide +kernel
theorem dX2_isFast_70 : decode cX2_isFast 70 = .ok (.iconst 1, 1) := by decide +kernel
theorem dX2_isFast_71 : decode cX2_isFast 71 = .ok (.goto 4, 3) := by decide +kernel
theorem dX2_isFast_74 : decode cX2_isFast 74 = .ok (.iconst 0, 1) := by decide +kernel
theorem dX2_isFast_75 : decode cX2_isFast 75 = .ok (.ireturn, 1) := by decide +kernel
theorem dX2_neighbourAt_0 : decode cX2_neighbourAt 0 = .ok (.iload_n 2, 1) := by decide +kernel
theorem dX2_neighbourAt_1 : decode cX2_neighbourAt 1 = .ok (.istore_n 3, 1) := by decide +kernel
theorem dX2_neighbourAt_2 : decode cX2_neighbourAt 2 = .ok (.iconst 0, 1) := by decide +kernel
theorem dX2_neighbourAt_3 : decode cX2_neighbourAt 3 = .ok (.istore 4, 2) := by decide +kernel
theorem dX2_neighbourAt_5 : decode cX2_neighbourAt 5 = .ok (.iload 4, 2) := by decide +kernel
theorem dX2_neighbourAt_7 : decode cX2_neighbourAt 7 = .ok (.bipush 7, 2) := by decide +kernel
theorem dX2_neighbourAt_9 : decode cX2_neighbourAt 9 = .ok (.if_icmp .ge 28, 3) := by decide +kernel
theorem dX2_neighbourAt_12 : decode cX2_neighbourAt 12 = .ok (.iload_n 3, 1) := by decide +kernel
theorem dX2_neighbourAt_13 : decode cX2_neighbourAt 13 = .ok (.aload_n 0, 1) := by decide +kernel
theorem dX2_neighbourAt_14 : decode cX2_neighbourAt 14 = .ok (.getfield 11, 3) := by decide +kernel
theorem dX2_neighbourAt_17 : decode cX2_neighbourAt 17 = .ok (.iload_n 1, 1) := by decide +kernel
theorem dX2_neighbourAt_18 : decode cX2_neighbourAt 18 = .ok (.aaload, 1) := by decide +kernel
theorem dX2_neighbourAt_19 : decode cX2_neighbourAt 19 = .ok (.iload 4, 2) := by decide +kernel
theorem dX2_neighbourAt_21 : decode cX2_neighbourAt 21 = .ok (.iaload, 1) := by decide +kernel
theorem dX2_neighbourAt_22 : decode cX2_neighbourAt 22 = .ok (.isub, 1) := by decide +kernel
theorem dX2_neighbourAt_23 : decode cX2_neighbourAt 23 = .ok (.istore_n 3, 1) := by decide +kernel
theorem dX2_neighbourAt_24 : decode cX2_neighbourAt 24 = .ok (.iload_n 3, 1) := by decide +kernel
theorem dX2_neighbourAt_25 : decode cX2_neighbourAt 25 = .ok (.ifCond .ge 6, 3) := by decide +kernel
theorem dX2_neighbourAt_28 : decode cX2_neighbourAt 28 = .ok (.iload 4, 2) := by decide +kernel
theorem dX2_neighbourAt_30 : decode cX2_neighbourAt 30 = .ok (.ireturn, 1) := by decide +kernel
theorem dX2_neighbourAt_31 : decode cX2_neighbourAt 31 = .ok (.iinc 4 1, 3) := by decide +kernel
theorem dX2_neighbourAt_34 : decode cX2_neighbourAt 34 = .ok (.goto (-29), 3) := by decide +kernel
theorem dX2_neighbourAt_37 : decode cX2_neighbourAt 37 = .ok (.iconst (-1), 1) := by decide +kernel
theorem dX2_neighbourAt_38 : decode cX2_neighbourAt 38 = .ok (.ireturn, 1) := by decide +kernel
set_option maxRecDepth 20000 in
theorem ggX2_trees_X2_fillTable : GoodIn wsX2_trees wsX2_fillTable := goodIn_r _ [7, 1, 2, 8, 9, 14, 15, 16, 17] (by decide +kernel) (by decide +kernel)
set_option maxRecDepth 20000 in
theorem gX2_trees_X2_fillTable : GoodIn wsX2_trees (wsV RX2 43 RX2 yX2_fillTable wsX2_fillTable) := goodIn_app (goodIn_of _ (by decide +kernel)) ggX2_trees_X2_fillTable
set_option maxRecDepth 20000 in
theorem ggX2_trees_X2_eliminate : GoodIn wsX2_trees wsX2_eliminate := goodIn_r _ [13, 2, 1, 14, 15, 16, 17] (by decide +kernel) (by decide +kernel)
set_option maxRecDepth 20000 in
theorem gX2_trees_X2_eliminate : GoodIn wsX2_trees (wsV RX2 46 RX2 yX2_eliminate wsX2_eliminate) := goodIn_app (goodIn_of _ (by decide +kernel)) ggX2_trees_X2_eliminate
theorem dX2_trees_0 : decode cX2_trees 0 = .ok (.aload_n 0, 1) := by decide +kernel
theorem dX2_trees_1 : decode cX2_trees 1 = .ok (.invokevirtual 43, 3) := by decide +kernel
theorem dX2_trees_4 : decode cX2_trees 4 = .ok (.lconst 1, 1) := by decide +kernel
theorem dX2_trees_5 : decode cX2_trees 5 = .ok (.lstore_n 1, 1) := by decide +kernel
theorem dX2_trees_6 : decode cX2_trees 6 = .ok (.iconst 0, 1) := by decide +kernel
theorem dX2_trees_7 : decode cX2_trees 7 = .ok (.istore_n 3, 1) := by decide +kernel
theorem dX2_trees_8 : decode cX2_trees 8 = .ok (.iload_n 3, 1) := by decide +kernel
theorem dX2_trees_9 : decode cX2_trees 9 = .ok (.aload_n 0, 1) := by decide +kernel
theorem dX2_trees_10 : decode cX2_trees 10 = .ok (.getfield 25, 3) := by decide +kernel
theorem dX2_trees_13 : decode cX2_trees 13 = .ok (.if_icmp .ge 32, 3) := by decide +kernel
theorem dX2_trees_16 : decode cX2_trees 16 = .ok (.lload_n 1, 1) := by decide +kernel
theorem dX2_trees_17 : decode cX2_trees 17 = .ok (.lconst 0, 1) := by decide +kernel
theorem dX2_trees_18 : decode cX2_trees 18 = .ok (.lcmp, 1) := by decide +kernel
theorem dX2_trees_19 : decode cX2_trees 19 = .ok (.ifCond .ne 5, 3) := by decide +kernel
theorem dX2_trees_22 : decode cX2_trees 22 = .ok (.lconst 0, 1) := by decide +kernel
theorem dX2_trees_23 : decode cX2_trees 23 = .ok (.lreturn, 1) := by decide +kernel
theorem dX2_trees_24 : decode cX2_trees 24 = .ok (.aload_n 0, 1) := by decide +kernel
theorem dX2_trees_25 : decode cX2_trees 25 = .ok (.iload_n 3, 1) := by decide +kernel
theorem dX2_trees_26 : decode cX2_trees 26 = .ok (.lload_n 1, 1) := by decide +kernel
theorem dX2_trees_27 : decode cX2_trees 27 = .ok (.invokevirtual 46, 3) := by decide +kernel
theorem dX2_trees_30 : decode cX2_trees 30 = .ok (.aload_n 0, 1) := by decide +kernel
theorem dX2_trees_31 : decode cX2_trees 31 = .ok (.getfield 22, 3) := by decide +kernel
theorem dX2_trees_34 : decode cX2_trees 34 = .ok (.iload_n 3, 1) := by decide +kernel
theorem dX2_trees_35 : decode cX2_trees 35 = .ok (.aaload, 1) := by decide +kernel
theorem dX2_trees_36 : decode cX2_trees 36 = .ok (.iload_n 3, 1) := by decide +kernel
theorem dX2_trees_37 : decode cX2_trees 37 = .ok (.laload, 1) := by decide +kernel
theorem dX2_trees_38 : decode cX2_trees 38 = .ok (.lstore_n 1, 1) := by decide +kernel
theorem dX2_trees_39 : decode cX2_trees 39 = .ok (.iinc 3 1, 3) := by decide +kernel
theorem dX2_trees_42 : decode cX2_trees 42 = .ok (.goto (-34), 3) := by decide +kernel
theorem dX2_trees_45 : decode cX2_trees 45 = .ok (.lload_n 1, 1) := by decide +kernel
theorem dX2_trees_46 : decode cX2_trees 46 = .ok (.lreturn, 1) := by decide +kernel
theorem dX2_fillTable_0 : decode cX2_fillTable 0 = .ok (.iconst 0, 1) := by decide +kernel
theorem dX2_fillTable_1 : decode cX2_fillTable 1 = .ok (.istore_n 1, 1) := by decide +kernel
theorem dX2_fillTable_2 : decode cX2_fillTable 2 = .ok (.iload_n 1, 1) := by decide +kernel
theorem dX2_fillTable_3 : decode cX2_fillTable 3 = .ok (.aload_n 0, 1) := by decide +kernel
theorem dX2_fillTable_4 : decode cX2_fillTable 4 = .ok (.getfield 25, 3) := by decide +kernel
theorem dX2_fillTable_7 : decode cX2_fillTable 7 = .ok (.if_icmp .ge 58, 3) := by decide +kernel
theorem dX2_fillTable_10 : decode cX2_fillTable 10 = .ok (.iconst 0, 1) := by decide +kernel
theorem dX2_fillTable_11 : decode cX2_fillTable 11 = .ok (.istore_n 2, 1) := by decide +kernel
theorem dX2_fillTable_12 : decode cX2_fillTable 12 = .ok (.iload_n 2, 1) := by decide +kernel
theorem dX2_fillTable_13 : decode cX2_fillTable 13 = .ok (.aload_n 0, 1) := by decide +kernel
theorem dX2_fillTable_14 : decode cX2_fillTable 14 = .ok (.getfield 25, 3) := by decide +kernel
theorem dX2_fillTable_17 : decode cX2_fillTable 17 = .ok (.if_icmp .ge 42, 3) := by decide +kernel
theorem dX2_fillTable_20 : decode cX2_fillTable 20 = .ok (.aload_n 0, 1) := by decide +kernel
theorem dX2_fillTable_21 : decode cX2_fillTable 21 = .ok (.getfield 22, 3) := by decide +kernel
theorem dX2_fillTable_24 : decode cX2_fillTable 24 = .ok (.iload_n 1, 1) := by decide +kernel
theorem dX2_fillTable_25 : decode cX2_fillTable 25 = .ok (.aaload, 1) := by decide +kernel
theorem dX2_fillTable_26 : decode cX2_fillTable 26 = .ok (.iload_n 2, 1) := by decide +kernel
theorem dX2_fillTable_27 : decode cX2_fillTable 27 = .ok (.iload_n 1, 1) := by decide +kernel
theorem dX2_fillTable_28 : decode cX2_fillTable 28 = .ok (.iload_n 2, 1) := by decide +kernel
theorem dX2_fillTable_29 : decode cX2_fillTable 29 = .ok (.if_icmp .ne 13, 3) := by decide +kernel
theorem dX2_fillTable_32 : decode cX2_fillTable 32 = .ok (.aload_n 0, 1) := by decide +kernel
theorem dX2_fillTable_33 : decode cX2_fillTable 33 = .ok (.getfield 16, 3) := by decide +kernel
theorem dX2_fillTable_36 : decode cX2_fillTable 36 = .ok (.iload_n 1, 1) := by decide +kernel
theorem dX2_fillTable_37 : decode cX2_fillTable 37 = .ok (.iaload, 1) := by decide +kernel
theorem dX2_fillTable_38 : decode cX2_fillTable 38 = .ok (.i2l, 1) := by decide +kernel
theorem dX2_fillTable_39 : decode cX2_fillTable 39 = .ok (.goto 13, 3) := by decide +kernel
theorem dX2_fillTable_42 : decode cX2_fillTable 42 = .ok (.aload_n 0, 1) := by decide +kernel
theorem dX2_fillTable_43 : decode cX2_fillTable 43 = .ok (.getfield 11, 3) := by decide +kernel
theorem dX2_fillTable_46 : decode cX2_fillTable 46 = .ok (.iload_n 1, 1) := by decide +kernel
theorem dX2_fillTable_47 : decode cX2_fillTable 47 = .ok (.aaload, 1) := by decide +kernel
theorem dX2_fillTable_48 : decode cX2_fillTable 48 = .ok (.iload_n 2, 1) := by decide +kernel
theorem dX2_fillTable_49 : decode cX2_fillTable 49 = .ok (.iaload, 1) := by decide +kernel
theorem dX2_fillTable_50 : decode cX2_fillTable 50 = .ok (.ineg, 1) := by decide +kernel
theorem dX2_fillTable_51 : decode cX2_fillTable 51 = .ok (.i2l, 1) := by decide +kernel
theorem dX2_fillTable_52 : decode cX2_fillTable 52 = .ok (.lastore, 1) := by decide +kernel
theorem dX2_fillTable_53 : decode cX2_fillTable 53 = .ok (.iinc 2 1, 3) := by decide +kernel
theorem dX2_fillTable_56 : decode cX2_fillTable 56 = .ok (.goto (-44), 3) := by decide +kernel
theorem dX2_fillTable_59 : decode cX2_fillTable 59 = .ok (.iinc 1 1, 3) := by decide +kernel
theorem dX2_fillTable_62 : decode cX2_fillTable 62 = .ok (.goto (-60), 3) := by decide +kernel
theorem dX2_fillTable_65 : decode cX2_fillTable 65 = .ok (.return_, 1) := by decide +kernel
theorem dX2_eliminate_0 : decode cX2_eliminate 0 = .ok (.lload_n 2, 1) := by decide +kernel
theorem dX2_eliminate_1 : decode cX2_eliminate 1 = .ok (.lconst 0, 1) := by decide +kernel
theorem dX2_eliminate_2 : decode cX2_eliminate 2 = .ok (.lcmp, 1) := by decide +kernel
theorem dX2_eliminate_3 : decode cX2_eliminate 3 = .ok (.ifCond .ne 4, 3) := by decide +kernel
theorem dX2_eliminate_6 : decode cX2_eliminate 6 = .ok (.return_, 1) := by decide +kernel
theorem dX2_eliminate_7 : decode cX2_eliminate 7 = .ok (.aload_n 0, 1) := by decide +kernel
theorem dX2_eliminate_8 : decode cX2_eliminate 8 = .ok (.getfield 22, 3) := by decide +kernel
theorem dX2_eliminate_11 : decode cX2_eliminate 11 = .ok (.iload_n 1, 1) := by decide +kernel
theorem dX2_eliminate_12 : decode cX2_eliminate 12 = .ok (.aaload, 1) := by decide +kernel
theorem dX2_eliminate_13 : decode cX2_eliminate 13 = .ok (.iload_n 1, 1) := by decide +kernel
theorem dX2_eliminate_14 : decode cX2_eliminate 14 = .ok (.laload, 1) := by decide +kernel
theorem dX2_eliminate_15 : decode cX2_eliminate 15 = .ok (.lstore 4, 2) := by decide +kernel
theorem dX2_eliminate_17 : decode cX2_eliminate 17 = .ok (.iload_n 1, 1) := by decide +kernel
theorem dX2_eliminate_18 : decode cX2_eliminate 18 = .ok (.iconst 1, 1) := by decide +kernel
theorem dX2_eliminate_19 : decode cX2_eliminate 19 = .ok (.iadd, 1) := by decide +kernel
theorem dX2_eliminate_20 : decode cX2_eliminate 20 = .ok (.istore 6, 2) := by decide +kernel
theorem dX2_eliminate_22 : decode cX2_eliminate 22 = .ok (.iload 6, 2) := by decide +kernel
theorem dX2_eliminate_24 : decode cX2_eliminate 24 = .ok (.aload_n 0, 1) := by decide +kernel
theorem dX2_eliminate_25 : decode cX2_eliminate 25 = .ok (.getfield 25, 3) := by decide +kernel
theorem dX2_eliminate_28 : decode cX2_eliminate 28 = .ok (.if_icmp .ge 78, 3) := by decide +kernel
theorem dX2_eliminate_31 : decode cX2_eliminate 31 = .ok (.iload_n 1, 1) := by decide +kernel
theorem dX2_eliminate_32 : decode cX2_eliminate 32 = .ok (.iconst 1, 1) := by decide +kernel
theorem dX2_eliminate_33 : decode cX2_eliminate 33 = .ok (.iadd, 1) := by decide +kernel
theorem dX2_eliminate_34 : decode cX2_eliminate 34 = .ok (.istore 7, 2) := by decide +kernel
theorem dX2_eliminate_36 : decode cX2_eliminate 36 = .ok (.iload 7, 2) := by decide +kernel
theorem dX2_eliminate_38 : decode cX2_eliminate 38 = .ok (.aload_n 0, 1) := by decide +kernel
theorem dX2_eliminate_39 : decode cX2_eliminate 39 = .ok (.getfield 25, 3) := by decide +kernel
theorem dX2_eliminate_42 : decode cX2_eliminate 42 = .ok (.if_icmp .ge 58, 3) := by decide +kernel
theorem dX2_eliminate_45 : decode cX2_eliminate 45 = .ok (.aload_n 0, 1) := by decide +kernel
theorem dX2_eliminate_46 : decode cX2_eliminate 46 = .ok (.getfield 22, 3) := by decide +kernel
theorem dX2_eliminate_49 : decode cX2_eliminate 49 = .ok (.iload 6, 2) := by decide +kernel
theorem dX2_eliminate_51 : decode cX2_eliminate 51 = .ok (.aaload, 1) := by decide +kernel
theorem dX2_eliminate_52 : decode cX2_eliminate 52 = .ok (.iload 7, 2) := by decide +kernel
theorem dX2_eliminate_54 : decode cX2_eliminate 54 = .ok (.laload, 1) := by decide +kernel
theorem dX2_eliminate_55 : decode cX2_eliminate 55 = .ok (.lload 4, 2) := by decide +kernel
theorem dX2_eliminate_57 : decode cX2_eliminate 57 = .ok (.lmul, 1) := by decide +kernel
theorem dX2_eliminate_58 : decode cX2_eliminate 58 = .ok (.aload_n 0, 1) := by decide +kernel
theorem dX2_eliminate_59 : decode cX2_eliminate 59 = .ok (.getfield 22, 3) := by decide +kernel
theorem dX2_eliminate_62 : decode cX2_eliminate 62 = .ok (.iload 6, 2) := by decide +kernel
theorem dX2_eliminate_64 : decode cX2_eliminate 64 = .ok (.aaload, 1) := by decide +kernel
theorem dX2_eliminate_65 : decode cX2_eliminate 65 = .ok (.iload_n 1, 1) := by decide +kernel
theorem dX2_eliminate_66 : decode cX2_eliminate 66 = .ok (.laload, 1) := by decide +kernel
theorem dX2_eliminate_67 : decode cX2_eliminate 67 = .ok (.aload_n 0, 1) := by decide +kernel
theorem dX2_eliminate_68 : decode cX2_eliminate 68 = .ok (.getfield 22, 3) := by decide +kernel
theorem dX2_eliminate_71 : decode cX2_eliminate 71 = .ok (.iload_n 1, 1) := by decide +kernel
theorem dX2_eliminate_72 : decode cX2_eliminate 72 = .ok (.aaload, 1) := by decide +kernel
theorem dX2_eliminate_73 : decode cX2_eliminate 73 = .ok (.iload 7, 2) := by decide +kernel
theorem dX2_eliminate_75 : decode cX2_eliminate 75 = .ok (.laload, 1) := by decide +kernel
theorem dX2_eliminate_76 : decode cX2_eliminate 76 = .ok (.lmul, 1) := by decide +kernel
theorem dX2_eliminate_77 : decode cX2_eliminate 77 = .ok (.lsub, 1) := by decide +kernel
theorem dX2_eliminate_78 : decode cX2_eliminate 78 = .ok (.lstore 8, 2) := by decide +kernel
theorem dX2_eliminate_80 : decode cX2_eliminate 80 = .ok (.aload_n 0, 1) := by decide +kernel
theorem dX2_eliminate_81 : decode cX2_eliminate 81 = .ok (.getfield 22, 3) := by decide +kernel
theorem dX2_eliminate_84 : decode cX2_eliminate 84 = .ok (.iload 6, 2) := by decide +kernel
theorem dX2_eliminate_86 : decode cX2_eliminate 86 = .ok (.aaload, 1) := by decide +kernel
theorem dX2_eliminate_87 : decode cX2_eliminate 87 = .ok (.iload 7, 2) := by decide +kernel
theorem dX2_eliminate_89 : decode cX2_eliminate 89 = .ok (.lload 8, 2) := by decide +kernel
theorem dX2_eliminate_91 : decode cX2_eliminate 91 = .ok (.lload_n 2, 1) := by decide +kernel
theorem dX2_eliminate_92 : decode cX2_eliminate 92 = .ok (.ldiv, 1) := by decide +kernel
theorem dX2_eliminate_93 : decode cX2_eliminate 93 = .ok (.lastore, 1) := by decide +kernel
theorem dX2_eliminate_94 : decode cX2_eliminate 94 = .ok (.iinc 7 1, 3) := by decide +kernel
theorem dX2_eliminate_97 : decode cX2_eliminate 97 = .ok (.goto (-61), 3) := by decide +kernel
theorem dX2_eliminate_100 : decode cX2_eliminate 100 = .ok (.iinc 6 1, 3) := by decide +kernel
theorem dX2_eliminate_103 : decode cX2_eliminate 103 = .ok (.goto (-81), 3) := by decide +kernel
theorem dX2_eliminate_106 : decode cX2_eliminate 106 = .ok (.return_, 1) := by decide +kernel
theorem dX3_init_0 : decode cX3_init 0 = .ok (.aload_n 0, 1) := by decide +kernel
theorem dX3_init_1 : decode cX3_init 1 = .ok (.invokespecial 3, 3) := by decide +kernel
theorem dX3_init_4 : decode cX3_init 4 = .ok (.aload_n 0, 1) := by decide +kernel
theorem dX3_init_5 : decode cX3_init 5 = .ok (.bipush 6, 2) := by decide +kernel
theorem dX3_init_7 : decode cX3_init 7 = .ok (.newarray .int, 2) := by decide +kernel
theorem dX3_init_9 : decode cX3_init 9 = .ok (.putfield 9, 3) := by decide +kernel
theorem dX3_init_12 : decode cX3_init 12 = .ok (.aload_n 0, 1) := by decide +kernel
theorem dX3_init_13 : decode cX3_init 13 = .ok (.aload_n 1, 1) := by decide +kernel
theorem dX3_init_14 : decode cX3_init 14 = .ok (.putfield 15, 3) := by decide +kernel
theorem dX3_init_17 : decode cX3_init 17 = .ok (.return_, 1) := by decide +kernel
set_option maxRecDepth 20000 in
theorem ggX3_reset_X2_isSpot : GoodIn wsX3_reset wsX2_isSpot := goodIn_r _ [7, 8, 12, 13, 14, 15] (by decide +kernel) (by decide +kernel)
set_option maxRecDepth 20000 in
theorem gX3_reset_X2_isSpot : GoodIn wsX3_reset (wsV RX3 19 RX2 yX2_isSpot wsX2_isSpot) := goodIn_app (goodIn_of _ (by decide +kernel)) ggX3_reset_X2_isSpot
theorem dX3_reset_0 : decode cX3_reset 0 = .ok (.aload_n 0, 1) := by decide +kernel
theorem dX3_reset_1 : decode cX3_reset 1 = .ok (.getfield 15, 3) := by decide +kernel
theorem dX3_reset_4 : decode cX3_reset 4 = .ok (.iload_n 1, 1) := by decide +kernel
theorem dX3_reset_5 : decode cX3_reset 5 = .ok (.invokevirtual 19, 3) := by decide +kernel
theorem dX3_reset_8 : decode cX3_reset 8 = .ok (.ifCond .eq 10, 3) := by decide +kernel
theorem dX3_reset_11 : decode cX3_reset 11 = .ok (.aload_n 0, 1) := by decide +kernel
theorem dX3_reset_12 : decode cX3_reset 12 = .ok (.getfield 9, 3) := by decide +kernel
theorem dX3_reset_15 : decode cX3_reset 15 = .ok (.iload_n 1, 1) := by decide +kernel
theorem dX3_reset_16 : decode cX3_reset 16 = .ok (.iconst 0, 1) := by decide +kernel
theorem dX3_reset_17 : decode cX3_reset 17 = .ok (.iastore, 1) := by decide +kernel
theorem dX3_reset_18 : decode cX3_reset 18 = .ok (.return_, 1) := by decide +kernel
set_option maxRecDepth 20000 in
theorem ggX3_pointedFrom_X2_neighbourAt : GoodIn wsX3_pointedFrom wsX2_neighbourAt := goodIn_r _ [7, 8, 12, 13, 14, 15] (by decide +kernel) (by decide +kernel)
set_option maxRecDepth 20000 in
theorem gX3_pointedFrom_X2_neighbourAt : GoodIn wsX3_pointedFrom (wsV RX3 25 RX2 yX2_neighbourAt wsX2_neighbourAt) := goodIn_app (goodIn_of _ (by decide +kernel)) ggX3_pointedFrom_X2_neighbourAt
theorem dX3_pointedFrom_0 : decode cX3_pointedFrom 0 = .ok (.aload_n 0, 1) := by decide +kernel
theorem dX3_pointedFrom_1 : decode cX3_pointedFrom 1 = .ok (.getfield 15, 3) := by decide +kernel
theorem dX3_pointedFrom_4 : decode cX3_pointedFrom 4 = .ok (.iload_n 1, 1) := by decide +kernel
theorem dX3_pointedFrom_5 : decode cX3_pointedFrom 5 = .ok (.aload_n 0, 1) := by decide +kernel
theorem dX3_pointedFrom_6 : decode cX3_pointedFrom 6 = .ok (.getfield 9, 3) := by decide +kernel
theorem dX3_pointedFrom_9 : decode cX3_pointedFrom 9 = .ok (.iload_n 1, 1) := by decide +kernel
theorem dX3_pointedFrom_10 : decode cX3_pointedFrom 10 = .ok (.iaload, 1) := by decide +kernel
theorem dX3_pointedFrom_11 : decode cX3_pointedFrom 11 = .ok (.invokevirtual 25, 3) := by decide +kernel
theorem dX3_pointedFrom_14 : decode cX3_pointedFrom 14 = .ok (.ireturn, 1) := by decide +kernel
set_option maxRecDepth 20000 in
theorem ggX3_send_X2_isSpot : GoodIn wsX3_send wsX2_isSpot := goodIn_r _ [8, 9, 29, 30, 31, 32] (by decide +kernel) (by decide +kernel)
set_option maxRecDepth 20000 in
theorem gX3_send_X2_isSpot : GoodIn wsX3_send (wsV RX3 19 RX2 yX2_isSpot wsX2_isSpot) := goodIn_app (goodIn_of _ (by decide +kernel)) ggX3_send_X2_isSpot
set_option maxRecDepth 20000 in
theorem ggX3_send_X3_turn : GoodIn wsX3_send wsX3_turn := goodIn_r _ [14, 15, 1, 16, 26, 27, 28, 29, 30, 31, 32] (by decide +kernel) (by decide +kernel)
set_option maxRecDepth 20000 in
theorem gX3_send_X3_turn : GoodIn wsX3_send (wsV RX3 30 RX3 yX3_turn wsX3_turn) := goodIn_app (goodIn_of _ (by decide +kernel)) ggX3_send_X3_turn
set_option maxRecDepth 20000 in
theorem ggX3_send_X3_pointedFrom : GoodIn wsX3_send wsX3_pointedFrom := goodIn_r _ [20, 1, 15, 21, 22, 23, 7, 24, 25, 26, 27, 28, 29, 30, 31, 32] (by decide +kernel) (by decide +kernel)
set_option maxRecDepth 20000 in
theorem gX3_send_X3_pointedFrom : GoodIn wsX3_send (wsV RX3 34 RX3 yX3_pointedFrom wsX3_pointedFrom) := goodIn_app (goodIn_of _ (by decide +kernel)) ggX3_send_X3_pointedFrom
theorem dX3_send_0 : decode cX3_send 0 = .ok (.iload_n 1, 1) := by decide +kernel
theorem dX3_send_1 : decode cX3_send 1 = .ok (.istore_n 2, 1) := by decide +kernel
theorem dX3_send_2 : decode cX3_send 2 = .ok (.iconst 0, 1) := by decide +kernel
theorem dX3_send_3 : decode cX3_send 3 = .ok (.istore_n 3, 1) := by decide +kernel
theorem dX3_send_4 : decode cX3_send 4 = .ok (.aload_n 0, 1) := by decide +kernel
theorem dX3_send_5 : decode cX3_send 5 = .ok (.getfield 15, 3) := by decide +kernel
theorem dX3_send_8 : decode cX3_send 8 = .ok (.iload_n 2, 1) := by decide +kernel
theorem dX3_send_9 : decode cX3_send 9 = .ok (.invokevirtual 19, 3) := by decide +kernel
theorem dX3_send_12 : decode cX3_send 12 = .ok (.ifCond .eq 26, 3) := by decide +kernel
theorem dX3_send_15 : decode cX3_send 15 = .ok (.iload_n 3, 1) := by decide +kernel
theorem dX3_send_16 : decode cX3_send 16 = .ok (.ldc 29, 2) := by decide +kernel
theorem dX3_send_18 : decode cX3_send 18 = .ok (.if_icmp .ge 20, 3) := by decide +kernel
theorem dX3_send_21 : decode cX3_send 21 = .ok (.aload_n 0, 1) := by decide +kernel
theorem dX3_send_22 : decode cX3_send 22 = .ok (.iload_n 2, 1) := by decide +kernel
theorem dX3_send_23 : decode cX3_send 23 = .ok (.invokevirtual 30, 3) := by decide +kernel
theorem dX3_send_26 : decode cX3_send 26 = .ok (.aload_n 0, 1) := by decide +kernel
theorem dX3_send_27 : decode cX3_send 27 = .ok (.iload_n 2, 1) := by decide +kernel
theorem dX3_send_28 : decode cX3_send 28 = .ok (.invokevirtual 34, 3) := by decide +kernel
theorem dX3_send_31 : decode cX3_send 31 = .ok (.istore_n 2, 1) := by decide +kernel
theorem dX3_send_32 : decode cX3_send 32 = .ok (.iinc 3 1, 3) := by decide +kernel
theorem dX3_send_35 : decode cX3_send 35 = .ok (.goto (-31), 3) := by decide +kernel
theorem dX3_send_38 : decode cX3_send 38 = .ok (.aload_n 0, 1) := by decide +kernel
theorem dX3_send_39 : decode cX3_send 39 = .ok (.dup, 1) := by decide +kernel
theorem dX3_send_40 : decode cX3_send 40 = .ok (.getfield 38, 3) := by decide +kernel
theorem dX3_send_43 : decode cX3_send 43 = .ok (.iload_n 3, 1) := by decide +kernel
theorem dX3_send_44 : decode cX3_send 44 = .ok (.iadd, 1) := by decide +kernel
theorem dX3_send_45 : decode cX3_send 45 = .ok (.putfield 38, 3) := by decide +kernel
theorem dX3_send_48 : decode cX3_send 48 = .ok (.iload_n 3, 1) := by decide +kernel
theorem dX3_send_49 : decode cX3_send 49 = .ok (.ireturn, 1) := by decide +kernel
theorem dX3_turn_0 : decode cX3_turn 0 = .ok (.aload_n 0, 1) := by decide +kernel
theorem dX3_turn_1 : decode cX3_turn 1 = .ok (.getfield 9, 3) := by decide +kernel
theorem dX3_turn_4 : decode cX3_turn 4 = .ok (.iload_n 1, 1) := by decide +kernel
theorem dX3_turn_5 : decode cX3_turn 5 = .ok (.iaload, 1) := by decide +kernel
theorem dX3_turn_6 : decode cX3_turn 6 = .ok (.iconst 1, 1) := by decide +kernel
theorem dX3_turn_7 : decode cX3_turn 7 = .ok (.iadd, 1) := by decide +kernel
theorem dX3_turn_8 : decode cX3_turn 8 = .ok (.istore_n 2, 1) := by decide +kernel
theorem dX3_turn_9 : decode cX3_turn 9 = .ok (.aload_n 0, 1) := by decide +kernel
theorem dX3_turn_10 : decode cX3_turn 10 = .ok (.getfield 9, 3) := by decide +kernel
theorem dX3_turn_13 : decode cX3_turn 13 = .ok (.iload_n 1, 1) := by decide +kernel
theorem dX3_turn_14 : decode cX3_turn 14 = .ok (.iload_n 2, 1) := by decide +kernel
theorem dX3_turn_15 : decode cX3_turn 15 = .ok (.aload_n 0, 1) := by decide +kernel
theorem dX3_turn_16 : decode cX3_turn 16 = .ok (.getfield 15, 3) := by decide +kernel
theorem dX3_turn_19 : decode cX3_turn 19 = .ok (.getfield 42, 3) := by decide +kernel
theorem dX3_turn_22 : decode cX3_turn 22 = .ok (.iload_n 1, 1) := by decide +kernel
theorem dX3_turn_23 : decode cX3_turn 23 = .ok (.iaload, 1) := by decide +kernel
theorem dX3_turn_24 : decode cX3_turn 24 = .ok (.if_icmp .ge 7, 3) := by decide +kernel
theorem dX3_turn_27 : decode cX3_turn 27 = .ok (.iload_n 2, 1) := by decide +kernel
theorem dX3_turn_28 : decode cX3_turn 28 = .ok (.goto 4, 3) := by decide +kernel
theorem dX3_turn_31 : decode cX3_turn 31 = .ok (.iconst 0, 1) := by decide +kernel
theorem dX3_turn_32 : decode cX3_turn 32 = .ok (.iastore, 1) := by decide +kernel
theorem dX3_turn_33 : decode cX3_turn 33 = .ok (.return_, 1) := by decide +kernel
set_option maxRecDepth 20000 in
theorem ggX3_areTree_X3_leadsToSink : GoodIn wsX3_areTree wsX3_leadsToSink := goodIn_r _ [7, 1, 2, 8, 9, 10, 11, 12, 13, 14, 15, 16, 6, 17, 18, 19, 20, 21, 22, 23, 24, 25, 26, 27, 28, 29, 30] (by decide +kernel) (by decide +kernel)
set_option maxRecDepth 20000 in
theorem gX3_areTree_X3_leadsToSink : GoodIn wsX3_areTree (wsV RX3 48 RX3 yX3_leadsToSink wsX3_leadsToSink) := goodIn_app (goodIn_of _ (by decide +kernel)) ggX3_areTree_X3_leadsToSink
theorem dX3_areTree_0 : decode cX3_areTree 0 = .ok (.iconst 0, 1) := by decide +kernel
theorem dX3_areTree_1 : decode cX3_areTree 1 = .ok (.istore_n 1, 1) := by decide +kernel
theorem dX3_areTree_2 : decode cX3_areTree 2 = .ok (.iload_n 1, 1) := by decide +kernel
theorem dX3_areTree_3 : decode cX3_areTree 3 = .ok (.aload_n 0, 1) := by decide +kernel
theorem dX3_areTree_4 : decode cX3_areTree 4 = .ok (.getfield 15, 3) := by decide +kernel
theorem dX3_areTree_7 : decode cX3_areTree 7 = .ok (.getfield 45, 3) := by decide +kernel
theorem dX3_areTree_10 : decode cX3_areTree 10 = .ok (.if_icmp .ge 19, 3) := by decide +kernel
theorem dX3_areTree_13 : decode cX3_areTree 13 = .ok (.aload_n 0, 1) := by decide +kernel
theorem dX3_areTree_14 : decode cX3_areTree 14 = .ok (.iload_n 1, 1) := by decide +kernel
theorem dX3_areTree_15 : decode cX3_areTree 15 = .ok (.invokevirtual 48, 3) := by decide +kernel
theorem dX3_areTree_18 : decode cX3_areTree 18 = .ok (.ifCond .ne 5, 3) := by decide +kernel
theorem dX3_areTree_21 : decode cX3_areTree 21 = .ok (.iconst 0, 1) := by decide +kernel
theorem dX3_areTree_22 : decode cX3_areTree 22 = .ok (.ireturn, 1) := by decide +kernel
theorem dX3_areTree_23 : decode cX3_areTree 23 = .ok (.iinc 1 1, 3) := by decide +kernel
theorem dX3_areTree_26 : decode cX3_areTree 26 = .ok (.goto (-24), 3) := by decide +kernel
theorem dX3_areTree_29 : decode cX3_areTree 29 = .ok (.iconst 1, 1) := by decide +kernel
theorem dX3_areTree_30 : decode cX3_areTree 30 = .ok (.ireturn, 1) := by decide +kernel
set_option maxRecDepth 20000 in
theorem ggX3_leadsToSink_X2_isSpot : GoodIn wsX3_leadsToSink wsX2_isSpot := goodIn_r _ [7, 8, 23, 24, 25, 26] (by decide +kernel) (by decide +kernel)
set_option maxRecDepth 20000 in
theorem gX3_leadsToSink_X2_isSpot : GoodIn wsX3_leadsToSink (wsV RX3 19 RX2 yX2_isSpot wsX2_isSpot) := goodIn_app (goodIn_of _ (by decide +kernel)) ggX3_leadsToSink_X2_isSpot
set_option maxRecDepth 20000 in
theorem ggX3_leadsToSink_X3_pointedFrom : GoodIn wsX3_leadsToSink wsX3_pointedFrom := goodIn_r _ [13, 1, 14, 15, 16, 17, 6, 18, 19, 20, 21, 22, 23, 24, 25, 26] (by decide +kernel) (by decide +kernel)
set_option maxRecDepth 20000 in
theorem gX3_leadsToSink_X3_pointedFrom : GoodIn wsX3_leadsToSink (wsV RX3 34 RX3 yX3_pointedFrom wsX3_pointedFrom) := goodIn_app (goodIn_of _ (by decide +kernel)) ggX3_leadsToSink_X3_pointedFrom
theorem dX3_leadsToSink_0 : decode cX3_leadsToSink 0 = .ok (.iload_n 1, 1) := by decide +kernel
theorem dX3_leadsToSink_1 : decode cX3_leadsToSink 1 = .ok (.istore_n 2, 1) := by decide +kernel
theorem dX3_leadsToSink_2 : decode cX3_leadsToSink 2 = .ok (.iconst 0, 1) := by decide +kernel
theorem dX3_leadsToSink_3 : decode cX3_leadsToSink 3 = .ok (.istore_n 3, 1) := by decide +kernel
theorem dX3_leadsToSink_4 : decode cX3_leadsToSink 4 = .ok (.iload_n 3, 1) := by decide +kernel
theorem dX3_leadsToSink_5 : decode cX3_leadsToSink 5 = .ok (.aload_n 0, 1) := by decide +kernel
theorem dX3_leadsToSink_6 : decode cX3_leadsToSink 6 = .ok (.getfield 15, 3) := by decide +kernel
theorem dX3_leadsToSink_9 : decode cX3_leadsToSink 9 = .ok (.getfield 45, 3) := by decide +kernel
theorem dX3_leadsToSink_12 : decode cX3_leadsToSink 12 = .ok (.if_icmp .ge 26, 3) := by decide +kernel
theorem dX3_leadsToSink_15 : decode cX3_leadsToSink 15 = .ok (.aload_n 0, 1) := by decide +kernel
theorem dX3_leadsToSink_16 : decode cX3_leadsToSink 16 = .ok (.getfield 15, 3) := by decide +kernel
theorem dX3_leadsToSink_19 : decode cX3_leadsToSink 19 = .ok (.iload_n 2, 1) := by decide +kernel
theorem dX3_leadsToSink_20 : decode cX3_leadsToSink 20 = .ok (.invokevirtual 19, 3) := by decide +kernel
theorem dX3_leadsToSink_23 : decode cX3_leadsToSink 23 = .ok (.ifCond .eq 15, 3) := by decide +kernel
theorem dX3_leadsToSink_26 : decode cX3_leadsToSink 26 = .ok (.aload_n 0, 1) := by decide +kernel
theorem dX3_leadsToSink_27 : decode cX3_leadsToSink 27 = .ok (.iload_n 2, 1) := by decide +kernel
theorem dX3_leadsToSink_28 : decode cX3_leadsToSink 28 = .ok (.invokevirtual 34, 3) := by decide +kernel
theorem dX3_leadsToSink_31 : decode cX3_leadsToSink 31 = .ok (.istore_n 2, 1) := by decide +kernel
theorem dX3_leadsToSink_32 : decode cX3_leadsToSink 32 = .ok (.iinc 3 1, 3) := by decide +kernel
theorem dX3_leadsToSink_35 : decode cX3_leadsToSink 35 = .ok (.goto (-31), 3) := by decide +kernel
theorem dX3_leadsToSink_38 : decode cX3_leadsToSink 38 = .ok (.iload_n 2, 1) := by decide +kernel
theorem dX3_leadsToSink_39 : decode cX3_leadsToSink 39 = .ok (.bipush 6, 2) := by decide +kernel
theorem dX3_leadsToSink_41 : decode cX3_leadsToSink 41 = .ok (.if_icmp .ne 7, 3) := by decide +kernel
theorem dX3_leadsToSink_44 : decode cX3_leadsToSink 44 = .ok (.iconst 1, 1) := by decide +kernel
theorem dX3_leadsToSink_45 : decode cX3_leadsToSink 45 = .ok (.goto 4, 3) := by decide +kernel
theorem dX3_leadsToSink_48 : decode cX3_leadsToSink 48 = .ok (.iconst 0, 1) := by decide +kernel
theorem dX3_leadsToSink_49 : decode cX3_leadsToSink 49 = .ok (.ireturn, 1) := by decide +kernel
set_option maxRecDepth 20000 in
theorem ggX4_init_X2_init : GoodIn wsX4_init wsX2_init := goodIn_r _ [27, 28, 2, 3, 29, 24, 30, 31, 32, 33, 34, 58, 59, 60, 61] (by decide +kernel) (by decide +kernel)
set_option maxRecDepth 20000 in
theorem gX4_init_X2_init_n9 : GoodIn wsX4_init (wsX2_init) := ggX4_init_X2_init
set_option maxRecDepth 20000 in
theorem ggX4_init_X0_init : GoodIn wsX4_init wsX0_init := goodIn_r _ [37, 38, 2, 3, 24, 39, 40, 41, 73, 74, 75] (by decide +kernel) (by decide +kernel)
set_option maxRecDepth 20000 in
theorem gX4_init_X0_init : GoodIn wsX4_init (wsX0_init) := ggX4_init_X0_init
set_option maxRecDepth 20000 in
theorem ggX4_init_X3_init : GoodIn wsX4_init wsX3_init := goodIn_r _ [44, 45, 2, 3, 24, 46, 47, 76, 77, 78] (by decide +kernel) (by decide +kernel)
set_option maxRecDepth 20000 in
theorem gX4_init_X3_init : GoodIn wsX4_init (wsX3_init) := ggX4_init_X3_init
set_option maxRecDepth 20000 in
theorem ggX4_init_X1_init : GoodIn wsX4_init wsX1_init := goodIn_r _ [50, 51, 2, 3, 24, 52, 53, 54, 9, 10, 55, 56, 57, 36, 37, 38, 39, 40, 41, 79, 80, 81, 82, 73, 74, 75] (by decide +kernel) (by decide +kernel)
set_option maxRecDepth 20000 in
theorem gX4_init_X1_init : GoodIn wsX4_init (wsX1_init) := ggX4_init_X1_init
theorem dX4_init_0 : decode cX4_init 0 = .ok (.aload_n 0, 1) := by decide +kernel
theorem dX4_init_1 : decode cX4_init 1 = .ok (.invokespecial 1, 3) := by decide +kernel
theorem dX4_init_4 : decode cX4_init 4 = .ok (.aload_n 0, 1) := by decide +kernel
theorem dX4_init_5 : decode cX4_init 5 = .ok (.new 7, 3) := by decide +kernel
theorem dX4_init_8 : decode cX4_init 8 = .ok (.dup, 1) := by decide +kernel
theorem dX4_init_9 : decode cX4_init 9 = .ok (.invokespecial 9, 3) := by decide +kernel
theorem dX4_init_12 : decode cX4_init 12 = .ok (.putfield 10, 3) := by decide +kernel
theorem dX4_init_15 : decode cX4_init 15 = .ok (.aload_n 0, 1) := by decide +kernel
theorem dX4_init_16 : decode cX4_init 16 = .ok (.new 16, 3) := by decide +kernel
theorem dX4_init_19 : decode cX4_init 19 = .ok (.dup, 1) := by decide +kernel
theorem dX4_init_20 : decode cX4_init 20 = .ok (.aload_n 0, 1) := by decide +kernel
theorem dX4_init_21 : decode cX4_init 21 = .ok (.getfield 10, 3) := by decide +kernel
theorem dX4_init_24 : decode cX4_init 24 = .ok (.invokespecial 18, 3) := by decide +kernel
theorem dX4_init_27 : decode cX4_init 27 = .ok (.putfield 21, 3) := by decide +kernel
theorem dX4_init_30 : decode cX4_init 30 = .ok (.aload_n 0, 1) := by decide +kernel
theorem dX4_init_31 : decode cX4_init 31 = .ok (.new 16, 3) := by decide +kernel
theorem dX4_init_34 : decode cX4_init 34 = .ok (.dup, 1) := by decide +kernel
theorem dX4_init_35 : decode cX4_init 35 = .ok (.aload_n 0, 1) := by decide +kernel
theorem dX4_init_36 : decode cX4_init 36 = .ok (.getfield 10, 3) := by decide +kernel
theorem dX4_init_39 : decode cX4_init 39 = .ok (.invokespecial 18, 3) := by decide +kernel
end
section
theorem dX4_init_42 : decode cX4_init 42 = .ok (.putfield 25, 3) := by decide +kernel
theorem dX4_init_45 : decode cX4_init 45 = .ok (.aload_n 0, 1) := by decide +kernel
theorem dX4_init_46 : decode cX4_init 46 = .ok (.new 16, 3) := by decide +kernel
theorem dX4_init_49 : decode cX4_init 49 = .ok (.dup, 1) := by decide +kernel
theorem dX4_init_50 : decode cX4_init 50 = .ok (.aload_n 0, 1) := by decide +kernel
theorem dX4_init_51 : decode cX4_init 51 = .ok (.getfield 10, 3) := by decide +kernel
theorem dX4_init_54 : decode cX4_init 54 = .ok (.invokespecial 18, 3) := by decide +kernel
theorem dX4_init_57 : decode cX4_init 57 = .ok (.putfield 28, 3) := by decide +kernel
theorem dX4_init_60 : decode cX4_init 60 = .ok (.aload_n 0, 1) := by decide +kernel
theorem dX4_init_61 : decode cX4_init 61 = .ok (.new 16, 3) := by decide +kernel
theorem dX4_init_64 : decode cX4_init 64 = .ok (.dup, 1) := by decide +kernel
theorem dX4_init_65 : decode cX4_init 65 = .ok (.aload_n 0, 1) := by decide +kernel
theorem dX4_init_66 : decode cX4_init 66 = .ok (.getfield 10, 3) := by decide +kernel
theorem dX4_init_69 : decode cX4_init 69 = .ok (.invokespecial 18, 3) := by decide +kernel
theorem dX4_init_72 : decode cX4_init 72 = .ok (.putfield 31, 3) := by decide +kernel
theorem dX4_init_75 : decode cX4_init 75 = .ok (.aload_n 0, 1) := by decide +kernel
theorem dX4_init_76 : decode cX4_init 76 = .ok (.new 34, 3) := by decide +kernel
theorem dX4_init_79 : decode cX4_init 79 = .ok (.dup, 1) := by decide +kernel
theorem dX4_init_80 : decode cX4_init 80 = .ok (.aload_n 0, 1) := by decide +kernel
theorem dX4_init_81 : decode cX4_init 81 = .ok (.getfield 10, 3) := by decide +kernel
theorem dX4_init_84 : decode cX4_init 84 = .ok (.invokespecial 36, 3) := by decide +kernel
theorem dX4_init_87 : decode cX4_init 87 = .ok (.putfield 37, 3) := by decide +kernel
theorem dX4_init_90 : decode cX4_init 90 = .ok (.aload_n 0, 1) := by decide +kernel
theorem dX4_init_91 : decode cX4_init 91 = .ok (.new 41, 3) := by decide +kernel
theorem dX4_init_94 : decode cX4_init 94 = .ok (.dup, 1) := by decide +kernel
theorem dX4_init_95 : decode cX4_init 95 = .ok (.aload_n 0, 1) := by decide +kernel
theorem dX4_init_96 : decode cX4_init 96 = .ok (.getfield 10, 3) := by decide +kernel
theorem dX4_init_99 : decode cX4_init 99 = .ok (.invokespecial 43, 3) := by decide +kernel
theorem dX4_init_102 : decode cX4_init 102 = .ok (.putfield 44, 3) := by decide +kernel
theorem dX4_init_105 : decode cX4_init 105 = .ok (.aload_n 0, 1) := by decide +kernel
theorem dX4_init_106 : decode cX4_init 106 = .ok (.iconst 4, 1) := by decide +kernel
theorem dX4_init_107 : decode cX4_init 107 = .ok (.bipush 6, 2) := by decide +kernel
theorem dX4_init_109 : decode cX4_init 109 = .ok (.multianewarray 48 2, 4) := by decide +kernel
theorem dX4_init_113 : decode cX4_init 113 = .ok (.putfield 50, 3) := by decide +kernel
theorem dX4_init_116 : decode cX4_init 116 = .ok (.return_, 1) := by decide +kernel
theorem dX4_spot_0 : decode cX4_spot 0 = .ok (.aload_n 0, 1) := by decide +kernel
theorem dX4_spot_1 : decode cX4_spot 1 = .ok (.getfield 10, 3) := by decide +kernel
theorem dX4_spot_4 : decode cX4_spot 4 = .ok (.getfield 53, 3) := by decide +kernel
theorem dX4_spot_7 : decode cX4_spot 7 = .ok (.bipush 6, 2) := by decide +kernel
theorem dX4_spot_9 : decode cX4_spot 9 = .ok (.if_icmp .lt 13, 3) := by decide +kernel
theorem dX4_spot_12 : decode cX4_spot 12 = .ok (.new 57, 3) := by decide +kernel
theorem dX4_spot_15 : decode cX4_spot 15 = .ok (.dup, 1) := by decide +kernel
theorem dX4_spot_16 : decode cX4_spot 16 = .ok (.ldc 59, 2) := by decide +kernel
theorem dX4_spot_18 : decode cX4_spot 18 = .ok (.invokespecial 61, 3) := by decide +kernel
theorem dX4_spot_21 : decode cX4_spot 21 = .ok (.athrow, 1) := by decide +kernel
theorem dX4_spot_22 : decode cX4_spot 22 = .ok (.aload_n 0, 1) := by decide +kernel
theorem dX4_spot_23 : decode cX4_spot 23 = .ok (.getfield 10, 3) := by decide +kernel
theorem dX4_spot_26 : decode cX4_spot 26 = .ok (.dup, 1) := by decide +kernel
theorem dX4_spot_27 : decode cX4_spot 27 = .ok (.getfield 53, 3) := by decide +kernel
theorem dX4_spot_30 : decode cX4_spot 30 = .ok (.iconst 1, 1) := by decide +kernel
theorem dX4_spot_31 : decode cX4_spot 31 = .ok (.iadd, 1) := by decide +kernel
theorem dX4_spot_32 : decode cX4_spot 32 = .ok (.putfield 53, 3) := by decide +kernel
theorem dX4_spot_35 : decode cX4_spot 35 = .ok (.aload_n 0, 1) := by decide +kernel
theorem dX4_spot_36 : decode cX4_spot 36 = .ok (.getfield 10, 3) := by decide +kernel
theorem dX4_spot_39 : decode cX4_spot 39 = .ok (.getfield 53, 3) := by decide +kernel
theorem dX4_spot_42 : decode cX4_spot 42 = .ok (.iconst 1, 1) := by decide +kernel
theorem dX4_spot_43 : decode cX4_spot 43 = .ok (.isub, 1) := by decide +kernel
theorem dX4_spot_44 : decode cX4_spot 44 = .ok (.ireturn, 1) := by decide +kernel
set_option maxRecDepth 20000 in
theorem ggX4_edge_X4_requireNode : GoodIn wsX4_edge wsX4_requireNode := goodIn_ca (goodIn_r _ [10, 11, 12, 3, 13, 14, 15, 16, 17, 18, 19, 20, 21, 22, 40, 41, 42, 43, 44, 45, 46, 47, 48, 49, 50, 51, 52, 53, 54] (by decide +kernel) (by decide +kernel)) (goodIn_sub (fun _ h => List.mem_cons_of_mem _ (List.mem_append_right _ h)) (by decide +kernel))
set_option maxRecDepth 20000 in
theorem gX4_edge_X4_requireNode : GoodIn wsX4_edge (wsV RX4 64 RX4 yX4_requireNode wsX4_requireNode) := goodIn_app (goodIn_of _ (by decide +kernel)) ggX4_edge_X4_requireNode
set_option maxRecDepth 20000 in
theorem ggX4_edge_X4_requireWithin : GoodIn wsX4_edge wsX4_requireWithin := goodIn_ca (goodIn_r _ [25, 1, 2] (by decide +kernel) (by decide +kernel)) (goodIn_sub (fun _ h => List.mem_cons_of_mem _ (List.mem_append_left _ (List.mem_append_right _ h))) (by decide +kernel))
set_option maxRecDepth 20000 in
theorem gX4_edge_X4_requireWithin : GoodIn wsX4_edge (va_wsS RX4 73 yX4_requireWithin wsX4_requireWithin) := goodIn_app (goodIn_of _ (by decide +kernel)) ggX4_edge_X4_requireWithin
set_option maxRecDepth 20000 in
theorem ggX4_edge_X2_lay : GoodIn wsX4_edge wsX2_lay := goodIn_r _ [29, 30, 31, 51, 52, 53, 54] (by decide +kernel) (by decide +kernel)
set_option maxRecDepth 20000 in
theorem gX4_edge_X2_lay : GoodIn wsX4_edge (wsV RX4 80 RX2 yX2_lay wsX2_lay) := goodIn_app (goodIn_of _ (by decide +kernel)) ggX4_edge_X2_lay
set_option maxRecDepth 20000 in
theorem ggX4_edge_X3_reset : GoodIn wsX4_edge wsX3_reset := goodIn_r _ [36, 37, 38, 39, 19, 20, 16, 21, 22, 55, 56, 57, 51, 52, 53, 54] (by decide +kernel) (by decide +kernel)
set_option maxRecDepth 20000 in
theorem gX4_edge_X3_reset : GoodIn wsX4_edge (wsV RX4 83 RX3 yX3_reset wsX3_reset) := goodIn_app (goodIn_of _ (by decide +kernel)) ggX4_edge_X3_reset
theorem dX4_edge_0 : decode cX4_edge 0 = .ok (.aload_n 0, 1) := by decide +kernel
theorem dX4_edge_1 : decode cX4_edge 1 = .ok (.iload_n 1, 1) := by decide +kernel
theorem dX4_edge_2 : decode cX4_edge 2 = .ok (.invokevirtual 64, 3) := by decide +kernel
theorem dX4_edge_5 : decode cX4_edge 5 = .ok (.aload_n 0, 1) := by decide +kernel
theorem dX4_edge_6 : decode cX4_edge 6 = .ok (.iload_n 2, 1) := by decide +kernel
theorem dX4_edge_7 : decode cX4_edge 7 = .ok (.invokevirtual 64, 3) := by decide +kernel
theorem dX4_edge_10 : decode cX4_edge 10 = .ok (.iload_n 1, 1) := by decide +kernel
theorem dX4_edge_11 : decode cX4_edge 11 = .ok (.iload_n 2, 1) := by decide +kernel
theorem dX4_edge_12 : decode cX4_edge 12 = .ok (.if_icmp .ne 13, 3) := by decide +kernel
theorem dX4_edge_15 : decode cX4_edge 15 = .ok (.new 68, 3) := by decide +kernel
theorem dX4_edge_18 : decode cX4_edge 18 = .ok (.dup, 1) := by decide +kernel
theorem dX4_edge_19 : decode cX4_edge 19 = .ok (.ldc 70, 2) := by decide +kernel
theorem dX4_edge_21 : decode cX4_edge 21 = .ok (.invokespecial 72, 3) := by decide +kernel
theorem dX4_edge_24 : decode cX4_edge 24 = .ok (.athrow, 1) := by decide +kernel
theorem dX4_edge_25 : decode cX4_edge 25 = .ok (.iload_n 3, 1) := by decide +kernel
theorem dX4_edge_26 : decode cX4_edge 26 = .ok (.iconst 0, 1) := by decide +kernel
theorem dX4_edge_27 : decode cX4_edge 27 = .ok (.iconst 3, 1) := by decide +kernel
theorem dX4_edge_28 : decode cX4_edge 28 = .ok (.invokestatic 73, 3) := by decide +kernel
theorem dX4_edge_31 : decode cX4_edge 31 = .ok (.aload_n 0, 1) := by decide +kernel
theorem dX4_edge_32 : decode cX4_edge 32 = .ok (.getfield 10, 3) := by decide +kernel
theorem dX4_edge_35 : decode cX4_edge 35 = .ok (.getfield 77, 3) := by decide +kernel
theorem dX4_edge_38 : decode cX4_edge 38 = .ok (.iload_n 1, 1) := by decide +kernel
theorem dX4_edge_39 : decode cX4_edge 39 = .ok (.aaload, 1) := by decide +kernel
theorem dX4_edge_40 : decode cX4_edge 40 = .ok (.iload_n 2, 1) := by decide +kernel
theorem dX4_edge_41 : decode cX4_edge 41 = .ok (.iaload, 1) := by decide +kernel
theorem dX4_edge_42 : decode cX4_edge 42 = .ok (.istore 4, 2) := by decide +kernel
theorem dX4_edge_44 : decode cX4_edge 44 = .ok (.aload_n 0, 1) := by decide +kernel
theorem dX4_edge_45 : decode cX4_edge 45 = .ok (.getfield 10, 3) := by decide +kernel
theorem dX4_edge_48 : decode cX4_edge 48 = .ok (.iload_n 1, 1) := by decide +kernel
theorem dX4_edge_49 : decode cX4_edge 49 = .ok (.iload_n 2, 1) := by decide +kernel
theorem dX4_edge_50 : decode cX4_edge 50 = .ok (.iload_n 3, 1) := by decide +kernel
theorem dX4_edge_51 : decode cX4_edge 51 = .ok (.invokevirtual 80, 3) := by decide +kernel
theorem dX4_edge_54 : decode cX4_edge 54 = .ok (.aload_n 0, 1) := by decide +kernel
theorem dX4_edge_55 : decode cX4_edge 55 = .ok (.getfield 37, 3) := by decide +kernel
theorem dX4_edge_58 : decode cX4_edge 58 = .ok (.iload_n 1, 1) := by decide +kernel
theorem dX4_edge_59 : decode cX4_edge 59 = .ok (.invokevirtual 83, 3) := by decide +kernel
theorem dX4_edge_62 : decode cX4_edge 62 = .ok (.aload_n 0, 1) := by decide +kernel
theorem dX4_edge_63 : decode cX4_edge 63 = .ok (.getfield 37, 3) := by decide +kernel
theorem dX4_edge_66 : decode cX4_edge 66 = .ok (.iload_n 2, 1) := by decide +kernel
theorem dX4_edge_67 : decode cX4_edge 67 = .ok (.invokevirtual 83, 3) := by decide +kernel
theorem dX4_edge_70 : decode cX4_edge 70 = .ok (.iload 4, 2) := by decide +kernel
theorem dX4_edge_72 : decode cX4_edge 72 = .ok (.ireturn, 1) := by decide +kernel
set_option maxRecDepth 20000 in
theorem ggX4_drop_X4_requireSpot : GoodIn wsX4_drop wsX4_requireSpot := goodIn_ca (goodIn_r _ [9, 10, 11, 12, 13, 14, 15, 16, 17, 18, 24, 25, 26, 27, 28, 29, 30, 31, 32, 33, 34, 38, 39, 40, 41] (by decide +kernel) (by decide +kernel)) (goodIn_sub (fun _ h => List.mem_cons_of_mem _ (List.mem_append_left _ (List.mem_append_right _ h))) (by decide +kernel))
set_option maxRecDepth 20000 in
theorem gX4_drop_X4_requireSpot : GoodIn wsX4_drop (wsV RX4 86 RX4 yX4_requireSpot wsX4_requireSpot) := goodIn_app (goodIn_of _ (by decide +kernel)) ggX4_drop_X4_requireSpot
set_option maxRecDepth 20000 in
theorem ggX4_drop_X4_requireWithin : GoodIn wsX4_drop wsX4_requireWithin := goodIn_ca (goodIn_r _ [21, 22, 23] (by decide +kernel) (by decide +kernel)) (goodIn_sub (fun _ h => List.mem_cons_of_mem _ (List.mem_append_right _ h)) (by decide +kernel))
set_option maxRecDepth 20000 in
theorem gX4_drop_X4_requireWithin : GoodIn wsX4_drop (va_wsS RX4 73 yX4_requireWithin wsX4_requireWithin) := goodIn_app (goodIn_of _ (by decide +kernel)) ggX4_drop_X4_requireWithin
theorem dX4_drop_0 : decode cX4_drop 0 = .ok (.aload_n 0, 1) := by decide +kernel
theorem dX4_drop_1 : decode cX4_drop 1 = .ok (.iload_n 1, 1) := by decide +kernel
theorem dX4_drop_2 : decode cX4_drop 2 = .ok (.invokevirtual 86, 3) := by decide +kernel
theorem dX4_drop_5 : decode cX4_drop 5 = .ok (.iload_n 2, 1) := by decide +kernel
theorem dX4_drop_6 : decode cX4_drop 6 = .ok (.iconst 1, 1) := by decide +kernel
theorem dX4_drop_7 : decode cX4_drop 7 = .ok (.bipush 40, 2) := by decide +kernel
theorem dX4_drop_9 : decode cX4_drop 9 = .ok (.invokestatic 73, 3) := by decide +kernel
theorem dX4_drop_12 : decode cX4_drop 12 = .ok (.aload_n 0, 1) := by decide +kernel
theorem dX4_drop_13 : decode cX4_drop 13 = .ok (.getfield 21, 3) := by decide +kernel
theorem dX4_drop_16 : decode cX4_drop 16 = .ok (.getfield 89, 3) := by decide +kernel
theorem dX4_drop_19 : decode cX4_drop 19 = .ok (.iload_n 1, 1) := by decide +kernel
theorem dX4_drop_20 : decode cX4_drop 20 = .ok (.iaload, 1) := by decide +kernel
theorem dX4_drop_21 : decode cX4_drop 21 = .ok (.iload_n 2, 1) := by decide +kernel
theorem dX4_drop_22 : decode cX4_drop 22 = .ok (.iadd, 1) := by decide +kernel
theorem dX4_drop_23 : decode cX4_drop 23 = .ok (.bipush 99, 2) := by decide +kernel
theorem dX4_drop_25 : decode cX4_drop 25 = .ok (.if_icmp .le 13, 3) := by decide +kernel
theorem dX4_drop_28 : decode cX4_drop 28 = .ok (.new 57, 3) := by decide +kernel
theorem dX4_drop_31 : decode cX4_drop 31 = .ok (.dup, 1) := by decide +kernel
theorem dX4_drop_32 : decode cX4_drop 32 = .ok (.ldc 93, 2) := by decide +kernel
theorem dX4_drop_34 : decode cX4_drop 34 = .ok (.invokespecial 61, 3) := by decide +kernel
theorem dX4_drop_37 : decode cX4_drop 37 = .ok (.athrow, 1) := by decide +kernel
theorem dX4_drop_38 : decode cX4_drop 38 = .ok (.aload_n 0, 1) := by decide +kernel
theorem dX4_drop_39 : decode cX4_drop 39 = .ok (.getfield 21, 3) := by decide +kernel
theorem dX4_drop_42 : decode cX4_drop 42 = .ok (.getfield 89, 3) := by decide +kernel
theorem dX4_drop_45 : decode cX4_drop 45 = .ok (.iload_n 1, 1) := by decide +kernel
theorem dX4_drop_46 : decode cX4_drop 46 = .ok (.dup2, 1) := by decide +kernel
theorem dX4_drop_47 : decode cX4_drop 47 = .ok (.iaload, 1) := by decide +kernel
theorem dX4_drop_48 : decode cX4_drop 48 = .ok (.iload_n 2, 1) := by decide +kernel
theorem dX4_drop_49 : decode cX4_drop 49 = .ok (.iadd, 1) := by decide +kernel
theorem dX4_drop_50 : decode cX4_drop 50 = .ok (.iastore, 1) := by decide +kernel
theorem dX4_drop_51 : decode cX4_drop 51 = .ok (.aload_n 0, 1) := by decide +kernel
theorem dX4_drop_52 : decode cX4_drop 52 = .ok (.getfield 21, 3) := by decide +kernel
theorem dX4_drop_55 : decode cX4_drop 55 = .ok (.getfield 89, 3) := by decide +kernel
theorem dX4_drop_58 : decode cX4_drop 58 = .ok (.iload_n 1, 1) := by decide +kernel
theorem dX4_drop_59 : decode cX4_drop 59 = .ok (.iaload, 1) := by decide +kernel
theorem dX4_drop_60 : decode cX4_drop 60 = .ok (.ireturn, 1) := by decide +kernel
set_option maxRecDepth 20000 in
theorem ggX4_topple_X4_requireSpot : GoodIn wsX4_topple wsX4_requireSpot := goodIn_ca (goodIn_r _ [12, 13, 14, 6, 15, 16, 17, 18, 19, 20, 35, 36, 37, 38, 39, 40, 41, 42, 43, 44, 45, 46, 47, 48, 49] (by decide +kernel) (by decide +kernel)) (goodIn_sub (fun _ h => List.mem_cons_of_mem _ (List.mem_append_right _ h)) (by decide +kernel))
set_option maxRecDepth 20000 in
theorem gX4_topple_X4_requireSpot : GoodIn wsX4_topple (wsV RX4 86 RX4 yX4_requireSpot wsX4_requireSpot) := goodIn_app (goodIn_of _ (by decide +kernel)) ggX4_topple_X4_requireSpot
set_option maxRecDepth 20000 in
theorem ggX4_topple_X0_isSteep : GoodIn wsX4_topple wsX0_isSteep := goodIn_r _ [25, 26, 27, 28, 50, 51, 52, 46, 47, 48, 49] (by decide +kernel) (by decide +kernel)
set_option maxRecDepth 20000 in
theorem gX4_topple_X0_isSteep : GoodIn wsX4_topple (wsV RX4 95 RX0 yX0_isSteep wsX0_isSteep) := goodIn_app (goodIn_of _ (by decide +kernel)) ggX4_topple_X0_isSteep
set_option maxRecDepth 20000 in
theorem ggX4_topple_X0_tip : GoodIn wsX4_topple wsX0_tip := goodIn_r _ [32, 28, 26, 27, 33, 34, 50, 51, 52, 46, 47, 48, 49] (by decide +kernel) (by decide +kernel)
set_option maxRecDepth 20000 in
theorem gX4_topple_X0_tip : GoodIn wsX4_topple (wsV RX4 101 RX0 yX0_tip wsX0_tip) := goodIn_app (goodIn_of _ (by decide +kernel)) ggX4_topple_X0_tip
theorem dX4_topple_0 : decode cX4_topple 0 = .ok (.aload_n 0, 1) := by decide +kernel
theorem dX4_topple_1 : decode cX4_topple 1 = .ok (.iload_n 1, 1) := by decide +kernel
theorem dX4_topple_2 : decode cX4_topple 2 = .ok (.invokevirtual 86, 3) := by decide +kernel
theorem dX4_topple_5 : decode cX4_topple 5 = .ok (.aload_n 0, 1) := by decide +kernel
theorem dX4_topple_6 : decode cX4_topple 6 = .ok (.getfield 21, 3) := by decide +kernel
theorem dX4_topple_9 : decode cX4_topple 9 = .ok (.iload_n 1, 1) := by decide +kernel
theorem dX4_topple_10 : decode cX4_topple 10 = .ok (.invokevirtual 95, 3) := by decide +kernel
theorem dX4_topple_13 : decode cX4_topple 13 = .ok (.ifCond .ne 13, 3) := by decide +kernel
theorem dX4_topple_16 : decode cX4_topple 16 = .ok (.new 57, 3) := by decide +kernel
theorem dX4_topple_19 : decode cX4_topple 19 = .ok (.dup, 1) := by decide +kernel
theorem dX4_topple_20 : decode cX4_topple 20 = .ok (.ldc 99, 2) := by decide +kernel
theorem dX4_topple_22 : decode cX4_topple 22 = .ok (.invokespecial 61, 3) := by decide +kernel
theorem dX4_topple_25 : decode cX4_topple 25 = .ok (.athrow, 1) := by decide +kernel
theorem dX4_topple_26 : decode cX4_topple 26 = .ok (.aload_n 0, 1) := by decide +kernel
theorem dX4_topple_27 : decode cX4_topple 27 = .ok (.getfield 21, 3) := by decide +kernel
theorem dX4_topple_30 : decode cX4_topple 30 = .ok (.iload_n 1, 1) := by decide +kernel
theorem dX4_topple_31 : decode cX4_topple 31 = .ok (.iconst 1, 1) := by decide +kernel
theorem dX4_topple_32 : decode cX4_topple 32 = .ok (.invokevirtual 101, 3) := by decide +kernel
theorem dX4_topple_35 : decode cX4_topple 35 = .ok (.aload_n 0, 1) := by decide +kernel
theorem dX4_topple_36 : decode cX4_topple 36 = .ok (.dup, 1) := by decide +kernel
theorem dX4_topple_37 : decode cX4_topple 37 = .ok (.getfield 105, 3) := by decide +kernel
theorem dX4_topple_40 : decode cX4_topple 40 = .ok (.iconst 1, 1) := by decide +kernel
theorem dX4_topple_41 : decode cX4_topple 41 = .ok (.iadd, 1) := by decide +kernel
theorem dX4_topple_42 : decode cX4_topple 42 = .ok (.putfield 105, 3) := by decide +kernel
theorem dX4_topple_45 : decode cX4_topple 45 = .ok (.aload_n 0, 1) := by decide +kernel
theorem dX4_topple_46 : decode cX4_topple 46 = .ok (.dup, 1) := by decide +kernel
theorem dX4_topple_47 : decode cX4_topple 47 = .ok (.getfield 108, 3) := by decide +kernel
theorem dX4_topple_50 : decode cX4_topple 50 = .ok (.aload_n 0, 1) := by decide +kernel
theorem dX4_topple_51 : decode cX4_topple 51 = .ok (.getfield 10, 3) := by decide +kernel
theorem dX4_topple_54 : decode cX4_topple 54 = .ok (.getfield 77, 3) := by decide +kernel
theorem dX4_topple_57 : decode cX4_topple 57 = .ok (.iload_n 1, 1) := by decide +kernel
theorem dX4_topple_58 : decode cX4_topple 58 = .ok (.aaload, 1) := by decide +kernel
theorem dX4_topple_59 : decode cX4_topple 59 = .ok (.bipush 6, 2) := by decide +kernel
theorem dX4_topple_61 : decode cX4_topple 61 = .ok (.iaload, 1) := by decide +kernel
theorem dX4_topple_62 : decode cX4_topple 62 = .ok (.iadd, 1) := by decide +kernel
theorem dX4_topple_63 : decode cX4_topple 63 = .ok (.putfield 108, 3) := by decide +kernel
theorem dX4_topple_66 : decode cX4_topple 66 = .ok (.aload_n 0, 1) := by decide +kernel
theorem dX4_topple_67 : decode cX4_topple 67 = .ok (.getfield 10, 3) := by decide +kernel
theorem dX4_topple_70 : decode cX4_topple 70 = .ok (.getfield 77, 3) := by decide +kernel
theorem dX4_topple_73 : decode cX4_topple 73 = .ok (.iload_n 1, 1) := by decide +kernel
theorem dX4_topple_74 : decode cX4_topple 74 = .ok (.aaload, 1) := by decide +kernel
theorem dX4_topple_75 : decode cX4_topple 75 = .ok (.bipush 6, 2) := by decide +kernel
theorem dX4_topple_77 : decode cX4_topple 77 = .ok (.iaload, 1) := by decide +kernel
theorem dX4_topple_78 : decode cX4_topple 78 = .ok (.ireturn, 1) := by decide +kernel
set_option maxRecDepth 20000 in
theorem ggX4_settle_X4_requireFast : GoodIn wsX4_settle wsX4_requireFast := goodIn_ca (goodIn_r _ [5, 6, 7, 8, 9, 10, 11, 12, 13, 14, 15, 16, 17, 18, 19, 20, 21, 22, 23, 24, 25, 26, 66, 67, 68, 69, 70, 71, 72, 73, 74, 75, 76, 77, 78, 79, 80] (by decide +kernel) (by decide +kernel)) (goodIn_sub (fun _ h => List.mem_cons_of_mem _ (List.mem_append_right _ h)) (by decide +kernel))
set_option maxRecDepth 20000 in
theorem gX4_settle_X4_requireFast : GoodIn wsX4_settle (wsV RX4 111 RX4 yX4_requireFast wsX4_requireFast) := goodIn_app (goodIn_of _ (by decide +kernel)) ggX4_settle_X4_requireFast
set_option maxRecDepth 20000 in
theorem ggX4_settle_X4_settleLying : GoodIn wsX4_settle wsX4_settleLying := goodIn_r _ [30, 31, 32, 33, 34, 35, 36, 37, 38, 39, 40, 41, 42, 43, 44, 45, 46, 47, 48, 49, 50, 51, 52, 53, 54, 55, 56, 57, 58, 59, 60, 61, 62, 63, 64, 65, 66, 67, 68, 69, 70, 71, 72, 73, 74, 75, 76, 81, 82, 83, 77, 78, 79, 80] (by decide +kernel) (by decide +kernel)
set_option maxRecDepth 20000 in
theorem gX4_settle_X4_settleLying : GoodIn wsX4_settle (wsV RX4 114 RX4 yX4_settleLying wsX4_settleLying) := goodIn_app (goodIn_of _ (by decide +kernel)) ggX4_settle_X4_settleLying
theorem dX4_settle_0 : decode cX4_settle 0 = .ok (.aload_n 0, 1) := by decide +kernel
theorem dX4_settle_1 : decode cX4_settle 1 = .ok (.invokevirtual 111, 3) := by decide +kernel
theorem dX4_settle_4 : decode cX4_settle 4 = .ok (.aload_n 0, 1) := by decide +kernel
theorem dX4_settle_5 : decode cX4_settle 5 = .ok (.invokevirtual 114, 3) := by decide +kernel
theorem dX4_settle_8 : decode cX4_settle 8 = .ok (.ireturn, 1) := by decide +kernel
theorem dX4_keep_0 : decode cX4_keep 0 = .ok (.aload_n 0, 1) := by decide +kernel
theorem dX4_keep_1 : decode cX4_keep 1 = .ok (.getfield 118, 3) := by decide +kernel
theorem dX4_keep_4 : decode cX4_keep 4 = .ok (.iconst 4, 1) := by decide +kernel
theorem dX4_keep_5 : decode cX4_keep 5 = .ok (.if_icmp .lt 13, 3) := by decide +kernel
theorem dX4_keep_8 : decode cX4_keep 8 = .ok (.new 57, 3) := by decide +kernel
theorem dX4_keep_11 : decode cX4_keep 11 = .ok (.dup, 1) := by decide +kernel
theorem dX4_keep_12 : decode cX4_keep 12 = .ok (.ldc 121, 2) := by decide +kernel
theorem dX4_keep_14 : decode cX4_keep 14 = .ok (.invokespecial 61, 3) := by decide +kernel
theorem dX4_keep_17 : decode cX4_keep 17 = .ok (.athrow, 1) := by decide +kernel
theorem dX4_keep_18 : decode cX4_keep 18 = .ok (.aload_n 0, 1) := by decide +kernel
theorem dX4_keep_19 : decode cX4_keep 19 = .ok (.getfield 21, 3) := by decide +kernel
theorem dX4_keep_22 : decode cX4_keep 22 = .ok (.getfield 89, 3) := by decide +kernel
theorem dX4_keep_25 : decode cX4_keep 25 = .ok (.iconst 0, 1) := by decide +kernel
theorem dX4_keep_26 : decode cX4_keep 26 = .ok (.aload_n 0, 1) := by decide +kernel
theorem dX4_keep_27 : decode cX4_keep 27 = .ok (.getfield 50, 3) := by decide +kernel
theorem dX4_keep_30 : decode cX4_keep 30 = .ok (.aload_n 0, 1) := by decide +kernel
theorem dX4_keep_31 : decode cX4_keep 31 = .ok (.getfield 118, 3) := by decide +kernel
theorem dX4_keep_34 : decode cX4_keep 34 = .ok (.aaload, 1) := by decide +kernel
theorem dX4_keep_35 : decode cX4_keep 35 = .ok (.iconst 0, 1) := by decide +kernel
theorem dX4_keep_36 : decode cX4_keep 36 = .ok (.bipush 6, 2) := by decide +kernel
theorem dX4_keep_38 : decode cX4_keep 38 = .ok (.invokestatic 123, 3) := by decide +kernel
theorem dX4_keep_41 : decode cX4_keep 41 = .ok (.aload_n 0, 1) := by decide +kernel
theorem dX4_keep_42 : decode cX4_keep 42 = .ok (.dup, 1) := by decide +kernel
theorem dX4_keep_43 : decode cX4_keep 43 = .ok (.getfield 118, 3) := by decide +kernel
theorem dX4_keep_46 : decode cX4_keep 46 = .ok (.iconst 1, 1) := by decide +kernel
theorem dX4_keep_47 : decode cX4_keep 47 = .ok (.iadd, 1) := by decide +kernel
theorem dX4_keep_48 : decode cX4_keep 48 = .ok (.putfield 118, 3) := by decide +kernel
theorem dX4_keep_51 : decode cX4_keep 51 = .ok (.aload_n 0, 1) := by decide +kernel
theorem dX4_keep_52 : decode cX4_keep 52 = .ok (.getfield 118, 3) := by decide +kernel
theorem dX4_keep_55 : decode cX4_keep 55 = .ok (.iconst 1, 1) := by decide +kernel
theorem dX4_keep_56 : decode cX4_keep 56 = .ok (.isub, 1) := by decide +kernel
theorem dX4_keep_57 : decode cX4_keep 57 = .ok (.ireturn, 1) := by decide +kernel
set_option maxRecDepth 20000 in
theorem ggX4_add_X4_requireHeap : GoodIn wsX4_add wsX4_requireHeap := goodIn_ca (goodIn_r _ [12, 13, 14, 15, 80, 81, 82, 83, 84, 85, 86, 87, 88, 89, 90] (by decide +kernel) (by decide +kernel)) (goodIn_sub (fun _ h => List.mem_cons_of_mem _ (List.mem_append_right _ h)) (by decide +kernel))
set_option maxRecDepth 20000 in
theorem gX4_add_X4_requireHeap : GoodIn wsX4_add (wsV RX4 129 RX4 yX4_requireHeap wsX4_requireHeap) := goodIn_app (goodIn_of _ (by decide +kernel)) ggX4_add_X4_requireHeap
set_option maxRecDepth 20000 in
theorem ggX4_add_X4_requireFast : GoodIn wsX4_add wsX4_requireFast := goodIn_ca (goodIn_r _ [19, 1, 2, 3, 20, 21, 22, 23, 24, 25, 26, 27, 28, 29, 30, 31, 32, 33, 34, 35, 36, 37, 80, 81, 82, 83, 84, 85, 86, 87, 88, 89, 90, 91, 92, 93, 94] (by decide +kernel) (by decide +kernel)) (goodIn_sub (fun _ h => List.mem_cons_of_mem _ (List.mem_append_left _ (List.mem_append_right _ h))) (by decide +kernel))
set_option maxRecDepth 20000 in
theorem gX4_add_X4_requireFast : GoodIn wsX4_add (wsV RX4 111 RX4 yX4_requireFast wsX4_requireFast) := goodIn_app (goodIn_of _ (by decide +kernel)) ggX4_add_X4_requireFast
set_option maxRecDepth 20000 in
theorem ggX4_add_X0_addRow : GoodIn wsX4_add wsX0_addRow := goodIn_r _ [42, 43, 44, 45, 95, 96, 97, 91, 92, 93, 94] (by decide +kernel) (by decide +kernel)
set_option maxRecDepth 20000 in
theorem gX4_add_X0_addRow : GoodIn wsX4_add (wsV RX4 132 RX0 yX0_addRow wsX0_addRow) := goodIn_app (goodIn_of _ (by decide +kernel)) ggX4_add_X0_addRow
set_option maxRecDepth 20000 in
theorem ggX4_add_X4_settleLying : GoodIn wsX4_add wsX4_settleLying := goodIn_r _ [49, 5, 50, 51, 52, 53, 54, 41, 55, 56, 57, 58, 59, 60, 61, 62, 63, 64, 65, 43, 44, 66, 45, 67, 68, 69, 70, 71, 72, 73, 74, 75, 76, 77, 78, 79, 80, 81, 82, 83, 84, 85, 86, 87, 88, 89, 90, 95, 96, 97, 91, 92, 93, 94] (by decide +kernel) (by decide +kernel)
set_option maxRecDepth 20000 in
theorem gX4_add_X4_settleLying : GoodIn wsX4_add (wsV RX4 114 RX4 yX4_settleLying wsX4_settleLying) := goodIn_app (goodIn_of _ (by decide +kernel)) ggX4_add_X4_settleLying
theorem dX4_add_0 : decode cX4_add 0 = .ok (.aload_n 0, 1) := by decide +kernel
theorem dX4_add_1 : decode cX4_add 1 = .ok (.iload_n 1, 1) := by decide +kernel
theorem dX4_add_2 : decode cX4_add 2 = .ok (.invokevirtual 129, 3) := by decide +kernel
theorem dX4_add_5 : decode cX4_add 5 = .ok (.aload_n 0, 1) := by decide +kernel
theorem dX4_add_6 : decode cX4_add 6 = .ok (.invokevirtual 111, 3) := by decide +kernel
theorem dX4_add_9 : decode cX4_add 9 = .ok (.iconst 0, 1) := by decide +kernel
theorem dX4_add_10 : decode cX4_add 10 = .ok (.istore_n 2, 1) := by decide +kernel
theorem dX4_add_11 : decode cX4_add 11 = .ok (.iload_n 2, 1) := by decide +kernel
theorem dX4_add_12 : decode cX4_add 12 = .ok (.aload_n 0, 1) := by decide +kernel
theorem dX4_add_13 : decode cX4_add 13 = .ok (.getfield 10, 3) := by decide +kernel
theorem dX4_add_16 : decode cX4_add 16 = .ok (.getfield 53, 3) := by decide +kernel
theorem dX4_add_19 : decode cX4_add 19 = .ok (.if_icmp .ge 42, 3) := by decide +kernel
theorem dX4_add_22 : decode cX4_add 22 = .ok (.aload_n 0, 1) := by decide +kernel
theorem dX4_add_23 : decode cX4_add 23 = .ok (.getfield 21, 3) := by decide +kernel
theorem dX4_add_26 : decode cX4_add 26 = .ok (.getfield 89, 3) := by decide +kernel
theorem dX4_add_29 : decode cX4_add 29 = .ok (.iload_n 2, 1) := by decide +kernel
theorem dX4_add_30 : decode cX4_add 30 = .ok (.iaload, 1) := by decide +kernel
theorem dX4_add_31 : decode cX4_add 31 = .ok (.aload_n 0, 1) := by decide +kernel
theorem dX4_add_32 : decode cX4_add 32 = .ok (.getfield 50, 3) := by decide +kernel
theorem dX4_add_35 : decode cX4_add 35 = .ok (.iload_n 1, 1) := by decide +kernel
theorem dX4_add_36 : decode cX4_add 36 = .ok (.aaload, 1) := by decide +kernel
theorem dX4_add_37 : decode cX4_add 37 = .ok (.iload_n 2, 1) := by decide +kernel
theorem dX4_add_38 : decode cX4_add 38 = .ok (.iaload, 1) := by decide +kernel
theorem dX4_add_39 : decode cX4_add 39 = .ok (.iadd, 1) := by decide +kernel
theorem dX4_add_40 : decode cX4_add 40 = .ok (.bipush 99, 2) := by decide +kernel
theorem dX4_add_42 : decode cX4_add 42 = .ok (.if_icmp .le 13, 3) := by decide +kernel
theorem dX4_add_45 : decode cX4_add 45 = .ok (.new 57, 3) := by decide +kernel
theorem dX4_add_48 : decode cX4_add 48 = .ok (.dup, 1) := by decide +kernel
theorem dX4_add_49 : decode cX4_add 49 = .ok (.ldc 93, 2) := by decide +kernel
theorem dX4_add_51 : decode cX4_add 51 = .ok (.invokespecial 61, 3) := by decide +kernel
theorem dX4_add_54 : decode cX4_add 54 = .ok (.athrow, 1) := by decide +kernel
theorem dX4_add_55 : decode cX4_add 55 = .ok (.iinc 2 1, 3) := by decide +kernel
theorem dX4_add_58 : decode cX4_add 58 = .ok (.goto (-47), 3) := by decide +kernel
theorem dX4_add_61 : decode cX4_add 61 = .ok (.aload_n 0, 1) := by decide +kernel
theorem dX4_add_62 : decode cX4_add 62 = .ok (.getfield 21, 3) := by decide +kernel
theorem dX4_add_65 : decode cX4_add 65 = .ok (.aload_n 0, 1) := by decide +kernel
theorem dX4_add_66 : decode cX4_add 66 = .ok (.getfield 50, 3) := by decide +kernel
theorem dX4_add_69 : decode cX4_add 69 = .ok (.iload_n 1, 1) := by decide +kernel
theorem dX4_add_70 : decode cX4_add 70 = .ok (.aaload, 1) := by decide +kernel
theorem dX4_add_71 : decode cX4_add 71 = .ok (.invokevirtual 132, 3) := by decide +kernel
theorem dX4_add_74 : decode cX4_add 74 = .ok (.aload_n 0, 1) := by decide +kernel
theorem dX4_add_75 : decode cX4_add 75 = .ok (.invokevirtual 114, 3) := by decide +kernel
theorem dX4_add_78 : decode cX4_add 78 = .ok (.ireturn, 1) := by decide +kernel
set_option maxRecDepth 20000 in
theorem ggX4_sweep_X0_allGrains : GoodIn wsX4_sweep wsX0_allGrains := goodIn_r _ [7, 8, 9, 10, 26, 27, 28, 29, 30, 31, 32] (by decide +kernel) (by decide +kernel)
set_option maxRecDepth 20000 in
theorem gX4_sweep_X0_allGrains : GoodIn wsX4_sweep (wsV RX4 136 RX0 yX0_allGrains wsX0_allGrains) := goodIn_app (goodIn_of _ (by decide +kernel)) ggX4_sweep_X0_allGrains
set_option maxRecDepth 20000 in
theorem ggX4_sweep_J7_fill_53178 : GoodIn wsX4_sweep wsJ7_fill_53178 := goodIn_r _ [14] (by decide +kernel) (by decide +kernel)
set_option maxRecDepth 20000 in
theorem gX4_sweep_J7_fill_53178 : GoodIn wsX4_sweep (va_wsS RX4 139 yJ7_fill_53178 wsJ7_fill_53178) := goodIn_app (goodIn_of _ (by decide +kernel)) ggX4_sweep_J7_fill_53178
theorem dX4_sweep_0 : decode cX4_sweep 0 = .ok (.aload_n 0, 1) := by decide +kernel
theorem dX4_sweep_1 : decode cX4_sweep 1 = .ok (.getfield 21, 3) := by decide +kernel
theorem dX4_sweep_4 : decode cX4_sweep 4 = .ok (.invokevirtual 136, 3) := by decide +kernel
theorem dX4_sweep_7 : decode cX4_sweep 7 = .ok (.istore_n 1, 1) := by decide +kernel
theorem dX4_sweep_8 : decode cX4_sweep 8 = .ok (.aload_n 0, 1) := by decide +kernel
theorem dX4_sweep_9 : decode cX4_sweep 9 = .ok (.getfield 21, 3) := by decide +kernel
theorem dX4_sweep_12 : decode cX4_sweep 12 = .ok (.getfield 89, 3) := by decide +kernel
theorem dX4_sweep_15 : decode cX4_sweep 15 = .ok (.iconst 0, 1) := by decide +kernel
theorem dX4_sweep_16 : decode cX4_sweep 16 = .ok (.invokestatic 139, 3) := by decide +kernel
theorem dX4_sweep_19 : decode cX4_sweep 19 = .ok (.iload_n 1, 1) := by decide +kernel
theorem dX4_sweep_20 : decode cX4_sweep 20 = .ok (.ireturn, 1) := by decide +kernel
set_option maxRecDepth 20000 in
theorem ggX4_walk_X4_requireSpot : GoodIn wsX4_walk wsX4_requireSpot := goodIn_ca (goodIn_r _ [6, 7, 8, 9, 10, 11, 12, 13, 14, 15, 61, 62, 63, 64, 65, 66, 67, 68, 69, 70, 71, 72, 73, 74, 75] (by decide +kernel) (by decide +kernel)) (goodIn_sub (fun _ h => List.mem_cons_of_mem _ (List.mem_append_left _ (List.mem_append_right _ h))) (by decide +kernel))
set_option maxRecDepth 20000 in
theorem gX4_walk_X4_requireSpot : GoodIn wsX4_walk (wsV RX4 86 RX4 yX4_requireSpot wsX4_requireSpot) := goodIn_app (goodIn_of _ (by decide +kernel)) ggX4_walk_X4_requireSpot
set_option maxRecDepth 20000 in
theorem ggX4_walk_X4_requireFast : GoodIn wsX4_walk wsX4_requireFast := goodIn_ca (goodIn_r _ [19, 20, 21, 9, 22, 23, 24, 13, 25, 15, 26, 27, 28, 29, 30, 31, 32, 33, 34, 35, 36, 37, 61, 62, 63, 64, 65, 66, 67, 68, 69, 70, 71, 72, 73, 74, 75] (by decide +kernel) (by decide +kernel)) (goodIn_sub (fun _ h => List.mem_cons_of_mem _ (List.mem_append_right _ h)) (by decide +kernel))
set_option maxRecDepth 20000 in
theorem gX4_walk_X4_requireFast : GoodIn wsX4_walk (wsV RX4 111 RX4 yX4_requireFast wsX4_requireFast) := goodIn_app (goodIn_of _ (by decide +kernel)) ggX4_walk_X4_requireFast
set_option maxRecDepth 20000 in
theorem ggX4_walk_X3_send : GoodIn wsX4_walk wsX3_send := goodIn_r _ [42, 43, 44, 45, 46, 11, 12, 13, 14, 15, 47, 48, 49, 41, 50, 51, 52, 53, 54, 55, 56, 57, 58, 59, 60, 30, 76, 77, 78, 72, 73, 74, 75] (by decide +kernel) (by decide +kernel)
set_option maxRecDepth 20000 in
theorem gX4_walk_X3_send : GoodIn wsX4_walk (wsV RX4 145 RX3 yX3_send wsX3_send) := goodIn_app (goodIn_of _ (by decide +kernel)) ggX4_walk_X3_send
theorem dX4_walk_0 : decode cX4_walk 0 = .ok (.aload_n 0, 1) := by decide +kernel
theorem dX4_walk_1 : decode cX4_walk 1 = .ok (.iload_n 1, 1) := by decide +kernel
theorem dX4_walk_2 : decode cX4_walk 2 = .ok (.invokevirtual 86, 3) := by decide +kernel
theorem dX4_walk_5 : decode cX4_walk 5 = .ok (.aload_n 0, 1) := by decide +kernel
theorem dX4_walk_6 : decode cX4_walk 6 = .ok (.invokevirtual 111, 3) := by decide +kernel
theorem dX4_walk_9 : decode cX4_walk 9 = .ok (.aload_n 0, 1) := by decide +kernel
theorem dX4_walk_10 : decode cX4_walk 10 = .ok (.getfield 37, 3) := by decide +kernel
theorem dX4_walk_13 : decode cX4_walk 13 = .ok (.iload_n 1, 1) := by decide +kernel
theorem dX4_walk_14 : decode cX4_walk 14 = .ok (.invokevirtual 145, 3) := by decide +kernel
theorem dX4_walk_17 : decode cX4_walk 17 = .ok (.ireturn, 1) := by decide +kernel
set_option maxRecDepth 20000 in
theorem ggX4_pay_X4_requireNode : GoodIn wsX4_pay wsX4_requireNode := goodIn_ca (goodIn_r _ [7, 8, 9, 10, 11, 12, 13, 14, 15, 16, 17, 18, 19, 20, 26, 27, 28, 29, 30, 31, 32, 33, 34, 35, 36, 41, 42, 43, 44] (by decide +kernel) (by decide +kernel)) (goodIn_sub (fun _ h => List.mem_cons_of_mem _ (List.mem_append_left _ (List.mem_append_right _ h))) (by decide +kernel))
set_option maxRecDepth 20000 in
theorem gX4_pay_X4_requireNode : GoodIn wsX4_pay (wsV RX4 64 RX4 yX4_requireNode wsX4_requireNode) := goodIn_app (goodIn_of _ (by decide +kernel)) ggX4_pay_X4_requireNode
set_option maxRecDepth 20000 in
theorem ggX4_pay_X4_requireWithin : GoodIn wsX4_pay wsX4_requireWithin := goodIn_ca (goodIn_r _ [23, 24, 25] (by decide +kernel) (by decide +kernel)) (goodIn_sub (fun _ h => List.mem_cons_of_mem _ (List.mem_append_right _ h)) (by decide +kernel))
set_option maxRecDepth 20000 in
theorem gX4_pay_X4_requireWithin : GoodIn wsX4_pay (va_wsS RX4 73 yX4_requireWithin wsX4_requireWithin) := goodIn_app (goodIn_of _ (by decide +kernel)) ggX4_pay_X4_requireWithin
theorem dX4_pay_0 : decode cX4_pay 0 = .ok (.aload_n 0, 1) := by decide +kernel
theorem dX4_pay_1 : decode cX4_pay 1 = .ok (.iload_n 1, 1) := by decide +kernel
theorem dX4_pay_2 : decode cX4_pay 2 = .ok (.invokevirtual 64, 3) := by decide +kernel
theorem dX4_pay_5 : decode cX4_pay 5 = .ok (.iload_n 2, 1) := by decide +kernel
theorem dX4_pay_6 : decode cX4_pay 6 = .ok (.bipush (-9), 2) := by decide +kernel
theorem dX4_pay_8 : decode cX4_pay 8 = .ok (.bipush 9, 2) := by decide +kernel
theorem dX4_pay_10 : decode cX4_pay 10 = .ok (.invokestatic 73, 3) := by decide +kernel
theorem dX4_pay_13 : decode cX4_pay 13 = .ok (.aload_n 0, 1) := by decide +kernel
theorem dX4_pay_14 : decode cX4_pay 14 = .ok (.getfield 44, 3) := by decide +kernel
theorem dX4_pay_17 : decode cX4_pay 17 = .ok (.getfield 149, 3) := by decide +kernel
theorem dX4_pay_20 : decode cX4_pay 20 = .ok (.iload_n 1, 1) := by decide +kernel
theorem dX4_pay_21 : decode cX4_pay 21 = .ok (.dup2, 1) := by decide +kernel
theorem dX4_pay_22 : decode cX4_pay 22 = .ok (.iaload, 1) := by decide +kernel
theorem dX4_pay_23 : decode cX4_pay 23 = .ok (.iload_n 2, 1) := by decide +kernel
theorem dX4_pay_24 : decode cX4_pay 24 = .ok (.iadd, 1) := by decide +kernel
theorem dX4_pay_25 : decode cX4_pay 25 = .ok (.iastore, 1) := by decide +kernel
theorem dX4_pay_26 : decode cX4_pay 26 = .ok (.aload_n 0, 1) := by decide +kernel
theorem dX4_pay_27 : decode cX4_pay 27 = .ok (.getfield 44, 3) := by decide +kernel
theorem dX4_pay_30 : decode cX4_pay 30 = .ok (.getfield 149, 3) := by decide +kernel
theorem dX4_pay_33 : decode cX4_pay 33 = .ok (.iload_n 1, 1) := by decide +kernel
theorem dX4_pay_34 : decode cX4_pay 34 = .ok (.iaload, 1) := by decide +kernel
theorem dX4_pay_35 : decode cX4_pay 35 = .ok (.ireturn, 1) := by decide +kernel
set_option maxRecDepth 20000 in
theorem ggX4_lend_X4_requireNode : GoodIn wsX4_lend wsX4_requireNode := goodIn_ca (goodIn_r _ [7, 8, 9, 10, 11, 12, 13, 14, 15, 16, 17, 18, 19, 20, 30, 31, 32, 33, 34, 35, 36, 37, 38, 39, 40, 45, 46, 47, 48] (by decide +kernel) (by decide +kernel)) (goodIn_sub (fun _ h => List.mem_cons_of_mem _ (List.mem_append_right _ h)) (by decide +kernel))
set_option maxRecDepth 20000 in
theorem gX4_lend_X4_requireNode : GoodIn wsX4_lend (wsV RX4 64 RX4 yX4_requireNode wsX4_requireNode) := goodIn_app (goodIn_of _ (by decide +kernel)) ggX4_lend_X4_requireNode
set_option maxRecDepth 20000 in
theorem ggX4_lend_X1_give : GoodIn wsX4_lend wsX1_give := goodIn_r _ [25, 26, 27, 28, 29, 41, 42, 43, 44, 45, 46, 47, 48] (by decide +kernel) (by decide +kernel)
set_option maxRecDepth 20000 in
theorem gX4_lend_X1_give : GoodIn wsX4_lend (wsV RX4 152 RX1 yX1_give wsX1_give) := goodIn_app (goodIn_of _ (by decide +kernel)) ggX4_lend_X1_give
theorem dX4_lend_0 : decode cX4_lend 0 = .ok (.aload_n 0, 1) := by decide +kernel
theorem dX4_lend_1 : decode cX4_lend 1 = .ok (.iload_n 1, 1) := by decide +kernel
theorem dX4_lend_2 : decode cX4_lend 2 = .ok (.invokevirtual 64, 3) := by decide +kernel
theorem dX4_lend_5 : decode cX4_lend 5 = .ok (.aload_n 0, 1) := by decide +kernel
theorem dX4_lend_6 : decode cX4_lend 6 = .ok (.getfield 44, 3) := by decide +kernel
theorem dX4_lend_9 : decode cX4_lend 9 = .ok (.iload_n 1, 1) := by decide +kernel
theorem dX4_lend_10 : decode cX4_lend 10 = .ok (.iload_n 2, 1) := by decide +kernel
theorem dX4_lend_11 : decode cX4_lend 11 = .ok (.ifCond .eq 7, 3) := by decide +kernel
theorem dX4_lend_14 : decode cX4_lend 14 = .ok (.iconst (-1), 1) := by decide +kernel
theorem dX4_lend_15 : decode cX4_lend 15 = .ok (.goto 4, 3) := by decide +kernel
theorem dX4_lend_18 : decode cX4_lend 18 = .ok (.iconst 1, 1) := by decide +kernel
theorem dX4_lend_19 : decode cX4_lend 19 = .ok (.invokevirtual 152, 3) := by decide +kernel
theorem dX4_lend_22 : decode cX4_lend 22 = .ok (.aload_n 0, 1) := by decide +kernel
theorem dX4_lend_23 : decode cX4_lend 23 = .ok (.getfield 44, 3) := by decide +kernel
theorem dX4_lend_26 : decode cX4_lend 26 = .ok (.getfield 149, 3) := by decide +kernel
theorem dX4_lend_29 : decode cX4_lend 29 = .ok (.iload_n 1, 1) := by decide +kernel
theorem dX4_lend_30 : decode cX4_lend 30 = .ok (.iaload, 1) := by decide +kernel
theorem dX4_lend_31 : decode cX4_lend 31 = .ok (.ireturn, 1) := by decide +kernel
set_option maxRecDepth 20000 in
theorem ggX4_ofSpot_X4_requireSpot : GoodIn wsX4_ofSpot wsX4_requireSpot := goodIn_ca (goodIn_r _ [5, 6, 7, 8, 9, 10, 11, 12, 13, 14, 51, 52, 53, 54, 55, 56, 57, 58, 59, 60, 61, 62, 63, 64, 65] (by decide +kernel) (by decide +kernel)) (goodIn_sub (fun _ h => List.mem_cons_of_mem _ (List.mem_append_left _ (List.mem_append_right _ h))) (by decide +kernel))
set_option maxRecDepth 20000 in
theorem gX4_ofSpot_X4_requireSpot : GoodIn wsX4_ofSpot (wsV RX4 86 RX4 yX4_requireSpot wsX4_requireSpot) := goodIn_app (goodIn_of _ (by decide +kernel)) ggX4_ofSpot_X4_requireSpot
set_option maxRecDepth 20000 in
theorem ggX4_ofSpot_X4_requireWithin : GoodIn wsX4_ofSpot wsX4_requireWithin := goodIn_ca (goodIn_r _ [17, 18, 19] (by decide +kernel) (by decide +kernel)) (goodIn_sub (fun _ h => List.mem_cons_of_mem _ (List.mem_append_right _ h)) (by decide +kernel))
set_option maxRecDepth 20000 in
theorem gX4_ofSpot_X4_requireWithin : GoodIn wsX4_ofSpot (va_wsS RX4 73 yX4_requireWithin wsX4_requireWithin) := goodIn_app (goodIn_of _ (by decide +kernel)) ggX4_ofSpot_X4_requireWithin
set_option maxRecDepth 20000 in
theorem ggX4_ofSpot_X4_spotValue : GoodIn wsX4_ofSpot wsX4_spotValue := goodIn_r _ [23, 24, 25, 8, 26, 27, 28, 29, 30, 31, 32, 33, 34, 35, 36, 37, 38, 39, 40, 41, 42, 43, 44, 45, 46, 47, 48, 12, 49, 50, 51, 52, 53, 54, 55, 56, 57, 58, 59, 60, 61, 66, 67, 68, 62, 63, 64, 65, 69, 70, 71] (by decide +kernel) (by decide +kernel)
set_option maxRecDepth 20000 in
theorem gX4_ofSpot_X4_spotValue : GoodIn wsX4_ofSpot (wsV RX4 155 RX4 yX4_spotValue wsX4_spotValue) := goodIn_app (goodIn_of _ (by decide +kernel)) ggX4_ofSpot_X4_spotValue
theorem dX4_ofSpot_0 : decode cX4_ofSpot 0 = .ok (.aload_n 0, 1) := by decide +kernel
theorem dX4_ofSpot_1 : decode cX4_ofSpot 1 = .ok (.iload_n 1, 1) := by decide +kernel
theorem dX4_ofSpot_2 : decode cX4_ofSpot 2 = .ok (.invokevirtual 86, 3) := by decide +kernel
theorem dX4_ofSpot_5 : decode cX4_ofSpot 5 = .ok (.iload_n 2, 1) := by decide +kernel
theorem dX4_ofSpot_6 : decode cX4_ofSpot 6 = .ok (.iconst 0, 1) := by decide +kernel
theorem dX4_ofSpot_7 : decode cX4_ofSpot 7 = .ok (.bipush 6, 2) := by decide +kernel
theorem dX4_ofSpot_9 : decode cX4_ofSpot 9 = .ok (.invokestatic 73, 3) := by decide +kernel
theorem dX4_ofSpot_12 : decode cX4_ofSpot 12 = .ok (.aload_n 0, 1) := by decide +kernel
theorem dX4_ofSpot_13 : decode cX4_ofSpot 13 = .ok (.iload_n 1, 1) := by decide +kernel
theorem dX4_ofSpot_14 : decode cX4_ofSpot 14 = .ok (.iload_n 2, 1) := by decide +kernel
theorem dX4_ofSpot_15 : decode cX4_ofSpot 15 = .ok (.invokevirtual 155, 3) := by decide +kernel
theorem dX4_ofSpot_18 : decode cX4_ofSpot 18 = .ok (.ireturn, 1) := by decide +kernel
set_option maxRecDepth 20000 in
theorem ggX4_between_X4_requireNode : GoodIn wsX4_between wsX4_requireNode := goodIn_ca (goodIn_r _ [7, 8, 9, 1, 10, 11, 12, 13, 14, 15, 16, 17, 18, 19, 20, 21, 22, 23, 24, 25, 26, 27, 28, 29, 30, 31, 32, 33, 34] (by decide +kernel) (by decide +kernel)) (goodIn_sub (fun _ h => List.mem_cons_of_mem _ (List.mem_append_right _ h)) (by decide +kernel))
set_option maxRecDepth 20000 in
theorem gX4_between_X4_requireNode : GoodIn wsX4_between (wsV RX4 64 RX4 yX4_requireNode wsX4_requireNode) := goodIn_app (goodIn_of _ (by decide +kernel)) ggX4_between_X4_requireNode
theorem dX4_between_0 : decode cX4_between 0 = .ok (.aload_n 0, 1) := by decide +kernel
theorem dX4_between_1 : decode cX4_between 1 = .ok (.iload_n 1, 1) := by decide +kernel
theorem dX4_between_2 : decode cX4_between 2 = .ok (.invokevirtual 64, 3) := by decide +kernel
theorem dX4_between_5 : decode cX4_between 5 = .ok (.aload_n 0, 1) := by decide +kernel
theorem dX4_between_6 : decode cX4_between 6 = .ok (.iload_n 2, 1) := by decide +kernel
theorem dX4_between_7 : decode cX4_between 7 = .ok (.invokevirtual 64, 3) := by decide +kernel
theorem dX4_between_10 : decode cX4_between 10 = .ok (.aload_n 0, 1) := by decide +kernel
theorem dX4_between_11 : decode cX4_between 11 = .ok (.getfield 10, 3) := by decide +kernel
theorem dX4_between_14 : decode cX4_between 14 = .ok (.getfield 77, 3) := by decide +kernel
theorem dX4_between_17 : decode cX4_between 17 = .ok (.iload_n 1, 1) := by decide +kernel
theorem dX4_between_18 : decode cX4_between 18 = .ok (.aaload, 1) := by decide +kernel
theorem dX4_between_19 : decode cX4_between 19 = .ok (.iload_n 2, 1) := by decide +kernel
theorem dX4_between_20 : decode cX4_between 20 = .ok (.iaload, 1) := by decide +kernel
theorem dX4_between_21 : decode cX4_between 21 = .ok (.ireturn, 1) := by decide +kernel
set_option maxRecDepth 20000 in
theorem ggX4_coins_X4_requireNode : GoodIn wsX4_coins wsX4_requireNode := goodIn_ca (goodIn_r _ [7, 8, 9, 10, 11, 12, 13, 14, 15, 16, 17, 18, 19, 20, 21, 22, 23, 24, 25, 26, 27, 28, 29, 30, 31, 36, 37, 38, 39] (by decide +kernel) (by decide +kernel)) (goodIn_sub (fun _ h => List.mem_cons_of_mem _ (List.mem_append_right _ h)) (by decide +kernel))
set_option maxRecDepth 20000 in
theorem gX4_coins_X4_requireNode : GoodIn wsX4_coins (wsV RX4 64 RX4 yX4_requireNode wsX4_requireNode) := goodIn_app (goodIn_of _ (by decide +kernel)) ggX4_coins_X4_requireNode
theorem dX4_coins_0 : decode cX4_coins 0 = .ok (.aload_n 0, 1) := by decide +kernel
theorem dX4_coins_1 : decode cX4_coins 1 = .ok (.iload_n 1, 1) := by decide +kernel
theorem dX4_coins_2 : decode cX4_coins 2 = .ok (.invokevirtual 64, 3) := by decide +kernel
theorem dX4_coins_5 : decode cX4_coins 5 = .ok (.aload_n 0, 1) := by decide +kernel
theorem dX4_coins_6 : decode cX4_coins 6 = .ok (.getfield 44, 3) := by decide +kernel
theorem dX4_coins_9 : decode cX4_coins 9 = .ok (.getfield 149, 3) := by decide +kernel
theorem dX4_coins_12 : decode cX4_coins 12 = .ok (.iload_n 1, 1) := by decide +kernel
theorem dX4_coins_13 : decode cX4_coins 13 = .ok (.iaload, 1) := by decide +kernel
theorem dX4_coins_14 : decode cX4_coins 14 = .ok (.ireturn, 1) := by decide +kernel
set_option maxRecDepth 20000 in
theorem ggX4_kept_X4_requireHeap : GoodIn wsX4_kept wsX4_requireHeap := goodIn_ca (goodIn_r _ [6, 7, 8, 9, 21, 22, 23, 24, 25, 26, 27, 28, 29, 30, 31] (by decide +kernel) (by decide +kernel)) (goodIn_sub (fun _ h => List.mem_cons_of_mem _ (List.mem_append_right _ h)) (by decide +kernel))
set_option maxRecDepth 20000 in
theorem gX4_kept_X4_requireHeap : GoodIn wsX4_kept (wsV RX4 129 RX4 yX4_requireHeap wsX4_requireHeap) := goodIn_app (goodIn_of _ (by decide +kernel)) ggX4_kept_X4_requireHeap
set_option maxRecDepth 20000 in
theorem ggX4_kept_X4_requireSpot : GoodIn wsX4_kept wsX4_requireSpot := goodIn_ca (goodIn_r _ [13, 7, 8, 14, 15, 16, 17, 18, 19, 20, 21, 22, 23, 24, 25, 26, 27, 28, 29, 30, 31, 32, 33, 34, 35] (by decide +kernel) (by decide +kernel)) (goodIn_sub (fun _ h => List.mem_cons_of_mem _ (List.mem_append_right _ h)) (by decide +kernel))
set_option maxRecDepth 20000 in
theorem gX4_kept_X4_requireSpot : GoodIn wsX4_kept (wsV RX4 86 RX4 yX4_requireSpot wsX4_requireSpot) := goodIn_app (goodIn_of _ (by decide +kernel)) ggX4_kept_X4_requireSpot
theorem dX4_kept_0 : decode cX4_kept 0 = .ok (.aload_n 0, 1) := by decide +kernel
theorem dX4_kept_1 : decode cX4_kept 1 = .ok (.iload_n 1, 1) := by decide +kernel
theorem dX4_kept_2 : decode cX4_kept 2 = .ok (.invokevirtual 129, 3) := by decide +kernel
theorem dX4_kept_5 : decode cX4_kept 5 = .ok (.aload_n 0, 1) := by decide +kernel
theorem dX4_kept_6 : decode cX4_kept 6 = .ok (.iload_n 2, 1) := by decide +kernel
theorem dX4_kept_7 : decode cX4_kept 7 = .ok (.invokevirtual 86, 3) := by decide +kernel
theorem dX4_kept_10 : decode cX4_kept 10 = .ok (.aload_n 0, 1) := by decide +kernel
theorem dX4_kept_11 : decode cX4_kept 11 = .ok (.getfield 50, 3) := by decide +kernel
theorem dX4_kept_14 : decode cX4_kept 14 = .ok (.iload_n 1, 1) := by decide +kernel
theorem dX4_kept_15 : decode cX4_kept 15 = .ok (.aaload, 1) := by decide +kernel
theorem dX4_kept_16 : decode cX4_kept 16 = .ok (.iload_n 2, 1) := by decide +kernel
theorem dX4_kept_17 : decode cX4_kept 17 = .ok (.iaload, 1) := by decide +kernel
theorem dX4_kept_18 : decode cX4_kept 18 = .ok (.ireturn, 1) := by decide +kernel
set_option maxRecDepth 20000 in
theorem ggX4_many_X4_requireWithin : GoodIn wsX4_many wsX4_requireWithin := goodIn_ca (goodIn_r _ [4, 5, 6] (by decide +kernel) (by decide +kernel)) (goodIn_sub (fun _ h => List.mem_cons_of_mem _ (List.mem_append_right _ h)) (by decide +kernel))
set_option maxRecDepth 20000 in
theorem gX4_many_X4_requireWithin : GoodIn wsX4_many (va_wsS RX4 73 yX4_requireWithin wsX4_requireWithin) := goodIn_app (goodIn_of _ (by decide +kernel)) ggX4_many_X4_requireWithin
set_option maxRecDepth 20000 in
theorem ggX4_many_X4_manyValue : GoodIn wsX4_many wsX4_manyValue := goodIn_r _ [10, 11, 12, 13, 14, 15, 16, 17, 18, 19, 20, 21, 22, 23, 24, 25, 26, 27, 28, 29, 30, 31, 32, 33, 34, 35, 36, 37, 38, 39, 40, 41, 42, 43, 44, 45, 46, 47, 48, 49, 50, 51, 52, 53, 54, 55, 56, 57, 58, 59, 60, 61, 62, 63, 64, 65, 66, 67, 68, 69, 70, 71, 72, 73, 74, 75, 76, 77, 78, 79, 80, 81, 82, 83, 84, 85, 86, 87, 88, 89, 90, 91, 92, 93, 94, 95, 96, 97, 98, 99, 100, 101, 102, 103, 104, 105, 106, 107, 108, 109, 110, 111, 112, 113, 114, 115, 116, 117, 118, 119, 120, 121, 122, 123] (by decide +kernel) (by decide +kernel)
set_option maxRecDepth 20000 in
theorem gX4_many_X4_manyValue : GoodIn wsX4_many (wsV RX4 159 RX4 yX4_manyValue wsX4_manyValue) := goodIn_app (goodIn_of _ (by decide +kernel)) ggX4_many_X4_manyValue
theorem dX4_many_0 : decode cX4_many 0 = .ok (.iload_n 1, 1) := by decide +kernel
theorem dX4_many_1 : decode cX4_many 1 = .ok (.iconst 0, 1) := by decide +kernel
theorem dX4_many_2 : decode cX4_many 2 = .ok (.bipush 13, 2) := by decide +kernel
theorem dX4_many_4 : decode cX4_many 4 = .ok (.invokestatic 73, 3) := by decide +kernel
theorem dX4_many_7 : decode cX4_many 7 = .ok (.aload_n 0, 1) := by decide +kernel
theorem dX4_many_8 : decode cX4_many 8 = .ok (.iload_n 1, 1) := by decide +kernel
theorem dX4_many_9 : decode cX4_many 9 = .ok (.invokevirtual 159, 3) := by decide +kernel
theorem dX4_many_12 : decode cX4_many 12 = .ok (.ireturn, 1) := by decide +kernel
set_option maxRecDepth 20000 in
theorem ggX4_count_X2_trees : GoodIn wsX4_count wsX2_trees := goodIn_r _ [6, 7, 8, 9, 10, 11, 5, 12, 13, 14, 15, 16, 17, 18, 30, 31, 32, 33] (by decide +kernel) (by decide +kernel)
set_option maxRecDepth 20000 in
theorem gX4_count_X2_trees : GoodIn wsX4_count (wsV RX4 162 RX2 yX2_trees wsX2_trees) := goodIn_app (goodIn_of _ (by decide +kernel)) ggX4_count_X2_trees
theorem dX4_count_0 : decode cX4_count 0 = .ok (.aload_n 0, 1) := by decide +kernel
theorem dX4_count_1 : decode cX4_count 1 = .ok (.getfield 10, 3) := by decide +kernel
theorem dX4_count_4 : decode cX4_count 4 = .ok (.invokevirtual 162, 3) := by decide +kernel
theorem dX4_count_7 : decode cX4_count 7 = .ok (.lreturn, 1) := by decide +kernel
set_option maxRecDepth 20000 in
theorem ggX4_density_X0_allGrains : GoodIn wsX4_density wsX0_allGrains := goodIn_r _ [9, 10, 11, 12, 28, 29, 30, 24, 25, 26, 27] (by decide +kernel) (by decide +kernel)
set_option maxRecDepth 20000 in
theorem gX4_density_X0_allGrains : GoodIn wsX4_density (wsV RX4 136 RX0 yX0_allGrains wsX0_allGrains) := goodIn_app (goodIn_of _ (by decide +kernel)) ggX4_density_X0_allGrains
theorem dX4_density_0 : decode cX4_density 0 = .ok (.aload_n 0, 1) := by decide +kernel
theorem dX4_density_1 : decode cX4_density 1 = .ok (.getfield 10, 3) := by decide +kernel
theorem dX4_density_4 : decode cX4_density 4 = .ok (.getfield 53, 3) := by decide +kernel
theorem dX4_density_7 : decode cX4_density 7 = .ok (.istore_n 1, 1) := by decide +kernel
theorem dX4_density_8 : decode cX4_density 8 = .ok (.iload_n 1, 1) := by decide +kernel
theorem dX4_density_9 : decode cX4_density 9 = .ok (.ifCond .gt 5, 3) := by decide +kernel
theorem dX4_density_12 : decode cX4_density 12 = .ok (.dconst 0, 1) := by decide +kernel
theorem dX4_density_13 : decode cX4_density 13 = .ok (.dreturn, 1) := by decide +kernel
theorem dX4_density_14 : decode cX4_density 14 = .ok (.iconst 4, 1) := by decide +kernel
theorem dX4_density_15 : decode cX4_density 15 = .ok (.aload_n 0, 1) := by decide +kernel
theorem dX4_density_16 : decode cX4_density 16 = .ok (.getfield 21, 3) := by decide +kernel
theorem dX4_density_19 : decode cX4_density 19 = .ok (.invokevirtual 136, 3) := by decide +kernel
theorem dX4_density_22 : decode cX4_density 22 = .ok (.imul, 1) := by decide +kernel
theorem dX4_density_23 : decode cX4_density 23 = .ok (.istore_n 2, 1) := by decide +kernel
theorem dX4_density_24 : decode cX4_density 24 = .ok (.iload_n 2, 1) := by decide +kernel
theorem dX4_density_25 : decode cX4_density 25 = .ok (.iload_n 1, 1) := by decide +kernel
theorem dX4_density_26 : decode cX4_density 26 = .ok (.idiv, 1) := by decide +kernel
theorem dX4_density_27 : decode cX4_density 27 = .ok (.istore_n 3, 1) := by decide +kernel
theorem dX4_density_28 : decode cX4_density 28 = .ok (.iconst 2, 1) := by decide +kernel
theorem dX4_density_29 : decode cX4_density 29 = .ok (.iload_n 2, 1) := by decide +kernel
theorem dX4_density_30 : decode cX4_density 30 = .ok (.iload_n 1, 1) := by decide +kernel
theorem dX4_density_31 : decode cX4_density 31 = .ok (.irem, 1) := by decide +kernel
theorem dX4_density_32 : decode cX4_density 32 = .ok (.imul, 1) := by decide +kernel
theorem dX4_density_33 : decode cX4_density 33 = .ok (.istore 4, 2) := by decide +kernel
theorem dX4_density_35 : decode cX4_density 35 = .ok (.iload 4, 2) := by decide +kernel
theorem dX4_density_37 : decode cX4_density 37 = .ok (.iload_n 1, 1) := by decide +kernel
theorem dX4_density_38 : decode cX4_density 38 = .ok (.if_icmp .gt 15, 3) := by decide +kernel
theorem dX4_density_41 : decode cX4_density 41 = .ok (.iload 4, 2) := by decide +kernel
theorem dX4_density_43 : decode cX4_density 43 = .ok (.iload_n 1, 1) := by decide +kernel
theorem dX4_density_44 : decode cX4_density 44 = .ok (.if_icmp .ne 12, 3) := by decide +kernel
theorem dX4_density_47 : decode cX4_density 47 = .ok (.iload_n 3, 1) := by decide +kernel
theorem dX4_density_48 : decode cX4_density 48 = .ok (.iconst 2, 1) := by decide +kernel
theorem dX4_density_49 : decode cX4_density 49 = .ok (.irem, 1) := by decide +kernel
theorem dX4_density_50 : decode cX4_density 50 = .ok (.ifCond .eq 6, 3) := by decide +kernel
theorem dX4_density_53 : decode cX4_density 53 = .ok (.iinc 3 1, 3) := by decide +kernel
theorem dX4_density_56 : decode cX4_density 56 = .ok (.iload_n 3, 1) := by decide +kernel
theorem dX4_density_57 : decode cX4_density 57 = .ok (.i2d, 1) := by decide +kernel
theorem dX4_density_58 : decode cX4_density 58 = .ok (.ldc2_w 166, 3) := by decide +kernel
theorem dX4_density_61 : decode cX4_density 61 = .ok (.ddiv, 1) := by decide +kernel
theorem dX4_density_62 : decode cX4_density 62 = .ok (.dreturn, 1) := by decide +kernel
set_option maxRecDepth 20000 in
theorem ggX4_would_X4_requireSpot : GoodIn wsX4_would wsX4_requireSpot := goodIn_ca (goodIn_r _ [6, 7, 8, 9, 10, 11, 12, 13, 14, 15, 93, 94, 95, 96, 97, 98, 99, 100, 101, 102, 103, 104, 105, 106, 107] (by decide +kernel) (by decide +kernel)) (goodIn_sub (fun _ h => List.mem_cons_of_mem _ (List.mem_append_left _ (List.mem_append_left _ (List.mem_append_right _ h)))) (by decide +kernel))
set_option maxRecDepth 20000 in
theorem gX4_would_X4_requireSpot : GoodIn wsX4_would (wsV RX4 86 RX4 yX4_requireSpot wsX4_requireSpot) := goodIn_app (goodIn_of _ (by decide +kernel)) ggX4_would_X4_requireSpot
set_option maxRecDepth 20000 in
theorem ggX4_would_X4_requireWithin : GoodIn wsX4_would wsX4_requireWithin := goodIn_ca (goodIn_r _ [18, 19, 20] (by decide +kernel) (by decide +kernel)) (goodIn_sub (fun _ h => List.mem_cons_of_mem _ (List.mem_append_left _ (List.mem_append_right _ h))) (by decide +kernel))
set_option maxRecDepth 20000 in
theorem gX4_would_X4_requireWithin : GoodIn wsX4_would (va_wsS RX4 73 yX4_requireWithin wsX4_requireWithin) := goodIn_app (goodIn_of _ (by decide +kernel)) ggX4_would_X4_requireWithin
set_option maxRecDepth 20000 in
theorem ggX4_would_X4_requireFast : GoodIn wsX4_would wsX4_requireFast := goodIn_ca (goodIn_r _ [24, 25, 26, 9, 27, 28, 29, 13, 30, 15, 31, 32, 33, 34, 35, 36, 37, 38, 39, 40, 41, 42, 93, 94, 95, 96, 97, 98, 99, 100, 101, 102, 103, 104, 105, 106, 107] (by decide +kernel) (by decide +kernel)) (goodIn_sub (fun _ h => List.mem_cons_of_mem _ (List.mem_append_right _ h)) (by decide +kernel))
set_option maxRecDepth 20000 in
theorem gX4_would_X4_requireFast : GoodIn wsX4_would (wsV RX4 111 RX4 yX4_requireFast wsX4_requireFast) := goodIn_app (goodIn_of _ (by decide +kernel)) ggX4_would_X4_requireFast
set_option maxRecDepth 20000 in
theorem ggX4_would_X4_rollTrialWith : GoodIn wsX4_would wsX4_rollTrialWith := goodIn_r _ [46, 1, 47, 48, 49, 50, 51, 52, 53, 54, 55, 56, 57, 58, 59, 60, 61, 62, 63, 64, 65, 66, 67, 68, 69, 70, 71, 72, 73, 74, 75, 76, 77, 78, 79, 80, 93, 94, 95, 96, 97, 98, 99, 100, 101, 102, 103, 108, 109, 110, 104, 105, 106, 107] (by decide +kernel) (by decide +kernel)
set_option maxRecDepth 20000 in
theorem gX4_would_X4_rollTrialWith : GoodIn wsX4_would (wsV RX4 168 RX4 yX4_rollTrialWith wsX4_rollTrialWith) := goodIn_app (goodIn_of _ (by decide +kernel)) ggX4_would_X4_rollTrialWith
set_option maxRecDepth 20000 in
theorem ggX4_would_X0_allTimes : GoodIn wsX4_would wsX0_allTimes := goodIn_r _ [84, 73, 74, 63, 108, 109, 110, 104, 105, 106, 107] (by decide +kernel) (by decide +kernel)
set_option maxRecDepth 20000 in
theorem gX4_would_X0_allTimes : GoodIn wsX4_would (wsV RX4 171 RX0 yX0_allTimes wsX0_allTimes) := goodIn_app (goodIn_of _ (by decide +kernel)) ggX4_would_X0_allTimes
set_option maxRecDepth 20000 in
theorem ggX4_would_X0_swallowedByRoll : GoodIn wsX4_would wsX0_swallowedByRoll := goodIn_r _ [88, 73, 74, 63, 80, 108, 109, 110, 104, 105, 106, 107] (by decide +kernel) (by decide +kernel)
set_option maxRecDepth 20000 in
theorem gX4_would_X0_swallowedByRoll : GoodIn wsX4_would (wsV RX4 174 RX0 yX0_swallowedByRoll wsX0_swallowedByRoll) := goodIn_app (goodIn_of _ (by decide +kernel)) ggX4_would_X0_swallowedByRoll
set_option maxRecDepth 20000 in
theorem ggX4_would_X0_toppledSet : GoodIn wsX4_would wsX0_toppledSet := goodIn_r _ [92, 73, 74, 63, 108, 109, 110, 104, 105, 106, 107] (by decide +kernel) (by decide +kernel)
set_option maxRecDepth 20000 in
theorem gX4_would_X0_toppledSet : GoodIn wsX4_would (wsV RX4 177 RX0 yX0_toppledSet wsX0_toppledSet) := goodIn_app (goodIn_of _ (by decide +kernel)) ggX4_would_X0_toppledSet
theorem dX4_would_0 : decode cX4_would 0 = .ok (.aload_n 0, 1) := by decide +kernel
theorem dX4_would_1 : decode cX4_would 1 = .ok (.iload_n 1, 1) := by decide +kernel
theorem dX4_would_2 : decode cX4_would 2 = .ok (.invokevirtual 86, 3) := by decide +kernel
theorem dX4_would_5 : decode cX4_would 5 = .ok (.iload_n 2, 1) := by decide +kernel
theorem dX4_would_6 : decode cX4_would 6 = .ok (.iconst 0, 1) := by decide +kernel
theorem dX4_would_7 : decode cX4_would 7 = .ok (.bipush 40, 2) := by decide +kernel
theorem dX4_would_9 : decode cX4_would 9 = .ok (.invokestatic 73, 3) := by decide +kernel
theorem dX4_would_12 : decode cX4_would 12 = .ok (.iload_n 3, 1) := by decide +kernel
theorem dX4_would_13 : decode cX4_would 13 = .ok (.iconst 0, 1) := by decide +kernel
theorem dX4_would_14 : decode cX4_would 14 = .ok (.iconst 2, 1) := by decide +kernel
theorem dX4_would_15 : decode cX4_would 15 = .ok (.invokestatic 73, 3) := by decide +kernel
theorem dX4_would_18 : decode cX4_would 18 = .ok (.aload_n 0, 1) := by decide +kernel
theorem dX4_would_19 : decode cX4_would 19 = .ok (.invokevirtual 111, 3) := by decide +kernel
theorem dX4_would_22 : decode cX4_would 22 = .ok (.aload_n 0, 1) := by decide +kernel
theorem dX4_would_23 : decode cX4_would 23 = .ok (.iload_n 1, 1) := by decide +kernel
theorem dX4_would_24 : decode cX4_would 24 = .ok (.iload_n 2, 1) := by decide +kernel
theorem dX4_would_25 : decode cX4_would 25 = .ok (.invokevirtual 168, 3) := by decide +kernel
theorem dX4_would_28 : decode cX4_would 28 = .ok (.iload_n 3, 1) := by decide +kernel
theorem dX4_would_29 : decode cX4_would 29 = .ok (.lookupswitch 43 #[(0, 27), (1, 35)], 27) := by decide +kernel
theorem dX4_would_56 : decode cX4_would 56 = .ok (.aload_n 0, 1) := by decide +kernel
theorem dX4_would_57 : decode cX4_would 57 = .ok (.getfield 25, 3) := by decide +kernel
theorem dX4_would_60 : decode cX4_would 60 = .ok (.invokevirtual 171, 3) := by decide +kernel
theorem dX4_would_63 : decode cX4_would 63 = .ok (.ireturn, 1) := by decide +kernel
theorem dX4_would_64 : decode cX4_would 64 = .ok (.aload_n 0, 1) := by decide +kernel
theorem dX4_would_65 : decode cX4_would 65 = .ok (.getfield 25, 3) := by decide +kernel
theorem dX4_would_68 : decode cX4_would 68 = .ok (.invokevirtual 174, 3) := by decide +kernel
theorem dX4_would_71 : decode cX4_would 71 = .ok (.ireturn, 1) := by decide +kernel
theorem dX4_would_72 : decode cX4_would 72 = .ok (.aload_n 0, 1) := by decide +kernel
theorem dX4_would_73 : decode cX4_would 73 = .ok (.getfield 25, 3) := by decide +kernel
theorem dX4_would_76 : decode cX4_would 76 = .ok (.invokevirtual 177, 3) := by decide +kernel
theorem dX4_would_79 : decode cX4_would 79 = .ok (.ireturn, 1) := by decide +kernel
set_option maxRecDepth 20000 in
theorem ggX4_isLasting_X4_requireFast : GoodIn wsX4_isLasting wsX4_requireFast := goodIn_ca (goodIn_r _ [5, 6, 7, 8, 9, 10, 11, 12, 13, 14, 15, 16, 17, 18, 19, 20, 21, 22, 23, 24, 25, 26, 82, 83, 84, 85, 86, 87, 88, 89, 90, 91, 92, 93, 94, 95, 96] (by decide +kernel) (by decide +kernel)) (goodIn_sub (fun _ h => List.mem_cons_of_mem _ (List.mem_append_right _ h)) (by decide +kernel))
set_option maxRecDepth 20000 in
theorem gX4_isLasting_X4_requireFast : GoodIn wsX4_isLasting (wsV RX4 111 RX4 yX4_requireFast wsX4_requireFast) := goodIn_app (goodIn_of _ (by decide +kernel)) ggX4_isLasting_X4_requireFast
set_option maxRecDepth 20000 in
theorem ggX4_isLasting_X4_liesLasting : GoodIn wsX4_isLasting wsX4_liesLasting := goodIn_r _ [30, 31, 32, 33, 34, 35, 36, 37, 38, 39, 40, 41, 42, 43, 44, 45, 46, 47, 48, 49, 50, 51, 52, 53, 54, 55, 56, 57, 58, 59, 60, 61, 62, 63, 64, 65, 66, 67, 68, 69, 70, 71, 72, 73, 74, 75, 76, 77, 78, 79, 80, 81, 82, 83, 84, 85, 86, 87, 88, 89, 90, 91, 92, 97, 98, 99, 93, 94, 95, 96] (by decide +kernel) (by decide +kernel)
set_option maxRecDepth 20000 in
theorem gX4_isLasting_X4_liesLasting : GoodIn wsX4_isLasting (wsV RX4 180 RX4 yX4_liesLasting wsX4_liesLasting) := goodIn_app (goodIn_of _ (by decide +kernel)) ggX4_isLasting_X4_liesLasting
theorem dX4_isLasting_0 : decode cX4_isLasting 0 = .ok (.aload_n 0, 1) := by decide +kernel
theorem dX4_isLasting_1 : decode cX4_isLasting 1 = .ok (.invokevirtual 111, 3) := by decide +kernel
theorem dX4_isLasting_4 : decode cX4_isLasting 4 = .ok (.aload_n 0, 1) := by decide +kernel
theorem dX4_isLasting_5 : decode cX4_isLasting 5 = .ok (.invokevirtual 180, 3) := by decide +kernel
theorem dX4_isLasting_8 : decode cX4_isLasting 8 = .ok (.ireturn, 1) := by decide +kernel
set_option maxRecDepth 20000 in
theorem ggX4_neutral_X4_requireSpot : GoodIn wsX4_neutral wsX4_requireSpot := goodIn_ca (goodIn_r _ [7, 8, 9, 10, 11, 12, 13, 14, 15, 16, 67, 68, 69, 70, 71, 72, 73, 74, 75, 76, 77, 81, 82, 83, 84] (by decide +kernel) (by decide +kernel)) (goodIn_sub (fun _ h => List.mem_cons_of_mem _ (List.mem_append_left _ (List.mem_append_right _ h))) (by decide +kernel))
set_option maxRecDepth 20000 in
theorem gX4_neutral_X4_requireSpot : GoodIn wsX4_neutral (wsV RX4 86 RX4 yX4_requireSpot wsX4_requireSpot) := goodIn_app (goodIn_of _ (by decide +kernel)) ggX4_neutral_X4_requireSpot
set_option maxRecDepth 20000 in
theorem ggX4_neutral_X4_requireFast : GoodIn wsX4_neutral wsX4_requireFast := goodIn_ca (goodIn_r _ [20, 21, 22, 10, 23, 24, 25, 14, 26, 16, 27, 28, 29, 30, 31, 32, 33, 34, 35, 36, 37, 38, 67, 68, 69, 70, 71, 72, 73, 74, 75, 76, 77, 81, 82, 83, 84] (by decide +kernel) (by decide +kernel)) (goodIn_sub (fun _ h => List.mem_cons_of_mem _ (List.mem_append_right _ h)) (by decide +kernel))
set_option maxRecDepth 20000 in
theorem gX4_neutral_X4_requireFast : GoodIn wsX4_neutral (wsV RX4 111 RX4 yX4_requireFast wsX4_requireFast) := goodIn_app (goodIn_of _ (by decide +kernel)) ggX4_neutral_X4_requireFast
set_option maxRecDepth 20000 in
theorem ggX4_neutral_X0_becomeNeutral : GoodIn wsX4_neutral wsX0_becomeNeutral := goodIn_r _ [43, 44, 45, 46, 47, 48, 49, 50, 42, 51, 52, 53, 54, 55, 56, 57, 58, 59, 60, 61, 62, 63, 64, 65, 66, 78, 79, 80, 81, 82, 83, 84] (by decide +kernel) (by decide +kernel)
set_option maxRecDepth 20000 in
theorem gX4_neutral_X0_becomeNeutral : GoodIn wsX4_neutral (wsV RX4 184 RX0 yX0_becomeNeutral wsX0_becomeNeutral) := goodIn_app (goodIn_of _ (by decide +kernel)) ggX4_neutral_X0_becomeNeutral
theorem dX4_neutral_0 : decode cX4_neutral 0 = .ok (.aload_n 0, 1) := by decide +kernel
theorem dX4_neutral_1 : decode cX4_neutral 1 = .ok (.iload_n 1, 1) := by decide +kernel
theorem dX4_neutral_2 : decode cX4_neutral 2 = .ok (.invokevirtual 86, 3) := by decide +kernel
theorem dX4_neutral_5 : decode cX4_neutral 5 = .ok (.aload_n 0, 1) := by decide +kernel
theorem dX4_neutral_6 : decode cX4_neutral 6 = .ok (.invokevirtual 111, 3) := by decide +kernel
theorem dX4_neutral_9 : decode cX4_neutral 9 = .ok (.aload_n 0, 1) := by decide +kernel
theorem dX4_neutral_10 : decode cX4_neutral 10 = .ok (.getfield 28, 3) := by decide +kernel
theorem dX4_neutral_13 : decode cX4_neutral 13 = .ok (.invokevirtual 184, 3) := by decide +kernel
theorem dX4_neutral_16 : decode cX4_neutral 16 = .ok (.aload_n 0, 1) := by decide +kernel
theorem dX4_neutral_17 : decode cX4_neutral 17 = .ok (.getfield 28, 3) := by decide +kernel
theorem dX4_neutral_20 : decode cX4_neutral 20 = .ok (.getfield 89, 3) := by decide +kernel
theorem dX4_neutral_23 : decode cX4_neutral 23 = .ok (.iload_n 1, 1) := by decide +kernel
theorem dX4_neutral_24 : decode cX4_neutral 24 = .ok (.iaload, 1) := by decide +kernel
theorem dX4_neutral_25 : decode cX4_neutral 25 = .ok (.ireturn, 1) := by decide +kernel
set_option maxRecDepth 20000 in
theorem ggX4_fire_X0_burningOrder : GoodIn wsX4_fire wsX0_burningOrder := goodIn_r _ [6, 7, 8, 9, 10, 11, 5, 12, 13, 14, 15, 16, 17, 18, 19, 31, 32, 33, 34, 35, 36, 37] (by decide +kernel) (by decide +kernel)
set_option maxRecDepth 20000 in
theorem gX4_fire_X0_burningOrder : GoodIn wsX4_fire (wsV RX4 187 RX0 yX0_burningOrder wsX0_burningOrder) := goodIn_app (goodIn_of _ (by decide +kernel)) ggX4_fire_X0_burningOrder
theorem dX4_fire_0 : decode cX4_fire 0 = .ok (.aload_n 0, 1) := by decide +kernel
theorem dX4_fire_1 : decode cX4_fire 1 = .ok (.getfield 21, 3) := by decide +kernel
theorem dX4_fire_4 : decode cX4_fire 4 = .ok (.invokevirtual 187, 3) := by decide +kernel
theorem dX4_fire_7 : decode cX4_fire 7 = .ok (.ireturn, 1) := by decide +kernel
set_option maxRecDepth 20000 in
theorem ggX4_order_X4_requireFast : GoodIn wsX4_order wsX4_requireFast := goodIn_ca (goodIn_r _ [10, 11, 12, 13, 14, 15, 16, 17, 18, 19, 20, 21, 22, 23, 24, 25, 26, 27, 28, 29, 30, 31, 77, 78, 79, 80, 81, 82, 83, 84, 85, 86, 87, 91, 92, 93, 94] (by decide +kernel) (by decide +kernel)) (goodIn_sub (fun _ h => List.mem_cons_of_mem _ (List.mem_append_right _ h)) (by decide +kernel))
set_option maxRecDepth 20000 in
theorem gX4_order_X4_requireFast : GoodIn wsX4_order (wsV RX4 111 RX4 yX4_requireFast wsX4_requireFast) := goodIn_app (goodIn_of _ (by decide +kernel)) ggX4_order_X4_requireFast
set_option maxRecDepth 20000 in
theorem ggX4_order_X0_copyRow : GoodIn wsX4_order wsX0_copyRow := goodIn_r _ [36, 37, 38, 39, 40, 41, 88, 89, 90] (by decide +kernel) (by decide +kernel)
set_option maxRecDepth 20000 in
theorem gX4_order_X0_copyRow : GoodIn wsX4_order (wsV RX4 190 RX0 yX0_copyRow wsX0_copyRow) := goodIn_app (goodIn_of _ (by decide +kernel)) ggX4_order_X0_copyRow
set_option maxRecDepth 20000 in
theorem ggX4_order_X0_roll : GoodIn wsX4_order wsX0_roll := goodIn_r _ [45, 46, 47, 48, 49, 50, 51, 52, 53, 54, 35, 55, 56, 57, 58, 37, 59, 60, 61, 62, 63, 88, 89, 90, 91, 92, 93, 94] (by decide +kernel) (by decide +kernel)
set_option maxRecDepth 20000 in
theorem gX4_order_X0_roll : GoodIn wsX4_order (wsV RX4 193 RX0 yX0_roll wsX0_roll) := goodIn_app (goodIn_of _ (by decide +kernel)) ggX4_order_X0_roll
set_option maxRecDepth 20000 in
theorem ggX4_order_X0_becomeNeutral : GoodIn wsX4_order wsX0_becomeNeutral := goodIn_r _ [67, 56, 57, 37, 58, 68, 43, 44, 35, 45, 46, 47, 48, 49, 50, 51, 52, 53, 54, 55, 59, 60, 61, 62, 63, 88, 89, 90, 91, 92, 93, 94] (by decide +kernel) (by decide +kernel)
set_option maxRecDepth 20000 in
theorem gX4_order_X0_becomeNeutral : GoodIn wsX4_order (wsV RX4 184 RX0 yX0_becomeNeutral wsX0_becomeNeutral) := goodIn_app (goodIn_of _ (by decide +kernel)) ggX4_order_X0_becomeNeutral
set_option maxRecDepth 20000 in
theorem ggX4_order_X0_addRow : GoodIn wsX4_order wsX0_addRow := goodIn_r _ [72, 56, 57, 37, 88, 89, 90, 91, 92, 93, 94] (by decide +kernel) (by decide +kernel)
set_option maxRecDepth 20000 in
theorem gX4_order_X0_addRow : GoodIn wsX4_order (wsV RX4 132 RX0 yX0_addRow wsX0_addRow) := goodIn_app (goodIn_of _ (by decide +kernel)) ggX4_order_X0_addRow
set_option maxRecDepth 20000 in
theorem ggX4_order_X0_isLike : GoodIn wsX4_order wsX0_isLike := goodIn_r _ [76, 56, 57, 37, 88, 89, 90, 91, 92, 93, 94] (by decide +kernel) (by decide +kernel)
set_option maxRecDepth 20000 in
theorem gX4_order_X0_isLike : GoodIn wsX4_order (wsV RX4 196 RX0 yX0_isLike wsX0_isLike) := goodIn_app (goodIn_of _ (by decide +kernel)) ggX4_order_X0_isLike
theorem dX4_order_0 : decode cX4_order 0 = .ok (.aload_n 0, 1) := by decide +kernel
theorem dX4_order_1 : decode cX4_order 1 = .ok (.invokevirtual 111, 3) := by decide +kernel
theorem dX4_order_4 : decode cX4_order 4 = .ok (.aload_n 0, 1) := by decide +kernel
theorem dX4_order_5 : decode cX4_order 5 = .ok (.getfield 25, 3) := by decide +kernel
theorem dX4_order_8 : decode cX4_order 8 = .ok (.aload_n 0, 1) := by decide +kernel
theorem dX4_order_9 : decode cX4_order 9 = .ok (.getfield 21, 3) := by decide +kernel
theorem dX4_order_12 : decode cX4_order 12 = .ok (.getfield 89, 3) := by decide +kernel
theorem dX4_order_15 : decode cX4_order 15 = .ok (.invokevirtual 190, 3) := by decide +kernel
theorem dX4_order_18 : decode cX4_order 18 = .ok (.aload_n 0, 1) := by decide +kernel
theorem dX4_order_19 : decode cX4_order 19 = .ok (.getfield 25, 3) := by decide +kernel
theorem dX4_order_22 : decode cX4_order 22 = .ok (.invokevirtual 193, 3) := by decide +kernel
theorem dX4_order_25 : decode cX4_order 25 = .ok (.aload_n 0, 1) := by decide +kernel
theorem dX4_order_26 : decode cX4_order 26 = .ok (.getfield 28, 3) := by decide +kernel
theorem dX4_order_29 : decode cX4_order 29 = .ok (.invokevirtual 184, 3) := by decide +kernel
theorem dX4_order_32 : decode cX4_order 32 = .ok (.aload_n 0, 1) := by decide +kernel
theorem dX4_order_33 : decode cX4_order 33 = .ok (.getfield 31, 3) := by decide +kernel
theorem dX4_order_36 : decode cX4_order 36 = .ok (.aload_n 0, 1) := by decide +kernel
theorem dX4_order_37 : decode cX4_order 37 = .ok (.getfield 28, 3) := by decide +kernel
theorem dX4_order_40 : decode cX4_order 40 = .ok (.getfield 89, 3) := by decide +kernel
theorem dX4_order_43 : decode cX4_order 43 = .ok (.invokevirtual 190, 3) := by decide +kernel
theorem dX4_order_46 : decode cX4_order 46 = .ok (.iconst 1, 1) := by decide +kernel
theorem dX4_order_47 : decode cX4_order 47 = .ok (.istore_n 1, 1) := by decide +kernel
theorem dX4_order_48 : decode cX4_order 48 = .ok (.iload_n 1, 1) := by decide +kernel
theorem dX4_order_49 : decode cX4_order 49 = .ok (.bipush 100, 2) := by decide +kernel
theorem dX4_order_51 : decode cX4_order 51 = .ok (.if_icmp .gt 49, 3) := by decide +kernel
theorem dX4_order_54 : decode cX4_order 54 = .ok (.aload_n 0, 1) := by decide +kernel
theorem dX4_order_55 : decode cX4_order 55 = .ok (.getfield 31, 3) := by decide +kernel
theorem dX4_order_58 : decode cX4_order 58 = .ok (.aload_n 0, 1) := by decide +kernel
theorem dX4_order_59 : decode cX4_order 59 = .ok (.getfield 25, 3) := by decide +kernel
theorem dX4_order_62 : decode cX4_order 62 = .ok (.getfield 89, 3) := by decide +kernel
theorem dX4_order_65 : decode cX4_order 65 = .ok (.invokevirtual 132, 3) := by decide +kernel
theorem dX4_order_68 : decode cX4_order 68 = .ok (.aload_n 0, 1) := by decide +kernel
theorem dX4_order_69 : decode cX4_order 69 = .ok (.getfield 31, 3) := by decide +kernel
theorem dX4_order_72 : decode cX4_order 72 = .ok (.invokevirtual 193, 3) := by decide +kernel
theorem dX4_order_75 : decode cX4_order 75 = .ok (.aload_n 0, 1) := by decide +kernel
theorem dX4_order_76 : decode cX4_order 76 = .ok (.getfield 31, 3) := by decide +kernel
theorem dX4_order_79 : decode cX4_order 79 = .ok (.aload_n 0, 1) := by decide +kernel
theorem dX4_order_80 : decode cX4_order 80 = .ok (.getfield 28, 3) := by decide +kernel
theorem dX4_order_83 : decode cX4_order 83 = .ok (.getfield 89, 3) := by decide +kernel
theorem dX4_order_86 : decode cX4_order 86 = .ok (.invokevirtual 196, 3) := by decide +kernel
theorem dX4_order_89 : decode cX4_order 89 = .ok (.ifCond .eq 5, 3) := by decide +kernel
theorem dX4_order_92 : decode cX4_order 92 = .ok (.iload_n 1, 1) := by decide +kernel
theorem dX4_order_93 : decode cX4_order 93 = .ok (.ireturn, 1) := by decide +kernel
theorem dX4_order_94 : decode cX4_order 94 = .ok (.iinc 1 1, 3) := by decide +kernel
theorem dX4_order_97 : decode cX4_order 97 = .ok (.goto (-49), 3) := by decide +kernel
theorem dX4_order_100 : decode cX4_order 100 = .ok (.iconst (-1), 1) := by decide +kernel
theorem dX4_order_101 : decode cX4_order 101 = .ok (.ireturn, 1) := by decide +kernel
set_option maxRecDepth 20000 in
theorem ggX4_canPay_X4_requireFast : GoodIn wsX4_canPay wsX4_requireFast := goodIn_ca (goodIn_r _ [6, 7, 8, 9, 10, 11, 12, 13, 14, 15, 16, 17, 18, 19, 20, 21, 22, 23, 24, 25, 26, 27, 88, 89, 90, 91, 92, 93, 94, 95, 96, 97, 98, 99, 100, 101, 102] (by decide +kernel) (by decide +kernel)) (goodIn_sub (fun _ h => List.mem_cons_of_mem _ (List.mem_append_right _ h)) (by decide +kernel))
set_option maxRecDepth 20000 in
theorem gX4_canPay_X4_requireFast : GoodIn wsX4_canPay (wsV RX4 111 RX4 yX4_requireFast wsX4_requireFast) := goodIn_app (goodIn_of _ (by decide +kernel)) ggX4_canPay_X4_requireFast
set_option maxRecDepth 20000 in
theorem ggX4_canPay_X1_isPayable : GoodIn wsX4_canPay wsX1_isPayable := goodIn_r _ [32, 33, 34, 35, 36, 31, 37, 38, 39, 40, 41, 42, 43, 44, 45, 46, 47, 48, 49, 50, 51, 52, 53, 54, 55, 56, 57, 58, 59, 60, 61, 62, 63, 64, 65, 66, 67, 68, 69, 70, 71, 72, 73, 74, 75, 76, 77, 78, 79, 80, 81, 82, 83, 84, 85, 86, 87, 103, 104, 105, 106, 99, 100, 101, 102, 107, 108, 109] (by decide +kernel) (by decide +kernel)
set_option maxRecDepth 20000 in
theorem gX4_canPay_X1_isPayable : GoodIn wsX4_canPay (wsV RX4 200 RX1 yX1_isPayable wsX1_isPayable) := goodIn_app (goodIn_of _ (by decide +kernel)) ggX4_canPay_X1_isPayable
theorem dX4_canPay_0 : decode cX4_canPay 0 = .ok (.aload_n 0, 1) := by decide +kernel
theorem dX4_canPay_1 : decode cX4_canPay 1 = .ok (.invokevirtual 111, 3) := by decide +kernel
theorem dX4_canPay_4 : decode cX4_canPay 4 = .ok (.aload_n 0, 1) := by decide +kernel
theorem dX4_canPay_5 : decode cX4_canPay 5 = .ok (.getfield 44, 3) := by decide +kernel
theorem dX4_canPay_8 : decode cX4_canPay 8 = .ok (.invokevirtual 200, 3) := by decide +kernel
theorem dX4_canPay_11 : decode cX4_canPay 11 = .ok (.ireturn, 1) := by decide +kernel
set_option maxRecDepth 20000 in
theorem ggX4_weakest_X4_requireFast : GoodIn wsX4_weakest wsX4_requireFast := goodIn_ca (goodIn_r _ [6, 7, 8, 9, 10, 11, 12, 13, 14, 15, 16, 17, 18, 19, 20, 21, 22, 23, 24, 25, 26, 27, 97, 98, 99, 100, 101, 102, 103, 104, 105, 106, 107, 108, 109, 110, 111] (by decide +kernel) (by decide +kernel)) (goodIn_sub (fun _ h => List.mem_cons_of_mem _ (List.mem_append_right _ h)) (by decide +kernel))
set_option maxRecDepth 20000 in
theorem gX4_weakest_X4_requireFast : GoodIn wsX4_weakest (wsV RX4 111 RX4 yX4_requireFast wsX4_requireFast) := goodIn_app (goodIn_of _ (by decide +kernel)) ggX4_weakest_X4_requireFast
set_option maxRecDepth 20000 in
theorem ggX4_weakest_X1_weakestNode : GoodIn wsX4_weakest wsX1_weakestNode := goodIn_r _ [32, 33, 34, 35, 36, 37, 38, 39, 40, 31, 41, 42, 43, 44, 45, 46, 47, 48, 49, 50, 51, 52, 53, 54, 55, 56, 57, 58, 59, 60, 61, 62, 63, 64, 65, 66, 67, 68, 69, 70, 71, 72, 73, 74, 75, 76, 77, 78, 79, 80, 81, 82, 83, 84, 85, 86, 87, 88, 89, 90, 91, 92, 93, 94, 95, 96, 112, 113, 114, 115, 108, 109, 110, 111, 116, 117, 118] (by decide +kernel) (by decide +kernel)
set_option maxRecDepth 20000 in
theorem gX4_weakest_X1_weakestNode : GoodIn wsX4_weakest (wsV RX4 203 RX1 yX1_weakestNode wsX1_weakestNode) := goodIn_app (goodIn_of _ (by decide +kernel)) ggX4_weakest_X1_weakestNode
theorem dX4_weakest_0 : decode cX4_weakest 0 = .ok (.aload_n 0, 1) := by decide +kernel
theorem dX4_weakest_1 : decode cX4_weakest 1 = .ok (.invokevirtual 111, 3) := by decide +kernel
theorem dX4_weakest_4 : decode cX4_weakest 4 = .ok (.aload_n 0, 1) := by decide +kernel
theorem dX4_weakest_5 : decode cX4_weakest 5 = .ok (.getfield 44, 3) := by decide +kernel
theorem dX4_weakest_8 : decode cX4_weakest 8 = .ok (.invokevirtual 203, 3) := by decide +kernel
theorem dX4_weakest_11 : decode cX4_weakest 11 = .ok (.ireturn, 1) := by decide +kernel
set_option maxRecDepth 20000 in
theorem ggX4_digest_X4_manyValue : GoodIn wsX4_digest wsX4_manyValue := goodIn_r _ [10, 3, 4, 5, 11, 12, 13, 14, 15, 16, 17, 18, 19, 20, 21, 22, 23, 24, 25, 26, 27, 28, 29, 30, 31, 32, 33, 34, 35, 36, 37, 38, 39, 40, 41, 42, 43, 44, 45, 46, 47, 48, 49, 50, 51, 52, 53, 54, 55, 56, 57, 58, 59, 60, 61, 62, 63, 64, 65, 66, 67, 68, 69, 70, 71, 72, 73, 74, 75, 76, 77, 78, 79, 80, 81, 82, 83, 84, 85, 86, 87, 88, 89, 90, 91, 92, 93, 94, 95, 224, 225, 226, 227, 228, 229, 230, 231, 232, 233, 234, 235, 236, 237, 238, 239, 240, 241, 242, 243, 244, 245, 246, 247, 248] (by decide +kernel) (by decide +kernel)
set_option maxRecDepth 20000 in
theorem gX4_digest_X4_manyValue : GoodIn wsX4_digest (wsV RX4 159 RX4 yX4_manyValue wsX4_manyValue) := goodIn_app (goodIn_of _ (by decide +kernel)) ggX4_digest_X4_manyValue
set_option maxRecDepth 20000 in
theorem ggX4_digest_X4_spotValue : GoodIn wsX4_digest wsX4_spotValue := goodIn_r _ [99, 5, 100, 3, 101, 102, 103, 15, 104, 105, 41, 42, 26, 43, 28, 44, 30, 106, 88, 89, 75, 90, 77, 91, 92, 93, 94, 20, 95, 54, 224, 225, 226, 227, 228, 229, 230, 231, 232, 233, 234, 242, 243, 244, 235, 236, 237, 238, 239, 240, 241] (by decide +kernel) (by decide +kernel)
set_option maxRecDepth 20000 in
theorem gX4_digest_X4_spotValue : GoodIn wsX4_digest (wsV RX4 155 RX4 yX4_spotValue wsX4_spotValue) := goodIn_app (goodIn_of _ (by decide +kernel)) ggX4_digest_X4_spotValue
set_option maxRecDepth 20000 in
theorem ggX4_digest_X4_digestNode : GoodIn wsX4_digest wsX4_digestNode := goodIn_r _ [110, 2, 14, 111, 3, 4, 102, 224, 225, 226, 227, 228, 229, 230, 231, 232, 233, 234, 245, 246, 247, 248, 235, 236, 237, 238] (by decide +kernel) (by decide +kernel)
set_option maxRecDepth 20000 in
theorem gX4_digest_X4_digestNode : GoodIn wsX4_digest (wsV RX4 210 RX4 yX4_digestNode wsX4_digestNode) := goodIn_app (goodIn_of _ (by decide +kernel)) ggX4_digest_X4_digestNode
set_option maxRecDepth 20000 in
theorem ggX4_digest_X4_digestKept : GoodIn wsX4_digest wsX4_digestKept := goodIn_r _ [115, 13, 3, 4, 2, 116, 224, 225, 226, 227, 228, 229, 230, 231, 232, 233, 234, 235, 236, 237, 238] (by decide +kernel) (by decide +kernel)
set_option maxRecDepth 20000 in
theorem gX4_digest_X4_digestKept : GoodIn wsX4_digest (wsV RX4 214 RX4 yX4_digestKept wsX4_digestKept) := goodIn_app (goodIn_of _ (by decide +kernel)) ggX4_digest_X4_digestKept
set_option maxRecDepth 20000 in
theorem ggX4_digest_X2_trees : GoodIn wsX4_digest wsX2_trees := goodIn_r _ [120, 49, 121, 122, 123, 124, 20, 125, 22, 54, 126, 127, 128, 129, 235, 236, 237, 238] (by decide +kernel) (by decide +kernel)
set_option maxRecDepth 20000 in
theorem gX4_digest_X2_trees : GoodIn wsX4_digest (wsV RX4 162 RX2 yX2_trees wsX2_trees) := goodIn_app (goodIn_of _ (by decide +kernel)) ggX4_digest_X2_trees
set_option maxRecDepth 20000 in
theorem ggX4_digest_X0_burningOrder : GoodIn wsX4_digest wsX0_burningOrder := goodIn_r _ [133, 28, 29, 134, 135, 136, 26, 137, 30, 138, 51, 52, 20, 53, 54, 242, 243, 244, 235, 236, 237, 238] (by decide +kernel) (by decide +kernel)
set_option maxRecDepth 20000 in
theorem gX4_digest_X0_burningOrder : GoodIn wsX4_digest (wsV RX4 187 RX0 yX0_burningOrder wsX0_burningOrder) := goodIn_app (goodIn_of _ (by decide +kernel)) ggX4_digest_X0_burningOrder
set_option maxRecDepth 20000 in
theorem ggX4_digest_X2_isFast : GoodIn wsX4_digest wsX2_isFast := goodIn_r _ [48, 49, 50, 51, 52, 20, 53, 54, 55, 56, 57, 58, 59, 60, 61, 235, 236, 237, 238] (by decide +kernel) (by decide +kernel)
set_option maxRecDepth 20000 in
theorem gX4_digest_X2_isFast : GoodIn wsX4_digest (wsV RX4 218 RX2 yX2_isFast wsX2_isFast) := goodIn_app (goodIn_of _ (by decide +kernel)) ggX4_digest_X2_isFast
set_option maxRecDepth 20000 in
theorem ggX4_digest_X4_digestFast : GoodIn wsX4_digest wsX4_digestFast := goodIn_r _ [142, 2, 143, 3, 4, 100, 144, 14, 145, 146, 147, 9, 148, 5, 36, 37, 38, 26, 39, 28, 29, 40, 41, 42, 43, 44, 30, 149, 150, 151, 152, 153, 154, 155, 156, 157, 158, 159, 160, 161, 162, 163, 164, 165, 35, 166, 167, 168, 169, 170, 171, 172, 173, 174, 175, 176, 177, 178, 179, 180, 181, 182, 183, 184, 185, 186, 187, 188, 189, 190, 191, 31, 32, 33, 34, 192, 193, 194, 65, 195, 196, 197, 198, 199, 200, 201, 202, 203, 67, 204, 205, 206, 207, 208, 209, 210, 211, 212, 213, 63, 64, 66, 214, 215, 216, 217, 218, 219, 220, 221, 222, 223, 224, 225, 226, 227, 228, 229, 230, 231, 232, 233, 234, 235, 236, 237, 238, 242, 243, 244, 245, 246, 247, 248] (by decide +kernel) (by decide +kernel)
set_option maxRecDepth 20000 in
theorem gX4_digest_X4_digestFast : GoodIn wsX4_digest (wsV RX4 221 RX4 yX4_digestFast wsX4_digestFast) := goodIn_app (goodIn_of _ (by decide +kernel)) ggX4_digest_X4_digestFast
theorem dX4_digest_0 : decode cX4_digest 0 = .ok (.ldc2_w 206, 3) := by decide +kernel
theorem dX4_digest_3 : decode cX4_digest 3 = .ok (.lstore_n 1, 1) := by decide +kernel
theorem dX4_digest_4 : decode cX4_digest 4 = .ok (.iconst 0, 1) := by decide +kernel
theorem dX4_digest_5 : decode cX4_digest 5 = .ok (.istore_n 3, 1) := by decide +kernel
theorem dX4_digest_6 : decode cX4_digest 6 = .ok (.iload_n 3, 1) := by decide +kernel
theorem dX4_digest_7 : decode cX4_digest 7 = .ok (.bipush 14, 2) := by decide +kernel
theorem dX4_digest_9 : decode cX4_digest 9 = .ok (.if_icmp .ge 22, 3) := by decide +kernel
theorem dX4_digest_12 : decode cX4_digest 12 = .ok (.lload_n 1, 1) := by decide +kernel
theorem dX4_digest_13 : decode cX4_digest 13 = .ok (.ldc2_w 208, 3) := by decide +kernel
theorem dX4_digest_16 : decode cX4_digest 16 = .ok (.lmul, 1) := by decide +kernel
theorem dX4_digest_17 : decode cX4_digest 17 = .ok (.aload_n 0, 1) := by decide +kernel
theorem dX4_digest_18 : decode cX4_digest 18 = .ok (.iload_n 3, 1) := by decide +kernel
theorem dX4_digest_19 : decode cX4_digest 19 = .ok (.invokevirtual 159, 3) := by decide +kernel
theorem dX4_digest_22 : decode cX4_digest 22 = .ok (.i2l, 1) := by decide +kernel
theorem dX4_digest_23 : decode cX4_digest 23 = .ok (.ladd, 1) := by decide +kernel
theorem dX4_digest_24 : decode cX4_digest 24 = .ok (.lstore_n 1, 1) := by decide +kernel
theorem dX4_digest_25 : decode cX4_digest 25 = .ok (.iinc 3 1, 3) := by decide +kernel
theorem dX4_digest_28 : decode cX4_digest 28 = .ok (.goto (-22), 3) := by decide +kernel
theorem dX4_digest_31 : decode cX4_digest 31 = .ok (.iconst 0, 1) := by decide +kernel
theorem dX4_digest_32 : decode cX4_digest 32 = .ok (.istore_n 3, 1) := by decide +kernel
theorem dX4_digest_33 : decode cX4_digest 33 = .ok (.iload_n 3, 1) := by decide +kernel
theorem dX4_digest_34 : decode cX4_digest 34 = .ok (.aload_n 0, 1) := by decide +kernel
theorem dX4_digest_35 : decode cX4_digest 35 = .ok (.getfield 10, 3) := by decide +kernel
theorem dX4_digest_38 : decode cX4_digest 38 = .ok (.getfield 53, 3) := by decide +kernel
theorem dX4_digest_41 : decode cX4_digest 41 = .ok (.if_icmp .ge 40, 3) := by decide +kernel
theorem dX4_digest_44 : decode cX4_digest 44 = .ok (.iconst 0, 1) := by decide +kernel
theorem dX4_digest_45 : decode cX4_digest 45 = .ok (.istore 4, 2) := by decide +kernel
theorem dX4_digest_47 : decode cX4_digest 47 = .ok (.iload 4, 2) := by decide +kernel
theorem dX4_digest_49 : decode cX4_digest 49 = .ok (.bipush 7, 2) := by decide +kernel
theorem dX4_digest_51 : decode cX4_digest 51 = .ok (.if_icmp .ge 24, 3) := by decide +kernel
theorem dX4_digest_54 : decode cX4_digest 54 = .ok (.lload_n 1, 1) := by decide +kernel
theorem dX4_digest_55 : decode cX4_digest 55 = .ok (.ldc2_w 208, 3) := by decide +kernel
theorem dX4_digest_58 : decode cX4_digest 58 = .ok (.lmul, 1) := by decide +kernel
theorem dX4_digest_59 : decode cX4_digest 59 = .ok (.aload_n 0, 1) := by decide +kernel
theorem dX4_digest_60 : decode cX4_digest 60 = .ok (.iload_n 3, 1) := by decide +kernel
theorem dX4_digest_61 : decode cX4_digest 61 = .ok (.iload 4, 2) := by decide +kernel
theorem dX4_digest_63 : decode cX4_digest 63 = .ok (.invokevirtual 155, 3) := by decide +kernel
theorem dX4_digest_66 : decode cX4_digest 66 = .ok (.i2l, 1) := by decide +kernel
theorem dX4_digest_67 : decode cX4_digest 67 = .ok (.ladd, 1) := by decide +kernel
theorem dX4_digest_68 : decode cX4_digest 68 = .ok (.lstore_n 1, 1) := by decide +kernel
theorem dX4_digest_69 : decode cX4_digest 69 = .ok (.iinc 4 1, 3) := by decide +kernel
theorem dX4_digest_72 : decode cX4_digest 72 = .ok (.goto (-25), 3) := by decide +kernel
theorem dX4_digest_75 : decode cX4_digest 75 = .ok (.iinc 3 1, 3) := by decide +kernel
theorem dX4_digest_78 : decode cX4_digest 78 = .ok (.goto (-45), 3) := by decide +kernel
theorem dX4_digest_81 : decode cX4_digest 81 = .ok (.iconst 0, 1) := by decide +kernel
theorem dX4_digest_82 : decode cX4_digest 82 = .ok (.istore_n 3, 1) := by decide +kernel
theorem dX4_digest_83 : decode cX4_digest 83 = .ok (.iload_n 3, 1) := by decide +kernel
theorem dX4_digest_84 : decode cX4_digest 84 = .ok (.aload_n 0, 1) := by decide +kernel
theorem dX4_digest_85 : decode cX4_digest 85 = .ok (.getfield 10, 3) := by decide +kernel
theorem dX4_digest_88 : decode cX4_digest 88 = .ok (.getfield 53, 3) := by decide +kernel
theorem dX4_digest_91 : decode cX4_digest 91 = .ok (.if_icmp .ge 16, 3) := by decide +kernel
theorem dX4_digest_94 : decode cX4_digest 94 = .ok (.aload_n 0, 1) := by decide +kernel
theorem dX4_digest_95 : decode cX4_digest 95 = .ok (.lload_n 1, 1) := by decide +kernel
theorem dX4_digest_96 : decode cX4_digest 96 = .ok (.iload_n 3, 1) := by decide +kernel
theorem dX4_digest_97 : decode cX4_digest 97 = .ok (.invokevirtual 210, 3) := by decide +kernel
theorem dX4_digest_100 : decode cX4_digest 100 = .ok (.lstore_n 1, 1) := by decide +kernel
theorem dX4_digest_101 : decode cX4_digest 101 = .ok (.iinc 3 1, 3) := by decide +kernel
theorem dX4_digest_104 : decode cX4_digest 104 = .ok (.goto (-21), 3) := by decide +kernel
theorem dX4_digest_107 : decode cX4_digest 107 = .ok (.aload_n 0, 1) := by decide +kernel
theorem dX4_digest_108 : decode cX4_digest 108 = .ok (.lload_n 1, 1) := by decide +kernel
theorem dX4_digest_109 : decode cX4_digest 109 = .ok (.bipush 6, 2) := by decide +kernel
theorem dX4_digest_111 : decode cX4_digest 111 = .ok (.invokevirtual 210, 3) := by decide +kernel
theorem dX4_digest_114 : decode cX4_digest 114 = .ok (.lstore_n 1, 1) := by decide +kernel
theorem dX4_digest_115 : decode cX4_digest 115 = .ok (.aload_n 0, 1) := by decide +kernel
theorem dX4_digest_116 : decode cX4_digest 116 = .ok (.lload_n 1, 1) := by decide +kernel
theorem dX4_digest_117 : decode cX4_digest 117 = .ok (.invokevirtual 214, 3) := by decide +kernel
theorem dX4_digest_120 : decode cX4_digest 120 = .ok (.lstore_n 1, 1) := by decide +kernel
theorem dX4_digest_121 : decode cX4_digest 121 = .ok (.lload_n 1, 1) := by decide +kernel
theorem dX4_digest_122 : decode cX4_digest 122 = .ok (.ldc2_w 208, 3) := by decide +kernel
theorem dX4_digest_125 : decode cX4_digest 125 = .ok (.lmul, 1) := by decide +kernel
theorem dX4_digest_126 : decode cX4_digest 126 = .ok (.aload_n 0, 1) := by decide +kernel
theorem dX4_digest_127 : decode cX4_digest 127 = .ok (.getfield 10, 3) := by decide +kernel
theorem dX4_digest_130 : decode cX4_digest 130 = .ok (.invokevirtual 162, 3) := by decide +kernel
theorem dX4_digest_133 : decode cX4_digest 133 = .ok (.ladd, 1) := by decide +kernel
theorem dX4_digest_134 : decode cX4_digest 134 = .ok (.lstore_n 1, 1) := by decide +kernel
theorem dX4_digest_135 : decode cX4_digest 135 = .ok (.lload_n 1, 1) := by decide +kernel
theorem dX4_digest_136 : decode cX4_digest 136 = .ok (.ldc2_w 208, 3) := by decide +kernel
theorem dX4_digest_139 : decode cX4_digest 139 = .ok (.lmul, 1) := by decide +kernel
theorem dX4_digest_140 : decode cX4_digest 140 = .ok (.aload_n 0, 1) := by decide +kernel
theorem dX4_digest_141 : decode cX4_digest 141 = .ok (.getfield 21, 3) := by decide +kernel
theorem dX4_digest_144 : decode cX4_digest 144 = .ok (.invokevirtual 187, 3) := by decide +kernel
theorem dX4_digest_147 : decode cX4_digest 147 = .ok (.i2l, 1) := by decide +kernel
theorem dX4_digest_148 : decode cX4_digest 148 = .ok (.ladd, 1) := by decide +kernel
theorem dX4_digest_149 : decode cX4_digest 149 = .ok (.lstore_n 1, 1) := by decide +kernel
theorem dX4_digest_150 : decode cX4_digest 150 = .ok (.aload_n 0, 1) := by decide +kernel
theorem dX4_digest_151 : decode cX4_digest 151 = .ok (.getfield 10, 3) := by decide +kernel
theorem dX4_digest_154 : decode cX4_digest 154 = .ok (.invokevirtual 218, 3) := by decide +kernel
theorem dX4_digest_157 : decode cX4_digest 157 = .ok (.ifCond .eq 11, 3) := by decide +kernel
theorem dX4_digest_160 : decode cX4_digest 160 = .ok (.aload_n 0, 1) := by decide +kernel
theorem dX4_digest_161 : decode cX4_digest 161 = .ok (.lload_n 1, 1) := by decide +kernel
theorem dX4_digest_162 : decode cX4_digest 162 = .ok (.invokevirtual 221, 3) := by decide +kernel
theorem dX4_digest_165 : decode cX4_digest 165 = .ok (.goto 4, 3) := by decide +kernel
theorem dX4_digest_168 : decode cX4_digest 168 = .ok (.lload_n 1, 1) := by decide +kernel
theorem dX4_digest_169 : decode cX4_digest 169 = .ok (.lreturn, 1) := by decide +kernel
set_option maxRecDepth 20000 in
theorem ggX4_requireSpot_X2_isSpot : GoodIn wsX4_requireSpot wsX2_isSpot := goodIn_r _ [8, 9, 21, 22, 23, 24] (by decide +kernel) (by decide +kernel)
set_option maxRecDepth 20000 in
theorem gX4_requireSpot_X2_isSpot : GoodIn wsX4_requireSpot (wsV RX4 224 RX2 yX2_isSpot wsX2_isSpot) := goodIn_app (goodIn_of _ (by decide +kernel)) ggX4_requireSpot_X2_isSpot
theorem dX4_requireSpot_0 : decode cX4_requireSpot 0 = .ok (.aload_n 0, 1) := by decide +kernel
theorem dX4_requireSpot_1 : decode cX4_requireSpot 1 = .ok (.getfield 10, 3) := by decide +kernel
theorem dX4_requireSpot_4 : decode cX4_requireSpot 4 = .ok (.iload_n 1, 1) := by decide +kernel
theorem dX4_requireSpot_5 : decode cX4_requireSpot 5 = .ok (.invokevirtual 224, 3) := by decide +kernel
theorem dX4_requireSpot_8 : decode cX4_requireSpot 8 = .ok (.ifCond .ne 13, 3) := by decide +kernel
theorem dX4_requireSpot_11 : decode cX4_requireSpot 11 = .ok (.new 227, 3) := by decide +kernel
theorem dX4_requireSpot_14 : decode cX4_requireSpot 14 = .ok (.dup, 1) := by decide +kernel
theorem dX4_requireSpot_15 : decode cX4_requireSpot 15 = .ok (.ldc 229, 2) := by decide +kernel
theorem dX4_requireSpot_17 : decode cX4_requireSpot 17 = .ok (.invokespecial 231, 3) := by decide +kernel
theorem dX4_requireSpot_20 : decode cX4_requireSpot 20 = .ok (.athrow, 1) := by decide +kernel
theorem dX4_requireSpot_21 : decode cX4_requireSpot 21 = .ok (.return_, 1) := by decide +kernel
set_option maxRecDepth 20000 in
theorem ggX4_requireNode_X2_isNode : GoodIn wsX4_requireNode wsX2_isNode := goodIn_r _ [8, 9, 10, 11, 7, 12, 13, 25, 26, 27, 28] (by decide +kernel) (by decide +kernel)
set_option maxRecDepth 20000 in
theorem gX4_requireNode_X2_isNode : GoodIn wsX4_requireNode (wsV RX4 232 RX2 yX2_isNode wsX2_isNode) := goodIn_app (goodIn_of _ (by decide +kernel)) ggX4_requireNode_X2_isNode
theorem dX4_requireNode_0 : decode cX4_requireNode 0 = .ok (.aload_n 0, 1) := by decide +kernel
theorem dX4_requireNode_1 : decode cX4_requireNode 1 = .ok (.getfield 10, 3) := by decide +kernel
theorem dX4_requireNode_4 : decode cX4_requireNode 4 = .ok (.iload_n 1, 1) := by decide +kernel
theorem dX4_requireNode_5 : decode cX4_requireNode 5 = .ok (.invokevirtual 232, 3) := by decide +kernel
theorem dX4_requireNode_8 : decode cX4_requireNode 8 = .ok (.ifCond .ne 13, 3) := by decide +kernel
theorem dX4_requireNode_11 : decode cX4_requireNode 11 = .ok (.new 227, 3) := by decide +kernel
theorem dX4_requireNode_14 : decode cX4_requireNode 14 = .ok (.dup, 1) := by decide +kernel
theorem dX4_requireNode_15 : decode cX4_requireNode 15 = .ok (.ldc 235, 2) := by decide +kernel
theorem dX4_requireNode_17 : decode cX4_requireNode 17 = .ok (.invokespecial 231, 3) := by decide +kernel
theorem dX4_requireNode_20 : decode cX4_requireNode 20 = .ok (.athrow, 1) := by decide +kernel
theorem dX4_requireNode_21 : decode cX4_requireNode 21 = .ok (.return_, 1) := by decide +kernel
theorem dX4_requireHeap_0 : decode cX4_requireHeap 0 = .ok (.iload_n 1, 1) := by decide +kernel
theorem dX4_requireHeap_1 : decode cX4_requireHeap 1 = .ok (.ifCond .lt 11, 3) := by decide +kernel
theorem dX4_requireHeap_4 : decode cX4_requireHeap 4 = .ok (.iload_n 1, 1) := by decide +kernel
theorem dX4_requireHeap_5 : decode cX4_requireHeap 5 = .ok (.aload_n 0, 1) := by decide +kernel
theorem dX4_requireHeap_6 : decode cX4_requireHeap 6 = .ok (.getfield 118, 3) := by decide +kernel
theorem dX4_requireHeap_9 : decode cX4_requireHeap 9 = .ok (.if_icmp .lt 13, 3) := by decide +kernel
theorem dX4_requireHeap_12 : decode cX4_requireHeap 12 = .ok (.new 227, 3) := by decide +kernel
theorem dX4_requireHeap_15 : decode cX4_requireHeap 15 = .ok (.dup, 1) := by decide +kernel
theorem dX4_requireHeap_16 : decode cX4_requireHeap 16 = .ok (.ldc 237, 2) := by decide +kernel
theorem dX4_requireHeap_18 : decode cX4_requireHeap 18 = .ok (.invokespecial 231, 3) := by decide +kernel
theorem dX4_requireHeap_21 : decode cX4_requireHeap 21 = .ok (.athrow, 1) := by decide +kernel
theorem dX4_requireHeap_22 : decode cX4_requireHeap 22 = .ok (.return_, 1) := by decide +kernel
set_option maxRecDepth 20000 in
theorem ggX4_requireFast_X2_isFast : GoodIn wsX4_requireFast wsX2_isFast := goodIn_r _ [8, 9, 10, 11, 12, 7, 13, 14, 15, 16, 17, 18, 19, 20, 21, 33, 34, 35, 36] (by decide +kernel) (by decide +kernel)
set_option maxRecDepth 20000 in
theorem gX4_requireFast_X2_isFast : GoodIn wsX4_requireFast (wsV RX4 218 RX2 yX2_isFast wsX2_isFast) := goodIn_app (goodIn_of _ (by decide +kernel)) ggX4_requireFast_X2_isFast
theorem dX4_requireFast_0 : decode cX4_requireFast 0 = .ok (.aload_n 0, 1) := by decide +kernel
theorem dX4_requireFast_1 : decode cX4_requireFast 1 = .ok (.getfield 10, 3) := by decide +kernel
theorem dX4_requireFast_4 : decode cX4_requireFast 4 = .ok (.invokevirtual 218, 3) := by decide +kernel
theorem dX4_requireFast_7 : decode cX4_requireFast 7 = .ok (.ifCond .ne 13, 3) := by decide +kernel
theorem dX4_requireFast_10 : decode cX4_requireFast 10 = .ok (.new 57, 3) := by decide +kernel
theorem dX4_requireFast_13 : decode cX4_requireFast 13 = .ok (.dup, 1) := by decide +kernel
theorem dX4_requireFast_14 : decode cX4_requireFast 14 = .ok (.ldc 239, 2) := by decide +kernel
theorem dX4_requireFast_16 : decode cX4_requireFast 16 = .ok (.invokespecial 61, 3) := by decide +kernel
theorem dX4_requireFast_19 : decode cX4_requireFast 19 = .ok (.athrow, 1) := by decide +kernel
theorem dX4_requireFast_20 : decode cX4_requireFast 20 = .ok (.return_, 1) := by decide +kernel
theorem dX4_requireWithin_0 : decode cX4_requireWithin 0 = .ok (.iload_n 0, 1) := by decide +kernel
theorem dX4_requireWithin_1 : decode cX4_requireWithin 1 = .ok (.iload_n 1, 1) := by decide +kernel
theorem dX4_requireWithin_2 : decode cX4_requireWithin 2 = .ok (.if_icmp .lt 8, 3) := by decide +kernel
theorem dX4_requireWithin_5 : decode cX4_requireWithin 5 = .ok (.iload_n 0, 1) := by decide +kernel
theorem dX4_requireWithin_6 : decode cX4_requireWithin 6 = .ok (.iload_n 2, 1) := by decide +kernel
theorem dX4_requireWithin_7 : decode cX4_requireWithin 7 = .ok (.if_icmp .le 13, 3) := by decide +kernel
theorem dX4_requireWithin_10 : decode cX4_requireWithin 10 = .ok (.new 68, 3) := by decide +kernel
theorem dX4_requireWithin_13 : decode cX4_requireWithin 13 = .ok (.dup, 1) := by decide +kernel
theorem dX4_requireWithin_14 : decode cX4_requireWithin 14 = .ok (.ldc 241, 2) := by decide +kernel
theorem dX4_requireWithin_16 : decode cX4_requireWithin 16 = .ok (.invokespecial 72, 3) := by decide +kernel
theorem dX4_requireWithin_19 : decode cX4_requireWithin 19 = .ok (.athrow, 1) := by decide +kernel
theorem dX4_requireWithin_20 : decode cX4_requireWithin 20 = .ok (.return_, 1) := by decide +kernel
set_option maxRecDepth 20000 in
theorem ggX4_settleLying_X0_roll : GoodIn wsX4_settleLying wsX0_roll := goodIn_r _ [8, 9, 10, 11, 12, 13, 14, 15, 16, 17, 7, 18, 19, 20, 21, 22, 23, 24, 25, 26, 27, 47, 48, 49, 50, 51, 52, 53] (by decide +kernel) (by decide +kernel)
set_option maxRecDepth 20000 in
theorem gX4_settleLying_X0_roll : GoodIn wsX4_settleLying (wsV RX4 193 RX0 yX0_roll wsX0_roll) := goodIn_app (goodIn_of _ (by decide +kernel)) ggX4_settleLying_X0_roll
set_option maxRecDepth 20000 in
theorem ggX4_settleLying_X0_allTimes : GoodIn wsX4_settleLying wsX0_allTimes := goodIn_r _ [31, 19, 20, 9, 47, 48, 49, 50, 51, 52, 53] (by decide +kernel) (by decide +kernel)
set_option maxRecDepth 20000 in
theorem gX4_settleLying_X0_allTimes : GoodIn wsX4_settleLying (wsV RX4 171 RX0 yX0_allTimes wsX0_allTimes) := goodIn_app (goodIn_of _ (by decide +kernel)) ggX4_settleLying_X0_allTimes
set_option maxRecDepth 20000 in
theorem ggX4_settleLying_X0_swallowedByRoll : GoodIn wsX4_settleLying wsX0_swallowedByRoll := goodIn_r _ [35, 19, 20, 9, 27, 47, 48, 49, 50, 51, 52, 53] (by decide +kernel) (by decide +kernel)
set_option maxRecDepth 20000 in
theorem gX4_settleLying_X0_swallowedByRoll : GoodIn wsX4_settleLying (wsV RX4 174 RX0 yX0_swallowedByRoll wsX0_swallowedByRoll) := goodIn_app (goodIn_of _ (by decide +kernel)) ggX4_settleLying_X0_swallowedByRoll
theorem dX4_settleLying_0 : decode cX4_settleLying 0 = .ok (.aload_n 0, 1) := by decide +kernel
theorem dX4_settleLying_1 : decode cX4_settleLying 1 = .ok (.getfield 21, 3) := by decide +kernel
theorem dX4_settleLying_4 : decode cX4_settleLying 4 = .ok (.invokevirtual 193, 3) := by decide +kernel
theorem dX4_settleLying_7 : decode cX4_settleLying 7 = .ok (.aload_n 0, 1) := by decide +kernel
theorem dX4_settleLying_8 : decode cX4_settleLying 8 = .ok (.getfield 21, 3) := by decide +kernel
theorem dX4_settleLying_11 : decode cX4_settleLying 11 = .ok (.invokevirtual 171, 3) := by decide +kernel
theorem dX4_settleLying_14 : decode cX4_settleLying 14 = .ok (.istore_n 1, 1) := by decide +kernel
theorem dX4_settleLying_15 : decode cX4_settleLying 15 = .ok (.aload_n 0, 1) := by decide +kernel
theorem dX4_settleLying_16 : decode cX4_settleLying 16 = .ok (.dup, 1) := by decide +kernel
theorem dX4_settleLying_17 : decode cX4_settleLying 17 = .ok (.getfield 105, 3) := by decide +kernel
theorem dX4_settleLying_20 : decode cX4_settleLying 20 = .ok (.iload_n 1, 1) := by decide +kernel
theorem dX4_settleLying_21 : decode cX4_settleLying 21 = .ok (.iadd, 1) := by decide +kernel
theorem dX4_settleLying_22 : decode cX4_settleLying 22 = .ok (.putfield 105, 3) := by decide +kernel
theorem dX4_settleLying_25 : decode cX4_settleLying 25 = .ok (.aload_n 0, 1) := by decide +kernel
theorem dX4_settleLying_26 : decode cX4_settleLying 26 = .ok (.dup, 1) := by decide +kernel
theorem dX4_settleLying_27 : decode cX4_settleLying 27 = .ok (.getfield 108, 3) := by decide +kernel
theorem dX4_settleLying_30 : decode cX4_settleLying 30 = .ok (.aload_n 0, 1) := by decide +kernel
theorem dX4_settleLying_31 : decode cX4_settleLying 31 = .ok (.getfield 21, 3) := by decide +kernel
theorem dX4_settleLying_34 : decode cX4_settleLying 34 = .ok (.invokevirtual 174, 3) := by decide +kernel
theorem dX4_settleLying_37 : decode cX4_settleLying 37 = .ok (.iadd, 1) := by decide +kernel
theorem dX4_settleLying_38 : decode cX4_settleLying 38 = .ok (.putfield 108, 3) := by decide +kernel
theorem dX4_settleLying_41 : decode cX4_settleLying 41 = .ok (.iload_n 1, 1) := by decide +kernel
theorem dX4_settleLying_42 : decode cX4_settleLying 42 = .ok (.ireturn, 1) := by decide +kernel
set_option maxRecDepth 20000 in
theorem ggX4_rollTrialWith_X0_copyRow : GoodIn wsX4_rollTrialWith wsX0_copyRow := goodIn_r _ [8, 9, 10, 11, 12, 13, 47, 48, 49] (by decide +kernel) (by decide +kernel)
set_option maxRecDepth 20000 in
theorem gX4_rollTrialWith_X0_copyRow : GoodIn wsX4_rollTrialWith (wsV RX4 190 RX0 yX0_copyRow wsX0_copyRow) := goodIn_app (goodIn_of _ (by decide +kernel)) ggX4_rollTrialWith_X0_copyRow
set_option maxRecDepth 20000 in
theorem ggX4_rollTrialWith_X0_roll : GoodIn wsX4_rollTrialWith wsX0_roll := goodIn_r _ [17, 18, 19, 20, 21, 22, 23, 24, 25, 26, 7, 27, 28, 29, 30, 9, 31, 32, 33, 34, 35, 47, 48, 49, 50, 51, 52, 53] (by decide +kernel) (by decide +kernel)
set_option maxRecDepth 20000 in
theorem gX4_rollTrialWith_X0_roll : GoodIn wsX4_rollTrialWith (wsV RX4 193 RX0 yX0_roll wsX0_roll) := goodIn_app (goodIn_of _ (by decide +kernel)) ggX4_rollTrialWith_X0_roll
theorem dX4_rollTrialWith_0 : decode cX4_rollTrialWith 0 = .ok (.aload_n 0, 1) := by decide +kernel
theorem dX4_rollTrialWith_1 : decode cX4_rollTrialWith 1 = .ok (.getfield 25, 3) := by decide +kernel
theorem dX4_rollTrialWith_4 : decode cX4_rollTrialWith 4 = .ok (.aload_n 0, 1) := by decide +kernel
theorem dX4_rollTrialWith_5 : decode cX4_rollTrialWith 5 = .ok (.getfield 21, 3) := by decide +kernel
theorem dX4_rollTrialWith_8 : decode cX4_rollTrialWith 8 = .ok (.getfield 89, 3) := by decide +kernel
theorem dX4_rollTrialWith_11 : decode cX4_rollTrialWith 11 = .ok (.invokevirtual 190, 3) := by decide +kernel
theorem dX4_rollTrialWith_14 : decode cX4_rollTrialWith 14 = .ok (.aload_n 0, 1) := by decide +kernel
theorem dX4_rollTrialWith_15 : decode cX4_rollTrialWith 15 = .ok (.getfield 25, 3) := by decide +kernel
theorem dX4_rollTrialWith_18 : decode cX4_rollTrialWith 18 = .ok (.getfield 89, 3) := by decide +kernel
theorem dX4_rollTrialWith_21 : decode cX4_rollTrialWith 21 = .ok (.iload_n 1, 1) := by decide +kernel
theorem dX4_rollTrialWith_22 : decode cX4_rollTrialWith 22 = .ok (.dup2, 1) := by decide +kernel
theorem dX4_rollTrialWith_23 : decode cX4_rollTrialWith 23 = .ok (.iaload, 1) := by decide +kernel
theorem dX4_rollTrialWith_24 : decode cX4_rollTrialWith 24 = .ok (.iload_n 2, 1) := by decide +kernel
theorem dX4_rollTrialWith_25 : decode cX4_rollTrialWith 25 = .ok (.iadd, 1) := by decide +kernel
theorem dX4_rollTrialWith_26 : decode cX4_rollTrialWith 26 = .ok (.iastore, 1) := by decide +kernel
theorem dX4_rollTrialWith_27 : decode cX4_rollTrialWith 27 = .ok (.aload_n 0, 1) := by decide +kernel
theorem dX4_rollTrialWith_28 : decode cX4_rollTrialWith 28 = .ok (.getfield 25, 3) := by decide +kernel
theorem dX4_rollTrialWith_31 : decode cX4_rollTrialWith 31 = .ok (.invokevirtual 193, 3) := by decide +kernel
theorem dX4_rollTrialWith_34 : decode cX4_rollTrialWith 34 = .ok (.return_, 1) := by decide +kernel
set_option maxRecDepth 20000 in
theorem ggX4_liesLasting_X0_steepSet : GoodIn wsX4_liesLasting wsX0_steepSet := goodIn_r _ [8, 9, 10, 11, 12, 13, 7, 14, 15, 16, 63, 64, 65, 66, 67, 68, 69] (by decide +kernel) (by decide +kernel)
set_option maxRecDepth 20000 in
theorem gX4_liesLasting_X0_steepSet : GoodIn wsX4_liesLasting (wsV RX4 243 RX0 yX0_steepSet wsX0_steepSet) := goodIn_app (goodIn_of _ (by decide +kernel)) ggX4_liesLasting_X0_steepSet
set_option maxRecDepth 20000 in
theorem ggX4_liesLasting_X0_copyRow : GoodIn wsX4_liesLasting wsX0_copyRow := goodIn_r _ [20, 16, 21, 22, 23, 24, 63, 64, 65] (by decide +kernel) (by decide +kernel)
set_option maxRecDepth 20000 in
theorem gX4_liesLasting_X0_copyRow : GoodIn wsX4_liesLasting (wsV RX4 190 RX0 yX0_copyRow wsX0_copyRow) := goodIn_app (goodIn_of _ (by decide +kernel)) ggX4_liesLasting_X0_copyRow
set_option maxRecDepth 20000 in
theorem ggX4_liesLasting_X0_addFromSink : GoodIn wsX4_liesLasting wsX0_addFromSink := goodIn_r _ [28, 9, 10, 16, 29, 63, 64, 65, 66, 67, 68, 69] (by decide +kernel) (by decide +kernel)
set_option maxRecDepth 20000 in
theorem gX4_liesLasting_X0_addFromSink : GoodIn wsX4_liesLasting (wsV RX4 246 RX0 yX0_addFromSink wsX0_addFromSink) := goodIn_app (goodIn_of _ (by decide +kernel)) ggX4_liesLasting_X0_addFromSink
set_option maxRecDepth 20000 in
theorem ggX4_liesLasting_X0_roll : GoodIn wsX4_liesLasting wsX0_roll := goodIn_r _ [33, 34, 35, 36, 37, 38, 39, 40, 41, 42, 7, 43, 9, 10, 15, 16, 44, 45, 46, 47, 29, 63, 64, 65, 66, 67, 68, 69] (by decide +kernel) (by decide +kernel)
set_option maxRecDepth 20000 in
theorem gX4_liesLasting_X0_roll : GoodIn wsX4_liesLasting (wsV RX4 193 RX0 yX0_roll wsX0_roll) := goodIn_app (goodIn_of _ (by decide +kernel)) ggX4_liesLasting_X0_roll
set_option maxRecDepth 20000 in
theorem ggX4_liesLasting_X0_hasEachToppledOnce : GoodIn wsX4_liesLasting wsX0_hasEachToppledOnce := goodIn_r _ [51, 9, 10, 34, 63, 64, 65, 66, 67, 68, 69] (by decide +kernel) (by decide +kernel)
set_option maxRecDepth 20000 in
theorem gX4_liesLasting_X0_hasEachToppledOnce : GoodIn wsX4_liesLasting (wsV RX4 249 RX0 yX0_hasEachToppledOnce wsX0_hasEachToppledOnce) := goodIn_app (goodIn_of _ (by decide +kernel)) ggX4_liesLasting_X0_hasEachToppledOnce
theorem dX4_liesLasting_0 : decode cX4_liesLasting 0 = .ok (.aload_n 0, 1) := by decide +kernel
theorem dX4_liesLasting_1 : decode cX4_liesLasting 1 = .ok (.getfield 21, 3) := by decide +kernel
theorem dX4_liesLasting_4 : decode cX4_liesLasting 4 = .ok (.invokevirtual 243, 3) := by decide +kernel
theorem dX4_liesLasting_7 : decode cX4_liesLasting 7 = .ok (.ifCond .eq 5, 3) := by decide +kernel
theorem dX4_liesLasting_10 : decode cX4_liesLasting 10 = .ok (.iconst 0, 1) := by decide +kernel
theorem dX4_liesLasting_11 : decode cX4_liesLasting 11 = .ok (.ireturn, 1) := by decide +kernel
theorem dX4_liesLasting_12 : decode cX4_liesLasting 12 = .ok (.aload_n 0, 1) := by decide +kernel
theorem dX4_liesLasting_13 : decode cX4_liesLasting 13 = .ok (.getfield 25, 3) := by decide +kernel
theorem dX4_liesLasting_16 : decode cX4_liesLasting 16 = .ok (.aload_n 0, 1) := by decide +kernel
theorem dX4_liesLasting_17 : decode cX4_liesLasting 17 = .ok (.getfield 21, 3) := by decide +kernel
theorem dX4_liesLasting_20 : decode cX4_liesLasting 20 = .ok (.getfield 89, 3) := by decide +kernel
theorem dX4_liesLasting_23 : decode cX4_liesLasting 23 = .ok (.invokevirtual 190, 3) := by decide +kernel
theorem dX4_liesLasting_26 : decode cX4_liesLasting 26 = .ok (.aload_n 0, 1) := by decide +kernel
theorem dX4_liesLasting_27 : decode cX4_liesLasting 27 = .ok (.getfield 25, 3) := by decide +kernel
theorem dX4_liesLasting_30 : decode cX4_liesLasting 30 = .ok (.invokevirtual 246, 3) := by decide +kernel
theorem dX4_liesLasting_33 : decode cX4_liesLasting 33 = .ok (.aload_n 0, 1) := by decide +kernel
theorem dX4_liesLasting_34 : decode cX4_liesLasting 34 = .ok (.getfield 25, 3) := by decide +kernel
theorem dX4_liesLasting_37 : decode cX4_liesLasting 37 = .ok (.invokevirtual 193, 3) := by decide +kernel
theorem dX4_liesLasting_40 : decode cX4_liesLasting 40 = .ok (.aload_n 0, 1) := by decide +kernel
theorem dX4_liesLasting_41 : decode cX4_liesLasting 41 = .ok (.getfield 25, 3) := by decide +kernel
theorem dX4_liesLasting_44 : decode cX4_liesLasting 44 = .ok (.invokevirtual 249, 3) := by decide +kernel
theorem dX4_liesLasting_47 : decode cX4_liesLasting 47 = .ok (.ireturn, 1) := by decide +kernel
set_option maxRecDepth 20000 in
theorem ggX4_spotValue_X0_isSteep : GoodIn wsX4_spotValue wsX0_isSteep := goodIn_r _ [13, 14, 15, 16, 41, 42, 43, 44, 45, 46, 47] (by decide +kernel) (by decide +kernel)
set_option maxRecDepth 20000 in
theorem gX4_spotValue_X0_isSteep : GoodIn wsX4_spotValue (wsV RX4 95 RX0 yX0_isSteep wsX0_isSteep) := goodIn_app (goodIn_of _ (by decide +kernel)) ggX4_spotValue_X0_isSteep
set_option maxRecDepth 20000 in
theorem ggX4_spotValue_X3_pointedFrom : GoodIn wsX4_spotValue wsX3_pointedFrom := goodIn_r _ [21, 22, 23, 24, 25, 26, 27, 28, 29, 48, 49, 50, 44, 45, 46, 47] (by decide +kernel) (by decide +kernel)
set_option maxRecDepth 20000 in
theorem gX4_spotValue_X3_pointedFrom : GoodIn wsX4_spotValue (wsV RX4 261 RX3 yX3_pointedFrom wsX3_pointedFrom) := goodIn_app (goodIn_of _ (by decide +kernel)) ggX4_spotValue_X3_pointedFrom
theorem dX4_spotValue_0 : decode cX4_spotValue 0 = .ok (.iload_n 2, 1) := by decide +kernel
theorem dX4_spotValue_1 : decode cX4_spotValue 1 = .ok (.tableswitch 109 0 5 #[39, 49, 59, 72, 82, 99], 39) := by decide +kernel
theorem dX4_spotValue_40 : decode cX4_spotValue 40 = .ok (.aload_n 0, 1) := by decide +kernel
theorem dX4_spotValue_41 : decode cX4_spotValue 41 = .ok (.getfield 21, 3) := by decide +kernel
theorem dX4_spotValue_44 : decode cX4_spotValue 44 = .ok (.getfield 89, 3) := by decide +kernel
theorem dX4_spotValue_47 : decode cX4_spotValue 47 = .ok (.iload_n 1, 1) := by decide +kernel
theorem dX4_spotValue_48 : decode cX4_spotValue 48 = .ok (.iaload, 1) := by decide +kernel
theorem dX4_spotValue_49 : decode cX4_spotValue 49 = .ok (.ireturn, 1) := by decide +kernel
theorem dX4_spotValue_50 : decode cX4_spotValue 50 = .ok (.aload_n 0, 1) := by decide +kernel
theorem dX4_spotValue_51 : decode cX4_spotValue 51 = .ok (.getfield 10, 3) := by decide +kernel
theorem dX4_spotValue_54 : decode cX4_spotValue 54 = .ok (.getfield 252, 3) := by decide +kernel
theorem dX4_spotValue_57 : decode cX4_spotValue 57 = .ok (.iload_n 1, 1) := by decide +kernel
theorem dX4_spotValue_58 : decode cX4_spotValue 58 = .ok (.iaload, 1) := by decide +kernel
theorem dX4_spotValue_59 : decode cX4_spotValue 59 = .ok (.ireturn, 1) := by decide +kernel
theorem dX4_spotValue_60 : decode cX4_spotValue 60 = .ok (.aload_n 0, 1) := by decide +kernel
theorem dX4_spotValue_61 : decode cX4_spotValue 61 = .ok (.getfield 10, 3) := by decide +kernel
theorem dX4_spotValue_64 : decode cX4_spotValue 64 = .ok (.getfield 77, 3) := by decide +kernel
theorem dX4_spotValue_67 : decode cX4_spotValue 67 = .ok (.iload_n 1, 1) := by decide +kernel
theorem dX4_spotValue_68 : decode cX4_spotValue 68 = .ok (.aaload, 1) := by decide +kernel
theorem dX4_spotValue_69 : decode cX4_spotValue 69 = .ok (.bipush 6, 2) := by decide +kernel
theorem dX4_spotValue_71 : decode cX4_spotValue 71 = .ok (.iaload, 1) := by decide +kernel
theorem dX4_spotValue_72 : decode cX4_spotValue 72 = .ok (.ireturn, 1) := by decide +kernel
theorem dX4_spotValue_73 : decode cX4_spotValue 73 = .ok (.aload_n 0, 1) := by decide +kernel
theorem dX4_spotValue_74 : decode cX4_spotValue 74 = .ok (.getfield 21, 3) := by decide +kernel
theorem dX4_spotValue_77 : decode cX4_spotValue 77 = .ok (.getfield 255, 3) := by decide +kernel
theorem dX4_spotValue_80 : decode cX4_spotValue 80 = .ok (.iload_n 1, 1) := by decide +kernel
theorem dX4_spotValue_81 : decode cX4_spotValue 81 = .ok (.iaload, 1) := by decide +kernel
theorem dX4_spotValue_82 : decode cX4_spotValue 82 = .ok (.ireturn, 1) := by decide +kernel
theorem dX4_spotValue_83 : decode cX4_spotValue 83 = .ok (.aload_n 0, 1) := by decide +kernel
theorem dX4_spotValue_84 : decode cX4_spotValue 84 = .ok (.getfield 21, 3) := by decide +kernel
theorem dX4_spotValue_87 : decode cX4_spotValue 87 = .ok (.iload_n 1, 1) := by decide +kernel
theorem dX4_spotValue_88 : decode cX4_spotValue 88 = .ok (.invokevirtual 95, 3) := by decide +kernel
theorem dX4_spotValue_91 : decode cX4_spotValue 91 = .ok (.ifCond .eq 7, 3) := by decide +kernel
theorem dX4_spotValue_94 : decode cX4_spotValue 94 = .ok (.iconst 1, 1) := by decide +kernel
theorem dX4_spotValue_95 : decode cX4_spotValue 95 = .ok (.goto 4, 3) := by decide +kernel
theorem dX4_spotValue_98 : decode cX4_spotValue 98 = .ok (.iconst 0, 1) := by decide +kernel
theorem dX4_spotValue_99 : decode cX4_spotValue 99 = .ok (.ireturn, 1) := by decide +kernel
theorem dX4_spotValue_100 : decode cX4_spotValue 100 = .ok (.aload_n 0, 1) := by decide +kernel
theorem dX4_spotValue_101 : decode cX4_spotValue 101 = .ok (.getfield 37, 3) := by decide +kernel
theorem dX4_spotValue_104 : decode cX4_spotValue 104 = .ok (.getfield 258, 3) := by decide +kernel
theorem dX4_spotValue_107 : decode cX4_spotValue 107 = .ok (.iload_n 1, 1) := by decide +kernel
theorem dX4_spotValue_108 : decode cX4_spotValue 108 = .ok (.iaload, 1) := by decide +kernel
theorem dX4_spotValue_109 : decode cX4_spotValue 109 = .ok (.ireturn, 1) := by decide +kernel
theorem dX4_spotValue_110 : decode cX4_spotValue 110 = .ok (.aload_n 0, 1) := by decide +kernel
theorem dX4_spotValue_111 : decode cX4_spotValue 111 = .ok (.getfield 37, 3) := by decide +kernel
theorem dX4_spotValue_114 : decode cX4_spotValue 114 = .ok (.iload_n 1, 1) := by decide +kernel
theorem dX4_spotValue_115 : decode cX4_spotValue 115 = .ok (.invokevirtual 261, 3) := by decide +kernel
theorem dX4_spotValue_118 : decode cX4_spotValue 118 = .ok (.ireturn, 1) := by decide +kernel
set_option maxRecDepth 20000 in
theorem ggX4_manyValue_X2_allEdges : GoodIn wsX4_manyValue wsX2_allEdges := goodIn_r _ [14, 15, 100, 101, 102, 103] (by decide +kernel) (by decide +kernel)
set_option maxRecDepth 20000 in
theorem gX4_manyValue_X2_allEdges : GoodIn wsX4_manyValue (wsV RX4 264 RX2 yX2_allEdges wsX2_allEdges) := goodIn_app (goodIn_of _ (by decide +kernel)) ggX4_manyValue_X2_allEdges
set_option maxRecDepth 20000 in
theorem ggX4_manyValue_X0_allGrains : GoodIn wsX4_manyValue wsX0_allGrains := goodIn_r _ [20, 21, 22, 23, 107, 108, 109, 100, 101, 102, 103] (by decide +kernel) (by decide +kernel)
set_option maxRecDepth 20000 in
theorem gX4_manyValue_X0_allGrains : GoodIn wsX4_manyValue (wsV RX4 136 RX0 yX0_allGrains wsX0_allGrains) := goodIn_app (goodIn_of _ (by decide +kernel)) ggX4_manyValue_X0_allGrains
set_option maxRecDepth 20000 in
theorem ggX4_manyValue_X0_allTimes : GoodIn wsX4_manyValue wsX0_allTimes := goodIn_r _ [27, 21, 22, 28, 107, 108, 109, 100, 101, 102, 103] (by decide +kernel) (by decide +kernel)
set_option maxRecDepth 20000 in
theorem gX4_manyValue_X0_allTimes : GoodIn wsX4_manyValue (wsV RX4 171 RX0 yX0_allTimes wsX0_allTimes) := goodIn_app (goodIn_of _ (by decide +kernel)) ggX4_manyValue_X0_allTimes
set_option maxRecDepth 20000 in
theorem ggX4_manyValue_X0_steepSet : GoodIn wsX4_manyValue wsX0_steepSet := goodIn_r _ [32, 21, 22, 33, 34, 35, 19, 36, 37, 23, 107, 108, 109, 100, 101, 102, 103] (by decide +kernel) (by decide +kernel)
set_option maxRecDepth 20000 in
theorem gX4_manyValue_X0_steepSet : GoodIn wsX4_manyValue (wsV RX4 243 RX0 yX0_steepSet wsX0_steepSet) := goodIn_app (goodIn_of _ (by decide +kernel)) ggX4_manyValue_X0_steepSet
set_option maxRecDepth 20000 in
theorem ggX4_manyValue_X2_isFast : GoodIn wsX4_manyValue wsX2_isFast := goodIn_r _ [41, 42, 43, 44, 45, 13, 46, 47, 48, 49, 50, 51, 52, 53, 54, 100, 101, 102, 103] (by decide +kernel) (by decide +kernel)
set_option maxRecDepth 20000 in
theorem gX4_manyValue_X2_isFast : GoodIn wsX4_manyValue (wsV RX4 218 RX2 yX2_isFast wsX2_isFast) := goodIn_app (goodIn_of _ (by decide +kernel)) ggX4_manyValue_X2_isFast
set_option maxRecDepth 20000 in
theorem ggX4_manyValue_X1_allCoins : GoodIn wsX4_manyValue wsX1_allCoins := goodIn_r _ [59, 60, 110, 111, 112, 113] (by decide +kernel) (by decide +kernel)
set_option maxRecDepth 20000 in
theorem gX4_manyValue_X1_allCoins : GoodIn wsX4_manyValue (wsV RX4 267 RX1 yX1_allCoins wsX1_allCoins) := goodIn_app (goodIn_of _ (by decide +kernel)) ggX4_manyValue_X1_allCoins
set_option maxRecDepth 20000 in
theorem ggX4_manyValue_X1_debtors : GoodIn wsX4_manyValue wsX1_debtors := goodIn_r _ [64, 60, 110, 111, 112, 113] (by decide +kernel) (by decide +kernel)
set_option maxRecDepth 20000 in
theorem gX4_manyValue_X1_debtors : GoodIn wsX4_manyValue (wsV RX4 270 RX1 yX1_debtors wsX1_debtors) := goodIn_app (goodIn_of _ (by decide +kernel)) ggX4_manyValue_X1_debtors
set_option maxRecDepth 20000 in
theorem ggX4_manyValue_X3_areTree : GoodIn wsX4_manyValue wsX3_areTree := goodIn_r _ [69, 70, 71, 72, 73, 74, 68, 75, 76, 77, 78, 13, 79, 42, 80, 81, 82, 83, 84, 85, 86, 87, 88, 47, 104, 105, 106, 100, 101, 102, 103] (by decide +kernel) (by decide +kernel)
set_option maxRecDepth 20000 in
theorem gX4_manyValue_X3_areTree : GoodIn wsX4_manyValue (wsV RX4 276 RX3 yX3_areTree wsX3_areTree) := goodIn_app (goodIn_of _ (by decide +kernel)) ggX4_manyValue_X3_areTree
theorem dX4_manyValue_0 : decode cX4_manyValue 0 = .ok (.iload_n 1, 1) := by decide +kernel
theorem dX4_manyValue_1 : decode cX4_manyValue 1 = .ok (.tableswitch 178 0 12 #[67, 75, 83, 91, 96, 101, 109, 117, 133, 138, 146, 162, 170], 67) := by decide +kernel
theorem dX4_manyValue_68 : decode cX4_manyValue 68 = .ok (.aload_n 0, 1) := by decide +kernel
theorem dX4_manyValue_69 : decode cX4_manyValue 69 = .ok (.getfield 10, 3) := by decide +kernel
theorem dX4_manyValue_72 : decode cX4_manyValue 72 = .ok (.getfield 53, 3) := by decide +kernel
theorem dX4_manyValue_75 : decode cX4_manyValue 75 = .ok (.ireturn, 1) := by decide +kernel
theorem dX4_manyValue_76 : decode cX4_manyValue 76 = .ok (.aload_n 0, 1) := by decide +kernel
theorem dX4_manyValue_77 : decode cX4_manyValue 77 = .ok (.getfield 10, 3) := by decide +kernel
theorem dX4_manyValue_80 : decode cX4_manyValue 80 = .ok (.invokevirtual 264, 3) := by decide +kernel
theorem dX4_manyValue_83 : decode cX4_manyValue 83 = .ok (.ireturn, 1) := by decide +kernel
theorem dX4_manyValue_84 : decode cX4_manyValue 84 = .ok (.aload_n 0, 1) := by decide +kernel
theorem dX4_manyValue_85 : decode cX4_manyValue 85 = .ok (.getfield 21, 3) := by decide +kernel
theorem dX4_manyValue_88 : decode cX4_manyValue 88 = .ok (.invokevirtual 136, 3) := by decide +kernel
theorem dX4_manyValue_91 : decode cX4_manyValue 91 = .ok (.ireturn, 1) := by decide +kernel
theorem dX4_manyValue_92 : decode cX4_manyValue 92 = .ok (.aload_n 0, 1) := by decide +kernel
theorem dX4_manyValue_93 : decode cX4_manyValue 93 = .ok (.getfield 108, 3) := by decide +kernel
theorem dX4_manyValue_96 : decode cX4_manyValue 96 = .ok (.ireturn, 1) := by decide +kernel
theorem dX4_manyValue_97 : decode cX4_manyValue 97 = .ok (.aload_n 0, 1) := by decide +kernel
theorem dX4_manyValue_98 : decode cX4_manyValue 98 = .ok (.getfield 105, 3) := by decide +kernel
theorem dX4_manyValue_101 : decode cX4_manyValue 101 = .ok (.ireturn, 1) := by decide +kernel
theorem dX4_manyValue_102 : decode cX4_manyValue 102 = .ok (.aload_n 0, 1) := by decide +kernel
theorem dX4_manyValue_103 : decode cX4_manyValue 103 = .ok (.getfield 21, 3) := by decide +kernel
theorem dX4_manyValue_106 : decode cX4_manyValue 106 = .ok (.invokevirtual 171, 3) := by decide +kernel
theorem dX4_manyValue_109 : decode cX4_manyValue 109 = .ok (.ireturn, 1) := by decide +kernel
theorem dX4_manyValue_110 : decode cX4_manyValue 110 = .ok (.aload_n 0, 1) := by decide +kernel
theorem dX4_manyValue_111 : decode cX4_manyValue 111 = .ok (.getfield 21, 3) := by decide +kernel
theorem dX4_manyValue_114 : decode cX4_manyValue 114 = .ok (.invokevirtual 243, 3) := by decide +kernel
theorem dX4_manyValue_117 : decode cX4_manyValue 117 = .ok (.ireturn, 1) := by decide +kernel
theorem dX4_manyValue_118 : decode cX4_manyValue 118 = .ok (.aload_n 0, 1) := by decide +kernel
theorem dX4_manyValue_119 : decode cX4_manyValue 119 = .ok (.getfield 10, 3) := by decide +kernel
theorem dX4_manyValue_122 : decode cX4_manyValue 122 = .ok (.invokevirtual 218, 3) := by decide +kernel
theorem dX4_manyValue_125 : decode cX4_manyValue 125 = .ok (.ifCond .eq 7, 3) := by decide +kernel
theorem dX4_manyValue_128 : decode cX4_manyValue 128 = .ok (.iconst 1, 1) := by decide +kernel
theorem dX4_manyValue_129 : decode cX4_manyValue 129 = .ok (.goto 4, 3) := by decide +kernel
theorem dX4_manyValue_132 : decode cX4_manyValue 132 = .ok (.iconst 0, 1) := by decide +kernel
theorem dX4_manyValue_133 : decode cX4_manyValue 133 = .ok (.ireturn, 1) := by decide +kernel
theorem dX4_manyValue_134 : decode cX4_manyValue 134 = .ok (.aload_n 0, 1) := by decide +kernel
theorem dX4_manyValue_135 : decode cX4_manyValue 135 = .ok (.getfield 118, 3) := by decide +kernel
theorem dX4_manyValue_138 : decode cX4_manyValue 138 = .ok (.ireturn, 1) := by decide +kernel
theorem dX4_manyValue_139 : decode cX4_manyValue 139 = .ok (.aload_n 0, 1) := by decide +kernel
theorem dX4_manyValue_140 : decode cX4_manyValue 140 = .ok (.getfield 44, 3) := by decide +kernel
theorem dX4_manyValue_143 : decode cX4_manyValue 143 = .ok (.invokevirtual 267, 3) := by decide +kernel
theorem dX4_manyValue_146 : decode cX4_manyValue 146 = .ok (.ireturn, 1) := by decide +kernel
theorem dX4_manyValue_147 : decode cX4_manyValue 147 = .ok (.aload_n 0, 1) := by decide +kernel
theorem dX4_manyValue_148 : decode cX4_manyValue 148 = .ok (.getfield 10, 3) := by decide +kernel
theorem dX4_manyValue_151 : decode cX4_manyValue 151 = .ok (.invokevirtual 264, 3) := by decide +kernel
theorem dX4_manyValue_154 : decode cX4_manyValue 154 = .ok (.aload_n 0, 1) := by decide +kernel
theorem dX4_manyValue_155 : decode cX4_manyValue 155 = .ok (.getfield 10, 3) := by decide +kernel
theorem dX4_manyValue_158 : decode cX4_manyValue 158 = .ok (.getfield 53, 3) := by decide +kernel
theorem dX4_manyValue_161 : decode cX4_manyValue 161 = .ok (.isub, 1) := by decide +kernel
theorem dX4_manyValue_162 : decode cX4_manyValue 162 = .ok (.ireturn, 1) := by decide +kernel
theorem dX4_manyValue_163 : decode cX4_manyValue 163 = .ok (.aload_n 0, 1) := by decide +kernel
theorem dX4_manyValue_164 : decode cX4_manyValue 164 = .ok (.getfield 44, 3) := by decide +kernel
theorem dX4_manyValue_167 : decode cX4_manyValue 167 = .ok (.invokevirtual 270, 3) := by decide +kernel
theorem dX4_manyValue_170 : decode cX4_manyValue 170 = .ok (.ireturn, 1) := by decide +kernel
theorem dX4_manyValue_171 : decode cX4_manyValue 171 = .ok (.aload_n 0, 1) := by decide +kernel
theorem dX4_manyValue_172 : decode cX4_manyValue 172 = .ok (.getfield 37, 3) := by decide +kernel
theorem dX4_manyValue_175 : decode cX4_manyValue 175 = .ok (.getfield 273, 3) := by decide +kernel
theorem dX4_manyValue_178 : decode cX4_manyValue 178 = .ok (.ireturn, 1) := by decide +kernel
theorem dX4_manyValue_179 : decode cX4_manyValue 179 = .ok (.aload_n 0, 1) := by decide +kernel
theorem dX4_manyValue_180 : decode cX4_manyValue 180 = .ok (.getfield 37, 3) := by decide +kernel
theorem dX4_manyValue_183 : decode cX4_manyValue 183 = .ok (.invokevirtual 276, 3) := by decide +kernel
theorem dX4_manyValue_186 : decode cX4_manyValue 186 = .ok (.ifCond .eq 7, 3) := by decide +kernel
theorem dX4_manyValue_189 : decode cX4_manyValue 189 = .ok (.iconst 1, 1) := by decide +kernel
theorem dX4_manyValue_190 : decode cX4_manyValue 190 = .ok (.goto 4, 3) := by decide +kernel
theorem dX4_manyValue_193 : decode cX4_manyValue 193 = .ok (.iconst 0, 1) := by decide +kernel
theorem dX4_manyValue_194 : decode cX4_manyValue 194 = .ok (.ireturn, 1) := by decide +kernel
theorem dX4_digestNode_0 : decode cX4_digestNode 0 = .ok (.lload_n 1, 1) := by decide +kernel
theorem dX4_digestNode_1 : decode cX4_digestNode 1 = .ok (.ldc2_w 208, 3) := by decide +kernel
theorem dX4_digestNode_4 : decode cX4_digestNode 4 = .ok (.lmul, 1) := by decide +kernel
theorem dX4_digestNode_5 : decode cX4_digestNode 5 = .ok (.aload_n 0, 1) := by decide +kernel
theorem dX4_digestNode_6 : decode cX4_digestNode 6 = .ok (.getfield 44, 3) := by decide +kernel
theorem dX4_digestNode_9 : decode cX4_digestNode 9 = .ok (.getfield 149, 3) := by decide +kernel
theorem dX4_digestNode_12 : decode cX4_digestNode 12 = .ok (.iload_n 3, 1) := by decide +kernel
theorem dX4_digestNode_13 : decode cX4_digestNode 13 = .ok (.iaload, 1) := by decide +kernel
theorem dX4_digestNode_14 : decode cX4_digestNode 14 = .ok (.i2l, 1) := by decide +kernel
theorem dX4_digestNode_15 : decode cX4_digestNode 15 = .ok (.ladd, 1) := by decide +kernel
theorem dX4_digestNode_16 : decode cX4_digestNode 16 = .ok (.lstore 4, 2) := by decide +kernel
theorem dX4_digestNode_18 : decode cX4_digestNode 18 = .ok (.iconst 0, 1) := by decide +kernel
theorem dX4_digestNode_19 : decode cX4_digestNode 19 = .ok (.istore 6, 2) := by decide +kernel
theorem dX4_digestNode_21 : decode cX4_digestNode 21 = .ok (.iload 6, 2) := by decide +kernel
theorem dX4_digestNode_23 : decode cX4_digestNode 23 = .ok (.aload_n 0, 1) := by decide +kernel
theorem dX4_digestNode_24 : decode cX4_digestNode 24 = .ok (.getfield 10, 3) := by decide +kernel
theorem dX4_digestNode_27 : decode cX4_digestNode 27 = .ok (.getfield 53, 3) := by decide +kernel
theorem dX4_digestNode_30 : decode cX4_digestNode 30 = .ok (.if_icmp .ge 31, 3) := by decide +kernel
theorem dX4_digestNode_33 : decode cX4_digestNode 33 = .ok (.lload 4, 2) := by decide +kernel
theorem dX4_digestNode_35 : decode cX4_digestNode 35 = .ok (.ldc2_w 208, 3) := by decide +kernel
theorem dX4_digestNode_38 : decode cX4_digestNode 38 = .ok (.lmul, 1) := by decide +kernel
theorem dX4_digestNode_39 : decode cX4_digestNode 39 = .ok (.aload_n 0, 1) := by decide +kernel
theorem dX4_digestNode_40 : decode cX4_digestNode 40 = .ok (.getfield 10, 3) := by decide +kernel
theorem dX4_digestNode_43 : decode cX4_digestNode 43 = .ok (.getfield 77, 3) := by decide +kernel
theorem dX4_digestNode_46 : decode cX4_digestNode 46 = .ok (.iload_n 3, 1) := by decide +kernel
theorem dX4_digestNode_47 : decode cX4_digestNode 47 = .ok (.aaload, 1) := by decide +kernel
theorem dX4_digestNode_48 : decode cX4_digestNode 48 = .ok (.iload 6, 2) := by decide +kernel
theorem dX4_digestNode_50 : decode cX4_digestNode 50 = .ok (.iaload, 1) := by decide +kernel
theorem dX4_digestNode_51 : decode cX4_digestNode 51 = .ok (.i2l, 1) := by decide +kernel
theorem dX4_digestNode_52 : decode cX4_digestNode 52 = .ok (.ladd, 1) := by decide +kernel
theorem dX4_digestNode_53 : decode cX4_digestNode 53 = .ok (.lstore 4, 2) := by decide +kernel
theorem dX4_digestNode_55 : decode cX4_digestNode 55 = .ok (.iinc 6 1, 3) := by decide +kernel
theorem dX4_digestNode_58 : decode cX4_digestNode 58 = .ok (.goto (-37), 3) := by decide +kernel
theorem dX4_digestNode_61 : decode cX4_digestNode 61 = .ok (.lload 4, 2) := by decide +kernel
theorem dX4_digestNode_63 : decode cX4_digestNode 63 = .ok (.ldc2_w 208, 3) := by decide +kernel
theorem dX4_digestNode_66 : decode cX4_digestNode 66 = .ok (.lmul, 1) := by decide +kernel
theorem dX4_digestNode_67 : decode cX4_digestNode 67 = .ok (.aload_n 0, 1) := by decide +kernel
theorem dX4_digestNode_68 : decode cX4_digestNode 68 = .ok (.getfield 10, 3) := by decide +kernel
theorem dX4_digestNode_71 : decode cX4_digestNode 71 = .ok (.getfield 77, 3) := by decide +kernel
theorem dX4_digestNode_74 : decode cX4_digestNode 74 = .ok (.iload_n 3, 1) := by decide +kernel
theorem dX4_digestNode_75 : decode cX4_digestNode 75 = .ok (.aaload, 1) := by decide +kernel
theorem dX4_digestNode_76 : decode cX4_digestNode 76 = .ok (.bipush 6, 2) := by decide +kernel
theorem dX4_digestNode_78 : decode cX4_digestNode 78 = .ok (.iaload, 1) := by decide +kernel
theorem dX4_digestNode_79 : decode cX4_digestNode 79 = .ok (.i2l, 1) := by decide +kernel
theorem dX4_digestNode_80 : decode cX4_digestNode 80 = .ok (.ladd, 1) := by decide +kernel
theorem dX4_digestNode_81 : decode cX4_digestNode 81 = .ok (.lreturn, 1) := by decide +kernel
theorem dX4_digestKept_0 : decode cX4_digestKept 0 = .ok (.lload_n 1, 1) := by decide +kernel
theorem dX4_digestKept_1 : decode cX4_digestKept 1 = .ok (.lstore_n 3, 1) := by decide +kernel
theorem dX4_digestKept_2 : decode cX4_digestKept 2 = .ok (.iconst 0, 1) := by decide +kernel
theorem dX4_digestKept_3 : decode cX4_digestKept 3 = .ok (.istore 5, 2) := by decide +kernel
theorem dX4_digestKept_5 : decode cX4_digestKept 5 = .ok (.iload 5, 2) := by decide +kernel
theorem dX4_digestKept_7 : decode cX4_digestKept 7 = .ok (.aload_n 0, 1) := by decide +kernel
theorem dX4_digestKept_8 : decode cX4_digestKept 8 = .ok (.getfield 118, 3) := by decide +kernel
theorem dX4_digestKept_11 : decode cX4_digestKept 11 = .ok (.if_icmp .ge 48, 3) := by decide +kernel
theorem dX4_digestKept_14 : decode cX4_digestKept 14 = .ok (.iconst 0, 1) := by decide +kernel
theorem dX4_digestKept_15 : decode cX4_digestKept 15 = .ok (.istore 6, 2) := by decide +kernel
theorem dX4_digestKept_17 : decode cX4_digestKept 17 = .ok (.iload 6, 2) := by decide +kernel
theorem dX4_digestKept_19 : decode cX4_digestKept 19 = .ok (.aload_n 0, 1) := by decide +kernel
theorem dX4_digestKept_20 : decode cX4_digestKept 20 = .ok (.getfield 10, 3) := by decide +kernel
theorem dX4_digestKept_23 : decode cX4_digestKept 23 = .ok (.getfield 53, 3) := by decide +kernel
theorem dX4_digestKept_26 : decode cX4_digestKept 26 = .ok (.if_icmp .ge 27, 3) := by decide +kernel
theorem dX4_digestKept_29 : decode cX4_digestKept 29 = .ok (.lload_n 3, 1) := by decide +kernel
theorem dX4_digestKept_30 : decode cX4_digestKept 30 = .ok (.ldc2_w 208, 3) := by decide +kernel
theorem dX4_digestKept_33 : decode cX4_digestKept 33 = .ok (.lmul, 1) := by decide +kernel
theorem dX4_digestKept_34 : decode cX4_digestKept 34 = .ok (.aload_n 0, 1) := by decide +kernel
theorem dX4_digestKept_35 : decode cX4_digestKept 35 = .ok (.getfield 50, 3) := by decide +kernel
theorem dX4_digestKept_38 : decode cX4_digestKept 38 = .ok (.iload 5, 2) := by decide +kernel
theorem dX4_digestKept_40 : decode cX4_digestKept 40 = .ok (.aaload, 1) := by decide +kernel
theorem dX4_digestKept_41 : decode cX4_digestKept 41 = .ok (.iload 6, 2) := by decide +kernel
theorem dX4_digestKept_43 : decode cX4_digestKept 43 = .ok (.iaload, 1) := by decide +kernel
theorem dX4_digestKept_44 : decode cX4_digestKept 44 = .ok (.i2l, 1) := by decide +kernel
theorem dX4_digestKept_45 : decode cX4_digestKept 45 = .ok (.ladd, 1) := by decide +kernel
theorem dX4_digestKept_46 : decode cX4_digestKept 46 = .ok (.lstore_n 3, 1) := by decide +kernel
theorem dX4_digestKept_47 : decode cX4_digestKept 47 = .ok (.iinc 6 1, 3) := by decide +kernel
theorem dX4_digestKept_50 : decode cX4_digestKept 50 = .ok (.goto (-33), 3) := by decide +kernel
theorem dX4_digestKept_53 : decode cX4_digestKept 53 = .ok (.iinc 5 1, 3) := by decide +kernel
theorem dX4_digestKept_56 : decode cX4_digestKept 56 = .ok (.goto (-51), 3) := by decide +kernel
theorem dX4_digestKept_59 : decode cX4_digestKept 59 = .ok (.lload_n 3, 1) := by decide +kernel
theorem dX4_digestKept_60 : decode cX4_digestKept 60 = .ok (.lreturn, 1) := by decide +kernel
set_option maxRecDepth 20000 in
theorem ggX4_digestFast_X4_liesLasting : GoodIn wsX4_digestFast wsX4_liesLasting := goodIn_r _ [12, 13, 6, 5, 14, 15, 16, 17, 18, 19, 20, 21, 22, 23, 24, 25, 26, 27, 28, 29, 30, 31, 32, 33, 34, 35, 36, 37, 38, 39, 40, 41, 42, 43, 44, 45, 46, 47, 48, 49, 50, 51, 52, 53, 54, 55, 56, 57, 58, 59, 60, 61, 112, 113, 114, 115, 116, 117, 118, 119, 120, 121, 122, 127, 128, 129, 123, 124, 125, 126] (by decide +kernel) (by decide +kernel)
set_option maxRecDepth 20000 in
theorem gX4_digestFast_X4_liesLasting : GoodIn wsX4_digestFast (wsV RX4 180 RX4 yX4_liesLasting wsX4_liesLasting) := goodIn_app (goodIn_of _ (by decide +kernel)) ggX4_digestFast_X4_liesLasting
set_option maxRecDepth 20000 in
theorem ggX4_digestFast_X0_becomeNeutral : GoodIn wsX4_digestFast wsX0_becomeNeutral := goodIn_r _ [65, 19, 20, 26, 25, 66, 41, 42, 17, 43, 44, 45, 46, 47, 48, 49, 50, 51, 52, 53, 54, 55, 56, 57, 39, 127, 128, 129, 123, 124, 125, 126] (by decide +kernel) (by decide +kernel)
set_option maxRecDepth 20000 in
theorem gX4_digestFast_X0_becomeNeutral : GoodIn wsX4_digestFast (wsV RX4 184 RX0 yX0_becomeNeutral wsX0_becomeNeutral) := goodIn_app (goodIn_of _ (by decide +kernel)) ggX4_digestFast_X0_becomeNeutral
set_option maxRecDepth 20000 in
theorem ggX4_digestFast_X4_rollTrialWith : GoodIn wsX4_digestFast wsX4_rollTrialWith := goodIn_r _ [70, 6, 13, 5, 27, 28, 29, 17, 30, 26, 31, 32, 33, 34, 40, 41, 42, 43, 44, 45, 46, 47, 48, 49, 50, 51, 52, 53, 19, 20, 25, 54, 55, 56, 57, 39, 112, 113, 114, 115, 116, 117, 118, 119, 120, 121, 122, 127, 128, 129, 123, 124, 125, 126] (by decide +kernel) (by decide +kernel)
set_option maxRecDepth 20000 in
theorem gX4_digestFast_X4_rollTrialWith : GoodIn wsX4_digestFast (wsV RX4 168 RX4 yX4_rollTrialWith wsX4_rollTrialWith) := goodIn_app (goodIn_of _ (by decide +kernel)) ggX4_digestFast_X4_rollTrialWith
set_option maxRecDepth 20000 in
theorem ggX4_digestFast_X0_allTimes : GoodIn wsX4_digestFast wsX0_allTimes := goodIn_r _ [74, 19, 20, 44, 127, 128, 129, 123, 124, 125, 126] (by decide +kernel) (by decide +kernel)
set_option maxRecDepth 20000 in
theorem gX4_digestFast_X0_allTimes : GoodIn wsX4_digestFast (wsV RX4 171 RX0 yX0_allTimes wsX0_allTimes) := goodIn_app (goodIn_of _ (by decide +kernel)) ggX4_digestFast_X0_allTimes
set_option maxRecDepth 20000 in
theorem ggX4_digestFast_X1_isPayable : GoodIn wsX4_digestFast wsX1_isPayable := goodIn_r _ [79, 80, 81, 82, 83, 78, 84, 85, 86, 87, 88, 89, 90, 91, 92, 93, 94, 95, 41, 42, 17, 43, 44, 45, 46, 47, 48, 49, 50, 51, 52, 53, 19, 20, 25, 26, 54, 55, 56, 57, 39, 96, 36, 37, 38, 97, 59, 60, 61, 98, 99, 100, 101, 102, 103, 104, 105, 130, 131, 132, 133, 123, 124, 125, 126, 127, 128, 129] (by decide +kernel) (by decide +kernel)
set_option maxRecDepth 20000 in
theorem gX4_digestFast_X1_isPayable : GoodIn wsX4_digestFast (wsV RX4 200 RX1 yX1_isPayable wsX1_isPayable) := goodIn_app (goodIn_of _ (by decide +kernel)) ggX4_digestFast_X1_isPayable
set_option maxRecDepth 20000 in
theorem ggX4_digestFast_X1_weakestNode : GoodIn wsX4_digestFast wsX1_weakestNode := goodIn_r _ [109, 85, 86, 110, 80, 87, 81, 82, 83, 78, 84, 88, 89, 90, 91, 92, 93, 94, 95, 41, 42, 17, 43, 44, 45, 46, 47, 48, 49, 50, 51, 52, 53, 19, 20, 25, 26, 54, 55, 56, 57, 39, 96, 36, 37, 38, 97, 59, 60, 61, 98, 99, 100, 101, 111, 28, 29, 30, 31, 32, 33, 34, 102, 103, 104, 105, 130, 131, 132, 133, 123, 124, 125, 126, 127, 128, 129] (by decide +kernel) (by decide +kernel)
set_option maxRecDepth 20000 in
theorem gX4_digestFast_X1_weakestNode : GoodIn wsX4_digestFast (wsV RX4 203 RX1 yX1_weakestNode wsX1_weakestNode) := goodIn_app (goodIn_of _ (by decide +kernel)) ggX4_digestFast_X1_weakestNode
theorem dX4_digestFast_0 : decode cX4_digestFast 0 = .ok (.lload_n 1, 1) := by decide +kernel
theorem dX4_digestFast_1 : decode cX4_digestFast 1 = .ok (.ldc2_w 208, 3) := by decide +kernel
theorem dX4_digestFast_4 : decode cX4_digestFast 4 = .ok (.lmul, 1) := by decide +kernel
theorem dX4_digestFast_5 : decode cX4_digestFast 5 = .ok (.aload_n 0, 1) := by decide +kernel
theorem dX4_digestFast_6 : decode cX4_digestFast 6 = .ok (.invokevirtual 180, 3) := by decide +kernel
theorem dX4_digestFast_9 : decode cX4_digestFast 9 = .ok (.ifCond .eq 7, 3) := by decide +kernel
theorem dX4_digestFast_12 : decode cX4_digestFast 12 = .ok (.iconst 1, 1) := by decide +kernel
theorem dX4_digestFast_13 : decode cX4_digestFast 13 = .ok (.goto 4, 3) := by decide +kernel
theorem dX4_digestFast_16 : decode cX4_digestFast 16 = .ok (.iconst 0, 1) := by decide +kernel
theorem dX4_digestFast_17 : decode cX4_digestFast 17 = .ok (.i2l, 1) := by decide +kernel
theorem dX4_digestFast_18 : decode cX4_digestFast 18 = .ok (.ladd, 1) := by decide +kernel
theorem dX4_digestFast_19 : decode cX4_digestFast 19 = .ok (.lstore_n 3, 1) := by decide +kernel
theorem dX4_digestFast_20 : decode cX4_digestFast 20 = .ok (.aload_n 0, 1) := by decide +kernel
theorem dX4_digestFast_21 : decode cX4_digestFast 21 = .ok (.getfield 28, 3) := by decide +kernel
theorem dX4_digestFast_24 : decode cX4_digestFast 24 = .ok (.invokevirtual 184, 3) := by decide +kernel
theorem dX4_digestFast_27 : decode cX4_digestFast 27 = .ok (.iconst 0, 1) := by decide +kernel
theorem dX4_digestFast_28 : decode cX4_digestFast 28 = .ok (.istore 5, 2) := by decide +kernel
theorem dX4_digestFast_30 : decode cX4_digestFast 30 = .ok (.iload 5, 2) := by decide +kernel
theorem dX4_digestFast_32 : decode cX4_digestFast 32 = .ok (.aload_n 0, 1) := by decide +kernel
theorem dX4_digestFast_33 : decode cX4_digestFast 33 = .ok (.getfield 10, 3) := by decide +kernel
theorem dX4_digestFast_36 : decode cX4_digestFast 36 = .ok (.getfield 53, 3) := by decide +kernel
theorem dX4_digestFast_39 : decode cX4_digestFast 39 = .ok (.if_icmp .ge 49, 3) := by decide +kernel
theorem dX4_digestFast_42 : decode cX4_digestFast 42 = .ok (.lload_n 3, 1) := by decide +kernel
theorem dX4_digestFast_43 : decode cX4_digestFast 43 = .ok (.ldc2_w 208, 3) := by decide +kernel
theorem dX4_digestFast_46 : decode cX4_digestFast 46 = .ok (.lmul, 1) := by decide +kernel
theorem dX4_digestFast_47 : decode cX4_digestFast 47 = .ok (.aload_n 0, 1) := by decide +kernel
theorem dX4_digestFast_48 : decode cX4_digestFast 48 = .ok (.getfield 28, 3) := by decide +kernel
theorem dX4_digestFast_51 : decode cX4_digestFast 51 = .ok (.getfield 89, 3) := by decide +kernel
theorem dX4_digestFast_54 : decode cX4_digestFast 54 = .ok (.iload 5, 2) := by decide +kernel
theorem dX4_digestFast_56 : decode cX4_digestFast 56 = .ok (.iaload, 1) := by decide +kernel
theorem dX4_digestFast_57 : decode cX4_digestFast 57 = .ok (.i2l, 1) := by decide +kernel
theorem dX4_digestFast_58 : decode cX4_digestFast 58 = .ok (.ladd, 1) := by decide +kernel
theorem dX4_digestFast_59 : decode cX4_digestFast 59 = .ok (.lstore_n 3, 1) := by decide +kernel
theorem dX4_digestFast_60 : decode cX4_digestFast 60 = .ok (.aload_n 0, 1) := by decide +kernel
theorem dX4_digestFast_61 : decode cX4_digestFast 61 = .ok (.iload 5, 2) := by decide +kernel
theorem dX4_digestFast_63 : decode cX4_digestFast 63 = .ok (.iconst 1, 1) := by decide +kernel
theorem dX4_digestFast_64 : decode cX4_digestFast 64 = .ok (.invokevirtual 168, 3) := by decide +kernel
theorem dX4_digestFast_67 : decode cX4_digestFast 67 = .ok (.lload_n 3, 1) := by decide +kernel
theorem dX4_digestFast_68 : decode cX4_digestFast 68 = .ok (.ldc2_w 208, 3) := by decide +kernel
theorem dX4_digestFast_71 : decode cX4_digestFast 71 = .ok (.lmul, 1) := by decide +kernel
theorem dX4_digestFast_72 : decode cX4_digestFast 72 = .ok (.aload_n 0, 1) := by decide +kernel
theorem dX4_digestFast_73 : decode cX4_digestFast 73 = .ok (.getfield 25, 3) := by decide +kernel
theorem dX4_digestFast_76 : decode cX4_digestFast 76 = .ok (.invokevirtual 171, 3) := by decide +kernel
theorem dX4_digestFast_79 : decode cX4_digestFast 79 = .ok (.i2l, 1) := by decide +kernel
theorem dX4_digestFast_80 : decode cX4_digestFast 80 = .ok (.ladd, 1) := by decide +kernel
theorem dX4_digestFast_81 : decode cX4_digestFast 81 = .ok (.lstore_n 3, 1) := by decide +kernel
theorem dX4_digestFast_82 : decode cX4_digestFast 82 = .ok (.iinc 5 1, 3) := by decide +kernel
theorem dX4_digestFast_85 : decode cX4_digestFast 85 = .ok (.goto (-55), 3) := by decide +kernel
theorem dX4_digestFast_88 : decode cX4_digestFast 88 = .ok (.lload_n 3, 1) := by decide +kernel
theorem dX4_digestFast_89 : decode cX4_digestFast 89 = .ok (.ldc2_w 208, 3) := by decide +kernel
theorem dX4_digestFast_92 : decode cX4_digestFast 92 = .ok (.lmul, 1) := by decide +kernel
theorem dX4_digestFast_93 : decode cX4_digestFast 93 = .ok (.aload_n 0, 1) := by decide +kernel
theorem dX4_digestFast_94 : decode cX4_digestFast 94 = .ok (.getfield 44, 3) := by decide +kernel
theorem dX4_digestFast_97 : decode cX4_digestFast 97 = .ok (.invokevirtual 200, 3) := by decide +kernel
theorem dX4_digestFast_100 : decode cX4_digestFast 100 = .ok (.ifCond .eq 7, 3) := by decide +kernel
theorem dX4_digestFast_103 : decode cX4_digestFast 103 = .ok (.iconst 1, 1) := by decide +kernel
theorem dX4_digestFast_104 : decode cX4_digestFast 104 = .ok (.goto 4, 3) := by decide +kernel
theorem dX4_digestFast_107 : decode cX4_digestFast 107 = .ok (.iconst 0, 1) := by decide +kernel
theorem dX4_digestFast_108 : decode cX4_digestFast 108 = .ok (.i2l, 1) := by decide +kernel
theorem dX4_digestFast_109 : decode cX4_digestFast 109 = .ok (.ladd, 1) := by decide +kernel
theorem dX4_digestFast_110 : decode cX4_digestFast 110 = .ok (.lstore_n 3, 1) := by decide +kernel
theorem dX4_digestFast_111 : decode cX4_digestFast 111 = .ok (.lload_n 3, 1) := by decide +kernel
theorem dX4_digestFast_112 : decode cX4_digestFast 112 = .ok (.ldc2_w 208, 3) := by decide +kernel
theorem dX4_digestFast_115 : decode cX4_digestFast 115 = .ok (.lmul, 1) := by decide +kernel
theorem dX4_digestFast_116 : decode cX4_digestFast 116 = .ok (.aload_n 0, 1) := by decide +kernel
theorem dX4_digestFast_117 : decode cX4_digestFast 117 = .ok (.getfield 44, 3) := by decide +kernel
theorem dX4_digestFast_120 : decode cX4_digestFast 120 = .ok (.invokevirtual 203, 3) := by decide +kernel
theorem dX4_digestFast_123 : decode cX4_digestFast 123 = .ok (.i2l, 1) := by decide +kernel
theorem dX4_digestFast_124 : decode cX4_digestFast 124 = .ok (.ladd, 1) := by decide +kernel
theorem dX4_digestFast_125 : decode cX4_digestFast 125 = .ok (.lreturn, 1) := by decide +kernel
theorem dJ6_bitCount_0f7a4_0 : decode cJ6_bitCount_0f7a4 0 = .ok (.iload_n 0, 1) := by decide +kernel
theorem dJ6_bitCount_0f7a4_1 : decode cJ6_bitCount_0f7a4 1 = .ok (.iload_n 0, 1) := by decide +kernel
theorem dJ6_bitCount_0f7a4_2 : decode cJ6_bitCount_0f7a4 2 = .ok (.iconst 1, 1) := by decide +kernel
theorem dJ6_bitCount_0f7a4_3 : decode cJ6_bitCount_0f7a4 3 = .ok (.iushr, 1) := by decide +kernel
theorem dJ6_bitCount_0f7a4_4 : decode cJ6_bitCount_0f7a4 4 = .ok (.ldc_w 265, 3) := by decide +kernel
theorem dJ6_bitCount_0f7a4_7 : decode cJ6_bitCount_0f7a4 7 = .ok (.iand, 1) := by decide +kernel
theorem dJ6_bitCount_0f7a4_8 : decode cJ6_bitCount_0f7a4 8 = .ok (.isub, 1) := by decide +kernel
theorem dJ6_bitCount_0f7a4_9 : decode cJ6_bitCount_0f7a4 9 = .ok (.istore_n 0, 1) := by decide +kernel
theorem dJ6_bitCount_0f7a4_10 : decode cJ6_bitCount_0f7a4 10 = .ok (.iload_n 0, 1) := by decide +kernel
theorem dJ6_bitCount_0f7a4_11 : decode cJ6_bitCount_0f7a4 11 = .ok (.ldc_w 266, 3) := by decide +kernel
theorem dJ6_bitCount_0f7a4_14 : decode cJ6_bitCount_0f7a4 14 = .ok (.iand, 1) := by decide +kernel
theorem dJ6_bitCount_0f7a4_15 : decode cJ6_bitCount_0f7a4 15 = .ok (.iload_n 0, 1) := by decide +kernel
theorem dJ6_bitCount_0f7a4_16 : decode cJ6_bitCount_0f7a4 16 = .ok (.iconst 2, 1) := by decide +kernel
theorem dJ6_bitCount_0f7a4_17 : decode cJ6_bitCount_0f7a4 17 = .ok (.iushr, 1) := by decide +kernel
theorem dJ6_bitCount_0f7a4_18 : decode cJ6_bitCount_0f7a4 18 = .ok (.ldc_w 266, 3) := by decide +kernel
theorem dJ6_bitCount_0f7a4_21 : decode cJ6_bitCount_0f7a4 21 = .ok (.iand, 1) := by decide +kernel
theorem dJ6_bitCount_0f7a4_22 : decode cJ6_bitCount_0f7a4 22 = .ok (.iadd, 1) := by decide +kernel
theorem dJ6_bitCount_0f7a4_23 : decode cJ6_bitCount_0f7a4 23 = .ok (.istore_n 0, 1) := by decide +kernel
theorem dJ6_bitCount_0f7a4_24 : decode cJ6_bitCount_0f7a4 24 = .ok (.iload_n 0, 1) := by decide +kernel
theorem dJ6_bitCount_0f7a4_25 : decode cJ6_bitCount_0f7a4 25 = .ok (.iload_n 0, 1) := by decide +kernel
theorem dJ6_bitCount_0f7a4_26 : decode cJ6_bitCount_0f7a4 26 = .ok (.iconst 4, 1) := by decide +kernel
theorem dJ6_bitCount_0f7a4_27 : decode cJ6_bitCount_0f7a4 27 = .ok (.iushr, 1) := by decide +kernel
theorem dJ6_bitCount_0f7a4_28 : decode cJ6_bitCount_0f7a4 28 = .ok (.iadd, 1) := by decide +kernel
theorem dJ6_bitCount_0f7a4_29 : decode cJ6_bitCount_0f7a4 29 = .ok (.ldc_w 267, 3) := by decide +kernel
theorem dJ6_bitCount_0f7a4_32 : decode cJ6_bitCount_0f7a4 32 = .ok (.iand, 1) := by decide +kernel
theorem dJ6_bitCount_0f7a4_33 : decode cJ6_bitCount_0f7a4 33 = .ok (.istore_n 0, 1) := by decide +kernel
theorem dJ6_bitCount_0f7a4_34 : decode cJ6_bitCount_0f7a4 34 = .ok (.iload_n 0, 1) := by decide +kernel
theorem dJ6_bitCount_0f7a4_35 : decode cJ6_bitCount_0f7a4 35 = .ok (.iload_n 0, 1) := by decide +kernel
theorem dJ6_bitCount_0f7a4_36 : decode cJ6_bitCount_0f7a4 36 = .ok (.bipush 8, 2) := by decide +kernel
theorem dJ6_bitCount_0f7a4_38 : decode cJ6_bitCount_0f7a4 38 = .ok (.iushr, 1) := by decide +kernel
theorem dJ6_bitCount_0f7a4_39 : decode cJ6_bitCount_0f7a4 39 = .ok (.iadd, 1) := by decide +kernel
theorem dJ6_bitCount_0f7a4_40 : decode cJ6_bitCount_0f7a4 40 = .ok (.istore_n 0, 1) := by decide +kernel
theorem dJ6_bitCount_0f7a4_41 : decode cJ6_bitCount_0f7a4 41 = .ok (.iload_n 0, 1) := by decide +kernel
theorem dJ6_bitCount_0f7a4_42 : decode cJ6_bitCount_0f7a4 42 = .ok (.iload_n 0, 1) := by decide +kernel
theorem dJ6_bitCount_0f7a4_43 : decode cJ6_bitCount_0f7a4 43 = .ok (.bipush 16, 2) := by decide +kernel
theorem dJ6_bitCount_0f7a4_45 : decode cJ6_bitCount_0f7a4 45 = .ok (.iushr, 1) := by decide +kernel
theorem dJ6_bitCount_0f7a4_46 : decode cJ6_bitCount_0f7a4 46 = .ok (.iadd, 1) := by decide +kernel
theorem dJ6_bitCount_0f7a4_47 : decode cJ6_bitCount_0f7a4 47 = .ok (.istore_n 0, 1) := by decide +kernel
theorem dJ6_bitCount_0f7a4_48 : decode cJ6_bitCount_0f7a4 48 = .ok (.iload_n 0, 1) := by decide +kernel
theorem dJ6_bitCount_0f7a4_49 : decode cJ6_bitCount_0f7a4 49 = .ok (.bipush 63, 2) := by decide +kernel
theorem dJ6_bitCount_0f7a4_51 : decode cJ6_bitCount_0f7a4 51 = .ok (.iand, 1) := by decide +kernel
theorem dJ6_bitCount_0f7a4_52 : decode cJ6_bitCount_0f7a4 52 = .ok (.ireturn, 1) := by decide +kernel
theorem dJ7_fill_53178_0 : decode cJ7_fill_53178 0 = .ok (.iconst 0, 1) := by decide +kernel
theorem dJ7_fill_53178_1 : decode cJ7_fill_53178 1 = .ok (.istore_n 2, 1) := by decide +kernel
theorem dJ7_fill_53178_2 : decode cJ7_fill_53178 2 = .ok (.aload_n 0, 1) := by decide +kernel
theorem dJ7_fill_53178_3 : decode cJ7_fill_53178 3 = .ok (.arraylength, 1) := by decide +kernel
theorem dJ7_fill_53178_4 : decode cJ7_fill_53178 4 = .ok (.istore_n 3, 1) := by decide +kernel
theorem dJ7_fill_53178_5 : decode cJ7_fill_53178 5 = .ok (.iload_n 2, 1) := by decide +kernel
theorem dJ7_fill_53178_6 : decode cJ7_fill_53178 6 = .ok (.iload_n 3, 1) := by decide +kernel
theorem dJ7_fill_53178_7 : decode cJ7_fill_53178 7 = .ok (.if_icmp .ge 13, 3) := by decide +kernel
theorem dJ7_fill_53178_10 : decode cJ7_fill_53178 10 = .ok (.aload_n 0, 1) := by decide +kernel
theorem dJ7_fill_53178_11 : decode cJ7_fill_53178 11 = .ok (.iload_n 2, 1) := by decide +kernel
theorem dJ7_fill_53178_12 : decode cJ7_fill_53178 12 = .ok (.iload_n 1, 1) := by decide +kernel
theorem dJ7_fill_53178_13 : decode cJ7_fill_53178 13 = .ok (.iastore, 1) := by decide +kernel
theorem dJ7_fill_53178_14 : decode cJ7_fill_53178 14 = .ok (.iinc 2 1, 3) := by decide +kernel
theorem dJ7_fill_53178_17 : decode cJ7_fill_53178 17 = .ok (.goto (-12), 3) := by decide +kernel
theorem dJ7_fill_53178_20 : decode cJ7_fill_53178 20 = .ok (.return_, 1) := by decide +kernel
set_option maxRecDepth 20000 in
theorem ggJ7_copyOf_1904c_J7_copyOf_6403c : GoodIn wsJ7_copyOf_1904c wsJ7_copyOf_6403c := goodIn_r _ [8, 9, 10, 11, 12, 13, 14, 15, 16, 17, 18] (by decide +kernel) (by decide +kernel)
set_option maxRecDepth 20000 in
theorem gJ7_copyOf_1904c_J7_copyOf_6403c : GoodIn wsJ7_copyOf_1904c (va_wsS RJ7 300 yJ7_copyOf_6403c wsJ7_copyOf_6403c) := goodIn_app (goodIn_of _ (by decide +kernel)) ggJ7_copyOf_1904c_J7_copyOf_6403c
theorem dJ7_copyOf_1904c_0 : decode cJ7_copyOf_1904c 0 = .ok (.aload_n 0, 1) := by decide +kernel
theorem dJ7_copyOf_1904c_1 : decode cJ7_copyOf_1904c 1 = .ok (.iload_n 1, 1) := by decide +kernel
theorem dJ7_copyOf_1904c_2 : decode cJ7_copyOf_1904c 2 = .ok (.aload_n 0, 1) := by decide +kernel
theorem dJ7_copyOf_1904c_3 : decode cJ7_copyOf_1904c 3 = .ok (.invokevirtual 86, 3) := by decide +kernel
theorem dJ7_copyOf_1904c_6 : decode cJ7_copyOf_1904c 6 = .ok (.invokestatic 300, 3) := by decide +kernel
theorem dJ7_copyOf_1904c_9 : decode cJ7_copyOf_1904c 9 = .ok (.areturn, 1) := by decide +kernel
theorem dJ7_copyOf_6403c_0 : decode cJ7_copyOf_6403c 0 = .ok (.aload_n 2, 1) := by decide +kernel
theorem dJ7_copyOf_6403c_1 : decode cJ7_copyOf_6403c 1 = .ok (.ldc 110, 2) := by decide +kernel
theorem dJ7_copyOf_6403c_3 : decode cJ7_copyOf_6403c 3 = .ok (.if_acmp .ne 10, 3) := by decide +kernel
theorem dJ7_copyOf_6403c_6 : decode cJ7_copyOf_6403c 6 = .ok (.iload_n 1, 1) := by decide +kernel
theorem dJ7_copyOf_6403c_7 : decode cJ7_copyOf_6403c 7 = .ok (.anewarray 2, 3) := by decide +kernel
theorem dJ7_copyOf_6403c_10 : decode cJ7_copyOf_6403c 10 = .ok (.goto 14, 3) := by decide +kernel
theorem dJ7_copyOf_6403c_13 : decode cJ7_copyOf_6403c 13 = .ok (.aload_n 2, 1) := by decide +kernel
theorem dJ7_copyOf_6403c_14 : decode cJ7_copyOf_6403c 14 = .ok (.invokevirtual 90, 3) := by decide +kernel
theorem dJ7_copyOf_6403c_17 : decode cJ7_copyOf_6403c 17 = .ok (.iload_n 1, 1) := by decide +kernel
theorem dJ7_copyOf_6403c_18 : decode cJ7_copyOf_6403c 18 = .ok (.invokestatic 95, 3) := by decide +kernel
theorem dJ7_copyOf_6403c_21 : decode cJ7_copyOf_6403c 21 = .ok (.checkcast 110, 3) := by decide +kernel
theorem dJ7_copyOf_6403c_24 : decode cJ7_copyOf_6403c 24 = .ok (.astore_n 3, 1) := by decide +kernel
theorem dJ7_copyOf_6403c_25 : decode cJ7_copyOf_6403c 25 = .ok (.aload_n 0, 1) := by decide +kernel
theorem dJ7_copyOf_6403c_26 : decode cJ7_copyOf_6403c 26 = .ok (.iconst 0, 1) := by decide +kernel
theorem dJ7_copyOf_6403c_27 : decode cJ7_copyOf_6403c 27 = .ok (.aload_n 3, 1) := by decide +kernel
theorem dJ7_copyOf_6403c_28 : decode cJ7_copyOf_6403c 28 = .ok (.iconst 0, 1) := by decide +kernel
theorem dJ7_copyOf_6403c_29 : decode cJ7_copyOf_6403c 29 = .ok (.aload_n 0, 1) := by decide +kernel
theorem dJ7_copyOf_6403c_30 : decode cJ7_copyOf_6403c 30 = .ok (.arraylength, 1) := by decide +kernel
theorem dJ7_copyOf_6403c_31 : decode cJ7_copyOf_6403c 31 = .ok (.iload_n 1, 1) := by decide +kernel
theorem dJ7_copyOf_6403c_32 : decode cJ7_copyOf_6403c 32 = .ok (.invokestatic 304, 3) := by decide +kernel
theorem dJ7_copyOf_6403c_35 : decode cJ7_copyOf_6403c 35 = .ok (.invokestatic 150, 3) := by decide +kernel
theorem dJ7_copyOf_6403c_38 : decode cJ7_copyOf_6403c 38 = .ok (.aload_n 3, 1) := by decide +kernel
theorem dJ7_copyOf_6403c_39 : decode cJ7_copyOf_6403c 39 = .ok (.areturn, 1) := by decide +kernel
end
section
/-! rows of my own over the kit's: numbered places, whole calls, ends -/
/-- the outer cells of an array of n rows -/
def rowF (n : Nat) (r : Nat → Nat) : Nat → Option Nat := fun i => if i < n then some (r i) else none
/-- n steps from s on -/
def it {σ : Type} (f : Nat → σ → σ) : Nat → σ → σ
  | 0, s => s
  | k + 1, s => f k (it f k s)
def sumN (f : Nat → Int32) : Nat → Int32
  | 0 => 0
  | k + 1 => sumN f k + f k
def allN (p : Nat → Bool) : Nat → Bool
  | 0 => true
  | k + 1 => allN p k && p k
theorem allN_false {p : Nat → Bool} {n i : Nat} (hi : i < n) (h : p i = false) : allN p n = false := by
  induction n with
  | zero => omega
  | succ n ih =>
    show (allN p n && p n) = false
    rcases Nat.lt_or_ge i n with q | q
    · rw [ih q]; rfl
    · rw [show n = i by omega, h, Bool.and_false]
theorem allN_iff {p : Nat → Bool} {n : Nat} : allN p n = true ↔ ∀ i, i < n → p i = true := by
  induction n with
  | zero => exact ⟨fun _ i h => absurd h (Nat.not_lt_zero i), fun _ => rfl⟩
  | succ n ih =>
    show (allN p n && p n) = true ↔ _
    rw [Bool.and_eq_true, ih]
    constructor
    · intro h i hi
      rcases Nat.lt_or_ge i n with q | q
      · exact h.1 i q
      · rw [show i = n by omega]; exact h.2
    · intro h
      exact ⟨fun i hi => h i (by omega), h n (by omega)⟩
def b2i (b : Bool) : Int32 := if b then 1 else 0
abbrev PRE (D : va_G) (tys : List (ClassId × FieldType)) (ws : va_W) (sz : Nat) : State → Prop := fun U => U.heap.size = sz ∧ va_P D vwCl ws U.heap ∧ va_K D vwCl tys U ∧ va_D (fun _ => True) ws
abbrev ATW (D : va_G) (tys : List (ClassId × FieldType)) (A : Nat → Prop) (ws : va_W) (t : State) : Prop := va_P D vwCl ws t.heap ∧ va_K D vwCl tys t ∧ va_D A ws
theorem kt_blind {D : va_G} {tys : List (ClassId × FieldType)} {ws : va_W} {sz : Nat} {as : List Value} : FrameBlind (va_Pc as (PRE D tys ws sz)) := fun a U g mk q => by
  obtain ⟨q0, q1, qP, qK, qD⟩ := q
  exact ⟨q0, q1, qP, va_K.moved (u := U) (U := U.calling g mk a) (Vm.Alike.refl U.vm) qK, qD⟩
theorem vp_congr_i {cA : ClassId} {n : Nat} {f g : Nat → Int32} (h : ∀ j, j < n → f j = g j) : vp_cell cA (n, .inl f) = vp_cell cA (n, .inl g) := by
  rw [vp_cell_i, vp_cell_i]
  unfold arrV
  congr 2
  funext j
  simp [h j j.2]
theorem kt_inc (i : Nat) : nI i + Int32.ofInt 1 = nI (i + 1) := by
  rw [show (Int32.ofInt 1) = (1 : Int32) from rfl]
  exact nI_1 i
section KTR
variable {p : Program} {l : Launch} {e : Env} {R : Room} {s : State} {m : MethodId} {args : Array Value} {below : List Frame} {meth : Method} {c : Code} {H : Heap} {locs : List Loc} {cells slots : Nat} {Q : State → Prop}
variable {cc : ByteArray} {pc : Nat} {ls : Array Slot} {rest : List Value} {D : va_G} {cl : List vw_C} {A : Nat → Prop} {a : Nat} {tys : List (ClassId × FieldType)} {ws : va_W} {H0 : Heap}
theorem kt_iald (hx : p.tables.exec = Jvm.exec) (hb : c.code = cc) (hK : va_K D cl tys s) (hP : va_P D cl ws H) (q0 t0 : Nat) {cA : ClassId} {n j : Nat} {f : Nat → Int32} (ha : ws[q0]? = some (a, .inl (cA, n, .inl f))) (ht : tys[t0]? = some (cA, .int)) (hj : j < n) (hn : n < 2 ^ 31) (hdg : decode cc pc = .ok (.iaload, 1)) (kk : W p l e R s m args below meth c H locs cells slots Q (F0 m (pc + 1) ls (.int (f j) :: rest))) : W p l e R s m args below meth c H locs cells slots Q (F0 m pc ls (.int (nI j) :: .ref a :: rest)) :=
  va_iald hx hb hK hP q0 t0 ha ht (vp_in_nI hj hn) hdg (by rw [nI_clamp (Nat.lt_trans hj hn)]; exact kk)
theorem kt_iast (hx : p.tables.exec = Jvm.exec) (hb : c.code = cc) (hK : va_K D cl tys s) (hP : va_P D cl ws H) (hD : va_D A ws) (hS : va_S A H0 H locs) (q0 t0 : Nat) {cA : ClassId} {n j : Nat} {f : Nat → Int32} {x : Int32} (ha : ws[q0]? = some (a, .inl (cA, n, .inl f))) (ht : tys[t0]? = some (cA, .int)) (hj : j < n) (hn : n < 2 ^ 31) (hdg : decode cc pc = .ok (.iastore, 1))
    (kk : ∀ (H1 : Heap) (locs1 : List Loc), va_P D cl (ws.set q0 (a, .inl (cA, n, .inl (upd f j x)))) H1 → va_D A (ws.set q0 (a, .inl (cA, n, .inl (upd f j x)))) → va_S A H0 H1 locs1 → W p l e R s m args below meth c H1 locs1 cells slots Q (F0 m (pc + 1) ls rest)) : W p l e R s m args below meth c H locs cells slots Q (F0 m pc ls (.int x :: .int (nI j) :: .ref a :: rest)) :=
  va_iast hx hb hK hP hD hS q0 t0 ha ht (vp_in_nI hj hn) hdg (by rw [nI_clamp (Nat.lt_trans hj hn)]; exact kk)
theorem kt_lald (hx : p.tables.exec = Jvm.exec) (hb : c.code = cc) (hK : va_K D cl tys s) (hP : va_P D cl ws H) (q0 t0 : Nat) {cA : ClassId} {n j : Nat} {f : Nat → Int64} (ha : ws[q0]? = some (a, .inl (cA, n, .inr (.inl f)))) (ht : tys[t0]? = some (cA, .long)) (hj : j < n) (hn : n < 2 ^ 31) (hdg : decode cc pc = .ok (.laload, 1)) (kk : W p l e R s m args below meth c H locs cells slots Q (F0 m (pc + 1) ls (.long (f j) :: rest))) : W p l e R s m args below meth c H locs cells slots Q (F0 m pc ls (.int (nI j) :: .ref a :: rest)) :=
  va_lald hx hb hK hP q0 t0 ha ht (vp_in_nI hj hn) hdg (by rw [nI_clamp (Nat.lt_trans hj hn)]; exact kk)
theorem kt_last (hx : p.tables.exec = Jvm.exec) (hb : c.code = cc) (hK : va_K D cl tys s) (hP : va_P D cl ws H) (hD : va_D A ws) (hS : va_S A H0 H locs) (q0 t0 : Nat) {cA : ClassId} {n j : Nat} {f : Nat → Int64} {x : Int64} (ha : ws[q0]? = some (a, .inl (cA, n, .inr (.inl f)))) (ht : tys[t0]? = some (cA, .long)) (hj : j < n) (hn : n < 2 ^ 31) (hdg : decode cc pc = .ok (.lastore, 1))
    (kk : ∀ (H1 : Heap) (locs1 : List Loc), va_P D cl (ws.set q0 (a, .inl (cA, n, .inr (.inl (vp_updL f j x))))) H1 → va_D A (ws.set q0 (a, .inl (cA, n, .inr (.inl (vp_updL f j x))))) → va_S A H0 H1 locs1 → W p l e R s m args below meth c H1 locs1 cells slots Q (F0 m (pc + 1) ls rest)) : W p l e R s m args below meth c H locs cells slots Q (F0 m pc ls (.long x :: .int (nI j) :: .ref a :: rest)) :=
  va_last hx hb hK hP hD hS q0 t0 ha ht (vp_in_nI hj hn) hdg (by rw [nI_clamp (Nat.lt_trans hj hn)]; exact kk)
theorem kt_aald (hx : p.tables.exec = Jvm.exec) (hb : c.code = cc) (hK : va_K D cl tys s) (hP : va_P D cl ws H) (q0 t0 : Nat) {cA : ClassId} {n j : Nat} {r : Nat → Nat} {ty : FieldType} (ha : ws[q0]? = some (a, .inl (cA, n, .inr (.inr (.inr (.inr (rowF n r))))))) (ht : tys[t0]? = some (cA, .array ty)) (hj : j < n) (hn : n < 2 ^ 31) (hdg : decode cc pc = .ok (.aaload, 1)) (kk : W p l e R s m args below meth c H locs cells slots Q (F0 m (pc + 1) ls (.ref (r j) :: rest))) : W p l e R s m args below meth c H locs cells slots Q (F0 m pc ls (.int (nI j) :: .ref a :: rest)) := by
  have hc : (nI j).toNatClampNeg = j := nI_clamp (Nat.lt_trans hj hn)
  have hin : vp_in (nI j) n := vp_in_nI hj hn
  have hv : va_rf (rowF n r j) = .ref (r j) := by simp [rowF, hj, va_rf]
  exact W.aald (v := .ref (r j)) (ty := .array ty) hx hb (hP q0 _ ha) ((hK.2 t0 _ ht).1 n (fun j => va_rf (rowF n r j))) rfl (fun q => by cases q) (by show ¬ (nI j < 0 ∨ (arrV _ _ _).slots.size ≤ _); rw [arrV_size]; exact hin) (by show (arrV _ _ _).slots[_]? = _; rw [hc, arrV_read _ _ hj, hv]) rfl rfl hdg kk
theorem kt_ige (hx : p.tables.exec = Jvm.exec) (hb : c.code = cc) {i n : Nat} {off : Int} {tgt : Nat} (hi : i < 2 ^ 31) (hn : n < 2 ^ 31) (hdg : decode cc pc = .ok (.if_icmp .ge off, 3)) (ht : (pc : Int) + off = (tgt : Int)) (kt : n ≤ i → W p l e R s m args below meth c H locs cells slots Q (F0 m tgt ls rest)) (kf : i < n → W p l e R s m args below meth c H locs cells slots Q (F0 m (pc + 3) ls rest)) : W p l e R s m args below meth c H locs cells slots Q (F0 m pc ls (.int (nI n) :: .int (nI i) :: rest)) :=
  lv_icmp_ge hx hb hdg ht (fun q => kt ((nI_leI hn hi).mp q)) (fun q => kf (Nat.lt_of_not_le fun z => q ((nI_leI hn hi).mpr z)))
theorem kt_ilt (hx : p.tables.exec = Jvm.exec) (hb : c.code = cc) {i n : Nat} {off : Int} {tgt : Nat} (hi : i < 2 ^ 31) (hn : n < 2 ^ 31) (hdg : decode cc pc = .ok (.if_icmp .lt off, 3)) (ht : (pc : Int) + off = (tgt : Int)) (kt : i < n → W p l e R s m args below meth c H locs cells slots Q (F0 m tgt ls rest)) (kf : n ≤ i → W p l e R s m args below meth c H locs cells slots Q (F0 m (pc + 3) ls rest)) : W p l e R s m args below meth c H locs cells slots Q (F0 m pc ls (.int (nI n) :: .int (nI i) :: rest)) :=
  lv_icmp_lt hx hb hdg ht (fun q => kt ((nI_ltI hi hn).mp q)) (fun q => kf (Nat.le_of_not_lt fun z => q ((nI_ltI hi hn).mpr z)))
theorem kt_iret {W' : va_W} {v r : Int32} (hx : p.tables.exec = Jvm.exec) (hb : c.code = cc) (hr : meth.sig.returnType = some .int) (hS : va_S A s.heap H locs) (hP : va_P D vwCl W' H) (hK : va_K D vwCl tys s) (hD : va_D A W') (he : v = r) (hlocks : meth.locks = false) (hdg : decode cc pc = .ok (.ireturn, 1)) : W p l e R s m args below meth c H locs cells slots (MQ below (va_Qi (fun (r' : Int32) (_ : Unit) => r' = r) (fun _ t => ATW D tys A W' t) A) args s cells slots A) (F0 m pc ls [.int v]) :=
  W.iret hx hb hr (fun t ht hW => ⟨⟨v, (), rfl, he, by rw [ht]; exact hP, va_K.moved hW.alike hK, hD⟩, hS.F ht⟩) hS.2.2 hdg hlocks
theorem kt_zret {W' : va_W} {v r : Int32} (hx : p.tables.exec = Jvm.exec) (hb : c.code = cc) (hr : meth.sig.returnType = some .boolean) (hn : narrow .boolean (.int v) = .int v) (hS : va_S A s.heap H locs) (hP : va_P D vwCl W' H) (hK : va_K D vwCl tys s) (hD : va_D A W') (he : v = r) (hlocks : meth.locks = false) (hdg : decode cc pc = .ok (.ireturn, 1)) : W p l e R s m args below meth c H locs cells slots (MQ below (va_Qi (fun (r' : Int32) (_ : Unit) => r' = r) (fun _ t => ATW D tys A W' t) A) args s cells slots A) (F0 m pc ls [.int v]) :=
  W.zret hx hb hr hn (fun t ht hW => ⟨⟨v, (), rfl, he, by rw [ht]; exact hP, va_K.moved hW.alike hK, hD⟩, hS.F ht⟩) hS.2.2 hdg hlocks
theorem kt_lret {W' : va_W} {v r : Int64} (hx : p.tables.exec = Jvm.exec) (hb : c.code = cc) (hr : meth.sig.returnType = some .long) (hS : va_S A s.heap H locs) (hP : va_P D vwCl W' H) (hK : va_K D vwCl tys s) (hD : va_D A W') (he : v = r) (hlocks : meth.locks = false) (hdg : decode cc pc = .ok (.lreturn, 1)) : W p l e R s m args below meth c H locs cells slots (MQ below (va_Ql (fun (r' : Int64) (_ : Unit) => r' = r) (fun _ t => ATW D tys A W' t) A) args s cells slots A) (F0 m pc ls [.long v]) :=
  W.lret hx hb hr (fun t ht hW => ⟨⟨v, (), rfl, he, by rw [ht]; exact hP, va_K.moved hW.alike hK, hD⟩, hS.F ht⟩) hS.2.2 hdg hlocks
theorem kt_vret {W' : va_W} (hx : p.tables.exec = Jvm.exec) (hb : c.code = cc) (hr : meth.sig.returnType = none) (hS : va_S A s.heap H locs) (hP : va_P D vwCl W' H) (hK : va_K D vwCl tys s) (hD : va_D A W') (hlocks : meth.locks = false) (hdg : decode cc pc = .ok (.return_, 1)) : W p l e R s m args below meth c H locs cells slots (MQ below (va_Qv (fun (_ : Unit) => True) (fun _ t => ATW D tys A W' t) A) args s cells slots A) (F0 m pc ls []) :=
  W.vret hx hb hr (fun t ht hW => ⟨⟨(), rfl, trivial, by rw [ht]; exact hP, va_K.moved hW.alike hK, hD⟩, hS.F ht⟩) hS.2.2 hdg hlocks
end KTR
/-- those of w that stand at the places -/
def kt_pick (w : va_W) (is : List Nat) : va_W := is.filterMap (fun i => w[i]?)
theorem kt_sub {D : va_G} {cl : List vw_C} {w wC : va_W} {H : Heap} (hP : va_P D cl w H) (isC : List Nat) (hC : isC.map (fun i => w[i]?) = wC.map some) : va_P D cl wC H := by
  intro k x hk
  have h1 : (isC.map (fun i => w[i]?))[k]? = some (some x) := by rw [hC, List.getElem?_map, hk]; rfl
  rw [List.getElem?_map] at h1
  cases hi : isC[k]? with
  | none => rw [hi] at h1; cases h1
  | some i => rw [hi] at h1; exact hP i x (Option.some.inj h1)
section KTL
variable {p : Program} {l : Launch} {e : Env} {R : Room} {s : State} {m : MethodId} {args : Array Value} {below : List Frame} {meth : Method} {c : Code} {H : Heap} {locs : List Loc} {cells slots : Nat} {Q : State → Prop}
variable {ls : Array Slot} {D : va_G} {cl : List vw_C} {A : Nat → Prop} {H0 : Heap}
/-- a loop by a measure -/
theorem kt_loop {σ : Type} (μ : σ → Nat) (I : σ → Prop) (WD : σ → va_W) (LV : σ → List (Nat × Value)) (nL hd : Nat)
    (body : ∀ x : σ, I x → (∀ (y : σ) (H : Heap) (locs : List Loc) (ls : Array Slot), μ y < μ x → I y → va_P D cl (WD y) H → va_D A (WD y) → va_S A H0 H locs → lv_has ls nL (LV y) → W p l e R s m args below meth c H locs cells slots Q (F0 m hd ls [])) → ∀ (H : Heap) (locs : List Loc) (ls : Array Slot), va_P D cl (WD x) H → va_D A (WD x) → va_S A H0 H locs → lv_has ls nL (LV x) → W p l e R s m args below meth c H locs cells slots Q (F0 m hd ls []))
    (x0 : σ) (hI : I x0) (hP : va_P D cl (WD x0) H) (hD : va_D A (WD x0)) (hS : va_S A H0 H locs) (hl : lv_has ls nL (LV x0)) : W p l e R s m args below meth c H locs cells slots Q (F0 m hd ls []) := by
  have key : ∀ (k : Nat) (x : σ), μ x < k → I x → ∀ (H : Heap) (locs : List Loc) (ls : Array Slot), va_P D cl (WD x) H → va_D A (WD x) → va_S A H0 H locs → lv_has ls nL (LV x) → W p l e R s m args below meth c H locs cells slots Q (F0 m hd ls []) := by
    intro k
    induction k with
    | zero => intro x h; omega
    | succ k ih => intro x hk hI; exact body x hI (fun y H locs ls hy hIy => ih y (by omega) hIy H locs ls)
  exact key (μ x0 + 1) x0 (by omega) hI H locs ls hP hD hS hl
/-- a loop that counts to n -/
theorem kt_for {n : Nat} (WD : Nat → va_W) (LV : Nat → List (Nat × Value)) (nL hd : Nat)
    (body : ∀ i : Nat, i ≤ n → (∀ (H : Heap) (locs : List Loc) (ls : Array Slot), i < n → va_P D cl (WD (i + 1)) H → va_D A (WD (i + 1)) → va_S A H0 H locs → lv_has ls nL (LV (i + 1)) → W p l e R s m args below meth c H locs cells slots Q (F0 m hd ls [])) → ∀ (H : Heap) (locs : List Loc) (ls : Array Slot), va_P D cl (WD i) H → va_D A (WD i) → va_S A H0 H locs → lv_has ls nL (LV i) → W p l e R s m args below meth c H locs cells slots Q (F0 m hd ls []))
    (hP : va_P D cl (WD 0) H) (hD : va_D A (WD 0)) (hS : va_S A H0 H locs) (hl : lv_has ls nL (LV 0)) : W p l e R s m args below meth c H locs cells slots Q (F0 m hd ls []) :=
  kt_loop (σ := Nat) (fun i => n - i) (fun i => i ≤ n) WD LV nL hd (fun i hi ih => body i hi (fun H locs ls hlt hP hD hS hl => ih (i + 1) H locs ls (by omega) (by omega) hP hD hS hl)) 0 (Nat.zero_le n) hP hD hS hl
theorem kt_forq {n : Nat} (q : Nat → Prop) (WD : Nat → va_W) (LV : Nat → List (Nat × Value)) (nL hd : Nat)
    (body : ∀ i : Nat, i ≤ n → q i → (∀ (H : Heap) (locs : List Loc) (ls : Array Slot), i < n → q (i + 1) → va_P D cl (WD (i + 1)) H → va_D A (WD (i + 1)) → va_S A H0 H locs → lv_has ls nL (LV (i + 1)) → W p l e R s m args below meth c H locs cells slots Q (F0 m hd ls [])) → ∀ (H : Heap) (locs : List Loc) (ls : Array Slot), va_P D cl (WD i) H → va_D A (WD i) → va_S A H0 H locs → lv_has ls nL (LV i) → W p l e R s m args below meth c H locs cells slots Q (F0 m hd ls []))
    (q0 : q 0) (hP : va_P D cl (WD 0) H) (hD : va_D A (WD 0)) (hS : va_S A H0 H locs) (hl : lv_has ls nL (LV 0)) : W p l e R s m args below meth c H locs cells slots Q (F0 m hd ls []) :=
  kt_loop (σ := Nat) (fun i => n - i) (fun i => i ≤ n ∧ q i) WD LV nL hd (fun i hi ih => body i hi.1 hi.2 (fun H locs ls hlt hq hP hD hS hl => ih (i + 1) H locs ls (by omega) ⟨by omega, hq⟩ hP hD hS hl)) 0 ⟨Nat.zero_le n, q0⟩ hP hD hS hl
end KTL
theorem b2i_eq0 {b : Bool} : b2i b = 0 ↔ b = false := by cases b <;> simp [b2i]
theorem b2i_ne0 {b : Bool} : ¬ b2i b = 0 ↔ b = true := by cases b <;> simp [b2i]
section KTC
variable {p : Program} {l : Launch} {e : Env} {R : Room} {s : State} {m : MethodId} {args : Array Value} {below : List Frame} {meth : Method} {c : Code} {H : Heap} {locs : List Loc} {cells slots : Nat} {Q : State → Prop}
variable {cc bytes : ByteArray} {pc : Nat} {ls : Array Slot} {rest As : List Value} {D : va_G} {A : Nat → Prop} {b : Nat} {tys : List (ClassId × FieldType)} {w wC wC' wR w' : va_W} {H0 : Heap}
variable {nL maxL n index mc ms : Nat} {Ts ws : List Cond} {own C : String} {y : MethodName} {ret : Option FieldType} {rm : Room}
/-- what a caller hands to a callee of an instance method -/
theorem kt_preV {q0 ci : Nat} {q : vw_C} {fs : List Value} (hK : va_K D vwCl tys s) (hP : va_P D vwCl w H) (hD : va_D A w) (isC : List Nat) (hC : isC.map (fun i => w[i]?) = wC.map some) (hnd : va_nd isC = true) (hc : vwCl[ci]? = some q) (hq : q.1 = C) (he : w[q0]? = some (b, .inr (ci, fs))) : PreV s H C b (va_Pc (.ref b :: As) (PRE D tys wC H.size)) As := by
  have hDc : va_D A wC := hD.sub isC hnd hC
  have hPc : va_P D vwCl wC H := by
    intro k x hk
    have h1 : (isC.map (fun i => w[i]?))[k]? = some (some x) := by rw [hC, List.getElem?_map, hk]; rfl
    rw [List.getElem?_map] at h1
    cases hi : isC[k]? with
    | none => rw [hi] at h1; cases h1
    | some i => rw [hi] at h1; exact hP i x (Option.some.inj h1)
  refine ⟨kt_blind, ?_, fun U hU hW => ⟨rfl, by rw [hU], by rw [hU]; exact hPc, va_K.moved hW.alike hK, hDc.weaken (fun _ _ _ _ => trivial)⟩⟩
  rw [← hq]
  exact va_recv hK hP hc he
theorem kt_preS (hK : va_K D vwCl tys s) (hP : va_P D vwCl w H) (hD : va_D A w) (isC : List Nat) (hC : isC.map (fun i => w[i]?) = wC.map some) (hnd : va_nd isC = true) : PreS s H (va_Pc As (PRE D tys wC H.size)) As := by
  have hDc : va_D A wC := hD.sub isC hnd hC
  have hPc : va_P D vwCl wC H := by
    intro k x hk
    have h1 : (isC.map (fun i => w[i]?))[k]? = some (some x) := by rw [hC, List.getElem?_map, hk]; rfl
    rw [List.getElem?_map] at h1
    cases hi : isC[k]? with
    | none => rw [hi] at h1; cases h1
    | some i => rw [hi] at h1; exact hP i x (Option.some.inj h1)
  exact ⟨kt_blind, fun U hU hW => ⟨rfl, by rw [hU], by rw [hU]; exact hPc, va_K.moved hW.alike hK, hDc.weaken (fun _ _ _ _ => trivial)⟩⟩
theorem kt_calli {r : Int32} (S : CallFix p m c cc nL s args Ts own) (hM : Met l y ws rm (va_Pc (.ref b :: As) (PRE D tys wC H.size)) (va_Qi (fun (r' : Int32) (_ : Unit) => r' = r) (fun _ t => ATW D tys (va_A wC H.size) wC' t) (va_A wC H.size)) 0 0 (va_A wC H.size)) (cw : CallW R s args own C index y bytes maxL ret ws rm 0 0 n)
    (hK : va_K D vwCl tys s) (hP : va_P D vwCl w H) (hD : va_D A w) (hS : va_S A H0 H locs) (hA : ∀ q, H0.size ≤ q → A q) (isC isR : List Nat) (hC : isC.map (fun i => w[i]?) = wC.map some) (hR : isR.map (fun i => w[i]?) = wR.map some) (hndC : va_nd isC = true) (hndR : va_nd isR = true) (hdis : ∀ i ∈ isR, i ∉ isC)
    (isP : List Nat) (hp1 : isP.map (fun i => (wR ++ wC')[i]?) = w'.map some) (hp2 : va_nd isP = true)
    (q0 ci : Nat) {q : vw_C} {fs : List Value} (hc : vwCl[ci]? = some q) (hq : q.1 = C) (he : w[q0]? = some (b, .inr (ci, fs))) {st : List Value} (hst : st = As.reverse ++ .ref b :: rest) (hn : As.length = n) (hsz : ls.size = nL) (hw : (rest.map fun v => v.category).sum ≤ 8) (hdg : decode cc pc = .ok (.invokevirtual index, 3)) (hcs : cells ≤ R.cells ∧ slots ≤ R.slots)
    (kk : ∀ (H1 : Heap) (locs1 : List Loc), va_P D vwCl w' H1 → va_D A w' → va_S A H0 H1 locs1 → W p l e R s m args below meth c H1 locs1 cells slots Q (F0 m (pc + 3) ls (.int r :: rest))) : W p l e R s m args below meth c H locs cells slots Q (F0 m pc ls st) := by
  subst hst
  have hF := va_free (wc := wC) hD hS hA isC hC
  refine va_calli (va_runV (rest := rest) S hM cw (kt_preV hK hP hD isC hC hndC hc hq he) rfl hn hsz rfl (lv_room hw) hdg ⟨by omega, by omega⟩) hS (fun q _ h => hF q h) hF (fun r' u t H1 locs1 ht hvm hpost hB hz hk hS1 => ?_)
  subst hpost
  obtain ⟨hP1, hK1, hD1⟩ := hB
  rw [ht] at hP1
  obtain ⟨hP2, hD2⟩ := va_join hP hD isC isR hC hR hndR hdis hk hF hP1 hD1
  exact kk H1 locs1 (kt_sub hP2 isP hp1) (hD2.sub isP hp2 hp1) hS1
theorem kt_callSi {r : Int32} (S : CallFix p m c cc nL s args Ts own) (hM : Met l y ws rm (va_Pc As (PRE D tys wC H.size)) (va_Qi (fun (r' : Int32) (_ : Unit) => r' = r) (fun _ t => ATW D tys (va_A wC H.size) wC' t) (va_A wC H.size)) 0 0 (va_A wC H.size)) (cw : CallB R s args own index y bytes maxL ret ws rm 0 0 n ∧ (Cond.static y).before args s = true)
    (hK : va_K D vwCl tys s) (hP : va_P D vwCl w H) (hD : va_D A w) (hS : va_S A H0 H locs) (hA : ∀ q, H0.size ≤ q → A q) (isC isR : List Nat) (hC : isC.map (fun i => w[i]?) = wC.map some) (hR : isR.map (fun i => w[i]?) = wR.map some) (hndC : va_nd isC = true) (hndR : va_nd isR = true) (hdis : ∀ i ∈ isR, i ∉ isC)
    (isP : List Nat) (hp1 : isP.map (fun i => (wR ++ wC')[i]?) = w'.map some) (hp2 : va_nd isP = true)
    {st : List Value} (hst : st = As.reverse ++ rest) (hn : As.length = n) (hsz : ls.size = nL) (hw : (rest.map fun v => v.category).sum ≤ 8) (hdg : decode cc pc = .ok (.invokestatic index, 3)) (hcs : cells ≤ R.cells ∧ slots ≤ R.slots)
    (kk : ∀ (H1 : Heap) (locs1 : List Loc), va_P D vwCl w' H1 → va_D A w' → va_S A H0 H1 locs1 → W p l e R s m args below meth c H1 locs1 cells slots Q (F0 m (pc + 3) ls (.int r :: rest))) : W p l e R s m args below meth c H locs cells slots Q (F0 m pc ls st) := by
  subst hst
  have hF := va_free (wc := wC) hD hS hA isC hC
  refine va_calli (va_runS (rest := rest) S hM cw (kt_preS hK hP hD isC hC hndC) rfl hn hsz rfl (lv_room hw) hdg ⟨by omega, by omega⟩) hS (fun q _ h => hF q h) hF (fun r' u t H1 locs1 ht hvm hpost hB hz hk hS1 => ?_)
  subst hpost
  obtain ⟨hP1, hK1, hD1⟩ := hB
  rw [ht] at hP1
  obtain ⟨hP2, hD2⟩ := va_join hP hD isC isR hC hR hndR hdis hk hF hP1 hD1
  exact kk H1 locs1 (kt_sub hP2 isP hp1) (hD2.sub isP hp2 hp1) hS1
theorem kt_calll {r : Int64} (S : CallFix p m c cc nL s args Ts own) (hM : Met l y ws rm (va_Pc (.ref b :: As) (PRE D tys wC H.size)) (va_Ql (fun (r' : Int64) (_ : Unit) => r' = r) (fun _ t => ATW D tys (va_A wC H.size) wC' t) (va_A wC H.size)) 0 0 (va_A wC H.size)) (cw : CallW R s args own C index y bytes maxL ret ws rm 0 0 n)
    (hK : va_K D vwCl tys s) (hP : va_P D vwCl w H) (hD : va_D A w) (hS : va_S A H0 H locs) (hA : ∀ q, H0.size ≤ q → A q) (isC isR : List Nat) (hC : isC.map (fun i => w[i]?) = wC.map some) (hR : isR.map (fun i => w[i]?) = wR.map some) (hndC : va_nd isC = true) (hndR : va_nd isR = true) (hdis : ∀ i ∈ isR, i ∉ isC)
    (isP : List Nat) (hp1 : isP.map (fun i => (wR ++ wC')[i]?) = w'.map some) (hp2 : va_nd isP = true)
    (q0 ci : Nat) {q : vw_C} {fs : List Value} (hc : vwCl[ci]? = some q) (hq : q.1 = C) (he : w[q0]? = some (b, .inr (ci, fs))) {st : List Value} (hst : st = As.reverse ++ .ref b :: rest) (hn : As.length = n) (hsz : ls.size = nL) (hw : (rest.map fun v => v.category).sum ≤ 8) (hdg : decode cc pc = .ok (.invokevirtual index, 3)) (hcs : cells ≤ R.cells ∧ slots ≤ R.slots)
    (kk : ∀ (H1 : Heap) (locs1 : List Loc), va_P D vwCl w' H1 → va_D A w' → va_S A H0 H1 locs1 → W p l e R s m args below meth c H1 locs1 cells slots Q (F0 m (pc + 3) ls (.long r :: rest))) : W p l e R s m args below meth c H locs cells slots Q (F0 m pc ls st) := by
  subst hst
  have hF := va_free (wc := wC) hD hS hA isC hC
  refine va_calll (va_runV (rest := rest) S hM cw (kt_preV hK hP hD isC hC hndC hc hq he) rfl hn hsz rfl (lv_room hw) hdg ⟨by omega, by omega⟩) hS (fun q _ h => hF q h) hF (fun r' u t H1 locs1 ht hvm hpost hB hz hk hS1 => ?_)
  subst hpost
  obtain ⟨hP1, hK1, hD1⟩ := hB
  rw [ht] at hP1
  obtain ⟨hP2, hD2⟩ := va_join hP hD isC isR hC hR hndR hdis hk hF hP1 hD1
  exact kk H1 locs1 (kt_sub hP2 isP hp1) (hD2.sub isP hp2 hp1) hS1
theorem kt_callSl {r : Int64} (S : CallFix p m c cc nL s args Ts own) (hM : Met l y ws rm (va_Pc As (PRE D tys wC H.size)) (va_Ql (fun (r' : Int64) (_ : Unit) => r' = r) (fun _ t => ATW D tys (va_A wC H.size) wC' t) (va_A wC H.size)) 0 0 (va_A wC H.size)) (cw : CallB R s args own index y bytes maxL ret ws rm 0 0 n ∧ (Cond.static y).before args s = true)
    (hK : va_K D vwCl tys s) (hP : va_P D vwCl w H) (hD : va_D A w) (hS : va_S A H0 H locs) (hA : ∀ q, H0.size ≤ q → A q) (isC isR : List Nat) (hC : isC.map (fun i => w[i]?) = wC.map some) (hR : isR.map (fun i => w[i]?) = wR.map some) (hndC : va_nd isC = true) (hndR : va_nd isR = true) (hdis : ∀ i ∈ isR, i ∉ isC)
    (isP : List Nat) (hp1 : isP.map (fun i => (wR ++ wC')[i]?) = w'.map some) (hp2 : va_nd isP = true)
    {st : List Value} (hst : st = As.reverse ++ rest) (hn : As.length = n) (hsz : ls.size = nL) (hw : (rest.map fun v => v.category).sum ≤ 8) (hdg : decode cc pc = .ok (.invokestatic index, 3)) (hcs : cells ≤ R.cells ∧ slots ≤ R.slots)
    (kk : ∀ (H1 : Heap) (locs1 : List Loc), va_P D vwCl w' H1 → va_D A w' → va_S A H0 H1 locs1 → W p l e R s m args below meth c H1 locs1 cells slots Q (F0 m (pc + 3) ls (.long r :: rest))) : W p l e R s m args below meth c H locs cells slots Q (F0 m pc ls st) := by
  subst hst
  have hF := va_free (wc := wC) hD hS hA isC hC
  refine va_calll (va_runS (rest := rest) S hM cw (kt_preS hK hP hD isC hC hndC) rfl hn hsz rfl (lv_room hw) hdg ⟨by omega, by omega⟩) hS (fun q _ h => hF q h) hF (fun r' u t H1 locs1 ht hvm hpost hB hz hk hS1 => ?_)
  subst hpost
  obtain ⟨hP1, hK1, hD1⟩ := hB
  rw [ht] at hP1
  obtain ⟨hP2, hD2⟩ := va_join hP hD isC isR hC hR hndR hdis hk hF hP1 hD1
  exact kk H1 locs1 (kt_sub hP2 isP hp1) (hD2.sub isP hp2 hp1) hS1
theorem kt_callv (S : CallFix p m c cc nL s args Ts own) (hM : Met l y ws rm (va_Pc (.ref b :: As) (PRE D tys wC H.size)) (va_Qv (fun (_ : Unit) => True) (fun _ t => ATW D tys (va_A wC H.size) wC' t) (va_A wC H.size)) 0 0 (va_A wC H.size)) (cw : CallW R s args own C index y bytes maxL ret ws rm 0 0 n)
    (hK : va_K D vwCl tys s) (hP : va_P D vwCl w H) (hD : va_D A w) (hS : va_S A H0 H locs) (hA : ∀ q, H0.size ≤ q → A q) (isC isR : List Nat) (hC : isC.map (fun i => w[i]?) = wC.map some) (hR : isR.map (fun i => w[i]?) = wR.map some) (hndC : va_nd isC = true) (hndR : va_nd isR = true) (hdis : ∀ i ∈ isR, i ∉ isC)
    (isP : List Nat) (hp1 : isP.map (fun i => (wR ++ wC')[i]?) = w'.map some) (hp2 : va_nd isP = true)
    (q0 ci : Nat) {q : vw_C} {fs : List Value} (hc : vwCl[ci]? = some q) (hq : q.1 = C) (he : w[q0]? = some (b, .inr (ci, fs))) {st : List Value} (hst : st = As.reverse ++ .ref b :: rest) (hn : As.length = n) (hsz : ls.size = nL) (hw : (rest.map fun v => v.category).sum ≤ 8) (hdg : decode cc pc = .ok (.invokevirtual index, 3)) (hcs : cells ≤ R.cells ∧ slots ≤ R.slots)
    (kk : ∀ (H1 : Heap) (locs1 : List Loc), va_P D vwCl w' H1 → va_D A w' → va_S A H0 H1 locs1 → W p l e R s m args below meth c H1 locs1 cells slots Q (F0 m (pc + 3) ls (rest))) : W p l e R s m args below meth c H locs cells slots Q (F0 m pc ls st) := by
  subst hst
  have hF := va_free (wc := wC) hD hS hA isC hC
  refine va_callv (va_runV (rest := rest) S hM cw (kt_preV hK hP hD isC hC hndC hc hq he) rfl hn hsz rfl (lv_room hw) hdg ⟨by omega, by omega⟩) hS (fun q _ h => hF q h) hF (fun u t H1 locs1 ht hvm hpost hB hz hk hS1 => ?_)
  obtain ⟨hP1, hK1, hD1⟩ := hB
  rw [ht] at hP1
  obtain ⟨hP2, hD2⟩ := va_join hP hD isC isR hC hR hndR hdis hk hF hP1 hD1
  exact kk H1 locs1 (kt_sub hP2 isP hp1) (hD2.sub isP hp2 hp1) hS1
theorem kt_callSv (S : CallFix p m c cc nL s args Ts own) (hM : Met l y ws rm (va_Pc As (PRE D tys wC H.size)) (va_Qv (fun (_ : Unit) => True) (fun _ t => ATW D tys (va_A wC H.size) wC' t) (va_A wC H.size)) 0 0 (va_A wC H.size)) (cw : CallB R s args own index y bytes maxL ret ws rm 0 0 n ∧ (Cond.static y).before args s = true)
    (hK : va_K D vwCl tys s) (hP : va_P D vwCl w H) (hD : va_D A w) (hS : va_S A H0 H locs) (hA : ∀ q, H0.size ≤ q → A q) (isC isR : List Nat) (hC : isC.map (fun i => w[i]?) = wC.map some) (hR : isR.map (fun i => w[i]?) = wR.map some) (hndC : va_nd isC = true) (hndR : va_nd isR = true) (hdis : ∀ i ∈ isR, i ∉ isC)
    (isP : List Nat) (hp1 : isP.map (fun i => (wR ++ wC')[i]?) = w'.map some) (hp2 : va_nd isP = true)
    {st : List Value} (hst : st = As.reverse ++ rest) (hn : As.length = n) (hsz : ls.size = nL) (hw : (rest.map fun v => v.category).sum ≤ 8) (hdg : decode cc pc = .ok (.invokestatic index, 3)) (hcs : cells ≤ R.cells ∧ slots ≤ R.slots)
    (kk : ∀ (H1 : Heap) (locs1 : List Loc), va_P D vwCl w' H1 → va_D A w' → va_S A H0 H1 locs1 → W p l e R s m args below meth c H1 locs1 cells slots Q (F0 m (pc + 3) ls (rest))) : W p l e R s m args below meth c H locs cells slots Q (F0 m pc ls st) := by
  subst hst
  have hF := va_free (wc := wC) hD hS hA isC hC
  refine va_callv (va_runS (rest := rest) S hM cw (kt_preS hK hP hD isC hC hndC) rfl hn hsz rfl (lv_room hw) hdg ⟨by omega, by omega⟩) hS (fun q _ h => hF q h) hF (fun u t H1 locs1 ht hvm hpost hB hz hk hS1 => ?_)
  obtain ⟨hP1, hK1, hD1⟩ := hB
  rw [ht] at hP1
  obtain ⟨hP2, hD2⟩ := va_join hP hD isC isR hC hR hndR hdis hk hF hP1 hD1
  exact kk H1 locs1 (kt_sub hP2 isP hp1) (hD2.sub isP hp2 hp1) hS1
theorem kt_callIv (S : CallFix p m c cc nL s args Ts own) (hM : Met l y ws rm (va_Pc (.ref b :: As) (PRE D tys wC H.size)) (va_Qv (fun (_ : Unit) => True) (fun _ t => ATW D tys (va_A wC H.size) wC' t) (va_A wC H.size)) 0 0 (va_A wC H.size)) (cw : CallB R s args own index y bytes maxL none ws rm 0 0 n ∧ y.name = "<init>" ∧ (Cond.instanceMethod y).before args s = true)
    (hK : va_K D vwCl tys s) (hP : va_P D vwCl w H) (hD : va_D A w) (hS : va_S A H0 H locs) (hA : ∀ q, H0.size ≤ q → A q) (isC isR : List Nat) (hC : isC.map (fun i => w[i]?) = wC.map some) (hR : isR.map (fun i => w[i]?) = wR.map some) (hndC : va_nd isC = true) (hndR : va_nd isR = true) (hdis : ∀ i ∈ isR, i ∉ isC)
    (isP : List Nat) (hp1 : isP.map (fun i => (wR ++ wC')[i]?) = w'.map some) (hp2 : va_nd isP = true)
    {st : List Value} (hst : st = As.reverse ++ .ref b :: rest) (hn : As.length = n) (hsz : ls.size = nL) (hw : (rest.map fun v => v.category).sum ≤ 8) (hdg : decode cc pc = .ok (.invokespecial index, 3)) (hcs : cells ≤ R.cells ∧ slots ≤ R.slots)
    (kk : ∀ (H1 : Heap) (locs1 : List Loc), va_P D vwCl w' H1 → va_D A w' → va_S A H0 H1 locs1 → W p l e R s m args below meth c H1 locs1 cells slots Q (F0 m (pc + 3) ls (rest))) : W p l e R s m args below meth c H locs cells slots Q (F0 m pc ls st) := by
  subst hst
  have hF := va_free (wc := wC) hD hS hA isC hC
  refine va_callv (va_runI (rest := rest) S hM cw (kt_preS hK hP hD isC hC hndC) rfl hn hsz rfl (lv_room hw) hdg ⟨by omega, by omega⟩) hS (fun q _ h => hF q h) hF (fun u t H1 locs1 ht hvm hpost hB hz hk hS1 => ?_)
  obtain ⟨hP1, hK1, hD1⟩ := hB
  rw [ht] at hP1
  obtain ⟨hP2, hD2⟩ := va_join hP hD isC isR hC hR hndR hdis hk hF hP1 hD1
  exact kk H1 locs1 (kt_sub hP2 isP hp1) (hD2.sub isP hp2 hp1) hS1
end KTC
end
section
/-! the worlds: lists of cells (printed by wip/gen/worlds.py) -/
abbrev kX0 : Nat := 2
abbrev kX1 : Nat := 3
abbrev kX2 : Nat := 4
abbrev kX3 : Nat := 5
abbrev kX4 : Nat := 6
abbrev tyL (cI cII cJ cJJ : ClassId) : List (ClassId × FieldType) := [(cI, .int), (cII, .array .int), (cJ, .long), (cJJ, .array .long)]
def updR {α : Type} (E : Nat → Nat → α) (j : Nat) (r : Nat → α) : Nat → Nat → α := fun i => if i = j then r else E i
abbrev wA (cI : ClassId) (a : Nat) (F : Nat → Int32) : va_W := [(a, .inl (cI, 6, .inl F))]
abbrev wE  : va_W := []
abbrev wM (cI : ClassId) (cII : ClassId) (mo : Nat) (eo : Nat) (dg : Nat) (to : Nat) (er : Nat → Nat) (n : Nat) (E : Nat → Nat → Int32) (DG : Nat → Int32) : va_W := [(mo, .inr (kX2, [.int (nI n), .ref eo, .ref dg, .ref to])), (eo, .inl (cII, 7, .inr (.inr (.inr (.inr (rowF 7 er)))))), (er 0, .inl (cI, 7, .inl (E 0))), (er 1, .inl (cI, 7, .inl (E 1))), (er 2, .inl (cI, 7, .inl (E 2))), (er 3, .inl (cI, 7, .inl (E 3))), (er 4, .inl (cI, 7, .inl (E 4))), (er 5, .inl (cI, 7, .inl (E 5))), (er 6, .inl (cI, 7, .inl (E 6))), (dg, .inl (cI, 7, .inl DG))]
theorem row_wM_er {cI : ClassId} {cII : ClassId} {mo : Nat} {eo : Nat} {dg : Nat} {to : Nat} {er : Nat → Nat} {n : Nat} {E : Nat → Nat → Int32} {DG : Nat → Int32} {j : Nat} (hj : j < 7) : (wM cI cII mo eo dg to er n E DG)[2 + j]? = some (er j, .inl (cI, 7, .inl (E j))) := by
  match j, hj with
  | 0, _ => rfl
  | 1, _ => rfl
  | 2, _ => rfl
  | 3, _ => rfl
  | 4, _ => rfl
  | 5, _ => rfl
  | 6, _ => rfl
theorem set_wM_er {cI : ClassId} {cII : ClassId} {mo : Nat} {eo : Nat} {dg : Nat} {to : Nat} {er : Nat → Nat} {n : Nat} {E : Nat → Nat → Int32} {DG : Nat → Int32} {F : Nat → Int32} {j : Nat} (hj : j < 7) : (wM cI cII mo eo dg to er n E DG).set (2 + j) (er j, .inl (cI, 7, .inl F)) = wM cI cII mo eo dg to er n (updR E j F) DG := by
  match j, hj with
  | 0, _ => rfl
  | 1, _ => rfl
  | 2, _ => rfl
  | 3, _ => rfl
  | 4, _ => rfl
  | 5, _ => rfl
  | 6, _ => rfl
abbrev wMT (cJ : ClassId) (cJJ : ClassId) (cI : ClassId) (cII : ClassId) (mo : Nat) (eo : Nat) (dg : Nat) (to : Nat) (er : Nat → Nat) (n : Nat) (E : Nat → Nat → Int32) (DG : Nat → Int32) (tr : Nat → Nat) (T : Nat → Nat → Int64) : va_W := [(mo, .inr (kX2, [.int (nI n), .ref eo, .ref dg, .ref to])), (eo, .inl (cII, 7, .inr (.inr (.inr (.inr (rowF 7 er)))))), (er 0, .inl (cI, 7, .inl (E 0))), (er 1, .inl (cI, 7, .inl (E 1))), (er 2, .inl (cI, 7, .inl (E 2))), (er 3, .inl (cI, 7, .inl (E 3))), (er 4, .inl (cI, 7, .inl (E 4))), (er 5, .inl (cI, 7, .inl (E 5))), (er 6, .inl (cI, 7, .inl (E 6))), (dg, .inl (cI, 7, .inl DG)), (to, .inl (cJJ, 6, .inr (.inr (.inr (.inr (rowF 6 tr)))))), (tr 0, .inl (cJ, 6, .inr (.inl (T 0)))), (tr 1, .inl (cJ, 6, .inr (.inl (T 1)))), (tr 2, .inl (cJ, 6, .inr (.inl (T 2)))), (tr 3, .inl (cJ, 6, .inr (.inl (T 3)))), (tr 4, .inl (cJ, 6, .inr (.inl (T 4)))), (tr 5, .inl (cJ, 6, .inr (.inl (T 5))))]
theorem row_wMT_er {cJ : ClassId} {cJJ : ClassId} {cI : ClassId} {cII : ClassId} {mo : Nat} {eo : Nat} {dg : Nat} {to : Nat} {er : Nat → Nat} {n : Nat} {E : Nat → Nat → Int32} {DG : Nat → Int32} {tr : Nat → Nat} {T : Nat → Nat → Int64} {j : Nat} (hj : j < 7) : (wMT cJ cJJ cI cII mo eo dg to er n E DG tr T)[2 + j]? = some (er j, .inl (cI, 7, .inl (E j))) := by
  match j, hj with
  | 0, _ => rfl
  | 1, _ => rfl
  | 2, _ => rfl
  | 3, _ => rfl
  | 4, _ => rfl
  | 5, _ => rfl
  | 6, _ => rfl
theorem set_wMT_er {cJ : ClassId} {cJJ : ClassId} {cI : ClassId} {cII : ClassId} {mo : Nat} {eo : Nat} {dg : Nat} {to : Nat} {er : Nat → Nat} {n : Nat} {E : Nat → Nat → Int32} {DG : Nat → Int32} {tr : Nat → Nat} {T : Nat → Nat → Int64} {F : Nat → Int32} {j : Nat} (hj : j < 7) : (wMT cJ cJJ cI cII mo eo dg to er n E DG tr T).set (2 + j) (er j, .inl (cI, 7, .inl F)) = wMT cJ cJJ cI cII mo eo dg to er n (updR E j F) DG tr T := by
  match j, hj with
  | 0, _ => rfl
  | 1, _ => rfl
  | 2, _ => rfl
  | 3, _ => rfl
  | 4, _ => rfl
  | 5, _ => rfl
  | 6, _ => rfl
theorem row_wMT_tr {cJ : ClassId} {cJJ : ClassId} {cI : ClassId} {cII : ClassId} {mo : Nat} {eo : Nat} {dg : Nat} {to : Nat} {er : Nat → Nat} {n : Nat} {E : Nat → Nat → Int32} {DG : Nat → Int32} {tr : Nat → Nat} {T : Nat → Nat → Int64} {j : Nat} (hj : j < 6) : (wMT cJ cJJ cI cII mo eo dg to er n E DG tr T)[11 + j]? = some (tr j, .inl (cJ, 6, .inr (.inl (T j)))) := by
  match j, hj with
  | 0, _ => rfl
  | 1, _ => rfl
  | 2, _ => rfl
  | 3, _ => rfl
  | 4, _ => rfl
  | 5, _ => rfl
theorem set_wMT_tr {cJ : ClassId} {cJJ : ClassId} {cI : ClassId} {cII : ClassId} {mo : Nat} {eo : Nat} {dg : Nat} {to : Nat} {er : Nat → Nat} {n : Nat} {E : Nat → Nat → Int32} {DG : Nat → Int32} {tr : Nat → Nat} {T : Nat → Nat → Int64} {F : Nat → Int64} {j : Nat} (hj : j < 6) : (wMT cJ cJJ cI cII mo eo dg to er n E DG tr T).set (11 + j) (tr j, .inl (cJ, 6, .inr (.inl F))) = wMT cJ cJJ cI cII mo eo dg to er n E DG tr (updR T j F) := by
  match j, hj with
  | 0, _ => rfl
  | 1, _ => rfl
  | 2, _ => rfl
  | 3, _ => rfl
  | 4, _ => rfl
  | 5, _ => rfl
abbrev wHM (h : Nat) (g : Nat) (t : Nat) (G : Nat → Int32) (T : Nat → Int32) (cI : ClassId) (cII : ClassId) (mo : Nat) (eo : Nat) (dg : Nat) (to : Nat) (er : Nat → Nat) (n : Nat) (E : Nat → Nat → Int32) (DG : Nat → Int32) : va_W := [(h, .inr (kX0, [.ref g, .ref t, .ref mo])), (g, .inl (cI, 6, .inl G)), (t, .inl (cI, 6, .inl T)), (mo, .inr (kX2, [.int (nI n), .ref eo, .ref dg, .ref to])), (eo, .inl (cII, 7, .inr (.inr (.inr (.inr (rowF 7 er)))))), (er 0, .inl (cI, 7, .inl (E 0))), (er 1, .inl (cI, 7, .inl (E 1))), (er 2, .inl (cI, 7, .inl (E 2))), (er 3, .inl (cI, 7, .inl (E 3))), (er 4, .inl (cI, 7, .inl (E 4))), (er 5, .inl (cI, 7, .inl (E 5))), (er 6, .inl (cI, 7, .inl (E 6))), (dg, .inl (cI, 7, .inl DG))]
theorem row_wHM_er {h : Nat} {g : Nat} {t : Nat} {G : Nat → Int32} {T : Nat → Int32} {cI : ClassId} {cII : ClassId} {mo : Nat} {eo : Nat} {dg : Nat} {to : Nat} {er : Nat → Nat} {n : Nat} {E : Nat → Nat → Int32} {DG : Nat → Int32} {j : Nat} (hj : j < 7) : (wHM h g t G T cI cII mo eo dg to er n E DG)[5 + j]? = some (er j, .inl (cI, 7, .inl (E j))) := by
  match j, hj with
  | 0, _ => rfl
  | 1, _ => rfl
  | 2, _ => rfl
  | 3, _ => rfl
  | 4, _ => rfl
  | 5, _ => rfl
  | 6, _ => rfl
theorem set_wHM_er {h : Nat} {g : Nat} {t : Nat} {G : Nat → Int32} {T : Nat → Int32} {cI : ClassId} {cII : ClassId} {mo : Nat} {eo : Nat} {dg : Nat} {to : Nat} {er : Nat → Nat} {n : Nat} {E : Nat → Nat → Int32} {DG : Nat → Int32} {F : Nat → Int32} {j : Nat} (hj : j < 7) : (wHM h g t G T cI cII mo eo dg to er n E DG).set (5 + j) (er j, .inl (cI, 7, .inl F)) = wHM h g t G T cI cII mo eo dg to er n (updR E j F) DG := by
  match j, hj with
  | 0, _ => rfl
  | 1, _ => rfl
  | 2, _ => rfl
  | 3, _ => rfl
  | 4, _ => rfl
  | 5, _ => rfl
  | 6, _ => rfl
abbrev wHMr (h : Nat) (g : Nat) (t : Nat) (G : Nat → Int32) (T : Nat → Int32) (ro : Nat) (RO : Nat → Int32) (cI : ClassId) (cII : ClassId) (mo : Nat) (eo : Nat) (dg : Nat) (to : Nat) (er : Nat → Nat) (n : Nat) (E : Nat → Nat → Int32) (DG : Nat → Int32) : va_W := [(h, .inr (kX0, [.ref g, .ref t, .ref mo])), (g, .inl (cI, 6, .inl G)), (t, .inl (cI, 6, .inl T)), (ro, .inl (cI, 6, .inl RO)), (mo, .inr (kX2, [.int (nI n), .ref eo, .ref dg, .ref to])), (eo, .inl (cII, 7, .inr (.inr (.inr (.inr (rowF 7 er)))))), (er 0, .inl (cI, 7, .inl (E 0))), (er 1, .inl (cI, 7, .inl (E 1))), (er 2, .inl (cI, 7, .inl (E 2))), (er 3, .inl (cI, 7, .inl (E 3))), (er 4, .inl (cI, 7, .inl (E 4))), (er 5, .inl (cI, 7, .inl (E 5))), (er 6, .inl (cI, 7, .inl (E 6))), (dg, .inl (cI, 7, .inl DG))]
theorem row_wHMr_er {h : Nat} {g : Nat} {t : Nat} {G : Nat → Int32} {T : Nat → Int32} {ro : Nat} {RO : Nat → Int32} {cI : ClassId} {cII : ClassId} {mo : Nat} {eo : Nat} {dg : Nat} {to : Nat} {er : Nat → Nat} {n : Nat} {E : Nat → Nat → Int32} {DG : Nat → Int32} {j : Nat} (hj : j < 7) : (wHMr h g t G T ro RO cI cII mo eo dg to er n E DG)[6 + j]? = some (er j, .inl (cI, 7, .inl (E j))) := by
  match j, hj with
  | 0, _ => rfl
  | 1, _ => rfl
  | 2, _ => rfl
  | 3, _ => rfl
  | 4, _ => rfl
  | 5, _ => rfl
  | 6, _ => rfl
theorem set_wHMr_er {h : Nat} {g : Nat} {t : Nat} {G : Nat → Int32} {T : Nat → Int32} {ro : Nat} {RO : Nat → Int32} {cI : ClassId} {cII : ClassId} {mo : Nat} {eo : Nat} {dg : Nat} {to : Nat} {er : Nat → Nat} {n : Nat} {E : Nat → Nat → Int32} {DG : Nat → Int32} {F : Nat → Int32} {j : Nat} (hj : j < 7) : (wHMr h g t G T ro RO cI cII mo eo dg to er n E DG).set (6 + j) (er j, .inl (cI, 7, .inl F)) = wHMr h g t G T ro RO cI cII mo eo dg to er n (updR E j F) DG := by
  match j, hj with
  | 0, _ => rfl
  | 1, _ => rfl
  | 2, _ => rfl
  | 3, _ => rfl
  | 4, _ => rfl
  | 5, _ => rfl
  | 6, _ => rfl
abbrev wRM (rt : Nat) (pl : Nat) (P : Nat → Int32) (st : Int32) (cI : ClassId) (cII : ClassId) (mo : Nat) (eo : Nat) (dg : Nat) (to : Nat) (er : Nat → Nat) (n : Nat) (E : Nat → Nat → Int32) (DG : Nat → Int32) : va_W := [(rt, .inr (kX3, [.ref pl, .int st, .ref mo])), (pl, .inl (cI, 6, .inl P)), (mo, .inr (kX2, [.int (nI n), .ref eo, .ref dg, .ref to])), (eo, .inl (cII, 7, .inr (.inr (.inr (.inr (rowF 7 er)))))), (er 0, .inl (cI, 7, .inl (E 0))), (er 1, .inl (cI, 7, .inl (E 1))), (er 2, .inl (cI, 7, .inl (E 2))), (er 3, .inl (cI, 7, .inl (E 3))), (er 4, .inl (cI, 7, .inl (E 4))), (er 5, .inl (cI, 7, .inl (E 5))), (er 6, .inl (cI, 7, .inl (E 6))), (dg, .inl (cI, 7, .inl DG))]
theorem row_wRM_er {rt : Nat} {pl : Nat} {P : Nat → Int32} {st : Int32} {cI : ClassId} {cII : ClassId} {mo : Nat} {eo : Nat} {dg : Nat} {to : Nat} {er : Nat → Nat} {n : Nat} {E : Nat → Nat → Int32} {DG : Nat → Int32} {j : Nat} (hj : j < 7) : (wRM rt pl P st cI cII mo eo dg to er n E DG)[4 + j]? = some (er j, .inl (cI, 7, .inl (E j))) := by
  match j, hj with
  | 0, _ => rfl
  | 1, _ => rfl
  | 2, _ => rfl
  | 3, _ => rfl
  | 4, _ => rfl
  | 5, _ => rfl
  | 6, _ => rfl
theorem set_wRM_er {rt : Nat} {pl : Nat} {P : Nat → Int32} {st : Int32} {cI : ClassId} {cII : ClassId} {mo : Nat} {eo : Nat} {dg : Nat} {to : Nat} {er : Nat → Nat} {n : Nat} {E : Nat → Nat → Int32} {DG : Nat → Int32} {F : Nat → Int32} {j : Nat} (hj : j < 7) : (wRM rt pl P st cI cII mo eo dg to er n E DG).set (4 + j) (er j, .inl (cI, 7, .inl F)) = wRM rt pl P st cI cII mo eo dg to er n (updR E j F) DG := by
  match j, hj with
  | 0, _ => rfl
  | 1, _ => rfl
  | 2, _ => rfl
  | 3, _ => rfl
  | 4, _ => rfl
  | 5, _ => rfl
  | 6, _ => rfl
abbrev wYM (my : Nat) (co : Nat) (C : Nat → Int32) (la : Nat) (lag : Nat) (lat : Nat) (LG : Nat → Int32) (LT : Nat → Int32) (po : Nat) (pog : Nat) (pot : Nat) (OG : Nat → Int32) (OT : Nat → Int32) (cI : ClassId) (cII : ClassId) (mo : Nat) (eo : Nat) (dg : Nat) (to : Nat) (er : Nat → Nat) (n : Nat) (E : Nat → Nat → Int32) (DG : Nat → Int32) : va_W := [(my, .inr (kX1, [.ref co, .ref mo, .ref la, .ref po])), (co, .inl (cI, 7, .inl C)), (la, .inr (kX0, [.ref lag, .ref lat, .ref mo])), (lag, .inl (cI, 6, .inl LG)), (lat, .inl (cI, 6, .inl LT)), (po, .inr (kX0, [.ref pog, .ref pot, .ref mo])), (pog, .inl (cI, 6, .inl OG)), (pot, .inl (cI, 6, .inl OT)), (mo, .inr (kX2, [.int (nI n), .ref eo, .ref dg, .ref to])), (eo, .inl (cII, 7, .inr (.inr (.inr (.inr (rowF 7 er)))))), (er 0, .inl (cI, 7, .inl (E 0))), (er 1, .inl (cI, 7, .inl (E 1))), (er 2, .inl (cI, 7, .inl (E 2))), (er 3, .inl (cI, 7, .inl (E 3))), (er 4, .inl (cI, 7, .inl (E 4))), (er 5, .inl (cI, 7, .inl (E 5))), (er 6, .inl (cI, 7, .inl (E 6))), (dg, .inl (cI, 7, .inl DG))]
theorem row_wYM_er {my : Nat} {co : Nat} {C : Nat → Int32} {la : Nat} {lag : Nat} {lat : Nat} {LG : Nat → Int32} {LT : Nat → Int32} {po : Nat} {pog : Nat} {pot : Nat} {OG : Nat → Int32} {OT : Nat → Int32} {cI : ClassId} {cII : ClassId} {mo : Nat} {eo : Nat} {dg : Nat} {to : Nat} {er : Nat → Nat} {n : Nat} {E : Nat → Nat → Int32} {DG : Nat → Int32} {j : Nat} (hj : j < 7) : (wYM my co C la lag lat LG LT po pog pot OG OT cI cII mo eo dg to er n E DG)[10 + j]? = some (er j, .inl (cI, 7, .inl (E j))) := by
  match j, hj with
  | 0, _ => rfl
  | 1, _ => rfl
  | 2, _ => rfl
  | 3, _ => rfl
  | 4, _ => rfl
  | 5, _ => rfl
  | 6, _ => rfl
theorem set_wYM_er {my : Nat} {co : Nat} {C : Nat → Int32} {la : Nat} {lag : Nat} {lat : Nat} {LG : Nat → Int32} {LT : Nat → Int32} {po : Nat} {pog : Nat} {pot : Nat} {OG : Nat → Int32} {OT : Nat → Int32} {cI : ClassId} {cII : ClassId} {mo : Nat} {eo : Nat} {dg : Nat} {to : Nat} {er : Nat → Nat} {n : Nat} {E : Nat → Nat → Int32} {DG : Nat → Int32} {F : Nat → Int32} {j : Nat} (hj : j < 7) : (wYM my co C la lag lat LG LT po pog pot OG OT cI cII mo eo dg to er n E DG).set (10 + j) (er j, .inl (cI, 7, .inl F)) = wYM my co C la lag lat LG LT po pog pot OG OT cI cII mo eo dg to er n (updR E j F) DG := by
  match j, hj with
  | 0, _ => rfl
  | 1, _ => rfl
  | 2, _ => rfl
  | 3, _ => rfl
  | 4, _ => rfl
  | 5, _ => rfl
  | 6, _ => rfl
abbrev wTop (tp : Nat) (ly : Nat) (lyg : Nat) (lyt : Nat) (LYG : Nat → Int32) (LYT : Nat → Int32) (tl : Nat) (tlg : Nat) (tlt : Nat) (TLG : Nat → Int32) (TLT : Nat → Int32) (ne : Nat) (neg : Nat) (net : Nat) (NEG : Nat → Int32) (NET : Nat → Int32) (su : Nat) (sug : Nat) (sut : Nat) (SUG : Nat → Int32) (SUT : Nat → Int32) (kp : Nat) (kr : Nat → Nat) (KH : Nat → Nat → Int32) (km : Nat) (sw : Int32) (tps : Int32) (rt : Nat) (pl : Nat) (P : Nat → Int32) (st : Int32) (my : Nat) (co : Nat) (C : Nat → Int32) (la : Nat) (lag : Nat) (lat : Nat) (LG : Nat → Int32) (LT : Nat → Int32) (po : Nat) (pog : Nat) (pot : Nat) (OG : Nat → Int32) (OT : Nat → Int32) (cJ : ClassId) (cJJ : ClassId) (cI : ClassId) (cII : ClassId) (mo : Nat) (eo : Nat) (dg : Nat) (to : Nat) (er : Nat → Nat) (n : Nat) (E : Nat → Nat → Int32) (DG : Nat → Int32) (tr : Nat → Nat) (T : Nat → Nat → Int64) : va_W := [(tp, .inr (kX4, [.ref mo, .ref ly, .ref tl, .ref ne, .ref su, .ref rt, .ref my, .ref kp, .int (nI km), .int sw, .int tps])), (ly, .inr (kX0, [.ref lyg, .ref lyt, .ref mo])), (lyg, .inl (cI, 6, .inl LYG)), (lyt, .inl (cI, 6, .inl LYT)), (tl, .inr (kX0, [.ref tlg, .ref tlt, .ref mo])), (tlg, .inl (cI, 6, .inl TLG)), (tlt, .inl (cI, 6, .inl TLT)), (ne, .inr (kX0, [.ref neg, .ref net, .ref mo])), (neg, .inl (cI, 6, .inl NEG)), (net, .inl (cI, 6, .inl NET)), (su, .inr (kX0, [.ref sug, .ref sut, .ref mo])), (sug, .inl (cI, 6, .inl SUG)), (sut, .inl (cI, 6, .inl SUT)), (kp, .inl (cII, 4, .inr (.inr (.inr (.inr (rowF 4 kr)))))), (kr 0, .inl (cI, 6, .inl (KH 0))), (kr 1, .inl (cI, 6, .inl (KH 1))), (kr 2, .inl (cI, 6, .inl (KH 2))), (kr 3, .inl (cI, 6, .inl (KH 3))), (rt, .inr (kX3, [.ref pl, .int st, .ref mo])), (pl, .inl (cI, 6, .inl P)), (my, .inr (kX1, [.ref co, .ref mo, .ref la, .ref po])), (co, .inl (cI, 7, .inl C)), (la, .inr (kX0, [.ref lag, .ref lat, .ref mo])), (lag, .inl (cI, 6, .inl LG)), (lat, .inl (cI, 6, .inl LT)), (po, .inr (kX0, [.ref pog, .ref pot, .ref mo])), (pog, .inl (cI, 6, .inl OG)), (pot, .inl (cI, 6, .inl OT)), (mo, .inr (kX2, [.int (nI n), .ref eo, .ref dg, .ref to])), (eo, .inl (cII, 7, .inr (.inr (.inr (.inr (rowF 7 er)))))), (er 0, .inl (cI, 7, .inl (E 0))), (er 1, .inl (cI, 7, .inl (E 1))), (er 2, .inl (cI, 7, .inl (E 2))), (er 3, .inl (cI, 7, .inl (E 3))), (er 4, .inl (cI, 7, .inl (E 4))), (er 5, .inl (cI, 7, .inl (E 5))), (er 6, .inl (cI, 7, .inl (E 6))), (dg, .inl (cI, 7, .inl DG)), (to, .inl (cJJ, 6, .inr (.inr (.inr (.inr (rowF 6 tr)))))), (tr 0, .inl (cJ, 6, .inr (.inl (T 0)))), (tr 1, .inl (cJ, 6, .inr (.inl (T 1)))), (tr 2, .inl (cJ, 6, .inr (.inl (T 2)))), (tr 3, .inl (cJ, 6, .inr (.inl (T 3)))), (tr 4, .inl (cJ, 6, .inr (.inl (T 4)))), (tr 5, .inl (cJ, 6, .inr (.inl (T 5))))]
theorem row_wTop_kr {tp : Nat} {ly : Nat} {lyg : Nat} {lyt : Nat} {LYG : Nat → Int32} {LYT : Nat → Int32} {tl : Nat} {tlg : Nat} {tlt : Nat} {TLG : Nat → Int32} {TLT : Nat → Int32} {ne : Nat} {neg : Nat} {net : Nat} {NEG : Nat → Int32} {NET : Nat → Int32} {su : Nat} {sug : Nat} {sut : Nat} {SUG : Nat → Int32} {SUT : Nat → Int32} {kp : Nat} {kr : Nat → Nat} {KH : Nat → Nat → Int32} {km : Nat} {sw : Int32} {tps : Int32} {rt : Nat} {pl : Nat} {P : Nat → Int32} {st : Int32} {my : Nat} {co : Nat} {C : Nat → Int32} {la : Nat} {lag : Nat} {lat : Nat} {LG : Nat → Int32} {LT : Nat → Int32} {po : Nat} {pog : Nat} {pot : Nat} {OG : Nat → Int32} {OT : Nat → Int32} {cJ : ClassId} {cJJ : ClassId} {cI : ClassId} {cII : ClassId} {mo : Nat} {eo : Nat} {dg : Nat} {to : Nat} {er : Nat → Nat} {n : Nat} {E : Nat → Nat → Int32} {DG : Nat → Int32} {tr : Nat → Nat} {T : Nat → Nat → Int64} {j : Nat} (hj : j < 4) : (wTop tp ly lyg lyt LYG LYT tl tlg tlt TLG TLT ne neg net NEG NET su sug sut SUG SUT kp kr KH km sw tps rt pl P st my co C la lag lat LG LT po pog pot OG OT cJ cJJ cI cII mo eo dg to er n E DG tr T)[14 + j]? = some (kr j, .inl (cI, 6, .inl (KH j))) := by
  match j, hj with
  | 0, _ => rfl
  | 1, _ => rfl
  | 2, _ => rfl
  | 3, _ => rfl
theorem set_wTop_kr {tp : Nat} {ly : Nat} {lyg : Nat} {lyt : Nat} {LYG : Nat → Int32} {LYT : Nat → Int32} {tl : Nat} {tlg : Nat} {tlt : Nat} {TLG : Nat → Int32} {TLT : Nat → Int32} {ne : Nat} {neg : Nat} {net : Nat} {NEG : Nat → Int32} {NET : Nat → Int32} {su : Nat} {sug : Nat} {sut : Nat} {SUG : Nat → Int32} {SUT : Nat → Int32} {kp : Nat} {kr : Nat → Nat} {KH : Nat → Nat → Int32} {km : Nat} {sw : Int32} {tps : Int32} {rt : Nat} {pl : Nat} {P : Nat → Int32} {st : Int32} {my : Nat} {co : Nat} {C : Nat → Int32} {la : Nat} {lag : Nat} {lat : Nat} {LG : Nat → Int32} {LT : Nat → Int32} {po : Nat} {pog : Nat} {pot : Nat} {OG : Nat → Int32} {OT : Nat → Int32} {cJ : ClassId} {cJJ : ClassId} {cI : ClassId} {cII : ClassId} {mo : Nat} {eo : Nat} {dg : Nat} {to : Nat} {er : Nat → Nat} {n : Nat} {E : Nat → Nat → Int32} {DG : Nat → Int32} {tr : Nat → Nat} {T : Nat → Nat → Int64} {F : Nat → Int32} {j : Nat} (hj : j < 4) : (wTop tp ly lyg lyt LYG LYT tl tlg tlt TLG TLT ne neg net NEG NET su sug sut SUG SUT kp kr KH km sw tps rt pl P st my co C la lag lat LG LT po pog pot OG OT cJ cJJ cI cII mo eo dg to er n E DG tr T).set (14 + j) (kr j, .inl (cI, 6, .inl F)) = wTop tp ly lyg lyt LYG LYT tl tlg tlt TLG TLT ne neg net NEG NET su sug sut SUG SUT kp kr (updR KH j F) km sw tps rt pl P st my co C la lag lat LG LT po pog pot OG OT cJ cJJ cI cII mo eo dg to er n E DG tr T := by
  match j, hj with
  | 0, _ => rfl
  | 1, _ => rfl
  | 2, _ => rfl
  | 3, _ => rfl
theorem row_wTop_er {tp : Nat} {ly : Nat} {lyg : Nat} {lyt : Nat} {LYG : Nat → Int32} {LYT : Nat → Int32} {tl : Nat} {tlg : Nat} {tlt : Nat} {TLG : Nat → Int32} {TLT : Nat → Int32} {ne : Nat} {neg : Nat} {net : Nat} {NEG : Nat → Int32} {NET : Nat → Int32} {su : Nat} {sug : Nat} {sut : Nat} {SUG : Nat → Int32} {SUT : Nat → Int32} {kp : Nat} {kr : Nat → Nat} {KH : Nat → Nat → Int32} {km : Nat} {sw : Int32} {tps : Int32} {rt : Nat} {pl : Nat} {P : Nat → Int32} {st : Int32} {my : Nat} {co : Nat} {C : Nat → Int32} {la : Nat} {lag : Nat} {lat : Nat} {LG : Nat → Int32} {LT : Nat → Int32} {po : Nat} {pog : Nat} {pot : Nat} {OG : Nat → Int32} {OT : Nat → Int32} {cJ : ClassId} {cJJ : ClassId} {cI : ClassId} {cII : ClassId} {mo : Nat} {eo : Nat} {dg : Nat} {to : Nat} {er : Nat → Nat} {n : Nat} {E : Nat → Nat → Int32} {DG : Nat → Int32} {tr : Nat → Nat} {T : Nat → Nat → Int64} {j : Nat} (hj : j < 7) : (wTop tp ly lyg lyt LYG LYT tl tlg tlt TLG TLT ne neg net NEG NET su sug sut SUG SUT kp kr KH km sw tps rt pl P st my co C la lag lat LG LT po pog pot OG OT cJ cJJ cI cII mo eo dg to er n E DG tr T)[30 + j]? = some (er j, .inl (cI, 7, .inl (E j))) := by
  match j, hj with
  | 0, _ => rfl
  | 1, _ => rfl
  | 2, _ => rfl
  | 3, _ => rfl
  | 4, _ => rfl
  | 5, _ => rfl
  | 6, _ => rfl
theorem set_wTop_er {tp : Nat} {ly : Nat} {lyg : Nat} {lyt : Nat} {LYG : Nat → Int32} {LYT : Nat → Int32} {tl : Nat} {tlg : Nat} {tlt : Nat} {TLG : Nat → Int32} {TLT : Nat → Int32} {ne : Nat} {neg : Nat} {net : Nat} {NEG : Nat → Int32} {NET : Nat → Int32} {su : Nat} {sug : Nat} {sut : Nat} {SUG : Nat → Int32} {SUT : Nat → Int32} {kp : Nat} {kr : Nat → Nat} {KH : Nat → Nat → Int32} {km : Nat} {sw : Int32} {tps : Int32} {rt : Nat} {pl : Nat} {P : Nat → Int32} {st : Int32} {my : Nat} {co : Nat} {C : Nat → Int32} {la : Nat} {lag : Nat} {lat : Nat} {LG : Nat → Int32} {LT : Nat → Int32} {po : Nat} {pog : Nat} {pot : Nat} {OG : Nat → Int32} {OT : Nat → Int32} {cJ : ClassId} {cJJ : ClassId} {cI : ClassId} {cII : ClassId} {mo : Nat} {eo : Nat} {dg : Nat} {to : Nat} {er : Nat → Nat} {n : Nat} {E : Nat → Nat → Int32} {DG : Nat → Int32} {tr : Nat → Nat} {T : Nat → Nat → Int64} {F : Nat → Int32} {j : Nat} (hj : j < 7) : (wTop tp ly lyg lyt LYG LYT tl tlg tlt TLG TLT ne neg net NEG NET su sug sut SUG SUT kp kr KH km sw tps rt pl P st my co C la lag lat LG LT po pog pot OG OT cJ cJJ cI cII mo eo dg to er n E DG tr T).set (30 + j) (er j, .inl (cI, 7, .inl F)) = wTop tp ly lyg lyt LYG LYT tl tlg tlt TLG TLT ne neg net NEG NET su sug sut SUG SUT kp kr KH km sw tps rt pl P st my co C la lag lat LG LT po pog pot OG OT cJ cJJ cI cII mo eo dg to er n (updR E j F) DG tr T := by
  match j, hj with
  | 0, _ => rfl
  | 1, _ => rfl
  | 2, _ => rfl
  | 3, _ => rfl
  | 4, _ => rfl
  | 5, _ => rfl
  | 6, _ => rfl
theorem row_wTop_tr {tp : Nat} {ly : Nat} {lyg : Nat} {lyt : Nat} {LYG : Nat → Int32} {LYT : Nat → Int32} {tl : Nat} {tlg : Nat} {tlt : Nat} {TLG : Nat → Int32} {TLT : Nat → Int32} {ne : Nat} {neg : Nat} {net : Nat} {NEG : Nat → Int32} {NET : Nat → Int32} {su : Nat} {sug : Nat} {sut : Nat} {SUG : Nat → Int32} {SUT : Nat → Int32} {kp : Nat} {kr : Nat → Nat} {KH : Nat → Nat → Int32} {km : Nat} {sw : Int32} {tps : Int32} {rt : Nat} {pl : Nat} {P : Nat → Int32} {st : Int32} {my : Nat} {co : Nat} {C : Nat → Int32} {la : Nat} {lag : Nat} {lat : Nat} {LG : Nat → Int32} {LT : Nat → Int32} {po : Nat} {pog : Nat} {pot : Nat} {OG : Nat → Int32} {OT : Nat → Int32} {cJ : ClassId} {cJJ : ClassId} {cI : ClassId} {cII : ClassId} {mo : Nat} {eo : Nat} {dg : Nat} {to : Nat} {er : Nat → Nat} {n : Nat} {E : Nat → Nat → Int32} {DG : Nat → Int32} {tr : Nat → Nat} {T : Nat → Nat → Int64} {j : Nat} (hj : j < 6) : (wTop tp ly lyg lyt LYG LYT tl tlg tlt TLG TLT ne neg net NEG NET su sug sut SUG SUT kp kr KH km sw tps rt pl P st my co C la lag lat LG LT po pog pot OG OT cJ cJJ cI cII mo eo dg to er n E DG tr T)[39 + j]? = some (tr j, .inl (cJ, 6, .inr (.inl (T j)))) := by
  match j, hj with
  | 0, _ => rfl
  | 1, _ => rfl
  | 2, _ => rfl
  | 3, _ => rfl
  | 4, _ => rfl
  | 5, _ => rfl
theorem set_wTop_tr {tp : Nat} {ly : Nat} {lyg : Nat} {lyt : Nat} {LYG : Nat → Int32} {LYT : Nat → Int32} {tl : Nat} {tlg : Nat} {tlt : Nat} {TLG : Nat → Int32} {TLT : Nat → Int32} {ne : Nat} {neg : Nat} {net : Nat} {NEG : Nat → Int32} {NET : Nat → Int32} {su : Nat} {sug : Nat} {sut : Nat} {SUG : Nat → Int32} {SUT : Nat → Int32} {kp : Nat} {kr : Nat → Nat} {KH : Nat → Nat → Int32} {km : Nat} {sw : Int32} {tps : Int32} {rt : Nat} {pl : Nat} {P : Nat → Int32} {st : Int32} {my : Nat} {co : Nat} {C : Nat → Int32} {la : Nat} {lag : Nat} {lat : Nat} {LG : Nat → Int32} {LT : Nat → Int32} {po : Nat} {pog : Nat} {pot : Nat} {OG : Nat → Int32} {OT : Nat → Int32} {cJ : ClassId} {cJJ : ClassId} {cI : ClassId} {cII : ClassId} {mo : Nat} {eo : Nat} {dg : Nat} {to : Nat} {er : Nat → Nat} {n : Nat} {E : Nat → Nat → Int32} {DG : Nat → Int32} {tr : Nat → Nat} {T : Nat → Nat → Int64} {F : Nat → Int64} {j : Nat} (hj : j < 6) : (wTop tp ly lyg lyt LYG LYT tl tlg tlt TLG TLT ne neg net NEG NET su sug sut SUG SUT kp kr KH km sw tps rt pl P st my co C la lag lat LG LT po pog pot OG OT cJ cJJ cI cII mo eo dg to er n E DG tr T).set (39 + j) (tr j, .inl (cJ, 6, .inr (.inl F))) = wTop tp ly lyg lyt LYG LYT tl tlg tlt TLG TLT ne neg net NEG NET su sug sut SUG SUT kp kr KH km sw tps rt pl P st my co C la lag lat LG LT po pog pot OG OT cJ cJJ cI cII mo eo dg to er n E DG tr (updR T j F) := by
  match j, hj with
  | 0, _ => rfl
  | 1, _ => rfl
  | 2, _ => rfl
  | 3, _ => rfl
  | 4, _ => rfl
  | 5, _ => rfl
end
section
/-! the class's methods as functions: what each loop does to the numbers -/
theorem rounds_ex : ∃ k : Nat, k = 1000000 := ⟨_, rfl⟩
noncomputable def rounds : Nat := Classical.choose rounds_ex
theorem rounds_eq : rounds = 1000000 := Classical.choose_spec rounds_ex
abbrev V1 : Type := Nat → Int32
abbrev V2 : Type := Nat → Nat → Int32
abbrev S2 : Type := V1 × V1
abbrev S3 : Type := V1 × V1 × Int32
theorem it_stable {σ : Type} {f : Nat → σ → σ} {s : σ} {i n : Nat} (h : ∀ k, i ≤ k → f k (it f i s) = it f i s) (hin : i ≤ n) : it f n s = it f i s := by
  induction n with
  | zero => rw [show i = 0 by omega]
  | succ n ih =>
    rcases Nat.lt_or_ge n i with q | q
    · rw [show i = n + 1 by omega]
    · show f n (it f n s) = _
      rw [ih q, h n q]
def fillS (v : Int32) (k : Nat) (F : V1) : V1 := upd F k v
theorem fill_at (v : Int32) (F : V1) : ∀ (n j : Nat), j < n → it (fillS v) n F j = v
  | 0, j, h => absurd h (Nat.not_lt_zero j)
  | n + 1, j, h => by
    show upd (it (fillS v) n F) n v j = v
    by_cases e : j = n
    · rw [e]; exact pk_us
    · rw [pk_un e]; exact fill_at v F n j (by omega)
def addS (r : V1) (k : Nat) (G : V1) : V1 := upd G k (G k + r k)
def sinkS (E : V2) (k : Nat) (G : V1) : V1 := upd G k (G k + E k 6)
def tipS (E : V2) (fr : Nat) (q : Int32) (k : Nat) (G : V1) : V1 := upd G k (G k + q * E fr k)
def tipG (n : Nat) (E : V2) (DG : V1) (fr : Nat) (q : Int32) (G : V1) : V1 := it (tipS E fr q) n (upd G fr (G fr - q * DG fr))
def steepB (DG G : V1) (k : Nat) : Bool := !decide (DG k ≤ 0) && !decide (G k < DG k)
def likeB (G H : V1) (k : Nat) : Bool := decide (G k = H k)
def onceB (T : V1) (k : Nat) : Bool := decide (T k = 1)
def setS (p : Nat → Bool) (k : Nat) (s : Int32) : Int32 := if p k = true then s ||| (1 <<< (nI k &&& 31)) else s
def rrS (n : Nat) (E : V2) (DG : V1) (k : Nat) (s : S3) : S3 := if DG k ≤ 0 then s else if s.1 k < DG k then s else (tipG n E DG k (s.1 k / DG k) s.1, upd s.2.1 k (s.2.1 k + s.1 k / DG k), 1)
def rr (n : Nat) (E : V2) (DG G T : V1) (i : Nat) : S3 := it (rrS n E DG) i (G, T, 0)
def rollR (n : Nat) (E : V2) (DG : V1) : Nat → S3 → S2
  | 0, X => (X.1, X.2.1)
  | k + 1, X => if X.2.2 = 0 then (X.1, X.2.1) else rollR n E DG k (rr n E DG X.1 X.2.1 n)
theorem rollR_0 {n : Nat} {E : V2} {DG : V1} {X : S3} (h : X.2.2 = 0) (k : Nat) : rollR n E DG k X = (X.1, X.2.1) := by
  cases k with
  | zero => rfl
  | succ k => exact if_pos h
theorem rollR_1 {n : Nat} {E : V2} {DG : V1} {X : S3} {k : Nat} (h : ¬ X.2.2 = 0) (hk : 0 < k) : rollR n E DG k X = rollR n E DG (k - 1) (rr n E DG X.1 X.2.1 n) := by
  cases k with
  | zero => omega
  | succ k => exact if_neg h
noncomputable def rollF (n : Nat) (E : V2) (DG G : V1) : S2 := rollR n E DG rounds (G, fun _ => 0, 1)
def maxS (DG : V1) (k : Nat) (G : V1) : V1 := upd G k (2 * (DG k - 1))
def offS (DG : V1) (k : Nat) (G : V1) : V1 := upd G k (2 * (DG k - 1) - G k)
noncomputable def neutF (n : Nat) (E : V2) (DG G : V1) : S2 := rollF n E DG (it (offS DG) n (rollF n E DG (it (maxS DG) n G)).1)
/-- the first i below n with p -/
def fstO (p : Nat → Bool) : Nat → Option Nat
  | 0 => none
  | k + 1 => match fstO p k with
    | some j => some j
    | none => if p k = true then some k else none
def optI : Option Nat → Int32
  | none => -1
  | some j => nI j
theorem fstO_succ {p : Nat → Bool} {k : Nat} (h : fstO p k = none) : fstO p (k + 1) = if p k = true then some k else none := by
  show (match fstO p k with | some j => some j | none => if p k = true then some k else none) = _
  rw [h]
theorem fstO_some {p : Nat → Bool} {i n : Nat} (hi : i < n) (h : fstO p i = none) (hp : p i = true) : fstO p n = some i := by
  induction n with
  | zero => omega
  | succ n ih =>
    rcases Nat.lt_or_ge i n with q | q
    · show (match fstO p n with | some j => some j | none => if p n = true then some n else none) = _
      rw [ih q]
    · rw [show n = i by omega, fstO_succ h, if_pos hp]
def bitB (x : Int32) (k : Nat) : Bool := !decide ((x >>> (nI k &&& 31)) &&& 1 = 0)
def intoS (E : V2) (spot : Nat) (set : Int32) (k : Nat) (a : Int32) : Int32 := if bitB set k = true then a + E spot k else a
def intoF (E : V2) (spot : Nat) (set : Int32) : Int32 := it (intoS E spot set) 7 0
def burnB (E : V2) (G : V1) (b : Int32) (k : Nat) : Bool := !bitB b k && !decide (intoF E k b ≤ G k)
def nextF (n : Nat) (E : V2) (G : V1) (b : Int32) : Int32 := optI (fstO (burnB E G b) n)
def fireS (n : Nat) (E : V2) (G : V1) (_ : Nat) (s : Int32 × Int32) : Int32 × Int32 := if nextF n E G s.1 = -1 then s else (s.1 ||| (1 <<< (nextF n E G s.1 &&& 31)), s.2 * 10 + nextF n E G s.1 + 1)
def fireF (n : Nat) (E : V2) (G : V1) : Int32 := (it (fireS n E G) n (64, 0)).2
theorem kt_chg {D : va_G} {cl : List vw_C} {A : Nat → Prop} {w : va_W} {H : Heap} {a : Nat} {cA : ClassId} {n : Nat} {f : V1} (g : V1) (hP : va_P D cl w H) (hD : va_D A w) (q0 : Nat) (ha : w[q0]? = some (a, .inl (cA, n, .inl f))) (h : ∀ j, j < n → f j = g j) : va_P D cl (w.set q0 (a, .inl (cA, n, .inl g))) H ∧ va_D A (w.set q0 (a, .inl (cA, n, .inl g))) := by
  refine ⟨hP.set hD ha ?_ (fun _ _ => rfl), hD.set ha⟩
  show H[a]? = some (vp_cell cA (n, .inl g))
  rw [← vp_congr_i h]
  exact hP q0 _ ha
theorem nar_bool {x : Int32} (h : x = 0 ∨ x = 1) : narrow .boolean (.int x) = .int x := by
  rcases h with rfl | rfl <;> rfl
theorem rr_bool (n : Nat) (E : V2) (DG G T : V1) : ∀ i : Nat, (rr n E DG G T i).2.2 = 0 ∨ (rr n E DG G T i).2.2 = 1
  | 0 => Or.inl rfl
  | i + 1 => by
    show (rrS n E DG i (rr n E DG G T i)).2.2 = 0 ∨ (rrS n E DG i (rr n E DG G T i)).2.2 = 1
    unfold rrS
    split
    · exact rr_bool n E DG G T i
    · split
      · exact rr_bool n E DG G T i
      · exact Or.inr rfl
theorem b2i_bool (b : Bool) : b2i b = 0 ∨ b2i b = 1 := by cases b <;> simp [b2i]
theorem kt_cpy {f g : V1} {j : Nat} (hj : j < 6) : va_cpy f g (Int32.toNatClampNeg 0) (Int32.toNatClampNeg 0) (Int32.toNatClampNeg 6) j = f j := by
  have h : (6 : Int32).toNatClampNeg = 6 := rfl
  have h0 : (0 : Int32).toNatClampNeg = 0 := rfl
  unfold va_cpy
  rw [h, h0, if_pos ⟨Nat.zero_le _, by omega⟩]
  simp
theorem updR_updR {α : Type} {E : Nat → Nat → α} {j : Nat} {r r2 : Nat → α} : updR (updR E j r) j r2 = updR E j r2 := by
  funext i
  unfold updR
  by_cases h : i = j
  · rw [if_pos h, if_pos h]
  · rw [if_neg h, if_neg h, if_neg h]
end
section
set_option maxHeartbeats 4000000 in
set_option maxRecDepth 100000 in
theorem c_J7_fill_53178 (l : Launch) (dC : Nat → ClassId) (dI : Nat → Nat → Nat) (cI cII cJ cJJ : ClassId) (a : Nat) (F : V1) (v : Int32) (sz : Nat)  : Met l yJ7_fill_53178 wsJ7_fill_53178 ({ frames := 0, cells := 0, slots := 0, locals := 0 }) (va_Pc [.ref a, .int v] (PRE (dC, dI) (tyL cI cII cJ cJJ) (wA cI a F) sz)) (va_Qv (fun (_ : Unit) => True) (fun _ tS => ATW (dC, dI) (tyL cI cII cJ cJJ) (va_A (wA cI a F) sz) (wA cI a (it (fillS v) 6 F)) tS) (va_A (wA cI a F) sz)) 0 0 (va_A (wA cI a F) sz) := by
  refine Met.ofW (cc := cJ7_fill_53178) (maxL := 4) (ret := none) (by decide) rfl ?_
  intro p e s m args below meth c s₁ B hml hv
  obtain ⟨rfl, hsz, hP, hK, hD0⟩ := hv
  have hx := B.exec
  have hb := B.bytes
  have hr := B.returns
  have hlocks := B.notSynchronized
  have hts := atoms_spec (ws := wsJ7_fill_53178) B.pre
  have hown : s.vm.findClass RJ7 = some m.cls := findClass_of_methodNamed B.named
  subst hsz
  have hD := hD0.self (sz := s.heap.size)
  generalize hAe : va_A (wA cI a F) s.heap.size = A at hD ⊢
  have hA : ∀ q : Nat, s.heap.size ≤ q → A q := fun q h => by rw [← hAe]; exact Or.inr h
  have hS : va_S A s.heap s.heap [] := va_S.rf
  have hl := lv_entry ([.ref a, .int v]) (n := 4) (Nat.le_of_ble_eq_true rfl)
  rw [lg_entry_eq]
  generalize (lg_sl ([.ref a, .int v]) ++ List.replicate (4 - (lg_sl ([.ref a, .int v])).length) Slot.unset).toArray = ls at hl ⊢
  have hl : lv_has ls 4 [(0, .ref a), (1, .int v)] := hl
  refine lv_iconst (v := nI 0) hx hb dJ7_fill_53178_0 (by decide) ?_
  refine lv_istore_n (lv' := [(2, .int (nI 0)), (0, .ref a), (1, .int v)]) hx hb dJ7_fill_53178_1 rfl hl (by decide) rfl (fun ls hl => ?_)
  refine lv_aload_n hx hb dJ7_fill_53178_2 rfl (lv_at hl 1 rfl) ?_
  refine va_alen hx hb hK hP 0 0 rfl rfl (v := nI 6) rfl dJ7_fill_53178_3 ?_
  refine lv_istore_n (lv' := [(3, .int (nI 6)), (2, .int (nI 0)), (0, .ref a), (1, .int v)]) hx hb dJ7_fill_53178_4 rfl hl (by decide) rfl (fun ls hl => ?_)
  refine kt_for (n := 6) (WD := fun (i : Nat) => wA cI a (it (fillS v) i F)) (LV := fun (i : Nat) => [(0, .ref a), (1, .int v), (2, .int (nI i)), (3, .int (nI 6))]) (nL := 4) (hd := 5) ?_ hP hD hS (lv_sub hl [2, 3, 1, 0] rfl)
  intro i hle_i ih_i H locs ls hP hD hS hl
  have hP : va_P (dC, dI) vwCl (wA cI a (it (fillS v) i F)) H := hP
  have hD : va_D A (wA cI a (it (fillS v) i F)) := hD
  have hl : lv_has ls 4 [(0, .ref a), (1, .int v), (2, .int (nI i)), (3, .int (nI 6))] := hl
  refine lv_iload_n hx hb dJ7_fill_53178_5 rfl (lv_at hl 2 rfl) ?_
  refine lv_iload_n hx hb dJ7_fill_53178_6 rfl (lv_at hl 3 rfl) ?_
  refine kt_ige (tgt := 20) hx hb (by omega) (by omega) dJ7_fill_53178_7 (by decide) (fun hge_i => ?_) (fun hlt_i => ?_)
  · have e_i : 6 = i := by omega
    subst e_i
    exact kt_vret (W' := wA cI a (it (fillS v) 6 F)) hx hb hr hS hP hK hD hlocks dJ7_fill_53178_20
  · skip
    refine lv_aload_n hx hb dJ7_fill_53178_10 rfl (lv_at hl 0 rfl) ?_
    refine lv_iload_n hx hb dJ7_fill_53178_11 rfl (lv_at hl 2 rfl) ?_
    refine lv_iload_n hx hb dJ7_fill_53178_12 rfl (lv_at hl 1 rfl) ?_
    refine kt_iast hx hb hK hP hD hS 0 0 rfl rfl (by omega) (by decide) dJ7_fill_53178_13 (fun H locs hP hD hS => ?_)
    have hP : va_P (dC, dI) vwCl (wA cI a (upd (it (fillS v) i F) i v)) H := hP
    have hD : va_D A (wA cI a (upd (it (fillS v) i F) i v)) := hD
    refine lv_iinc (v := nI (i + 1)) (lv' := [(2, .int (nI (i + 1))), (0, .ref a), (1, .int v), (3, .int (nI 6))]) hx hb dJ7_fill_53178_14 hl (k := 2) rfl (kt_inc _) (by decide) rfl (fun ls hl => ?_)
    refine lv_goto (tgt := 5) hx hb dJ7_fill_53178_17 (by decide) ?_
    exact ih_i H locs ls hlt_i hP hD hS (lv_sub hl [1, 2, 0, 3] rfl)

set_option maxHeartbeats 4000000 in
set_option maxRecDepth 100000 in
theorem c_X0_addRow (l : Launch) (dC : Nat → ClassId) (dI : Nat → Nat → Nat) (cI cII cJ cJJ : ClassId) (h : Nat) (g : Nat) (t : Nat) (G : Nat → Int32) (T : Nat → Int32) (ro : Nat) (RO : Nat → Int32) (mo : Nat) (eo : Nat) (dg : Nat) (to : Nat) (er : Nat → Nat) (n : Nat) (E : Nat → Nat → Int32) (DG : Nat → Int32) (sz : Nat) (hn : n ≤ 6) : Met l yX0_addRow wsX0_addRow ({ frames := 0, cells := 0, slots := 0, locals := 0 }) (va_Pc [.ref h, .ref ro] (PRE (dC, dI) (tyL cI cII cJ cJJ) (wHMr h g t G T ro RO cI cII mo eo dg to er n E DG) sz)) (va_Qv (fun (_ : Unit) => True) (fun _ tS => ATW (dC, dI) (tyL cI cII cJ cJJ) (va_A (wHMr h g t G T ro RO cI cII mo eo dg to er n E DG) sz) (wHMr h g t (it (addS RO) n G) T ro RO cI cII mo eo dg to er n E DG) tS) (va_A (wHMr h g t G T ro RO cI cII mo eo dg to er n E DG) sz)) 0 0 (va_A (wHMr h g t G T ro RO cI cII mo eo dg to er n E DG) sz) := by
  refine Met.ofW (cc := cX0_addRow) (maxL := 3) (ret := none) (by decide) rfl ?_
  intro p e s m args below meth c s₁ B hml hv
  obtain ⟨rfl, hsz, hP, hK, hD0⟩ := hv
  have hx := B.exec
  have hb := B.bytes
  have hr := B.returns
  have hlocks := B.notSynchronized
  have hts := atoms_spec (ws := wsX0_addRow) B.pre
  have hown : s.vm.findClass RX0 = some m.cls := findClass_of_methodNamed B.named
  subst hsz
  have hD := hD0.self (sz := s.heap.size)
  generalize hAe : va_A (wHMr h g t G T ro RO cI cII mo eo dg to er n E DG) s.heap.size = A at hD ⊢
  have hA : ∀ q : Nat, s.heap.size ≤ q → A q := fun q h => by rw [← hAe]; exact Or.inr h
  have hS : va_S A s.heap s.heap [] := va_S.rf
  have hl := lv_entry ([.ref h, .ref ro]) (n := 3) (Nat.le_of_ble_eq_true rfl)
  rw [lg_entry_eq]
  generalize (lg_sl ([.ref h, .ref ro]) ++ List.replicate (3 - (lg_sl ([.ref h, .ref ro])).length) Slot.unset).toArray = ls at hl ⊢
  have hl : lv_has ls 3 [(0, .ref h), (1, .ref ro)] := hl
  have hi_X0 : ∀ w ∈ u_ws RX0 TX0 3, w ∈ wsX0_addRow := by decide +kernel
  have hf_18 := hts (.fieldLink RX0 18 "Topplemoor$Heap" "moor" "LTopplemoor$Moor;") (by decide +kernel)
  have hi_X2 : ∀ w ∈ u_ws RX2 TX2 4, w ∈ wsX0_addRow := by decide +kernel
  have hf_28 := hts (.fieldLink RX0 28 "Topplemoor$Moor" "spots" "I") (by decide +kernel)
  have hf_9 := hts (.fieldLink RX0 9 "Topplemoor$Heap" "grains" "[I") (by decide +kernel)
  refine lv_iconst (v := nI 0) hx hb dX0_addRow_0 (by decide) ?_
  refine lv_istore_n (lv' := [(2, .int (nI 0)), (0, .ref h), (1, .ref ro)]) hx hb dX0_addRow_1 rfl hl (by decide) rfl (fun ls hl => ?_)
  refine kt_for (n := n) (WD := fun (i : Nat) => wHMr h g t (it (addS RO) i G) T ro RO cI cII mo eo dg to er n E DG) (LV := fun (i : Nat) => [(0, .ref h), (1, .ref ro), (2, .int (nI i))]) (nL := 3) (hd := 2) ?_ hP hD hS (lv_sub hl [1, 2, 0] rfl)
  intro i hle_i ih_i H locs ls hP hD hS hl
  have hP : va_P (dC, dI) vwCl (wHMr h g t (it (addS RO) i G) T ro RO cI cII mo eo dg to er n E DG) H := hP
  have hD : va_D A (wHMr h g t (it (addS RO) i G) T ro RO cI cII mo eo dg to er n E DG) := hD
  have hl : lv_has ls 3 [(0, .ref h), (1, .ref ro), (2, .int (nI i))] := hl
  refine lv_iload_n hx hb dX0_addRow_2 rfl (lv_at hl 2 rfl) ?_
  refine lv_aload_n hx hb dX0_addRow_3 rfl (lv_at hl 0 rfl) ?_
  refine va_get (D := (dC, dI)) (ci := kX0) (v := .ref mo) (C := RX0) (T := TX0) (N := 3) hx hb hts hi_X0 hown hK hP 0 rfl rfl 2 (by decide) hf_18 (fun _ h9 => h9) rfl dX0_addRow_4 ?_
  refine va_get (D := (dC, dI)) (ci := kX2) (v := .int (nI n)) (C := RX2) (T := TX2) (N := 4) hx hb hts hi_X2 hown hK hP 4 rfl rfl 0 (by decide) hf_28 (fun _ h9 => h9) rfl dX0_addRow_7 ?_
  refine kt_ige (tgt := 31) hx hb (by omega) (by omega) dX0_addRow_10 (by decide) (fun hge_i => ?_) (fun hlt_i => ?_)
  · have e_i : n = i := by omega
    subst e_i
    exact kt_vret (W' := wHMr h g t (it (addS RO) n G) T ro RO cI cII mo eo dg to er n E DG) hx hb hr hS hP hK hD hlocks dX0_addRow_31
  · skip
    refine lv_aload_n hx hb dX0_addRow_13 rfl (lv_at hl 0 rfl) ?_
    refine va_get (D := (dC, dI)) (ci := kX0) (v := .ref g) (C := RX0) (T := TX0) (N := 3) hx hb hts hi_X0 hown hK hP 0 rfl rfl 0 (by decide) hf_9 (fun _ h9 => h9) rfl dX0_addRow_14 ?_
    refine lv_iload_n hx hb dX0_addRow_17 rfl (lv_at hl 2 rfl) ?_
    refine lv_dup2_11 hx hb dX0_addRow_18 rfl rfl ?_
    refine kt_iald hx hb hK hP 1 0 rfl rfl (by omega) (by decide) dX0_addRow_19 ?_
    refine lv_aload_n hx hb dX0_addRow_20 rfl (lv_at hl 1 rfl) ?_
    refine lv_iload_n hx hb dX0_addRow_21 rfl (lv_at hl 2 rfl) ?_
    refine kt_iald hx hb hK hP 3 0 rfl rfl (by omega) (by decide) dX0_addRow_22 ?_
    refine lv_iadd hx hb dX0_addRow_23 ?_
    refine kt_iast hx hb hK hP hD hS 1 0 rfl rfl (by omega) (by decide) dX0_addRow_24 (fun H locs hP hD hS => ?_)
    have hP : va_P (dC, dI) vwCl (wHMr h g t (upd (it (addS RO) i G) i (((it (addS RO) i G) i) + (RO i))) T ro RO cI cII mo eo dg to er n E DG) H := hP
    have hD : va_D A (wHMr h g t (upd (it (addS RO) i G) i (((it (addS RO) i G) i) + (RO i))) T ro RO cI cII mo eo dg to er n E DG) := hD
    refine lv_iinc (v := nI (i + 1)) (lv' := [(2, .int (nI (i + 1))), (0, .ref h), (1, .ref ro)]) hx hb dX0_addRow_25 hl (k := 2) rfl (kt_inc _) (by decide) rfl (fun ls hl => ?_)
    refine lv_goto (tgt := 2) hx hb dX0_addRow_28 (by decide) ?_
    exact ih_i H locs ls hlt_i hP hD hS (lv_sub hl [1, 2, 0] rfl)

set_option maxHeartbeats 4000000 in
set_option maxRecDepth 100000 in
theorem c_X0_addFromSink (l : Launch) (dC : Nat → ClassId) (dI : Nat → Nat → Nat) (cI cII cJ cJJ : ClassId) (h : Nat) (g : Nat) (t : Nat) (G : Nat → Int32) (T : Nat → Int32) (mo : Nat) (eo : Nat) (dg : Nat) (to : Nat) (er : Nat → Nat) (n : Nat) (E : Nat → Nat → Int32) (DG : Nat → Int32) (sz : Nat) (hn : n ≤ 6) : Met l yX0_addFromSink wsX0_addFromSink ({ frames := 0, cells := 0, slots := 0, locals := 0 }) (va_Pc [.ref h] (PRE (dC, dI) (tyL cI cII cJ cJJ) (wHM h g t G T cI cII mo eo dg to er n E DG) sz)) (va_Qv (fun (_ : Unit) => True) (fun _ tS => ATW (dC, dI) (tyL cI cII cJ cJJ) (va_A (wHM h g t G T cI cII mo eo dg to er n E DG) sz) (wHM h g t (it (sinkS E) n G) T cI cII mo eo dg to er n E DG) tS) (va_A (wHM h g t G T cI cII mo eo dg to er n E DG) sz)) 0 0 (va_A (wHM h g t G T cI cII mo eo dg to er n E DG) sz) := by
  refine Met.ofW (cc := cX0_addFromSink) (maxL := 2) (ret := none) (by decide) rfl ?_
  intro p e s m args below meth c s₁ B hml hv
  obtain ⟨rfl, hsz, hP, hK, hD0⟩ := hv
  have hx := B.exec
  have hb := B.bytes
  have hr := B.returns
  have hlocks := B.notSynchronized
  have hts := atoms_spec (ws := wsX0_addFromSink) B.pre
  have hown : s.vm.findClass RX0 = some m.cls := findClass_of_methodNamed B.named
  subst hsz
  have hD := hD0.self (sz := s.heap.size)
  generalize hAe : va_A (wHM h g t G T cI cII mo eo dg to er n E DG) s.heap.size = A at hD ⊢
  have hA : ∀ q : Nat, s.heap.size ≤ q → A q := fun q h => by rw [← hAe]; exact Or.inr h
  have hS : va_S A s.heap s.heap [] := va_S.rf
  have hl := lv_entry ([.ref h]) (n := 2) (Nat.le_of_ble_eq_true rfl)
  rw [lg_entry_eq]
  generalize (lg_sl ([.ref h]) ++ List.replicate (2 - (lg_sl ([.ref h])).length) Slot.unset).toArray = ls at hl ⊢
  have hl : lv_has ls 2 [(0, .ref h)] := hl
  have hi_X0 : ∀ w ∈ u_ws RX0 TX0 3, w ∈ wsX0_addFromSink := by decide +kernel
  have hf_18 := hts (.fieldLink RX0 18 "Topplemoor$Heap" "moor" "LTopplemoor$Moor;") (by decide +kernel)
  have hi_X2 : ∀ w ∈ u_ws RX2 TX2 4, w ∈ wsX0_addFromSink := by decide +kernel
  have hf_28 := hts (.fieldLink RX0 28 "Topplemoor$Moor" "spots" "I") (by decide +kernel)
  have hf_9 := hts (.fieldLink RX0 9 "Topplemoor$Heap" "grains" "[I") (by decide +kernel)
  have hf_34 := hts (.fieldLink RX0 34 "Topplemoor$Moor" "edges" "[[I") (by decide +kernel)
  refine lv_iconst (v := nI 0) hx hb dX0_addFromSink_0 (by decide) ?_
  refine lv_istore_n (lv' := [(1, .int (nI 0)), (0, .ref h)]) hx hb dX0_addFromSink_1 rfl hl (by decide) rfl (fun ls hl => ?_)
  refine kt_for (n := n) (WD := fun (i : Nat) => wHM h g t (it (sinkS E) i G) T cI cII mo eo dg to er n E DG) (LV := fun (i : Nat) => [(0, .ref h), (1, .int (nI i))]) (nL := 2) (hd := 2) ?_ hP hD hS (lv_sub hl [1, 0] rfl)
  intro i hle_i ih_i H locs ls hP hD hS hl
  have hP : va_P (dC, dI) vwCl (wHM h g t (it (sinkS E) i G) T cI cII mo eo dg to er n E DG) H := hP
  have hD : va_D A (wHM h g t (it (sinkS E) i G) T cI cII mo eo dg to er n E DG) := hD
  have hl : lv_has ls 2 [(0, .ref h), (1, .int (nI i))] := hl
  refine lv_iload_n hx hb dX0_addFromSink_2 rfl (lv_at hl 1 rfl) ?_
  refine lv_aload_n hx hb dX0_addFromSink_3 rfl (lv_at hl 0 rfl) ?_
  refine va_get (D := (dC, dI)) (ci := kX0) (v := .ref mo) (C := RX0) (T := TX0) (N := 3) hx hb hts hi_X0 hown hK hP 0 rfl rfl 2 (by decide) hf_18 (fun _ h9 => h9) rfl dX0_addFromSink_4 ?_
  refine va_get (D := (dC, dI)) (ci := kX2) (v := .int (nI n)) (C := RX2) (T := TX2) (N := 4) hx hb hts hi_X2 hown hK hP 3 rfl rfl 0 (by decide) hf_28 (fun _ h9 => h9) rfl dX0_addFromSink_7 ?_
  refine kt_ige (tgt := 40) hx hb (by omega) (by omega) dX0_addFromSink_10 (by decide) (fun hge_i => ?_) (fun hlt_i => ?_)
  · have e_i : n = i := by omega
    subst e_i
    exact kt_vret (W' := wHM h g t (it (sinkS E) n G) T cI cII mo eo dg to er n E DG) hx hb hr hS hP hK hD hlocks dX0_addFromSink_40
  · skip
    refine lv_aload_n hx hb dX0_addFromSink_13 rfl (lv_at hl 0 rfl) ?_
    refine va_get (D := (dC, dI)) (ci := kX0) (v := .ref g) (C := RX0) (T := TX0) (N := 3) hx hb hts hi_X0 hown hK hP 0 rfl rfl 0 (by decide) hf_9 (fun _ h9 => h9) rfl dX0_addFromSink_14 ?_
    refine lv_iload_n hx hb dX0_addFromSink_17 rfl (lv_at hl 1 rfl) ?_
    refine lv_dup2_11 hx hb dX0_addFromSink_18 rfl rfl ?_
    refine kt_iald hx hb hK hP 1 0 rfl rfl (by omega) (by decide) dX0_addFromSink_19 ?_
    refine lv_aload_n hx hb dX0_addFromSink_20 rfl (lv_at hl 0 rfl) ?_
    refine va_get (D := (dC, dI)) (ci := kX0) (v := .ref mo) (C := RX0) (T := TX0) (N := 3) hx hb hts hi_X0 hown hK hP 0 rfl rfl 2 (by decide) hf_18 (fun _ h9 => h9) rfl dX0_addFromSink_21 ?_
    refine va_get (D := (dC, dI)) (ci := kX2) (v := .ref eo) (C := RX2) (T := TX2) (N := 4) hx hb hts hi_X2 hown hK hP 3 rfl rfl 1 (by decide) hf_34 (fun _ h9 => h9) rfl dX0_addFromSink_24 ?_
    refine lv_iload_n hx hb dX0_addFromSink_27 rfl (lv_at hl 1 rfl) ?_
    refine kt_aald hx hb hK hP 4 1 rfl rfl (by omega) (by decide) dX0_addFromSink_28 ?_
    refine lv_bipush (v := nI 6) hx hb dX0_addFromSink_29 (by decide) ?_
    refine kt_iald hx hb hK hP (5 + i) 0 (row_wHM_er (by omega)) rfl (by omega) (by decide) dX0_addFromSink_31 ?_
    refine lv_iadd hx hb dX0_addFromSink_32 ?_
    refine kt_iast hx hb hK hP hD hS 1 0 rfl rfl (by omega) (by decide) dX0_addFromSink_33 (fun H locs hP hD hS => ?_)
    have hP : va_P (dC, dI) vwCl (wHM h g t (upd (it (sinkS E) i G) i (((it (sinkS E) i G) i) + (E i 6))) T cI cII mo eo dg to er n E DG) H := hP
    have hD : va_D A (wHM h g t (upd (it (sinkS E) i G) i (((it (sinkS E) i G) i) + (E i 6))) T cI cII mo eo dg to er n E DG) := hD
    refine lv_iinc (v := nI (i + 1)) (lv' := [(1, .int (nI (i + 1))), (0, .ref h)]) hx hb dX0_addFromSink_34 hl (k := 1) rfl (kt_inc _) (by decide) rfl (fun ls hl => ?_)
    refine lv_goto (tgt := 2) hx hb dX0_addFromSink_37 (by decide) ?_
    exact ih_i H locs ls hlt_i hP hD hS (lv_sub hl [1, 0] rfl)

set_option maxHeartbeats 4000000 in
set_option maxRecDepth 100000 in
theorem c_X0_isLike (l : Launch) (dC : Nat → ClassId) (dI : Nat → Nat → Nat) (cI cII cJ cJJ : ClassId) (h : Nat) (g : Nat) (t : Nat) (G : Nat → Int32) (T : Nat → Int32) (ro : Nat) (RO : Nat → Int32) (mo : Nat) (eo : Nat) (dg : Nat) (to : Nat) (er : Nat → Nat) (n : Nat) (E : Nat → Nat → Int32) (DG : Nat → Int32) (sz : Nat) (hn : n ≤ 6) : Met l yX0_isLike wsX0_isLike ({ frames := 0, cells := 0, slots := 0, locals := 0 }) (va_Pc [.ref h, .ref ro] (PRE (dC, dI) (tyL cI cII cJ cJJ) (wHMr h g t G T ro RO cI cII mo eo dg to er n E DG) sz)) (va_Qi (fun (r' : Int32) (_ : Unit) => r' = b2i (allN (likeB G RO) n)) (fun _ tS => ATW (dC, dI) (tyL cI cII cJ cJJ) (va_A (wHMr h g t G T ro RO cI cII mo eo dg to er n E DG) sz) (wHMr h g t G T ro RO cI cII mo eo dg to er n E DG) tS) (va_A (wHMr h g t G T ro RO cI cII mo eo dg to er n E DG) sz)) 0 0 (va_A (wHMr h g t G T ro RO cI cII mo eo dg to er n E DG) sz) := by
  refine Met.ofW (cc := cX0_isLike) (maxL := 3) (ret := (some .boolean)) (by decide) rfl ?_
  intro p e s m args below meth c s₁ B hml hv
  obtain ⟨rfl, hsz, hP, hK, hD0⟩ := hv
  have hx := B.exec
  have hb := B.bytes
  have hr := B.returns
  have hlocks := B.notSynchronized
  have hts := atoms_spec (ws := wsX0_isLike) B.pre
  have hown : s.vm.findClass RX0 = some m.cls := findClass_of_methodNamed B.named
  subst hsz
  have hD := hD0.self (sz := s.heap.size)
  generalize hAe : va_A (wHMr h g t G T ro RO cI cII mo eo dg to er n E DG) s.heap.size = A at hD ⊢
  have hA : ∀ q : Nat, s.heap.size ≤ q → A q := fun q h => by rw [← hAe]; exact Or.inr h
  have hS : va_S A s.heap s.heap [] := va_S.rf
  have hl := lv_entry ([.ref h, .ref ro]) (n := 3) (Nat.le_of_ble_eq_true rfl)
  rw [lg_entry_eq]
  generalize (lg_sl ([.ref h, .ref ro]) ++ List.replicate (3 - (lg_sl ([.ref h, .ref ro])).length) Slot.unset).toArray = ls at hl ⊢
  have hl : lv_has ls 3 [(0, .ref h), (1, .ref ro)] := hl
  have hi_X0 : ∀ w ∈ u_ws RX0 TX0 3, w ∈ wsX0_isLike := by decide +kernel
  have hf_18 := hts (.fieldLink RX0 18 "Topplemoor$Heap" "moor" "LTopplemoor$Moor;") (by decide +kernel)
  have hi_X2 : ∀ w ∈ u_ws RX2 TX2 4, w ∈ wsX0_isLike := by decide +kernel
  have hf_28 := hts (.fieldLink RX0 28 "Topplemoor$Moor" "spots" "I") (by decide +kernel)
  have hf_9 := hts (.fieldLink RX0 9 "Topplemoor$Heap" "grains" "[I") (by decide +kernel)
  refine lv_iconst (v := nI 0) hx hb dX0_isLike_0 (by decide) ?_
  refine lv_istore_n (lv' := [(2, .int (nI 0)), (0, .ref h), (1, .ref ro)]) hx hb dX0_isLike_1 rfl hl (by decide) rfl (fun ls hl => ?_)
  refine kt_forq (n := n) (q := fun (i : Nat) => (allN (likeB G RO) i = true)) (WD := fun (i : Nat) => wHMr h g t G T ro RO cI cII mo eo dg to er n E DG) (LV := fun (i : Nat) => [(0, .ref h), (1, .ref ro), (2, .int (nI i))]) (nL := 3) (hd := 2) ?_ (rfl) hP hD hS (lv_sub hl [1, 2, 0] rfl)
  intro i hle_i hq_i ih_i H locs ls hP hD hS hl
  have hq_i : (allN (likeB G RO) i = true) := hq_i
  have hq := hq_i
  have hP : va_P (dC, dI) vwCl (wHMr h g t G T ro RO cI cII mo eo dg to er n E DG) H := hP
  have hD : va_D A (wHMr h g t G T ro RO cI cII mo eo dg to er n E DG) := hD
  have hl : lv_has ls 3 [(0, .ref h), (1, .ref ro), (2, .int (nI i))] := hl
  refine lv_iload_n hx hb dX0_isLike_2 rfl (lv_at hl 2 rfl) ?_
  refine lv_aload_n hx hb dX0_isLike_3 rfl (lv_at hl 0 rfl) ?_
  refine va_get (D := (dC, dI)) (ci := kX0) (v := .ref mo) (C := RX0) (T := TX0) (N := 3) hx hb hts hi_X0 hown hK hP 0 rfl rfl 2 (by decide) hf_18 (fun _ h9 => h9) rfl dX0_isLike_4 ?_
  refine va_get (D := (dC, dI)) (ci := kX2) (v := .int (nI n)) (C := RX2) (T := TX2) (N := 4) hx hb hts hi_X2 hown hK hP 4 rfl rfl 0 (by decide) hf_28 (fun _ h9 => h9) rfl dX0_isLike_7 ?_
  refine kt_ige (tgt := 33) hx hb (by omega) (by omega) dX0_isLike_10 (by decide) (fun hge_i => ?_) (fun hlt_i => ?_)
  · have e_i : n = i := by omega
    subst e_i
    refine lv_iconst (v := 1) hx hb dX0_isLike_33 (by decide) ?_
    exact kt_zret (W' := wHMr h g t G T ro RO cI cII mo eo dg to er n E DG) hx hb hr (rfl) hS hP hK hD (by rw [hq]; rfl) hlocks dX0_isLike_34
  · skip
    refine lv_aload_n hx hb dX0_isLike_13 rfl (lv_at hl 0 rfl) ?_
    refine va_get (D := (dC, dI)) (ci := kX0) (v := .ref g) (C := RX0) (T := TX0) (N := 3) hx hb hts hi_X0 hown hK hP 0 rfl rfl 0 (by decide) hf_9 (fun _ h9 => h9) rfl dX0_isLike_14 ?_
    refine lv_iload_n hx hb dX0_isLike_17 rfl (lv_at hl 2 rfl) ?_
    refine kt_iald hx hb hK hP 1 0 rfl rfl (by omega) (by decide) dX0_isLike_18 ?_
    refine lv_aload_n hx hb dX0_isLike_19 rfl (lv_at hl 1 rfl) ?_
    refine lv_iload_n hx hb dX0_isLike_20 rfl (lv_at hl 2 rfl) ?_
    refine kt_iald hx hb hK hP 3 0 rfl rfl (by omega) (by decide) dX0_isLike_21 ?_
    refine lv_icmp_eq (tgt := 27) hx hb dX0_isLike_22 (by decide) (fun c22 => ?_) (fun c22 => ?_)
    · skip
      refine lv_iinc (v := nI (i + 1)) (lv' := [(2, .int (nI (i + 1))), (0, .ref h), (1, .ref ro)]) hx hb dX0_isLike_27 hl (k := 2) rfl (kt_inc _) (by decide) rfl (fun ls hl => ?_)
      refine lv_goto (tgt := 2) hx hb dX0_isLike_30 (by decide) ?_
      exact ih_i H locs ls hlt_i (by simp_all [allN, likeB, onceB]) hP hD hS (lv_sub hl [1, 2, 0] rfl)
    · skip
      refine lv_iconst (v := 0) hx hb dX0_isLike_25 (by decide) ?_
      exact kt_zret (W' := wHMr h g t G T ro RO cI cII mo eo dg to er n E DG) hx hb hr (rfl) hS hP hK hD (by rw [allN_false hlt_i (by simp [likeB, c22])]; rfl) hlocks dX0_isLike_26

set_option maxHeartbeats 4000000 in
set_option maxRecDepth 100000 in
theorem c_X0_allGrains (l : Launch) (dC : Nat → ClassId) (dI : Nat → Nat → Nat) (cI cII cJ cJJ : ClassId) (h : Nat) (g : Nat) (t : Nat) (G : Nat → Int32) (T : Nat → Int32) (mo : Nat) (eo : Nat) (dg : Nat) (to : Nat) (er : Nat → Nat) (n : Nat) (E : Nat → Nat → Int32) (DG : Nat → Int32) (sz : Nat) (hn : n ≤ 6) : Met l yX0_allGrains wsX0_allGrains ({ frames := 0, cells := 0, slots := 0, locals := 0 }) (va_Pc [.ref h] (PRE (dC, dI) (tyL cI cII cJ cJJ) (wHM h g t G T cI cII mo eo dg to er n E DG) sz)) (va_Qi (fun (r' : Int32) (_ : Unit) => r' = sumN G n) (fun _ tS => ATW (dC, dI) (tyL cI cII cJ cJJ) (va_A (wHM h g t G T cI cII mo eo dg to er n E DG) sz) (wHM h g t G T cI cII mo eo dg to er n E DG) tS) (va_A (wHM h g t G T cI cII mo eo dg to er n E DG) sz)) 0 0 (va_A (wHM h g t G T cI cII mo eo dg to er n E DG) sz) := by
  refine Met.ofW (cc := cX0_allGrains) (maxL := 3) (ret := (some .int)) (by decide) rfl ?_
  intro p e s m args below meth c s₁ B hml hv
  obtain ⟨rfl, hsz, hP, hK, hD0⟩ := hv
  have hx := B.exec
  have hb := B.bytes
  have hr := B.returns
  have hlocks := B.notSynchronized
  have hts := atoms_spec (ws := wsX0_allGrains) B.pre
  have hown : s.vm.findClass RX0 = some m.cls := findClass_of_methodNamed B.named
  subst hsz
  have hD := hD0.self (sz := s.heap.size)
  generalize hAe : va_A (wHM h g t G T cI cII mo eo dg to er n E DG) s.heap.size = A at hD ⊢
  have hA : ∀ q : Nat, s.heap.size ≤ q → A q := fun q h => by rw [← hAe]; exact Or.inr h
  have hS : va_S A s.heap s.heap [] := va_S.rf
  have hl := lv_entry ([.ref h]) (n := 3) (Nat.le_of_ble_eq_true rfl)
  rw [lg_entry_eq]
  generalize (lg_sl ([.ref h]) ++ List.replicate (3 - (lg_sl ([.ref h])).length) Slot.unset).toArray = ls at hl ⊢
  have hl : lv_has ls 3 [(0, .ref h)] := hl
  have hi_X0 : ∀ w ∈ u_ws RX0 TX0 3, w ∈ wsX0_allGrains := by decide +kernel
  have hf_18 := hts (.fieldLink RX0 18 "Topplemoor$Heap" "moor" "LTopplemoor$Moor;") (by decide +kernel)
  have hi_X2 : ∀ w ∈ u_ws RX2 TX2 4, w ∈ wsX0_allGrains := by decide +kernel
  have hf_28 := hts (.fieldLink RX0 28 "Topplemoor$Moor" "spots" "I") (by decide +kernel)
  have hf_9 := hts (.fieldLink RX0 9 "Topplemoor$Heap" "grains" "[I") (by decide +kernel)
  refine lv_iconst (v := nI 0) hx hb dX0_allGrains_0 (by decide) ?_
  refine lv_istore_n (lv' := [(1, .int (nI 0)), (0, .ref h)]) hx hb dX0_allGrains_1 rfl hl (by decide) rfl (fun ls hl => ?_)
  refine lv_iconst (v := nI 0) hx hb dX0_allGrains_2 (by decide) ?_
  refine lv_istore_n (lv' := [(2, .int (nI 0)), (1, .int (nI 0)), (0, .ref h)]) hx hb dX0_allGrains_3 rfl hl (by decide) rfl (fun ls hl => ?_)
  refine kt_for (n := n) (WD := fun (i : Nat) => wHM h g t G T cI cII mo eo dg to er n E DG) (LV := fun (i : Nat) => [(0, .ref h), (1, .int (sumN G i)), (2, .int (nI i))]) (nL := 3) (hd := 4) ?_ hP hD hS (lv_sub hl [2, 1, 0] rfl)
  intro i hle_i ih_i H locs ls hP hD hS hl
  have hP : va_P (dC, dI) vwCl (wHM h g t G T cI cII mo eo dg to er n E DG) H := hP
  have hD : va_D A (wHM h g t G T cI cII mo eo dg to er n E DG) := hD
  have hl : lv_has ls 3 [(0, .ref h), (1, .int (sumN G i)), (2, .int (nI i))] := hl
  refine lv_iload_n hx hb dX0_allGrains_4 rfl (lv_at hl 2 rfl) ?_
  refine lv_aload_n hx hb dX0_allGrains_5 rfl (lv_at hl 0 rfl) ?_
  refine va_get (D := (dC, dI)) (ci := kX0) (v := .ref mo) (C := RX0) (T := TX0) (N := 3) hx hb hts hi_X0 hown hK hP 0 rfl rfl 2 (by decide) hf_18 (fun _ h9 => h9) rfl dX0_allGrains_6 ?_
  refine va_get (D := (dC, dI)) (ci := kX2) (v := .int (nI n)) (C := RX2) (T := TX2) (N := 4) hx hb hts hi_X2 hown hK hP 3 rfl rfl 0 (by decide) hf_28 (fun _ h9 => h9) rfl dX0_allGrains_9 ?_
  refine kt_ige (tgt := 30) hx hb (by omega) (by omega) dX0_allGrains_12 (by decide) (fun hge_i => ?_) (fun hlt_i => ?_)
  · have e_i : n = i := by omega
    subst e_i
    refine lv_iload_n hx hb dX0_allGrains_30 rfl (lv_at hl 1 rfl) ?_
    exact kt_iret (W' := wHM h g t G T cI cII mo eo dg to er n E DG) hx hb hr hS hP hK hD (rfl) hlocks dX0_allGrains_31
  · skip
    refine lv_iload_n hx hb dX0_allGrains_15 rfl (lv_at hl 1 rfl) ?_
    refine lv_aload_n hx hb dX0_allGrains_16 rfl (lv_at hl 0 rfl) ?_
    refine va_get (D := (dC, dI)) (ci := kX0) (v := .ref g) (C := RX0) (T := TX0) (N := 3) hx hb hts hi_X0 hown hK hP 0 rfl rfl 0 (by decide) hf_9 (fun _ h9 => h9) rfl dX0_allGrains_17 ?_
    refine lv_iload_n hx hb dX0_allGrains_20 rfl (lv_at hl 2 rfl) ?_
    refine kt_iald hx hb hK hP 1 0 rfl rfl (by omega) (by decide) dX0_allGrains_21 ?_
    refine lv_iadd hx hb dX0_allGrains_22 ?_
    refine lv_istore_n (lv' := [(1, .int ((sumN G i) + (G i))), (0, .ref h), (2, .int (nI i))]) hx hb dX0_allGrains_23 rfl hl (by decide) rfl (fun ls hl => ?_)
    refine lv_iinc (v := nI (i + 1)) (lv' := [(2, .int (nI (i + 1))), (1, .int ((sumN G i) + (G i))), (0, .ref h)]) hx hb dX0_allGrains_24 hl (k := 2) rfl (kt_inc _) (by decide) rfl (fun ls hl => ?_)
    refine lv_goto (tgt := 4) hx hb dX0_allGrains_27 (by decide) ?_
    exact ih_i H locs ls hlt_i hP hD hS (lv_sub hl [2, 1, 0] rfl)

set_option maxHeartbeats 4000000 in
set_option maxRecDepth 100000 in
theorem c_X0_isSteep (l : Launch) (dC : Nat → ClassId) (dI : Nat → Nat → Nat) (cI cII cJ cJJ : ClassId) (h : Nat) (g : Nat) (t : Nat) (G : Nat → Int32) (T : Nat → Int32) (mo : Nat) (eo : Nat) (dg : Nat) (to : Nat) (er : Nat → Nat) (n : Nat) (E : Nat → Nat → Int32) (DG : Nat → Int32) (j : Nat) (sz : Nat) (hj : j < 6) : Met l yX0_isSteep wsX0_isSteep ({ frames := 0, cells := 0, slots := 0, locals := 0 }) (va_Pc [.ref h, .int (nI j)] (PRE (dC, dI) (tyL cI cII cJ cJJ) (wHM h g t G T cI cII mo eo dg to er n E DG) sz)) (va_Qi (fun (r' : Int32) (_ : Unit) => r' = b2i (steepB DG G j)) (fun _ tS => ATW (dC, dI) (tyL cI cII cJ cJJ) (va_A (wHM h g t G T cI cII mo eo dg to er n E DG) sz) (wHM h g t G T cI cII mo eo dg to er n E DG) tS) (va_A (wHM h g t G T cI cII mo eo dg to er n E DG) sz)) 0 0 (va_A (wHM h g t G T cI cII mo eo dg to er n E DG) sz) := by
  refine Met.ofW (cc := cX0_isSteep) (maxL := 2) (ret := (some .boolean)) (by decide) rfl ?_
  intro p e s m args below meth c s₁ B hml hv
  obtain ⟨rfl, hsz, hP, hK, hD0⟩ := hv
  have hx := B.exec
  have hb := B.bytes
  have hr := B.returns
  have hlocks := B.notSynchronized
  have hts := atoms_spec (ws := wsX0_isSteep) B.pre
  have hown : s.vm.findClass RX0 = some m.cls := findClass_of_methodNamed B.named
  subst hsz
  have hD := hD0.self (sz := s.heap.size)
  generalize hAe : va_A (wHM h g t G T cI cII mo eo dg to er n E DG) s.heap.size = A at hD ⊢
  have hA : ∀ q : Nat, s.heap.size ≤ q → A q := fun q h => by rw [← hAe]; exact Or.inr h
  have hS : va_S A s.heap s.heap [] := va_S.rf
  have hl := lv_entry ([.ref h, .int (nI j)]) (n := 2) (Nat.le_of_ble_eq_true rfl)
  rw [lg_entry_eq]
  generalize (lg_sl ([.ref h, .int (nI j)]) ++ List.replicate (2 - (lg_sl ([.ref h, .int (nI j)])).length) Slot.unset).toArray = ls at hl ⊢
  have hl : lv_has ls 2 [(0, .ref h), (1, .int (nI j))] := hl
  have hi_X0 : ∀ w ∈ u_ws RX0 TX0 3, w ∈ wsX0_isSteep := by decide +kernel
  have hf_18 := hts (.fieldLink RX0 18 "Topplemoor$Heap" "moor" "LTopplemoor$Moor;") (by decide +kernel)
  have hi_X2 : ∀ w ∈ u_ws RX2 TX2 4, w ∈ wsX0_isSteep := by decide +kernel
  have hf_38 := hts (.fieldLink RX0 38 "Topplemoor$Moor" "degrees" "[I") (by decide +kernel)
  have hf_9 := hts (.fieldLink RX0 9 "Topplemoor$Heap" "grains" "[I") (by decide +kernel)
  refine lv_aload_n hx hb dX0_isSteep_0 rfl (lv_at hl 0 rfl) ?_
  refine va_get (D := (dC, dI)) (ci := kX0) (v := .ref mo) (C := RX0) (T := TX0) (N := 3) hx hb hts hi_X0 hown hK hP 0 rfl rfl 2 (by decide) hf_18 (fun _ h9 => h9) rfl dX0_isSteep_1 ?_
  refine va_get (D := (dC, dI)) (ci := kX2) (v := .ref dg) (C := RX2) (T := TX2) (N := 4) hx hb hts hi_X2 hown hK hP 3 rfl rfl 2 (by decide) hf_38 (fun _ h9 => h9) rfl dX0_isSteep_4 ?_
  refine lv_iload_n hx hb dX0_isSteep_7 rfl (lv_at hl 1 rfl) ?_
  refine kt_iald hx hb hK hP 12 0 rfl rfl (by omega) (by decide) dX0_isSteep_8 ?_
  refine lv_if_le (tgt := 34) hx hb dX0_isSteep_9 (by decide) (fun cA => ?_) (fun cA => ?_)
  · skip
    refine lv_iconst (v := 0) hx hb dX0_isSteep_34 (by decide) ?_
    exact kt_zret (W' := wHM h g t G T cI cII mo eo dg to er n E DG) hx hb hr (rfl) hS hP hK hD (by first | (simp [b2i, steepB, cA]; done) | (simp [b2i, steepB, cA, c27]; done)) hlocks dX0_isSteep_35
  · skip
    refine lv_aload_n hx hb dX0_isSteep_12 rfl (lv_at hl 0 rfl) ?_
    refine va_get (D := (dC, dI)) (ci := kX0) (v := .ref g) (C := RX0) (T := TX0) (N := 3) hx hb hts hi_X0 hown hK hP 0 rfl rfl 0 (by decide) hf_9 (fun _ h9 => h9) rfl dX0_isSteep_13 ?_
    refine lv_iload_n hx hb dX0_isSteep_16 rfl (lv_at hl 1 rfl) ?_
    refine kt_iald hx hb hK hP 1 0 rfl rfl (by omega) (by decide) dX0_isSteep_17 ?_
    refine lv_aload_n hx hb dX0_isSteep_18 rfl (lv_at hl 0 rfl) ?_
    refine va_get (D := (dC, dI)) (ci := kX0) (v := .ref mo) (C := RX0) (T := TX0) (N := 3) hx hb hts hi_X0 hown hK hP 0 rfl rfl 2 (by decide) hf_18 (fun _ h9 => h9) rfl dX0_isSteep_19 ?_
    refine va_get (D := (dC, dI)) (ci := kX2) (v := .ref dg) (C := RX2) (T := TX2) (N := 4) hx hb hts hi_X2 hown hK hP 3 rfl rfl 2 (by decide) hf_38 (fun _ h9 => h9) rfl dX0_isSteep_22 ?_
    refine lv_iload_n hx hb dX0_isSteep_25 rfl (lv_at hl 1 rfl) ?_
    refine kt_iald hx hb hK hP 12 0 rfl rfl (by omega) (by decide) dX0_isSteep_26 ?_
    refine lv_icmp_lt (tgt := 34) hx hb dX0_isSteep_27 (by decide) (fun c27 => ?_) (fun c27 => ?_)
    · skip
      refine lv_iconst (v := 0) hx hb dX0_isSteep_34 (by decide) ?_
      exact kt_zret (W' := wHM h g t G T cI cII mo eo dg to er n E DG) hx hb hr (rfl) hS hP hK hD (by first | (simp [b2i, steepB, cA]; done) | (simp [b2i, steepB, cA, c27]; done)) hlocks dX0_isSteep_35
    · skip
      refine lv_iconst (v := 1) hx hb dX0_isSteep_30 (by decide) ?_
      refine lv_goto (tgt := 35) hx hb dX0_isSteep_31 (by decide) ?_
      exact kt_zret (W' := wHM h g t G T cI cII mo eo dg to er n E DG) hx hb hr (rfl) hS hP hK hD (by first | (simp [b2i, steepB, cA]; done) | (simp [b2i, steepB, cA, c27]; done)) hlocks dX0_isSteep_35

set_option maxHeartbeats 4000000 in
set_option maxRecDepth 100000 in
theorem c_X0_steepSet (l : Launch) (dC : Nat → ClassId) (dI : Nat → Nat → Nat) (cI cII cJ cJJ : ClassId) (h : Nat) (g : Nat) (t : Nat) (G : Nat → Int32) (T : Nat → Int32) (mo : Nat) (eo : Nat) (dg : Nat) (to : Nat) (er : Nat → Nat) (n : Nat) (E : Nat → Nat → Int32) (DG : Nat → Int32) (sz : Nat) (hn : n ≤ 6) : Met l yX0_steepSet wsX0_steepSet ({ frames := 1, cells := 0, slots := 0, locals := 21 }) (va_Pc [.ref h] (PRE (dC, dI) (tyL cI cII cJ cJJ) (wHM h g t G T cI cII mo eo dg to er n E DG) sz)) (va_Qi (fun (r' : Int32) (_ : Unit) => r' = it (setS (steepB DG G)) n 0) (fun _ tS => ATW (dC, dI) (tyL cI cII cJ cJJ) (va_A (wHM h g t G T cI cII mo eo dg to er n E DG) sz) (wHM h g t G T cI cII mo eo dg to er n E DG) tS) (va_A (wHM h g t G T cI cII mo eo dg to er n E DG) sz)) 0 0 (va_A (wHM h g t G T cI cII mo eo dg to er n E DG) sz) := by
  refine Met.ofW (cc := cX0_steepSet) (maxL := 3) (ret := (some .int)) (by decide) rfl ?_
  intro p e s m args below meth c s₁ B hml hv
  obtain ⟨rfl, hsz, hP, hK, hD0⟩ := hv
  have hx := B.exec
  have hb := B.bytes
  have hr := B.returns
  have hlocks := B.notSynchronized
  have hts := atoms_spec (ws := wsX0_steepSet) B.pre
  have hown : s.vm.findClass RX0 = some m.cls := findClass_of_methodNamed B.named
  subst hsz
  have hD := hD0.self (sz := s.heap.size)
  generalize hAe : va_A (wHM h g t G T cI cII mo eo dg to er n E DG) s.heap.size = A at hD ⊢
  have hA : ∀ q : Nat, s.heap.size ≤ q → A q := fun q h => by rw [← hAe]; exact Or.inr h
  have hS : va_S A s.heap s.heap [] := va_S.rf
  have hl := lv_entry ([.ref h]) (n := 3) (Nat.le_of_ble_eq_true rfl)
  rw [lg_entry_eq]
  generalize (lg_sl ([.ref h]) ++ List.replicate (3 - (lg_sl ([.ref h])).length) Slot.unset).toArray = ls at hl ⊢
  have hl : lv_has ls 3 [(0, .ref h)] := hl
  have hi_X0 : ∀ w ∈ u_ws RX0 TX0 3, w ∈ wsX0_steepSet := by decide +kernel
  have hf_18 := hts (.fieldLink RX0 18 "Topplemoor$Heap" "moor" "LTopplemoor$Moor;") (by decide +kernel)
  have hi_X2 : ∀ w ∈ u_ws RX2 TX2 4, w ∈ wsX0_steepSet := by decide +kernel
  have hf_28 := hts (.fieldLink RX0 28 "Topplemoor$Moor" "spots" "I") (by decide +kernel)
  refine lv_iconst (v := nI 0) hx hb dX0_steepSet_0 (by decide) ?_
  refine lv_istore_n (lv' := [(1, .int (nI 0)), (0, .ref h)]) hx hb dX0_steepSet_1 rfl hl (by decide) rfl (fun ls hl => ?_)
  refine lv_iconst (v := nI 0) hx hb dX0_steepSet_2 (by decide) ?_
  refine lv_istore_n (lv' := [(2, .int (nI 0)), (1, .int (nI 0)), (0, .ref h)]) hx hb dX0_steepSet_3 rfl hl (by decide) rfl (fun ls hl => ?_)
  refine kt_for (n := n) (WD := fun (i : Nat) => wHM h g t G T cI cII mo eo dg to er n E DG) (LV := fun (i : Nat) => [(0, .ref h), (1, .int (it (setS (steepB DG G)) i 0)), (2, .int (nI i))]) (nL := 3) (hd := 4) ?_ hP hD hS (lv_sub hl [2, 1, 0] rfl)
  intro i hle_i ih_i H locs ls hP hD hS hl
  have hP : va_P (dC, dI) vwCl (wHM h g t G T cI cII mo eo dg to er n E DG) H := hP
  have hD : va_D A (wHM h g t G T cI cII mo eo dg to er n E DG) := hD
  have hl : lv_has ls 3 [(0, .ref h), (1, .int (it (setS (steepB DG G)) i 0)), (2, .int (nI i))] := hl
  refine lv_iload_n hx hb dX0_steepSet_4 rfl (lv_at hl 2 rfl) ?_
  refine lv_aload_n hx hb dX0_steepSet_5 rfl (lv_at hl 0 rfl) ?_
  refine va_get (D := (dC, dI)) (ci := kX0) (v := .ref mo) (C := RX0) (T := TX0) (N := 3) hx hb hts hi_X0 hown hK hP 0 rfl rfl 2 (by decide) hf_18 (fun _ h9 => h9) rfl dX0_steepSet_6 ?_
  refine va_get (D := (dC, dI)) (ci := kX2) (v := .int (nI n)) (C := RX2) (T := TX2) (N := 4) hx hb hts hi_X2 hown hK hP 3 rfl rfl 0 (by decide) hf_28 (fun _ h9 => h9) rfl dX0_steepSet_9 ?_
  refine kt_ige (tgt := 35) hx hb (by omega) (by omega) dX0_steepSet_12 (by decide) (fun hge_i => ?_) (fun hlt_i => ?_)
  · have e_i : n = i := by omega
    subst e_i
    refine lv_iload_n hx hb dX0_steepSet_35 rfl (lv_at hl 1 rfl) ?_
    exact kt_iret (W' := wHM h g t G T cI cII mo eo dg to er n E DG) hx hb hr hS hP hK hD (rfl) hlocks dX0_steepSet_36
  · skip
    refine lv_aload_n hx hb dX0_steepSet_15 rfl (lv_at hl 0 rfl) ?_
    refine lv_iload_n hx hb dX0_steepSet_16 rfl (lv_at hl 2 rfl) ?_
    refine kt_calli (wR := kt_pick (wHM h g t G T cI cII mo eo dg to er n E DG) []) (w' := wHM h g t G T cI cII mo eo dg to er n E DG) (rest := []) (As := [.int (nI i)]) ⟨hx, hb, hml, hown, hts⟩ (c_X0_isSteep l dC dI cI cII cJ cJJ h g t G T mo eo dg to er n E DG i _ (by omega)) (cwV 1 hts gX0_steepSet_X0_isSteep rfl rfl rfl (by decide +kernel) ⟨Nat.le_of_ble_eq_true rfl, Nat.le_of_ble_eq_true rfl⟩) hK hP hD hS hA [0, 1, 2, 3, 4, 5, 6, 7, 8, 9, 10, 11, 12] [] rfl rfl rfl rfl (by decide) [0, 1, 2, 3, 4, 5, 6, 7, 8, 9, 10, 11, 12] rfl rfl 0 kX0 rfl rfl rfl rfl rfl hl.1 (by decide) dX0_steepSet_17 ⟨Nat.zero_le _, Nat.zero_le _⟩ (fun H locs hP hD hS => ?_)
    refine lv_if_eq (tgt := 29) hx hb dX0_steepSet_20 (by decide) (fun c20 => ?_) (fun c20 => ?_)
    · skip
      refine lv_iinc (v := nI (i + 1)) (lv' := [(2, .int (nI (i + 1))), (0, .ref h), (1, .int (it (setS (steepB DG G)) i 0))]) hx hb dX0_steepSet_29 hl (k := 2) rfl (kt_inc _) (by decide) rfl (fun ls hl => ?_)
      refine lv_goto (tgt := 4) hx hb dX0_steepSet_32 (by decide) ?_
      have eq0 : it (setS (steepB DG G)) (i + 1) 0 = it (setS (steepB DG G)) i 0 := by show setS (steepB DG G) i (it (setS (steepB DG G)) i 0) = _; first | (have z := b2i_eq0.mp c20; simp [setS, z]; done) | (have z := b2i_ne0.mp c20; simp [setS, z]; done)
      exact ih_i H locs ls hlt_i (by show va_P (dC, dI) vwCl (wHM h g t G T cI cII mo eo dg to er n E DG) H; first | exact hP | (rw [eq0]; exact hP)) (by show va_D A (wHM h g t G T cI cII mo eo dg to er n E DG); first | exact hD | (rw [eq0]; exact hD)) hS (by show lv_has ls 3 [(0, .ref h), (1, .int (it (setS (steepB DG G)) (i + 1) 0)), (2, .int (nI (i + 1)))]; first | exact lv_sub hl [1, 2, 0] rfl | (rw [eq0]; exact lv_sub hl [1, 2, 0] rfl))
    · skip
      refine lv_iload_n hx hb dX0_steepSet_23 rfl (lv_at hl 1 rfl) ?_
      refine lv_iconst (v := 1) hx hb dX0_steepSet_24 (by decide) ?_
      refine lv_iload_n hx hb dX0_steepSet_25 rfl (lv_at hl 2 rfl) ?_
      refine lv_ishl hx hb dX0_steepSet_26 ?_
      refine lv_ior hx hb dX0_steepSet_27 ?_
      refine lv_istore_n (lv' := [(1, .int ((it (setS (steepB DG G)) i 0) ||| (1 <<< (nI i &&& 31)))), (0, .ref h), (2, .int (nI i))]) hx hb dX0_steepSet_28 rfl hl (by decide) rfl (fun ls hl => ?_)
      refine lv_iinc (v := nI (i + 1)) (lv' := [(2, .int (nI (i + 1))), (1, .int ((it (setS (steepB DG G)) i 0) ||| (1 <<< (nI i &&& 31)))), (0, .ref h)]) hx hb dX0_steepSet_29 hl (k := 2) rfl (kt_inc _) (by decide) rfl (fun ls hl => ?_)
      refine lv_goto (tgt := 4) hx hb dX0_steepSet_32 (by decide) ?_
      have eq0 : it (setS (steepB DG G)) (i + 1) 0 = (it (setS (steepB DG G)) i 0) ||| (1 <<< (nI i &&& 31)) := by show setS (steepB DG G) i (it (setS (steepB DG G)) i 0) = _; first | (have z := b2i_eq0.mp c20; simp [setS, z]; done) | (have z := b2i_ne0.mp c20; simp [setS, z]; done)
      exact ih_i H locs ls hlt_i (by show va_P (dC, dI) vwCl (wHM h g t G T cI cII mo eo dg to er n E DG) H; first | exact hP | (rw [eq0]; exact hP)) (by show va_D A (wHM h g t G T cI cII mo eo dg to er n E DG); first | exact hD | (rw [eq0]; exact hD)) hS (by show lv_has ls 3 [(0, .ref h), (1, .int (it (setS (steepB DG G)) (i + 1) 0)), (2, .int (nI (i + 1)))]; first | exact lv_sub hl [2, 1, 0] rfl | (rw [eq0]; exact lv_sub hl [2, 1, 0] rfl))

set_option maxHeartbeats 4000000 in
set_option maxRecDepth 100000 in
theorem c_X0_tip (l : Launch) (dC : Nat → ClassId) (dI : Nat → Nat → Nat) (cI cII cJ cJJ : ClassId) (h : Nat) (g : Nat) (t : Nat) (G : Nat → Int32) (T : Nat → Int32) (mo : Nat) (eo : Nat) (dg : Nat) (to : Nat) (er : Nat → Nat) (n : Nat) (E : Nat → Nat → Int32) (DG : Nat → Int32) (fr : Nat) (q : Int32) (sz : Nat) (hn : n ≤ 6) (hfr : fr < 6) : Met l yX0_tip wsX0_tip ({ frames := 0, cells := 0, slots := 0, locals := 0 }) (va_Pc [.ref h, .int (nI fr), .int q] (PRE (dC, dI) (tyL cI cII cJ cJJ) (wHM h g t G T cI cII mo eo dg to er n E DG) sz)) (va_Qv (fun (_ : Unit) => True) (fun _ tS => ATW (dC, dI) (tyL cI cII cJ cJJ) (va_A (wHM h g t G T cI cII mo eo dg to er n E DG) sz) (wHM h g t (tipG n E DG fr q G) T cI cII mo eo dg to er n E DG) tS) (va_A (wHM h g t G T cI cII mo eo dg to er n E DG) sz)) 0 0 (va_A (wHM h g t G T cI cII mo eo dg to er n E DG) sz) := by
  refine Met.ofW (cc := cX0_tip) (maxL := 4) (ret := none) (by decide) rfl ?_
  intro p e s m args below meth c s₁ B hml hv
  obtain ⟨rfl, hsz, hP, hK, hD0⟩ := hv
  have hx := B.exec
  have hb := B.bytes
  have hr := B.returns
  have hlocks := B.notSynchronized
  have hts := atoms_spec (ws := wsX0_tip) B.pre
  have hown : s.vm.findClass RX0 = some m.cls := findClass_of_methodNamed B.named
  subst hsz
  have hD := hD0.self (sz := s.heap.size)
  generalize hAe : va_A (wHM h g t G T cI cII mo eo dg to er n E DG) s.heap.size = A at hD ⊢
  have hA : ∀ q : Nat, s.heap.size ≤ q → A q := fun q h => by rw [← hAe]; exact Or.inr h
  have hS : va_S A s.heap s.heap [] := va_S.rf
  have hl := lv_entry ([.ref h, .int (nI fr), .int q]) (n := 4) (Nat.le_of_ble_eq_true rfl)
  rw [lg_entry_eq]
  generalize (lg_sl ([.ref h, .int (nI fr), .int q]) ++ List.replicate (4 - (lg_sl ([.ref h, .int (nI fr), .int q])).length) Slot.unset).toArray = ls at hl ⊢
  have hl : lv_has ls 4 [(0, .ref h), (1, .int (nI fr)), (2, .int q)] := hl
  have hi_X0 : ∀ w ∈ u_ws RX0 TX0 3, w ∈ wsX0_tip := by decide +kernel
  have hf_9 := hts (.fieldLink RX0 9 "Topplemoor$Heap" "grains" "[I") (by decide +kernel)
  have hf_18 := hts (.fieldLink RX0 18 "Topplemoor$Heap" "moor" "LTopplemoor$Moor;") (by decide +kernel)
  have hi_X2 : ∀ w ∈ u_ws RX2 TX2 4, w ∈ wsX0_tip := by decide +kernel
  have hf_38 := hts (.fieldLink RX0 38 "Topplemoor$Moor" "degrees" "[I") (by decide +kernel)
  have hf_28 := hts (.fieldLink RX0 28 "Topplemoor$Moor" "spots" "I") (by decide +kernel)
  have hf_34 := hts (.fieldLink RX0 34 "Topplemoor$Moor" "edges" "[[I") (by decide +kernel)
  refine lv_aload_n hx hb dX0_tip_0 rfl (lv_at hl 0 rfl) ?_
  refine va_get (D := (dC, dI)) (ci := kX0) (v := .ref g) (C := RX0) (T := TX0) (N := 3) hx hb hts hi_X0 hown hK hP 0 rfl rfl 0 (by decide) hf_9 (fun _ h9 => h9) rfl dX0_tip_1 ?_
  refine lv_iload_n hx hb dX0_tip_4 rfl (lv_at hl 1 rfl) ?_
  refine lv_dup2_11 hx hb dX0_tip_5 rfl rfl ?_
  refine kt_iald hx hb hK hP 1 0 rfl rfl (by omega) (by decide) dX0_tip_6 ?_
  refine lv_iload_n hx hb dX0_tip_7 rfl (lv_at hl 2 rfl) ?_
  refine lv_aload_n hx hb dX0_tip_8 rfl (lv_at hl 0 rfl) ?_
  refine va_get (D := (dC, dI)) (ci := kX0) (v := .ref mo) (C := RX0) (T := TX0) (N := 3) hx hb hts hi_X0 hown hK hP 0 rfl rfl 2 (by decide) hf_18 (fun _ h9 => h9) rfl dX0_tip_9 ?_
  refine va_get (D := (dC, dI)) (ci := kX2) (v := .ref dg) (C := RX2) (T := TX2) (N := 4) hx hb hts hi_X2 hown hK hP 3 rfl rfl 2 (by decide) hf_38 (fun _ h9 => h9) rfl dX0_tip_12 ?_
  refine lv_iload_n hx hb dX0_tip_15 rfl (lv_at hl 1 rfl) ?_
  refine kt_iald hx hb hK hP 12 0 rfl rfl (by omega) (by decide) dX0_tip_16 ?_
  refine lv_imul hx hb dX0_tip_17 ?_
  refine lv_isub hx hb dX0_tip_18 ?_
  refine kt_iast hx hb hK hP hD hS 1 0 rfl rfl (by omega) (by decide) dX0_tip_19 (fun H locs hP hD hS => ?_)
  have hP : va_P (dC, dI) vwCl (wHM h g t (upd G fr ((G fr) - (q * (DG fr)))) T cI cII mo eo dg to er n E DG) H := hP
  have hD : va_D A (wHM h g t (upd G fr ((G fr) - (q * (DG fr)))) T cI cII mo eo dg to er n E DG) := hD
  refine lv_iconst (v := nI 0) hx hb dX0_tip_20 (by decide) ?_
  refine lv_istore_n (lv' := [(3, .int (nI 0)), (0, .ref h), (1, .int (nI fr)), (2, .int q)]) hx hb dX0_tip_21 rfl hl (by decide) rfl (fun ls hl => ?_)
  refine kt_for (n := n) (WD := fun (i : Nat) => wHM h g t (it (tipS E fr q) i (upd G fr (G fr - q * DG fr))) T cI cII mo eo dg to er n E DG) (LV := fun (i : Nat) => [(0, .ref h), (1, .int (nI fr)), (2, .int q), (3, .int (nI i))]) (nL := 4) (hd := 22) ?_ hP hD hS (lv_sub hl [1, 2, 3, 0] rfl)
  intro i hle_i ih_i H locs ls hP hD hS hl
  have hP : va_P (dC, dI) vwCl (wHM h g t (it (tipS E fr q) i (upd G fr (G fr - q * DG fr))) T cI cII mo eo dg to er n E DG) H := hP
  have hD : va_D A (wHM h g t (it (tipS E fr q) i (upd G fr (G fr - q * DG fr))) T cI cII mo eo dg to er n E DG) := hD
  have hl : lv_has ls 4 [(0, .ref h), (1, .int (nI fr)), (2, .int q), (3, .int (nI i))] := hl
  refine lv_iload_n hx hb dX0_tip_22 rfl (lv_at hl 3 rfl) ?_
  refine lv_aload_n hx hb dX0_tip_23 rfl (lv_at hl 0 rfl) ?_
  refine va_get (D := (dC, dI)) (ci := kX0) (v := .ref mo) (C := RX0) (T := TX0) (N := 3) hx hb hts hi_X0 hown hK hP 0 rfl rfl 2 (by decide) hf_18 (fun _ h9 => h9) rfl dX0_tip_24 ?_
  refine va_get (D := (dC, dI)) (ci := kX2) (v := .int (nI n)) (C := RX2) (T := TX2) (N := 4) hx hb hts hi_X2 hown hK hP 3 rfl rfl 0 (by decide) hf_28 (fun _ h9 => h9) rfl dX0_tip_27 ?_
  refine kt_ige (tgt := 61) hx hb (by omega) (by omega) dX0_tip_30 (by decide) (fun hge_i => ?_) (fun hlt_i => ?_)
  · have e_i : n = i := by omega
    subst e_i
    exact kt_vret (W' := wHM h g t (tipG n E DG fr q G) T cI cII mo eo dg to er n E DG) hx hb hr hS hP hK hD hlocks dX0_tip_61
  · skip
    refine lv_aload_n hx hb dX0_tip_33 rfl (lv_at hl 0 rfl) ?_
    refine va_get (D := (dC, dI)) (ci := kX0) (v := .ref g) (C := RX0) (T := TX0) (N := 3) hx hb hts hi_X0 hown hK hP 0 rfl rfl 0 (by decide) hf_9 (fun _ h9 => h9) rfl dX0_tip_34 ?_
    refine lv_iload_n hx hb dX0_tip_37 rfl (lv_at hl 3 rfl) ?_
    refine lv_dup2_11 hx hb dX0_tip_38 rfl rfl ?_
    refine kt_iald hx hb hK hP 1 0 rfl rfl (by omega) (by decide) dX0_tip_39 ?_
    refine lv_iload_n hx hb dX0_tip_40 rfl (lv_at hl 2 rfl) ?_
    refine lv_aload_n hx hb dX0_tip_41 rfl (lv_at hl 0 rfl) ?_
    refine va_get (D := (dC, dI)) (ci := kX0) (v := .ref mo) (C := RX0) (T := TX0) (N := 3) hx hb hts hi_X0 hown hK hP 0 rfl rfl 2 (by decide) hf_18 (fun _ h9 => h9) rfl dX0_tip_42 ?_
    refine va_get (D := (dC, dI)) (ci := kX2) (v := .ref eo) (C := RX2) (T := TX2) (N := 4) hx hb hts hi_X2 hown hK hP 3 rfl rfl 1 (by decide) hf_34 (fun _ h9 => h9) rfl dX0_tip_45 ?_
    refine lv_iload_n hx hb dX0_tip_48 rfl (lv_at hl 1 rfl) ?_
    refine kt_aald hx hb hK hP 4 1 rfl rfl (by omega) (by decide) dX0_tip_49 ?_
    refine lv_iload_n hx hb dX0_tip_50 rfl (lv_at hl 3 rfl) ?_
    refine kt_iald hx hb hK hP (5 + fr) 0 (row_wHM_er (by omega)) rfl (by omega) (by decide) dX0_tip_51 ?_
    refine lv_imul hx hb dX0_tip_52 ?_
    refine lv_iadd hx hb dX0_tip_53 ?_
    refine kt_iast hx hb hK hP hD hS 1 0 rfl rfl (by omega) (by decide) dX0_tip_54 (fun H locs hP hD hS => ?_)
    have hP : va_P (dC, dI) vwCl (wHM h g t (upd (it (tipS E fr q) i (upd G fr (G fr - q * DG fr))) i (((it (tipS E fr q) i (upd G fr (G fr - q * DG fr))) i) + (q * (E fr i)))) T cI cII mo eo dg to er n E DG) H := hP
    have hD : va_D A (wHM h g t (upd (it (tipS E fr q) i (upd G fr (G fr - q * DG fr))) i (((it (tipS E fr q) i (upd G fr (G fr - q * DG fr))) i) + (q * (E fr i)))) T cI cII mo eo dg to er n E DG) := hD
    refine lv_iinc (v := nI (i + 1)) (lv' := [(3, .int (nI (i + 1))), (0, .ref h), (1, .int (nI fr)), (2, .int q)]) hx hb dX0_tip_55 hl (k := 3) rfl (kt_inc _) (by decide) rfl (fun ls hl => ?_)
    refine lv_goto (tgt := 22) hx hb dX0_tip_58 (by decide) ?_
    exact ih_i H locs ls hlt_i hP hD hS (lv_sub hl [1, 2, 3, 0] rfl)

set_option maxHeartbeats 4000000 in
set_option maxRecDepth 100000 in
theorem c_X0_rollRound (l : Launch) (dC : Nat → ClassId) (dI : Nat → Nat → Nat) (cI cII cJ cJJ : ClassId) (h : Nat) (g : Nat) (t : Nat) (G : Nat → Int32) (T : Nat → Int32) (mo : Nat) (eo : Nat) (dg : Nat) (to : Nat) (er : Nat → Nat) (n : Nat) (E : Nat → Nat → Int32) (DG : Nat → Int32) (sz : Nat) (hn : n ≤ 6) : Met l yX0_rollRound wsX0_rollRound ({ frames := 1, cells := 0, slots := 0, locals := 23 }) (va_Pc [.ref h] (PRE (dC, dI) (tyL cI cII cJ cJJ) (wHM h g t G T cI cII mo eo dg to er n E DG) sz)) (va_Qi (fun (r' : Int32) (_ : Unit) => r' = (rr n E DG G T n).2.2) (fun _ tS => ATW (dC, dI) (tyL cI cII cJ cJJ) (va_A (wHM h g t G T cI cII mo eo dg to er n E DG) sz) (wHM h g t ((rr n E DG G T n).1) ((rr n E DG G T n).2.1) cI cII mo eo dg to er n E DG) tS) (va_A (wHM h g t G T cI cII mo eo dg to er n E DG) sz)) 0 0 (va_A (wHM h g t G T cI cII mo eo dg to er n E DG) sz) := by
  refine Met.ofW (cc := cX0_rollRound) (maxL := 5) (ret := (some .boolean)) (by decide) rfl ?_
  intro p e s m args below meth c s₁ B hml hv
  obtain ⟨rfl, hsz, hP, hK, hD0⟩ := hv
  have hx := B.exec
  have hb := B.bytes
  have hr := B.returns
  have hlocks := B.notSynchronized
  have hts := atoms_spec (ws := wsX0_rollRound) B.pre
  have hown : s.vm.findClass RX0 = some m.cls := findClass_of_methodNamed B.named
  subst hsz
  have hD := hD0.self (sz := s.heap.size)
  generalize hAe : va_A (wHM h g t G T cI cII mo eo dg to er n E DG) s.heap.size = A at hD ⊢
  have hA : ∀ q : Nat, s.heap.size ≤ q → A q := fun q h => by rw [← hAe]; exact Or.inr h
  have hS : va_S A s.heap s.heap [] := va_S.rf
  have hl := lv_entry ([.ref h]) (n := 5) (Nat.le_of_ble_eq_true rfl)
  rw [lg_entry_eq]
  generalize (lg_sl ([.ref h]) ++ List.replicate (5 - (lg_sl ([.ref h])).length) Slot.unset).toArray = ls at hl ⊢
  have hl : lv_has ls 5 [(0, .ref h)] := hl
  have hi_X0 : ∀ w ∈ u_ws RX0 TX0 3, w ∈ wsX0_rollRound := by decide +kernel
  have hf_18 := hts (.fieldLink RX0 18 "Topplemoor$Heap" "moor" "LTopplemoor$Moor;") (by decide +kernel)
  have hi_X2 : ∀ w ∈ u_ws RX2 TX2 4, w ∈ wsX0_rollRound := by decide +kernel
  have hf_28 := hts (.fieldLink RX0 28 "Topplemoor$Moor" "spots" "I") (by decide +kernel)
  have hf_38 := hts (.fieldLink RX0 38 "Topplemoor$Moor" "degrees" "[I") (by decide +kernel)
  have hf_9 := hts (.fieldLink RX0 9 "Topplemoor$Heap" "grains" "[I") (by decide +kernel)
  have hf_15 := hts (.fieldLink RX0 15 "Topplemoor$Heap" "times" "[I") (by decide +kernel)
  refine lv_iconst (v := nI 0) hx hb dX0_rollRound_0 (by decide) ?_
  refine lv_istore_n (lv' := [(1, .int (nI 0)), (0, .ref h)]) hx hb dX0_rollRound_1 rfl hl (by decide) rfl (fun ls hl => ?_)
  refine lv_iconst (v := nI 0) hx hb dX0_rollRound_2 (by decide) ?_
  refine lv_istore_n (lv' := [(2, .int (nI 0)), (1, .int (nI 0)), (0, .ref h)]) hx hb dX0_rollRound_3 rfl hl (by decide) rfl (fun ls hl => ?_)
  refine kt_for (n := n) (WD := fun (i : Nat) => wHM h g t ((rr n E DG G T i).1) ((rr n E DG G T i).2.1) cI cII mo eo dg to er n E DG) (LV := fun (i : Nat) => [(0, .ref h), (1, .int ((rr n E DG G T i).2.2)), (2, .int (nI i))]) (nL := 5) (hd := 4) ?_ hP hD hS (lv_sub hl [2, 1, 0] rfl)
  intro i hle_i ih_i H locs ls hP hD hS hl
  have hP : va_P (dC, dI) vwCl (wHM h g t ((rr n E DG G T i).1) ((rr n E DG G T i).2.1) cI cII mo eo dg to er n E DG) H := hP
  have hD : va_D A (wHM h g t ((rr n E DG G T i).1) ((rr n E DG G T i).2.1) cI cII mo eo dg to er n E DG) := hD
  have hl : lv_has ls 5 [(0, .ref h), (1, .int ((rr n E DG G T i).2.2)), (2, .int (nI i))] := hl
  refine lv_iload_n hx hb dX0_rollRound_4 rfl (lv_at hl 2 rfl) ?_
  refine lv_aload_n hx hb dX0_rollRound_5 rfl (lv_at hl 0 rfl) ?_
  refine va_get (D := (dC, dI)) (ci := kX0) (v := .ref mo) (C := RX0) (T := TX0) (N := 3) hx hb hts hi_X0 hown hK hP 0 rfl rfl 2 (by decide) hf_18 (fun _ h9 => h9) rfl dX0_rollRound_6 ?_
  refine va_get (D := (dC, dI)) (ci := kX2) (v := .int (nI n)) (C := RX2) (T := TX2) (N := 4) hx hb hts hi_X2 hown hK hP 3 rfl rfl 0 (by decide) hf_28 (fun _ h9 => h9) rfl dX0_rollRound_9 ?_
  refine kt_ige (tgt := 75) hx hb (by omega) (by omega) dX0_rollRound_12 (by decide) (fun hge_i => ?_) (fun hlt_i => ?_)
  · have e_i : n = i := by omega
    subst e_i
    refine lv_iload_n hx hb dX0_rollRound_75 rfl (lv_at hl 1 rfl) ?_
    exact kt_zret (W' := wHM h g t ((rr n E DG G T n).1) ((rr n E DG G T n).2.1) cI cII mo eo dg to er n E DG) hx hb hr (nar_bool (rr_bool n E DG G T n)) hS hP hK hD (rfl) hlocks dX0_rollRound_76
  · skip
    refine lv_aload_n hx hb dX0_rollRound_15 rfl (lv_at hl 0 rfl) ?_
    refine va_get (D := (dC, dI)) (ci := kX0) (v := .ref mo) (C := RX0) (T := TX0) (N := 3) hx hb hts hi_X0 hown hK hP 0 rfl rfl 2 (by decide) hf_18 (fun _ h9 => h9) rfl dX0_rollRound_16 ?_
    refine va_get (D := (dC, dI)) (ci := kX2) (v := .ref dg) (C := RX2) (T := TX2) (N := 4) hx hb hts hi_X2 hown hK hP 3 rfl rfl 2 (by decide) hf_38 (fun _ h9 => h9) rfl dX0_rollRound_19 ?_
    refine lv_iload_n hx hb dX0_rollRound_22 rfl (lv_at hl 2 rfl) ?_
    refine kt_iald hx hb hK hP 12 0 rfl rfl (by omega) (by decide) dX0_rollRound_23 ?_
    refine lv_istore_n (lv' := [(3, .int (DG i)), (0, .ref h), (1, .int ((rr n E DG G T i).2.2)), (2, .int (nI i))]) hx hb dX0_rollRound_24 rfl hl (by decide) rfl (fun ls hl => ?_)
    refine lv_iload_n hx hb dX0_rollRound_25 rfl (lv_at hl 0 rfl) ?_
    refine lv_if_le (tgt := 69) hx hb dX0_rollRound_26 (by decide) (fun c26 => ?_) (fun c26 => ?_)
    · skip
      refine lv_iinc (v := nI (i + 1)) (lv' := [(2, .int (nI (i + 1))), (3, .int (DG i)), (0, .ref h), (1, .int ((rr n E DG G T i).2.2))]) hx hb dX0_rollRound_69 hl (k := 3) rfl (kt_inc _) (by decide) rfl (fun ls hl => ?_)
      refine lv_goto (tgt := 4) hx hb dX0_rollRound_72 (by decide) ?_
      have eq0 : rr n E DG G T (i + 1) = ((rr n E DG G T i).1, (rr n E DG G T i).2.1, (rr n E DG G T i).2.2) := by exact (show rrS n E DG i (rr n E DG G T i) = _ by first | exact if_pos c26 | exact (if_neg c26).trans (if_pos c36) | exact (if_neg c26).trans (if_neg c36))
      exact ih_i H locs ls hlt_i (by show va_P (dC, dI) vwCl (wHM h g t ((rr n E DG G T (i + 1)).1) ((rr n E DG G T (i + 1)).2.1) cI cII mo eo dg to er n E DG) H; first | exact hP | (rw [eq0]; exact hP)) (by show va_D A (wHM h g t ((rr n E DG G T (i + 1)).1) ((rr n E DG G T (i + 1)).2.1) cI cII mo eo dg to er n E DG); first | exact hD | (rw [eq0]; exact hD)) hS (by show lv_has ls 5 [(0, .ref h), (1, .int ((rr n E DG G T (i + 1)).2.2)), (2, .int (nI (i + 1)))]; first | exact lv_sub hl [2, 3, 0] rfl | (rw [eq0]; exact lv_sub hl [2, 3, 0] rfl))
    · skip
      refine lv_aload_n hx hb dX0_rollRound_29 rfl (lv_at hl 1 rfl) ?_
      refine va_get (D := (dC, dI)) (ci := kX0) (v := .ref g) (C := RX0) (T := TX0) (N := 3) hx hb hts hi_X0 hown hK hP 0 rfl rfl 0 (by decide) hf_9 (fun _ h9 => h9) rfl dX0_rollRound_30 ?_
      refine lv_iload_n hx hb dX0_rollRound_33 rfl (lv_at hl 3 rfl) ?_
      refine kt_iald hx hb hK hP 1 0 rfl rfl (by omega) (by decide) dX0_rollRound_34 ?_
      refine lv_iload_n hx hb dX0_rollRound_35 rfl (lv_at hl 0 rfl) ?_
      refine lv_icmp_lt (tgt := 69) hx hb dX0_rollRound_36 (by decide) (fun c36 => ?_) (fun c36 => ?_)
      · skip
        refine lv_iinc (v := nI (i + 1)) (lv' := [(2, .int (nI (i + 1))), (3, .int (DG i)), (0, .ref h), (1, .int ((rr n E DG G T i).2.2))]) hx hb dX0_rollRound_69 hl (k := 3) rfl (kt_inc _) (by decide) rfl (fun ls hl => ?_)
        refine lv_goto (tgt := 4) hx hb dX0_rollRound_72 (by decide) ?_
        have eq0 : rr n E DG G T (i + 1) = ((rr n E DG G T i).1, (rr n E DG G T i).2.1, (rr n E DG G T i).2.2) := by exact (show rrS n E DG i (rr n E DG G T i) = _ by first | exact if_pos c26 | exact (if_neg c26).trans (if_pos c36) | exact (if_neg c26).trans (if_neg c36))
        exact ih_i H locs ls hlt_i (by show va_P (dC, dI) vwCl (wHM h g t ((rr n E DG G T (i + 1)).1) ((rr n E DG G T (i + 1)).2.1) cI cII mo eo dg to er n E DG) H; first | exact hP | (rw [eq0]; exact hP)) (by show va_D A (wHM h g t ((rr n E DG G T (i + 1)).1) ((rr n E DG G T (i + 1)).2.1) cI cII mo eo dg to er n E DG); first | exact hD | (rw [eq0]; exact hD)) hS (by show lv_has ls 5 [(0, .ref h), (1, .int ((rr n E DG G T (i + 1)).2.2)), (2, .int (nI (i + 1)))]; first | exact lv_sub hl [2, 3, 0] rfl | (rw [eq0]; exact lv_sub hl [2, 3, 0] rfl))
      · skip
        refine lv_aload_n hx hb dX0_rollRound_39 rfl (lv_at hl 1 rfl) ?_
        refine va_get (D := (dC, dI)) (ci := kX0) (v := .ref g) (C := RX0) (T := TX0) (N := 3) hx hb hts hi_X0 hown hK hP 0 rfl rfl 0 (by decide) hf_9 (fun _ h9 => h9) rfl dX0_rollRound_40 ?_
        refine lv_iload_n hx hb dX0_rollRound_43 rfl (lv_at hl 3 rfl) ?_
        refine kt_iald hx hb hK hP 1 0 rfl rfl (by omega) (by decide) dX0_rollRound_44 ?_
        refine lv_iload_n hx hb dX0_rollRound_45 rfl (lv_at hl 0 rfl) ?_
        refine lv_idiv hx hb dX0_rollRound_46 (fun z => c26 (by rw [z]; decide)) ?_
        refine lv_istore (lv' := [(4, .int ((((rr n E DG G T i).1) i) / (DG i))), (3, .int (DG i)), (0, .ref h), (1, .int ((rr n E DG G T i).2.2)), (2, .int (nI i))]) hx hb dX0_rollRound_47 hl (by decide) rfl (fun ls hl => ?_)
        refine lv_aload_n hx hb dX0_rollRound_49 rfl (lv_at hl 2 rfl) ?_
        refine lv_iload_n hx hb dX0_rollRound_50 rfl (lv_at hl 4 rfl) ?_
        refine lv_iload hx hb dX0_rollRound_51 (lv_at hl 0 rfl) ?_
        refine kt_callv (wR := kt_pick (wHM h g t ((rr n E DG G T i).1) ((rr n E DG G T i).2.1) cI cII mo eo dg to er n E DG) []) (w' := wHM h g t (tipG n E DG i ((((rr n E DG G T i).1) i) / (DG i)) ((rr n E DG G T i).1)) ((rr n E DG G T i).2.1) cI cII mo eo dg to er n E DG) (rest := []) (As := [.int (nI i), .int ((((rr n E DG G T i).1) i) / (DG i))]) ⟨hx, hb, hml, hown, hts⟩ (c_X0_tip l dC dI cI cII cJ cJJ h g t ((rr n E DG G T i).1) ((rr n E DG G T i).2.1) mo eo dg to er n E DG i ((((rr n E DG G T i).1) i) / (DG i)) _ (hn) (by omega)) (cwV 2 hts gX0_rollRound_X0_tip rfl rfl rfl (by decide +kernel) ⟨Nat.le_of_ble_eq_true rfl, Nat.le_of_ble_eq_true rfl⟩) hK hP hD hS hA [0, 1, 2, 3, 4, 5, 6, 7, 8, 9, 10, 11, 12] [] rfl rfl rfl rfl (by decide) [0, 1, 2, 3, 4, 5, 6, 7, 8, 9, 10, 11, 12] rfl rfl 0 kX0 rfl rfl rfl rfl rfl hl.1 (by decide) dX0_rollRound_53 ⟨Nat.zero_le _, Nat.zero_le _⟩ (fun H locs hP hD hS => ?_)
        refine lv_aload_n hx hb dX0_rollRound_56 rfl (lv_at hl 2 rfl) ?_
        refine va_get (D := (dC, dI)) (ci := kX0) (v := .ref t) (C := RX0) (T := TX0) (N := 3) hx hb hts hi_X0 hown hK hP 0 rfl rfl 1 (by decide) hf_15 (fun _ h9 => h9) rfl dX0_rollRound_57 ?_
        refine lv_iload_n hx hb dX0_rollRound_60 rfl (lv_at hl 4 rfl) ?_
        refine lv_dup2_11 hx hb dX0_rollRound_61 rfl rfl ?_
        refine kt_iald hx hb hK hP 2 0 rfl rfl (by omega) (by decide) dX0_rollRound_62 ?_
        refine lv_iload hx hb dX0_rollRound_63 (lv_at hl 0 rfl) ?_
        refine lv_iadd hx hb dX0_rollRound_65 ?_
        refine kt_iast hx hb hK hP hD hS 2 0 rfl rfl (by omega) (by decide) dX0_rollRound_66 (fun H locs hP hD hS => ?_)
        have hP : va_P (dC, dI) vwCl (wHM h g t (tipG n E DG i ((((rr n E DG G T i).1) i) / (DG i)) ((rr n E DG G T i).1)) (upd ((rr n E DG G T i).2.1) i ((((rr n E DG G T i).2.1) i) + ((((rr n E DG G T i).1) i) / (DG i)))) cI cII mo eo dg to er n E DG) H := hP
        have hD : va_D A (wHM h g t (tipG n E DG i ((((rr n E DG G T i).1) i) / (DG i)) ((rr n E DG G T i).1)) (upd ((rr n E DG G T i).2.1) i ((((rr n E DG G T i).2.1) i) + ((((rr n E DG G T i).1) i) / (DG i)))) cI cII mo eo dg to er n E DG) := hD
        refine lv_iconst (v := nI 1) hx hb dX0_rollRound_67 (by decide) ?_
        refine lv_istore_n (lv' := [(1, .int (nI 1)), (4, .int ((((rr n E DG G T i).1) i) / (DG i))), (3, .int (DG i)), (0, .ref h), (2, .int (nI i))]) hx hb dX0_rollRound_68 rfl hl (by decide) rfl (fun ls hl => ?_)
        refine lv_iinc (v := nI (i + 1)) (lv' := [(2, .int (nI (i + 1))), (1, .int (nI 1)), (4, .int ((((rr n E DG G T i).1) i) / (DG i))), (3, .int (DG i)), (0, .ref h)]) hx hb dX0_rollRound_69 hl (k := 4) rfl (kt_inc _) (by decide) rfl (fun ls hl => ?_)
        refine lv_goto (tgt := 4) hx hb dX0_rollRound_72 (by decide) ?_
        have eq0 : rr n E DG G T (i + 1) = ((tipG n E DG i ((((rr n E DG G T i).1) i) / (DG i)) ((rr n E DG G T i).1)), upd ((rr n E DG G T i).2.1) i ((((rr n E DG G T i).2.1) i) + ((((rr n E DG G T i).1) i) / (DG i))), nI 1) := by exact (show rrS n E DG i (rr n E DG G T i) = _ by first | exact if_pos c26 | exact (if_neg c26).trans (if_pos c36) | exact (if_neg c26).trans (if_neg c36))
        exact ih_i H locs ls hlt_i (by show va_P (dC, dI) vwCl (wHM h g t ((rr n E DG G T (i + 1)).1) ((rr n E DG G T (i + 1)).2.1) cI cII mo eo dg to er n E DG) H; first | exact hP | (rw [eq0]; exact hP)) (by show va_D A (wHM h g t ((rr n E DG G T (i + 1)).1) ((rr n E DG G T (i + 1)).2.1) cI cII mo eo dg to er n E DG); first | exact hD | (rw [eq0]; exact hD)) hS (by show lv_has ls 5 [(0, .ref h), (1, .int ((rr n E DG G T (i + 1)).2.2)), (2, .int (nI (i + 1)))]; first | exact lv_sub hl [4, 1, 0] rfl | (rw [eq0]; exact lv_sub hl [4, 1, 0] rfl))

set_option maxHeartbeats 4000000 in
set_option maxRecDepth 100000 in
theorem c_X0_allTimes (l : Launch) (dC : Nat → ClassId) (dI : Nat → Nat → Nat) (cI cII cJ cJJ : ClassId) (h : Nat) (g : Nat) (t : Nat) (G : Nat → Int32) (T : Nat → Int32) (mo : Nat) (eo : Nat) (dg : Nat) (to : Nat) (er : Nat → Nat) (n : Nat) (E : Nat → Nat → Int32) (DG : Nat → Int32) (sz : Nat) (hn : n ≤ 6) : Met l yX0_allTimes wsX0_allTimes ({ frames := 0, cells := 0, slots := 0, locals := 0 }) (va_Pc [.ref h] (PRE (dC, dI) (tyL cI cII cJ cJJ) (wHM h g t G T cI cII mo eo dg to er n E DG) sz)) (va_Qi (fun (r' : Int32) (_ : Unit) => r' = sumN T n) (fun _ tS => ATW (dC, dI) (tyL cI cII cJ cJJ) (va_A (wHM h g t G T cI cII mo eo dg to er n E DG) sz) (wHM h g t G T cI cII mo eo dg to er n E DG) tS) (va_A (wHM h g t G T cI cII mo eo dg to er n E DG) sz)) 0 0 (va_A (wHM h g t G T cI cII mo eo dg to er n E DG) sz) := by
  refine Met.ofW (cc := cX0_allTimes) (maxL := 3) (ret := (some .int)) (by decide) rfl ?_
  intro p e s m args below meth c s₁ B hml hv
  obtain ⟨rfl, hsz, hP, hK, hD0⟩ := hv
  have hx := B.exec
  have hb := B.bytes
  have hr := B.returns
  have hlocks := B.notSynchronized
  have hts := atoms_spec (ws := wsX0_allTimes) B.pre
  have hown : s.vm.findClass RX0 = some m.cls := findClass_of_methodNamed B.named
  subst hsz
  have hD := hD0.self (sz := s.heap.size)
  generalize hAe : va_A (wHM h g t G T cI cII mo eo dg to er n E DG) s.heap.size = A at hD ⊢
  have hA : ∀ q : Nat, s.heap.size ≤ q → A q := fun q h => by rw [← hAe]; exact Or.inr h
  have hS : va_S A s.heap s.heap [] := va_S.rf
  have hl := lv_entry ([.ref h]) (n := 3) (Nat.le_of_ble_eq_true rfl)
  rw [lg_entry_eq]
  generalize (lg_sl ([.ref h]) ++ List.replicate (3 - (lg_sl ([.ref h])).length) Slot.unset).toArray = ls at hl ⊢
  have hl : lv_has ls 3 [(0, .ref h)] := hl
  have hi_X0 : ∀ w ∈ u_ws RX0 TX0 3, w ∈ wsX0_allTimes := by decide +kernel
  have hf_18 := hts (.fieldLink RX0 18 "Topplemoor$Heap" "moor" "LTopplemoor$Moor;") (by decide +kernel)
  have hi_X2 : ∀ w ∈ u_ws RX2 TX2 4, w ∈ wsX0_allTimes := by decide +kernel
  have hf_28 := hts (.fieldLink RX0 28 "Topplemoor$Moor" "spots" "I") (by decide +kernel)
  have hf_15 := hts (.fieldLink RX0 15 "Topplemoor$Heap" "times" "[I") (by decide +kernel)
  refine lv_iconst (v := nI 0) hx hb dX0_allTimes_0 (by decide) ?_
  refine lv_istore_n (lv' := [(1, .int (nI 0)), (0, .ref h)]) hx hb dX0_allTimes_1 rfl hl (by decide) rfl (fun ls hl => ?_)
  refine lv_iconst (v := nI 0) hx hb dX0_allTimes_2 (by decide) ?_
  refine lv_istore_n (lv' := [(2, .int (nI 0)), (1, .int (nI 0)), (0, .ref h)]) hx hb dX0_allTimes_3 rfl hl (by decide) rfl (fun ls hl => ?_)
  refine kt_for (n := n) (WD := fun (i : Nat) => wHM h g t G T cI cII mo eo dg to er n E DG) (LV := fun (i : Nat) => [(0, .ref h), (1, .int (sumN T i)), (2, .int (nI i))]) (nL := 3) (hd := 4) ?_ hP hD hS (lv_sub hl [2, 1, 0] rfl)
  intro i hle_i ih_i H locs ls hP hD hS hl
  have hP : va_P (dC, dI) vwCl (wHM h g t G T cI cII mo eo dg to er n E DG) H := hP
  have hD : va_D A (wHM h g t G T cI cII mo eo dg to er n E DG) := hD
  have hl : lv_has ls 3 [(0, .ref h), (1, .int (sumN T i)), (2, .int (nI i))] := hl
  refine lv_iload_n hx hb dX0_allTimes_4 rfl (lv_at hl 2 rfl) ?_
  refine lv_aload_n hx hb dX0_allTimes_5 rfl (lv_at hl 0 rfl) ?_
  refine va_get (D := (dC, dI)) (ci := kX0) (v := .ref mo) (C := RX0) (T := TX0) (N := 3) hx hb hts hi_X0 hown hK hP 0 rfl rfl 2 (by decide) hf_18 (fun _ h9 => h9) rfl dX0_allTimes_6 ?_
  refine va_get (D := (dC, dI)) (ci := kX2) (v := .int (nI n)) (C := RX2) (T := TX2) (N := 4) hx hb hts hi_X2 hown hK hP 3 rfl rfl 0 (by decide) hf_28 (fun _ h9 => h9) rfl dX0_allTimes_9 ?_
  refine kt_ige (tgt := 30) hx hb (by omega) (by omega) dX0_allTimes_12 (by decide) (fun hge_i => ?_) (fun hlt_i => ?_)
  · have e_i : n = i := by omega
    subst e_i
    refine lv_iload_n hx hb dX0_allTimes_30 rfl (lv_at hl 1 rfl) ?_
    exact kt_iret (W' := wHM h g t G T cI cII mo eo dg to er n E DG) hx hb hr hS hP hK hD (rfl) hlocks dX0_allTimes_31
  · skip
    refine lv_iload_n hx hb dX0_allTimes_15 rfl (lv_at hl 1 rfl) ?_
    refine lv_aload_n hx hb dX0_allTimes_16 rfl (lv_at hl 0 rfl) ?_
    refine va_get (D := (dC, dI)) (ci := kX0) (v := .ref t) (C := RX0) (T := TX0) (N := 3) hx hb hts hi_X0 hown hK hP 0 rfl rfl 1 (by decide) hf_15 (fun _ h9 => h9) rfl dX0_allTimes_17 ?_
    refine lv_iload_n hx hb dX0_allTimes_20 rfl (lv_at hl 2 rfl) ?_
    refine kt_iald hx hb hK hP 2 0 rfl rfl (by omega) (by decide) dX0_allTimes_21 ?_
    refine lv_iadd hx hb dX0_allTimes_22 ?_
    refine lv_istore_n (lv' := [(1, .int ((sumN T i) + (T i))), (0, .ref h), (2, .int (nI i))]) hx hb dX0_allTimes_23 rfl hl (by decide) rfl (fun ls hl => ?_)
    refine lv_iinc (v := nI (i + 1)) (lv' := [(2, .int (nI (i + 1))), (1, .int ((sumN T i) + (T i))), (0, .ref h)]) hx hb dX0_allTimes_24 hl (k := 2) rfl (kt_inc _) (by decide) rfl (fun ls hl => ?_)
    refine lv_goto (tgt := 4) hx hb dX0_allTimes_27 (by decide) ?_
    exact ih_i H locs ls hlt_i hP hD hS (lv_sub hl [2, 1, 0] rfl)

set_option maxHeartbeats 4000000 in
set_option maxRecDepth 100000 in
theorem c_X0_swallowedByRoll (l : Launch) (dC : Nat → ClassId) (dI : Nat → Nat → Nat) (cI cII cJ cJJ : ClassId) (h : Nat) (g : Nat) (t : Nat) (G : Nat → Int32) (T : Nat → Int32) (mo : Nat) (eo : Nat) (dg : Nat) (to : Nat) (er : Nat → Nat) (n : Nat) (E : Nat → Nat → Int32) (DG : Nat → Int32) (sz : Nat) (hn : n ≤ 6) : Met l yX0_swallowedByRoll wsX0_swallowedByRoll ({ frames := 0, cells := 0, slots := 0, locals := 0 }) (va_Pc [.ref h] (PRE (dC, dI) (tyL cI cII cJ cJJ) (wHM h g t G T cI cII mo eo dg to er n E DG) sz)) (va_Qi (fun (r' : Int32) (_ : Unit) => r' = sumN (fun k => T k * E k 6) n) (fun _ tS => ATW (dC, dI) (tyL cI cII cJ cJJ) (va_A (wHM h g t G T cI cII mo eo dg to er n E DG) sz) (wHM h g t G T cI cII mo eo dg to er n E DG) tS) (va_A (wHM h g t G T cI cII mo eo dg to er n E DG) sz)) 0 0 (va_A (wHM h g t G T cI cII mo eo dg to er n E DG) sz) := by
  refine Met.ofW (cc := cX0_swallowedByRoll) (maxL := 3) (ret := (some .int)) (by decide) rfl ?_
  intro p e s m args below meth c s₁ B hml hv
  obtain ⟨rfl, hsz, hP, hK, hD0⟩ := hv
  have hx := B.exec
  have hb := B.bytes
  have hr := B.returns
  have hlocks := B.notSynchronized
  have hts := atoms_spec (ws := wsX0_swallowedByRoll) B.pre
  have hown : s.vm.findClass RX0 = some m.cls := findClass_of_methodNamed B.named
  subst hsz
  have hD := hD0.self (sz := s.heap.size)
  generalize hAe : va_A (wHM h g t G T cI cII mo eo dg to er n E DG) s.heap.size = A at hD ⊢
  have hA : ∀ q : Nat, s.heap.size ≤ q → A q := fun q h => by rw [← hAe]; exact Or.inr h
  have hS : va_S A s.heap s.heap [] := va_S.rf
  have hl := lv_entry ([.ref h]) (n := 3) (Nat.le_of_ble_eq_true rfl)
  rw [lg_entry_eq]
  generalize (lg_sl ([.ref h]) ++ List.replicate (3 - (lg_sl ([.ref h])).length) Slot.unset).toArray = ls at hl ⊢
  have hl : lv_has ls 3 [(0, .ref h)] := hl
  have hi_X0 : ∀ w ∈ u_ws RX0 TX0 3, w ∈ wsX0_swallowedByRoll := by decide +kernel
  have hf_18 := hts (.fieldLink RX0 18 "Topplemoor$Heap" "moor" "LTopplemoor$Moor;") (by decide +kernel)
  have hi_X2 : ∀ w ∈ u_ws RX2 TX2 4, w ∈ wsX0_swallowedByRoll := by decide +kernel
  have hf_28 := hts (.fieldLink RX0 28 "Topplemoor$Moor" "spots" "I") (by decide +kernel)
  have hf_15 := hts (.fieldLink RX0 15 "Topplemoor$Heap" "times" "[I") (by decide +kernel)
  have hf_34 := hts (.fieldLink RX0 34 "Topplemoor$Moor" "edges" "[[I") (by decide +kernel)
  refine lv_iconst (v := nI 0) hx hb dX0_swallowedByRoll_0 (by decide) ?_
  refine lv_istore_n (lv' := [(1, .int (nI 0)), (0, .ref h)]) hx hb dX0_swallowedByRoll_1 rfl hl (by decide) rfl (fun ls hl => ?_)
  refine lv_iconst (v := nI 0) hx hb dX0_swallowedByRoll_2 (by decide) ?_
  refine lv_istore_n (lv' := [(2, .int (nI 0)), (1, .int (nI 0)), (0, .ref h)]) hx hb dX0_swallowedByRoll_3 rfl hl (by decide) rfl (fun ls hl => ?_)
  refine kt_for (n := n) (WD := fun (i : Nat) => wHM h g t G T cI cII mo eo dg to er n E DG) (LV := fun (i : Nat) => [(0, .ref h), (1, .int (sumN (fun k => T k * E k 6) i)), (2, .int (nI i))]) (nL := 3) (hd := 4) ?_ hP hD hS (lv_sub hl [2, 1, 0] rfl)
  intro i hle_i ih_i H locs ls hP hD hS hl
  have hP : va_P (dC, dI) vwCl (wHM h g t G T cI cII mo eo dg to er n E DG) H := hP
  have hD : va_D A (wHM h g t G T cI cII mo eo dg to er n E DG) := hD
  have hl : lv_has ls 3 [(0, .ref h), (1, .int (sumN (fun k => T k * E k 6) i)), (2, .int (nI i))] := hl
  refine lv_iload_n hx hb dX0_swallowedByRoll_4 rfl (lv_at hl 2 rfl) ?_
  refine lv_aload_n hx hb dX0_swallowedByRoll_5 rfl (lv_at hl 0 rfl) ?_
  refine va_get (D := (dC, dI)) (ci := kX0) (v := .ref mo) (C := RX0) (T := TX0) (N := 3) hx hb hts hi_X0 hown hK hP 0 rfl rfl 2 (by decide) hf_18 (fun _ h9 => h9) rfl dX0_swallowedByRoll_6 ?_
  refine va_get (D := (dC, dI)) (ci := kX2) (v := .int (nI n)) (C := RX2) (T := TX2) (N := 4) hx hb hts hi_X2 hown hK hP 3 rfl rfl 0 (by decide) hf_28 (fun _ h9 => h9) rfl dX0_swallowedByRoll_9 ?_
  refine kt_ige (tgt := 43) hx hb (by omega) (by omega) dX0_swallowedByRoll_12 (by decide) (fun hge_i => ?_) (fun hlt_i => ?_)
  · have e_i : n = i := by omega
    subst e_i
    refine lv_iload_n hx hb dX0_swallowedByRoll_43 rfl (lv_at hl 1 rfl) ?_
    exact kt_iret (W' := wHM h g t G T cI cII mo eo dg to er n E DG) hx hb hr hS hP hK hD (rfl) hlocks dX0_swallowedByRoll_44
  · skip
    refine lv_iload_n hx hb dX0_swallowedByRoll_15 rfl (lv_at hl 1 rfl) ?_
    refine lv_aload_n hx hb dX0_swallowedByRoll_16 rfl (lv_at hl 0 rfl) ?_
    refine va_get (D := (dC, dI)) (ci := kX0) (v := .ref t) (C := RX0) (T := TX0) (N := 3) hx hb hts hi_X0 hown hK hP 0 rfl rfl 1 (by decide) hf_15 (fun _ h9 => h9) rfl dX0_swallowedByRoll_17 ?_
    refine lv_iload_n hx hb dX0_swallowedByRoll_20 rfl (lv_at hl 2 rfl) ?_
    refine kt_iald hx hb hK hP 2 0 rfl rfl (by omega) (by decide) dX0_swallowedByRoll_21 ?_
    refine lv_aload_n hx hb dX0_swallowedByRoll_22 rfl (lv_at hl 0 rfl) ?_
    refine va_get (D := (dC, dI)) (ci := kX0) (v := .ref mo) (C := RX0) (T := TX0) (N := 3) hx hb hts hi_X0 hown hK hP 0 rfl rfl 2 (by decide) hf_18 (fun _ h9 => h9) rfl dX0_swallowedByRoll_23 ?_
    refine va_get (D := (dC, dI)) (ci := kX2) (v := .ref eo) (C := RX2) (T := TX2) (N := 4) hx hb hts hi_X2 hown hK hP 3 rfl rfl 1 (by decide) hf_34 (fun _ h9 => h9) rfl dX0_swallowedByRoll_26 ?_
    refine lv_iload_n hx hb dX0_swallowedByRoll_29 rfl (lv_at hl 2 rfl) ?_
    refine kt_aald hx hb hK hP 4 1 rfl rfl (by omega) (by decide) dX0_swallowedByRoll_30 ?_
    refine lv_bipush (v := nI 6) hx hb dX0_swallowedByRoll_31 (by decide) ?_
    refine kt_iald hx hb hK hP (5 + i) 0 (row_wHM_er (by omega)) rfl (by omega) (by decide) dX0_swallowedByRoll_33 ?_
    refine lv_imul hx hb dX0_swallowedByRoll_34 ?_
    refine lv_iadd hx hb dX0_swallowedByRoll_35 ?_
    refine lv_istore_n (lv' := [(1, .int ((sumN (fun k => T k * E k 6) i) + ((T i) * (E i 6)))), (0, .ref h), (2, .int (nI i))]) hx hb dX0_swallowedByRoll_36 rfl hl (by decide) rfl (fun ls hl => ?_)
    refine lv_iinc (v := nI (i + 1)) (lv' := [(2, .int (nI (i + 1))), (1, .int ((sumN (fun k => T k * E k 6) i) + ((T i) * (E i 6)))), (0, .ref h)]) hx hb dX0_swallowedByRoll_37 hl (k := 2) rfl (kt_inc _) (by decide) rfl (fun ls hl => ?_)
    refine lv_goto (tgt := 4) hx hb dX0_swallowedByRoll_40 (by decide) ?_
    exact ih_i H locs ls hlt_i hP hD hS (lv_sub hl [2, 1, 0] rfl)

set_option maxHeartbeats 4000000 in
set_option maxRecDepth 100000 in
theorem c_X0_toppledSet (l : Launch) (dC : Nat → ClassId) (dI : Nat → Nat → Nat) (cI cII cJ cJJ : ClassId) (h : Nat) (g : Nat) (t : Nat) (G : Nat → Int32) (T : Nat → Int32) (mo : Nat) (eo : Nat) (dg : Nat) (to : Nat) (er : Nat → Nat) (n : Nat) (E : Nat → Nat → Int32) (DG : Nat → Int32) (sz : Nat) (hn : n ≤ 6) : Met l yX0_toppledSet wsX0_toppledSet ({ frames := 0, cells := 0, slots := 0, locals := 0 }) (va_Pc [.ref h] (PRE (dC, dI) (tyL cI cII cJ cJJ) (wHM h g t G T cI cII mo eo dg to er n E DG) sz)) (va_Qi (fun (r' : Int32) (_ : Unit) => r' = it (setS (fun k => decide (0 < T k))) n 0) (fun _ tS => ATW (dC, dI) (tyL cI cII cJ cJJ) (va_A (wHM h g t G T cI cII mo eo dg to er n E DG) sz) (wHM h g t G T cI cII mo eo dg to er n E DG) tS) (va_A (wHM h g t G T cI cII mo eo dg to er n E DG) sz)) 0 0 (va_A (wHM h g t G T cI cII mo eo dg to er n E DG) sz) := by
  refine Met.ofW (cc := cX0_toppledSet) (maxL := 3) (ret := (some .int)) (by decide) rfl ?_
  intro p e s m args below meth c s₁ B hml hv
  obtain ⟨rfl, hsz, hP, hK, hD0⟩ := hv
  have hx := B.exec
  have hb := B.bytes
  have hr := B.returns
  have hlocks := B.notSynchronized
  have hts := atoms_spec (ws := wsX0_toppledSet) B.pre
  have hown : s.vm.findClass RX0 = some m.cls := findClass_of_methodNamed B.named
  subst hsz
  have hD := hD0.self (sz := s.heap.size)
  generalize hAe : va_A (wHM h g t G T cI cII mo eo dg to er n E DG) s.heap.size = A at hD ⊢
  have hA : ∀ q : Nat, s.heap.size ≤ q → A q := fun q h => by rw [← hAe]; exact Or.inr h
  have hS : va_S A s.heap s.heap [] := va_S.rf
  have hl := lv_entry ([.ref h]) (n := 3) (Nat.le_of_ble_eq_true rfl)
  rw [lg_entry_eq]
  generalize (lg_sl ([.ref h]) ++ List.replicate (3 - (lg_sl ([.ref h])).length) Slot.unset).toArray = ls at hl ⊢
  have hl : lv_has ls 3 [(0, .ref h)] := hl
  have hi_X0 : ∀ w ∈ u_ws RX0 TX0 3, w ∈ wsX0_toppledSet := by decide +kernel
  have hf_18 := hts (.fieldLink RX0 18 "Topplemoor$Heap" "moor" "LTopplemoor$Moor;") (by decide +kernel)
  have hi_X2 : ∀ w ∈ u_ws RX2 TX2 4, w ∈ wsX0_toppledSet := by decide +kernel
  have hf_28 := hts (.fieldLink RX0 28 "Topplemoor$Moor" "spots" "I") (by decide +kernel)
  have hf_15 := hts (.fieldLink RX0 15 "Topplemoor$Heap" "times" "[I") (by decide +kernel)
  refine lv_iconst (v := nI 0) hx hb dX0_toppledSet_0 (by decide) ?_
  refine lv_istore_n (lv' := [(1, .int (nI 0)), (0, .ref h)]) hx hb dX0_toppledSet_1 rfl hl (by decide) rfl (fun ls hl => ?_)
  refine lv_iconst (v := nI 0) hx hb dX0_toppledSet_2 (by decide) ?_
  refine lv_istore_n (lv' := [(2, .int (nI 0)), (1, .int (nI 0)), (0, .ref h)]) hx hb dX0_toppledSet_3 rfl hl (by decide) rfl (fun ls hl => ?_)
  refine kt_for (n := n) (WD := fun (i : Nat) => wHM h g t G T cI cII mo eo dg to er n E DG) (LV := fun (i : Nat) => [(0, .ref h), (1, .int (it (setS (fun k => decide (0 < T k))) i 0)), (2, .int (nI i))]) (nL := 3) (hd := 4) ?_ hP hD hS (lv_sub hl [2, 1, 0] rfl)
  intro i hle_i ih_i H locs ls hP hD hS hl
  have hP : va_P (dC, dI) vwCl (wHM h g t G T cI cII mo eo dg to er n E DG) H := hP
  have hD : va_D A (wHM h g t G T cI cII mo eo dg to er n E DG) := hD
  have hl : lv_has ls 3 [(0, .ref h), (1, .int (it (setS (fun k => decide (0 < T k))) i 0)), (2, .int (nI i))] := hl
  refine lv_iload_n hx hb dX0_toppledSet_4 rfl (lv_at hl 2 rfl) ?_
  refine lv_aload_n hx hb dX0_toppledSet_5 rfl (lv_at hl 0 rfl) ?_
  refine va_get (D := (dC, dI)) (ci := kX0) (v := .ref mo) (C := RX0) (T := TX0) (N := 3) hx hb hts hi_X0 hown hK hP 0 rfl rfl 2 (by decide) hf_18 (fun _ h9 => h9) rfl dX0_toppledSet_6 ?_
  refine va_get (D := (dC, dI)) (ci := kX2) (v := .int (nI n)) (C := RX2) (T := TX2) (N := 4) hx hb hts hi_X2 hown hK hP 3 rfl rfl 0 (by decide) hf_28 (fun _ h9 => h9) rfl dX0_toppledSet_9 ?_
  refine kt_ige (tgt := 36) hx hb (by omega) (by omega) dX0_toppledSet_12 (by decide) (fun hge_i => ?_) (fun hlt_i => ?_)
  · have e_i : n = i := by omega
    subst e_i
    refine lv_iload_n hx hb dX0_toppledSet_36 rfl (lv_at hl 1 rfl) ?_
    exact kt_iret (W' := wHM h g t G T cI cII mo eo dg to er n E DG) hx hb hr hS hP hK hD (rfl) hlocks dX0_toppledSet_37
  · skip
    refine lv_aload_n hx hb dX0_toppledSet_15 rfl (lv_at hl 0 rfl) ?_
    refine va_get (D := (dC, dI)) (ci := kX0) (v := .ref t) (C := RX0) (T := TX0) (N := 3) hx hb hts hi_X0 hown hK hP 0 rfl rfl 1 (by decide) hf_15 (fun _ h9 => h9) rfl dX0_toppledSet_16 ?_
    refine lv_iload_n hx hb dX0_toppledSet_19 rfl (lv_at hl 2 rfl) ?_
    refine kt_iald hx hb hK hP 2 0 rfl rfl (by omega) (by decide) dX0_toppledSet_20 ?_
    refine lv_if_le (tgt := 30) hx hb dX0_toppledSet_21 (by decide) (fun c21 => ?_) (fun c21 => ?_)
    · skip
      refine lv_iinc (v := nI (i + 1)) (lv' := [(2, .int (nI (i + 1))), (0, .ref h), (1, .int (it (setS (fun k => decide (0 < T k))) i 0))]) hx hb dX0_toppledSet_30 hl (k := 2) rfl (kt_inc _) (by decide) rfl (fun ls hl => ?_)
      refine lv_goto (tgt := 4) hx hb dX0_toppledSet_33 (by decide) ?_
      have eq0 : it (setS (fun k => decide (0 < T k))) (i + 1) 0 = it (setS (fun k => decide (0 < T k))) i 0 := by show setS (fun k => decide (0 < T k)) i (it (setS (fun k => decide (0 < T k))) i 0) = _; first | (rw [setS, if_neg (by simp [Int32.not_lt, c21])]; done) | (rw [setS, if_pos (by simp [Int32.not_le.mp c21])]; done)
      exact ih_i H locs ls hlt_i (by show va_P (dC, dI) vwCl (wHM h g t G T cI cII mo eo dg to er n E DG) H; first | exact hP | (rw [eq0]; exact hP)) (by show va_D A (wHM h g t G T cI cII mo eo dg to er n E DG); first | exact hD | (rw [eq0]; exact hD)) hS (by show lv_has ls 3 [(0, .ref h), (1, .int (it (setS (fun k => decide (0 < T k))) (i + 1) 0)), (2, .int (nI (i + 1)))]; first | exact lv_sub hl [1, 2, 0] rfl | (rw [eq0]; exact lv_sub hl [1, 2, 0] rfl))
    · skip
      refine lv_iload_n hx hb dX0_toppledSet_24 rfl (lv_at hl 1 rfl) ?_
      refine lv_iconst (v := 1) hx hb dX0_toppledSet_25 (by decide) ?_
      refine lv_iload_n hx hb dX0_toppledSet_26 rfl (lv_at hl 2 rfl) ?_
      refine lv_ishl hx hb dX0_toppledSet_27 ?_
      refine lv_ior hx hb dX0_toppledSet_28 ?_
      refine lv_istore_n (lv' := [(1, .int ((it (setS (fun k => decide (0 < T k))) i 0) ||| (1 <<< (nI i &&& 31)))), (0, .ref h), (2, .int (nI i))]) hx hb dX0_toppledSet_29 rfl hl (by decide) rfl (fun ls hl => ?_)
      refine lv_iinc (v := nI (i + 1)) (lv' := [(2, .int (nI (i + 1))), (1, .int ((it (setS (fun k => decide (0 < T k))) i 0) ||| (1 <<< (nI i &&& 31)))), (0, .ref h)]) hx hb dX0_toppledSet_30 hl (k := 2) rfl (kt_inc _) (by decide) rfl (fun ls hl => ?_)
      refine lv_goto (tgt := 4) hx hb dX0_toppledSet_33 (by decide) ?_
      have eq0 : it (setS (fun k => decide (0 < T k))) (i + 1) 0 = (it (setS (fun k => decide (0 < T k))) i 0) ||| (1 <<< (nI i &&& 31)) := by show setS (fun k => decide (0 < T k)) i (it (setS (fun k => decide (0 < T k))) i 0) = _; first | (rw [setS, if_neg (by simp [Int32.not_lt, c21])]; done) | (rw [setS, if_pos (by simp [Int32.not_le.mp c21])]; done)
      exact ih_i H locs ls hlt_i (by show va_P (dC, dI) vwCl (wHM h g t G T cI cII mo eo dg to er n E DG) H; first | exact hP | (rw [eq0]; exact hP)) (by show va_D A (wHM h g t G T cI cII mo eo dg to er n E DG); first | exact hD | (rw [eq0]; exact hD)) hS (by show lv_has ls 3 [(0, .ref h), (1, .int (it (setS (fun k => decide (0 < T k))) (i + 1) 0)), (2, .int (nI (i + 1)))]; first | exact lv_sub hl [2, 1, 0] rfl | (rw [eq0]; exact lv_sub hl [2, 1, 0] rfl))

set_option maxHeartbeats 4000000 in
set_option maxRecDepth 100000 in
theorem c_X0_hasEachToppledOnce (l : Launch) (dC : Nat → ClassId) (dI : Nat → Nat → Nat) (cI cII cJ cJJ : ClassId) (h : Nat) (g : Nat) (t : Nat) (G : Nat → Int32) (T : Nat → Int32) (mo : Nat) (eo : Nat) (dg : Nat) (to : Nat) (er : Nat → Nat) (n : Nat) (E : Nat → Nat → Int32) (DG : Nat → Int32) (sz : Nat) (hn : n ≤ 6) : Met l yX0_hasEachToppledOnce wsX0_hasEachToppledOnce ({ frames := 0, cells := 0, slots := 0, locals := 0 }) (va_Pc [.ref h] (PRE (dC, dI) (tyL cI cII cJ cJJ) (wHM h g t G T cI cII mo eo dg to er n E DG) sz)) (va_Qi (fun (r' : Int32) (_ : Unit) => r' = b2i (allN (onceB T) n)) (fun _ tS => ATW (dC, dI) (tyL cI cII cJ cJJ) (va_A (wHM h g t G T cI cII mo eo dg to er n E DG) sz) (wHM h g t G T cI cII mo eo dg to er n E DG) tS) (va_A (wHM h g t G T cI cII mo eo dg to er n E DG) sz)) 0 0 (va_A (wHM h g t G T cI cII mo eo dg to er n E DG) sz) := by
  refine Met.ofW (cc := cX0_hasEachToppledOnce) (maxL := 2) (ret := (some .boolean)) (by decide) rfl ?_
  intro p e s m args below meth c s₁ B hml hv
  obtain ⟨rfl, hsz, hP, hK, hD0⟩ := hv
  have hx := B.exec
  have hb := B.bytes
  have hr := B.returns
  have hlocks := B.notSynchronized
  have hts := atoms_spec (ws := wsX0_hasEachToppledOnce) B.pre
  have hown : s.vm.findClass RX0 = some m.cls := findClass_of_methodNamed B.named
  subst hsz
  have hD := hD0.self (sz := s.heap.size)
  generalize hAe : va_A (wHM h g t G T cI cII mo eo dg to er n E DG) s.heap.size = A at hD ⊢
  have hA : ∀ q : Nat, s.heap.size ≤ q → A q := fun q h => by rw [← hAe]; exact Or.inr h
  have hS : va_S A s.heap s.heap [] := va_S.rf
  have hl := lv_entry ([.ref h]) (n := 2) (Nat.le_of_ble_eq_true rfl)
  rw [lg_entry_eq]
  generalize (lg_sl ([.ref h]) ++ List.replicate (2 - (lg_sl ([.ref h])).length) Slot.unset).toArray = ls at hl ⊢
  have hl : lv_has ls 2 [(0, .ref h)] := hl
  have hi_X0 : ∀ w ∈ u_ws RX0 TX0 3, w ∈ wsX0_hasEachToppledOnce := by decide +kernel
  have hf_18 := hts (.fieldLink RX0 18 "Topplemoor$Heap" "moor" "LTopplemoor$Moor;") (by decide +kernel)
  have hi_X2 : ∀ w ∈ u_ws RX2 TX2 4, w ∈ wsX0_hasEachToppledOnce := by decide +kernel
  have hf_28 := hts (.fieldLink RX0 28 "Topplemoor$Moor" "spots" "I") (by decide +kernel)
  have hf_15 := hts (.fieldLink RX0 15 "Topplemoor$Heap" "times" "[I") (by decide +kernel)
  refine lv_iconst (v := nI 0) hx hb dX0_hasEachToppledOnce_0 (by decide) ?_
  refine lv_istore_n (lv' := [(1, .int (nI 0)), (0, .ref h)]) hx hb dX0_hasEachToppledOnce_1 rfl hl (by decide) rfl (fun ls hl => ?_)
  refine kt_forq (n := n) (q := fun (i : Nat) => (allN (onceB T) i = true)) (WD := fun (i : Nat) => wHM h g t G T cI cII mo eo dg to er n E DG) (LV := fun (i : Nat) => [(0, .ref h), (1, .int (nI i))]) (nL := 2) (hd := 2) ?_ (rfl) hP hD hS (lv_sub hl [1, 0] rfl)
  intro i hle_i hq_i ih_i H locs ls hP hD hS hl
  have hq_i : (allN (onceB T) i = true) := hq_i
  have hq := hq_i
  have hP : va_P (dC, dI) vwCl (wHM h g t G T cI cII mo eo dg to er n E DG) H := hP
  have hD : va_D A (wHM h g t G T cI cII mo eo dg to er n E DG) := hD
  have hl : lv_has ls 2 [(0, .ref h), (1, .int (nI i))] := hl
  refine lv_iload_n hx hb dX0_hasEachToppledOnce_2 rfl (lv_at hl 1 rfl) ?_
  refine lv_aload_n hx hb dX0_hasEachToppledOnce_3 rfl (lv_at hl 0 rfl) ?_
  refine va_get (D := (dC, dI)) (ci := kX0) (v := .ref mo) (C := RX0) (T := TX0) (N := 3) hx hb hts hi_X0 hown hK hP 0 rfl rfl 2 (by decide) hf_18 (fun _ h9 => h9) rfl dX0_hasEachToppledOnce_4 ?_
  refine va_get (D := (dC, dI)) (ci := kX2) (v := .int (nI n)) (C := RX2) (T := TX2) (N := 4) hx hb hts hi_X2 hown hK hP 3 rfl rfl 0 (by decide) hf_28 (fun _ h9 => h9) rfl dX0_hasEachToppledOnce_7 ?_
  refine kt_ige (tgt := 31) hx hb (by omega) (by omega) dX0_hasEachToppledOnce_10 (by decide) (fun hge_i => ?_) (fun hlt_i => ?_)
  · have e_i : n = i := by omega
    subst e_i
    refine lv_iconst (v := 1) hx hb dX0_hasEachToppledOnce_31 (by decide) ?_
    exact kt_zret (W' := wHM h g t G T cI cII mo eo dg to er n E DG) hx hb hr (rfl) hS hP hK hD (by rw [hq]; rfl) hlocks dX0_hasEachToppledOnce_32
  · skip
    refine lv_aload_n hx hb dX0_hasEachToppledOnce_13 rfl (lv_at hl 0 rfl) ?_
    refine va_get (D := (dC, dI)) (ci := kX0) (v := .ref t) (C := RX0) (T := TX0) (N := 3) hx hb hts hi_X0 hown hK hP 0 rfl rfl 1 (by decide) hf_15 (fun _ h9 => h9) rfl dX0_hasEachToppledOnce_14 ?_
    refine lv_iload_n hx hb dX0_hasEachToppledOnce_17 rfl (lv_at hl 1 rfl) ?_
    refine kt_iald hx hb hK hP 2 0 rfl rfl (by omega) (by decide) dX0_hasEachToppledOnce_18 ?_
    refine lv_iconst (v := 1) hx hb dX0_hasEachToppledOnce_19 (by decide) ?_
    refine lv_icmp_eq (tgt := 25) hx hb dX0_hasEachToppledOnce_20 (by decide) (fun c20 => ?_) (fun c20 => ?_)
    · skip
      refine lv_iinc (v := nI (i + 1)) (lv' := [(1, .int (nI (i + 1))), (0, .ref h)]) hx hb dX0_hasEachToppledOnce_25 hl (k := 1) rfl (kt_inc _) (by decide) rfl (fun ls hl => ?_)
      refine lv_goto (tgt := 2) hx hb dX0_hasEachToppledOnce_28 (by decide) ?_
      exact ih_i H locs ls hlt_i (by simp_all [allN, likeB, onceB]) hP hD hS (lv_sub hl [1, 0] rfl)
    · skip
      refine lv_iconst (v := 0) hx hb dX0_hasEachToppledOnce_23 (by decide) ?_
      exact kt_zret (W' := wHM h g t G T cI cII mo eo dg to er n E DG) hx hb hr (rfl) hS hP hK hD (by rw [allN_false hlt_i (by simp [onceB, c20])]; rfl) hlocks dX0_hasEachToppledOnce_24

set_option maxHeartbeats 4000000 in
set_option maxRecDepth 100000 in
theorem c_X0_copyRow (l : Launch) (dC : Nat → ClassId) (dI : Nat → Nat → Nat) (cI cII cJ cJJ : ClassId) (h : Nat) (g : Nat) (t : Nat) (G : Nat → Int32) (T : Nat → Int32) (ro : Nat) (RO : Nat → Int32) (mo : Nat) (eo : Nat) (dg : Nat) (to : Nat) (er : Nat → Nat) (n : Nat) (E : Nat → Nat → Int32) (DG : Nat → Int32) (sz : Nat)  : Met l yX0_copyRow wsX0_copyRow ({ frames := 1, cells := 0, slots := 0, locals := 18 }) (va_Pc [.ref h, .ref ro] (PRE (dC, dI) (tyL cI cII cJ cJJ) (wHMr h g t G T ro RO cI cII mo eo dg to er n E DG) sz)) (va_Qv (fun (_ : Unit) => True) (fun _ tS => ATW (dC, dI) (tyL cI cII cJ cJJ) (va_A (wHMr h g t G T ro RO cI cII mo eo dg to er n E DG) sz) (wHMr h g t RO T ro RO cI cII mo eo dg to er n E DG) tS) (va_A (wHMr h g t G T ro RO cI cII mo eo dg to er n E DG) sz)) 0 0 (va_A (wHMr h g t G T ro RO cI cII mo eo dg to er n E DG) sz) := by
  refine Met.ofW (cc := cX0_copyRow) (maxL := 2) (ret := none) (by decide) rfl ?_
  intro p e s m args below meth c s₁ B hml hv
  obtain ⟨rfl, hsz, hP, hK, hD0⟩ := hv
  have hx := B.exec
  have hb := B.bytes
  have hr := B.returns
  have hlocks := B.notSynchronized
  have hts := atoms_spec (ws := wsX0_copyRow) B.pre
  have hown : s.vm.findClass RX0 = some m.cls := findClass_of_methodNamed B.named
  subst hsz
  have hD := hD0.self (sz := s.heap.size)
  generalize hAe : va_A (wHMr h g t G T ro RO cI cII mo eo dg to er n E DG) s.heap.size = A at hD ⊢
  have hA : ∀ q : Nat, s.heap.size ≤ q → A q := fun q h => by rw [← hAe]; exact Or.inr h
  have hS : va_S A s.heap s.heap [] := va_S.rf
  have hl := lv_entry ([.ref h, .ref ro]) (n := 2) (Nat.le_of_ble_eq_true rfl)
  rw [lg_entry_eq]
  generalize (lg_sl ([.ref h, .ref ro]) ++ List.replicate (2 - (lg_sl ([.ref h, .ref ro])).length) Slot.unset).toArray = ls at hl ⊢
  have hl : lv_has ls 2 [(0, .ref h), (1, .ref ro)] := hl
  have hi_X0 : ∀ w ∈ u_ws RX0 TX0 3, w ∈ wsX0_copyRow := by decide +kernel
  have hf_9 := hts (.fieldLink RX0 9 "Topplemoor$Heap" "grains" "[I") (by decide +kernel)
  have hm_l := hts (.methodLink RX0 22 arraycopyName) (by decide +kernel)
  have hm_n := hts (.native arraycopyName) (by decide +kernel)
  have hm_s := hts (.static arraycopyName) (by decide +kernel)
  have hm_i := hts (.initialized "java/lang/System") (by decide +kernel)
  refine lv_aload_n hx hb dX0_copyRow_0 rfl (lv_at hl 1 rfl) ?_
  refine lv_iconst (v := 0) hx hb dX0_copyRow_1 (by decide) ?_
  refine lv_aload_n hx hb dX0_copyRow_2 rfl (lv_at hl 0 rfl) ?_
  refine va_get (D := (dC, dI)) (ci := kX0) (v := .ref g) (C := RX0) (T := TX0) (N := 3) hx hb hts hi_X0 hown hK hP 0 rfl rfl 0 (by decide) hf_9 (fun _ h9 => h9) rfl dX0_copyRow_3 ?_
  refine lv_iconst (v := 0) hx hb dX0_copyRow_6 (by decide) ?_
  refine lv_bipush (v := 6) hx hb dX0_copyRow_7 (by decide) ?_
  refine va_copyi hx hb (by rw [hml]; exact hl.1.symm) hown hm_l hm_n hm_s hm_i hK hP hD hS 3 1 0 0 rfl rfl rfl rfl rfl (by decide) (by decide) (by decide) (by decide) (by decide) (fun _ _ => rfl) (by decide) (by decide) dX0_copyRow_9 (fun H locs hP hD hS => ?_)
  obtain ⟨hP, hD⟩ := kt_chg (RO) hP hD 1 (by rfl) (fun j hj => kt_cpy hj)
  have hP : va_P (dC, dI) vwCl (wHMr h g t RO T ro RO cI cII mo eo dg to er n E DG) H := hP
  have hD : va_D A (wHMr h g t RO T ro RO cI cII mo eo dg to er n E DG) := hD
  exact kt_vret (W' := wHMr h g t RO T ro RO cI cII mo eo dg to er n E DG) hx hb hr hS hP hK hD hlocks dX0_copyRow_12

set_option maxHeartbeats 4000000 in
set_option maxRecDepth 100000 in
theorem c_X0_roll (l : Launch) (dC : Nat → ClassId) (dI : Nat → Nat → Nat) (cI cII cJ cJJ : ClassId) (h : Nat) (g : Nat) (t : Nat) (G : Nat → Int32) (T : Nat → Int32) (mo : Nat) (eo : Nat) (dg : Nat) (to : Nat) (er : Nat → Nat) (n : Nat) (E : Nat → Nat → Int32) (DG : Nat → Int32) (sz : Nat) (hn : n ≤ 6) : Met l yX0_roll wsX0_roll ({ frames := 2, cells := 0, slots := 0, locals := 47 }) (va_Pc [.ref h] (PRE (dC, dI) (tyL cI cII cJ cJJ) (wHM h g t G T cI cII mo eo dg to er n E DG) sz)) (va_Qv (fun (_ : Unit) => True) (fun _ tS => ATW (dC, dI) (tyL cI cII cJ cJJ) (va_A (wHM h g t G T cI cII mo eo dg to er n E DG) sz) (wHM h g t ((rollF n E DG G).1) ((rollF n E DG G).2) cI cII mo eo dg to er n E DG) tS) (va_A (wHM h g t G T cI cII mo eo dg to er n E DG) sz)) 0 0 (va_A (wHM h g t G T cI cII mo eo dg to er n E DG) sz) := by
  refine Met.ofW (cc := cX0_roll) (maxL := 3) (ret := none) (by decide) rfl ?_
  intro p e s m args below meth c s₁ B hml hv
  obtain ⟨rfl, hsz, hP, hK, hD0⟩ := hv
  have hx := B.exec
  have hb := B.bytes
  have hr := B.returns
  have hlocks := B.notSynchronized
  have hts := atoms_spec (ws := wsX0_roll) B.pre
  have hown : s.vm.findClass RX0 = some m.cls := findClass_of_methodNamed B.named
  subst hsz
  have hD := hD0.self (sz := s.heap.size)
  generalize hAe : va_A (wHM h g t G T cI cII mo eo dg to er n E DG) s.heap.size = A at hD ⊢
  have hA : ∀ q : Nat, s.heap.size ≤ q → A q := fun q h => by rw [← hAe]; exact Or.inr h
  have hS : va_S A s.heap s.heap [] := va_S.rf
  have hl := lv_entry ([.ref h]) (n := 3) (Nat.le_of_ble_eq_true rfl)
  rw [lg_entry_eq]
  generalize (lg_sl ([.ref h]) ++ List.replicate (3 - (lg_sl ([.ref h])).length) Slot.unset).toArray = ls at hl ⊢
  have hl : lv_has ls 3 [(0, .ref h)] := hl
  have hi_X0 : ∀ w ∈ u_ws RX0 TX0 3, w ∈ wsX0_roll := by decide +kernel
  have hf_15 := hts (.fieldLink RX0 15 "Topplemoor$Heap" "times" "[I") (by decide +kernel)
  have hc_51 := hts (.constant RX0 51 (1000000)) (by decide +kernel)
  refine lv_aload_n hx hb dX0_roll_0 rfl (lv_at hl 0 rfl) ?_
  refine va_get (D := (dC, dI)) (ci := kX0) (v := .ref t) (C := RX0) (T := TX0) (N := 3) hx hb hts hi_X0 hown hK hP 0 rfl rfl 1 (by decide) hf_15 (fun _ h9 => h9) rfl dX0_roll_1 ?_
  refine lv_iconst (v := 0) hx hb dX0_roll_4 (by decide) ?_
  refine kt_callSv (wR := kt_pick (wHM h g t G T cI cII mo eo dg to er n E DG) [0, 1, 3, 4, 5, 6, 7, 8, 9, 10, 11, 12]) (w' := wHM h g t G (it (fillS 0) 6 T) cI cII mo eo dg to er n E DG) (rest := []) (As := [.ref t, .int 0]) ⟨hx, hb, hml, hown, hts⟩ (c_J7_fill_53178 l dC dI cI cII cJ cJJ t T 0 _ ) (va_cwS 2 hts gX0_roll_J7_fill_53178 rfl rfl rfl (by decide +kernel) ⟨Nat.le_of_ble_eq_true rfl, Nat.le_of_ble_eq_true rfl⟩) hK hP hD hS hA [2] [0, 1, 3, 4, 5, 6, 7, 8, 9, 10, 11, 12] rfl rfl rfl rfl (by decide) [0, 1, 12, 2, 3, 4, 5, 6, 7, 8, 9, 10, 11] rfl rfl rfl rfl hl.1 (by decide) dX0_roll_5 ⟨Nat.zero_le _, Nat.zero_le _⟩ (fun H locs hP hD hS => ?_)
  obtain ⟨hP, hD⟩ := kt_chg (fun _ => 0) hP hD 2 rfl (fun j hj => fill_at 0 T 6 j hj)
  have hP : va_P (dC, dI) vwCl (wHM h g t G (fun _ => 0) cI cII mo eo dg to er n E DG) H := hP
  have hD : va_D A (wHM h g t G (fun _ => 0) cI cII mo eo dg to er n E DG) := hD
  refine lv_iconst (v := nI 1) hx hb dX0_roll_8 (by decide) ?_
  refine lv_istore_n (lv' := [(1, .int (nI 1)), (0, .ref h)]) hx hb dX0_roll_9 rfl hl (by decide) rfl (fun ls hl => ?_)
  refine lv_iconst (v := nI 0) hx hb dX0_roll_10 (by decide) ?_
  refine lv_istore_n (lv' := [(2, .int (nI 0)), (1, .int (nI 1)), (0, .ref h)]) hx hb dX0_roll_11 rfl hl (by decide) rfl (fun ls hl => ?_)
  refine kt_loop (σ := Nat × S3) (μ := fun x => rounds - x.1) (I := fun x => x.1 ≤ rounds ∧ rollR n E DG (rounds - x.1) x.2 = rollF n E DG G) (WD := fun x => wHM h g t x.2.1 x.2.2.1 cI cII mo eo dg to er n E DG) (LV := fun x => [(0, .ref h), (1, .int x.2.2.2), (2, .int (nI x.1))]) (nL := 3) (hd := 12) ?_ (⟨0, (G, (fun _ => 0), 1)⟩) (⟨Nat.zero_le _, rfl⟩) hP hD hS (lv_sub hl [2, 1, 0] rfl)
  intro x hI ih_r H locs ls hP hD hS hl
  obtain ⟨r, X⟩ := x
  have hI : r ≤ rounds ∧ rollR n E DG (rounds - r) X = rollF n E DG G := hI
  have hP : va_P (dC, dI) vwCl (wHM h g t X.1 X.2.1 cI cII mo eo dg to er n E DG) H := hP
  have hD : va_D A (wHM h g t X.1 X.2.1 cI cII mo eo dg to er n E DG) := hD
  have hl : lv_has ls 3 [(0, .ref h), (1, .int X.2.2), (2, .int (nI r))] := hl
  have hR := rounds_eq
  have hI1 := hI.1
  refine lv_iload_n hx hb dX0_roll_12 rfl (lv_at hl 1 rfl) ?_
  refine lv_if_eq (tgt := 33) hx hb dX0_roll_13 (by decide) (fun c13 => ?_) (fun c13 => ?_)
  · skip
    have e : rollF n E DG G = (X.1, X.2.1) := by first | (rw [← hI.2]; exact rollR_0 c13 _) | (rw [← hI.2, show rounds - r = 0 by omega]; rfl)
    exact kt_vret (W' := wHM h g t ((rollF n E DG G).1) ((rollF n E DG G).2) cI cII mo eo dg to er n E DG) hx hb hr hS (by rw [e]; exact hP) hK (by rw [e]; exact hD) hlocks dX0_roll_33
  · skip
    refine lv_iload_n hx hb dX0_roll_16 rfl (lv_at hl 2 rfl) ?_
    refine lv_ldc (v := nI 1000000) hx hb hown hc_51 dX0_roll_17 ?_
    refine kt_ige (i := r) (n := 1000000) (tgt := 33) hx hb (by omega) (by omega) dX0_roll_19 (by decide) (fun cg => ?_) (fun cg => ?_)
    · skip
      have e : rollF n E DG G = (X.1, X.2.1) := by first | (rw [← hI.2]; exact rollR_0 c13 _) | (rw [← hI.2, show rounds - r = 0 by omega]; rfl)
      exact kt_vret (W' := wHM h g t ((rollF n E DG G).1) ((rollF n E DG G).2) cI cII mo eo dg to er n E DG) hx hb hr hS (by rw [e]; exact hP) hK (by rw [e]; exact hD) hlocks dX0_roll_33
    · skip
      refine lv_aload_n hx hb dX0_roll_22 rfl (lv_at hl 0 rfl) ?_
      refine kt_calli (wR := kt_pick (wHM h g t X.1 X.2.1 cI cII mo eo dg to er n E DG) []) (w' := wHM h g t ((rr n E DG X.1 X.2.1 n).1) ((rr n E DG X.1 X.2.1 n).2.1) cI cII mo eo dg to er n E DG) (rest := []) (As := []) ⟨hx, hb, hml, hown, hts⟩ (c_X0_rollRound l dC dI cI cII cJ cJJ h g t X.1 X.2.1 mo eo dg to er n E DG _ (hn)) (cwV 0 hts gX0_roll_X0_rollRound rfl rfl rfl (by decide +kernel) ⟨Nat.le_of_ble_eq_true rfl, Nat.le_of_ble_eq_true rfl⟩) hK hP hD hS hA [0, 1, 2, 3, 4, 5, 6, 7, 8, 9, 10, 11, 12] [] rfl rfl rfl rfl (by decide) [0, 1, 2, 3, 4, 5, 6, 7, 8, 9, 10, 11, 12] rfl rfl 0 kX0 rfl rfl rfl rfl rfl hl.1 (by decide) dX0_roll_23 ⟨Nat.zero_le _, Nat.zero_le _⟩ (fun H locs hP hD hS => ?_)
      refine lv_istore_n (lv' := [(1, .int ((rr n E DG X.1 X.2.1 n).2.2)), (0, .ref h), (2, .int (nI r))]) hx hb dX0_roll_26 rfl hl (by decide) rfl (fun ls hl => ?_)
      refine lv_iinc (v := nI (r + 1)) (lv' := [(2, .int (nI (r + 1))), (1, .int ((rr n E DG X.1 X.2.1 n).2.2)), (0, .ref h)]) hx hb dX0_roll_27 hl (k := 2) rfl (kt_inc _) (by decide) rfl (fun ls hl => ?_)
      refine lv_goto (tgt := 12) hx hb dX0_roll_30 (by decide) ?_
      exact ih_r ⟨r + 1, rr n E DG X.1 X.2.1 n⟩ H locs ls (by show rounds - (r + 1) < rounds - r; omega) (⟨by omega, by show rollR n E DG (rounds - (r + 1)) _ = _; rw [show rounds - (r + 1) = rounds - r - 1 by omega, ← rollR_1 c13 (by omega)]; exact hI.2⟩) hP hD hS (lv_sub hl [2, 1, 0] rfl)

set_option maxHeartbeats 4000000 in
set_option maxRecDepth 100000 in
theorem c_X0_becomeNeutral (l : Launch) (dC : Nat → ClassId) (dI : Nat → Nat → Nat) (cI cII cJ cJJ : ClassId) (h : Nat) (g : Nat) (t : Nat) (G : Nat → Int32) (T : Nat → Int32) (mo : Nat) (eo : Nat) (dg : Nat) (to : Nat) (er : Nat → Nat) (n : Nat) (E : Nat → Nat → Int32) (DG : Nat → Int32) (sz : Nat) (hn : n ≤ 6) : Met l yX0_becomeNeutral wsX0_becomeNeutral ({ frames := 3, cells := 0, slots := 0, locals := 69 }) (va_Pc [.ref h] (PRE (dC, dI) (tyL cI cII cJ cJJ) (wHM h g t G T cI cII mo eo dg to er n E DG) sz)) (va_Qv (fun (_ : Unit) => True) (fun _ tS => ATW (dC, dI) (tyL cI cII cJ cJJ) (va_A (wHM h g t G T cI cII mo eo dg to er n E DG) sz) (wHM h g t ((neutF n E DG G).1) ((neutF n E DG G).2) cI cII mo eo dg to er n E DG) tS) (va_A (wHM h g t G T cI cII mo eo dg to er n E DG) sz)) 0 0 (va_A (wHM h g t G T cI cII mo eo dg to er n E DG) sz) := by
  refine Met.ofW (cc := cX0_becomeNeutral) (maxL := 2) (ret := none) (by decide) rfl ?_
  intro p e s m args below meth c s₁ B hml hv
  obtain ⟨rfl, hsz, hP, hK, hD0⟩ := hv
  have hx := B.exec
  have hb := B.bytes
  have hr := B.returns
  have hlocks := B.notSynchronized
  have hts := atoms_spec (ws := wsX0_becomeNeutral) B.pre
  have hown : s.vm.findClass RX0 = some m.cls := findClass_of_methodNamed B.named
  subst hsz
  have hD := hD0.self (sz := s.heap.size)
  generalize hAe : va_A (wHM h g t G T cI cII mo eo dg to er n E DG) s.heap.size = A at hD ⊢
  have hA : ∀ q : Nat, s.heap.size ≤ q → A q := fun q h => by rw [← hAe]; exact Or.inr h
  have hS : va_S A s.heap s.heap [] := va_S.rf
  have hl := lv_entry ([.ref h]) (n := 2) (Nat.le_of_ble_eq_true rfl)
  rw [lg_entry_eq]
  generalize (lg_sl ([.ref h]) ++ List.replicate (2 - (lg_sl ([.ref h])).length) Slot.unset).toArray = ls at hl ⊢
  have hl : lv_has ls 2 [(0, .ref h)] := hl
  have hi_X0 : ∀ w ∈ u_ws RX0 TX0 3, w ∈ wsX0_becomeNeutral := by decide +kernel
  have hf_18 := hts (.fieldLink RX0 18 "Topplemoor$Heap" "moor" "LTopplemoor$Moor;") (by decide +kernel)
  have hi_X2 : ∀ w ∈ u_ws RX2 TX2 4, w ∈ wsX0_becomeNeutral := by decide +kernel
  have hf_28 := hts (.fieldLink RX0 28 "Topplemoor$Moor" "spots" "I") (by decide +kernel)
  have hf_9 := hts (.fieldLink RX0 9 "Topplemoor$Heap" "grains" "[I") (by decide +kernel)
  have hf_38 := hts (.fieldLink RX0 38 "Topplemoor$Moor" "degrees" "[I") (by decide +kernel)
  refine lv_iconst (v := nI 0) hx hb dX0_becomeNeutral_0 (by decide) ?_
  refine lv_istore_n (lv' := [(1, .int (nI 0)), (0, .ref h)]) hx hb dX0_becomeNeutral_1 rfl hl (by decide) rfl (fun ls hl => ?_)
  refine kt_for (n := n) (WD := fun (i : Nat) => wHM h g t (it (maxS DG) i G) T cI cII mo eo dg to er n E DG) (LV := fun (i : Nat) => [(0, .ref h), (1, .int (nI i))]) (nL := 2) (hd := 2) ?_ hP hD hS (lv_sub hl [1, 0] rfl)
  intro i hle_i ih_i H locs ls hP hD hS hl
  have hP : va_P (dC, dI) vwCl (wHM h g t (it (maxS DG) i G) T cI cII mo eo dg to er n E DG) H := hP
  have hD : va_D A (wHM h g t (it (maxS DG) i G) T cI cII mo eo dg to er n E DG) := hD
  have hl : lv_has ls 2 [(0, .ref h), (1, .int (nI i))] := hl
  refine lv_iload_n hx hb dX0_becomeNeutral_2 rfl (lv_at hl 1 rfl) ?_
  refine lv_aload_n hx hb dX0_becomeNeutral_3 rfl (lv_at hl 0 rfl) ?_
  refine va_get (D := (dC, dI)) (ci := kX0) (v := .ref mo) (C := RX0) (T := TX0) (N := 3) hx hb hts hi_X0 hown hK hP 0 rfl rfl 2 (by decide) hf_18 (fun _ h9 => h9) rfl dX0_becomeNeutral_4 ?_
  refine va_get (D := (dC, dI)) (ci := kX2) (v := .int (nI n)) (C := RX2) (T := TX2) (N := 4) hx hb hts hi_X2 hown hK hP 3 rfl rfl 0 (by decide) hf_28 (fun _ h9 => h9) rfl dX0_becomeNeutral_7 ?_
  refine kt_ige (tgt := 38) hx hb (by omega) (by omega) dX0_becomeNeutral_10 (by decide) (fun hge_i => ?_) (fun hlt_i => ?_)
  · have e_i : n = i := by omega
    subst e_i
    refine lv_aload_n hx hb dX0_becomeNeutral_38 rfl (lv_at hl 0 rfl) ?_
    refine kt_callv (wR := kt_pick (wHM h g t (it (maxS DG) n G) T cI cII mo eo dg to er n E DG) []) (w' := wHM h g t ((rollF n E DG (it (maxS DG) n G)).1) ((rollF n E DG (it (maxS DG) n G)).2) cI cII mo eo dg to er n E DG) (rest := []) (As := []) ⟨hx, hb, hml, hown, hts⟩ (c_X0_roll l dC dI cI cII cJ cJJ h g t (it (maxS DG) n G) T mo eo dg to er n E DG _ (hn)) (cwV 0 hts gX0_becomeNeutral_X0_roll rfl rfl rfl (by decide +kernel) ⟨Nat.le_of_ble_eq_true rfl, Nat.le_of_ble_eq_true rfl⟩) hK hP hD hS hA [0, 1, 2, 3, 4, 5, 6, 7, 8, 9, 10, 11, 12] [] rfl rfl rfl rfl (by decide) [0, 1, 2, 3, 4, 5, 6, 7, 8, 9, 10, 11, 12] rfl rfl 0 kX0 rfl rfl rfl rfl rfl hl.1 (by decide) dX0_becomeNeutral_39 ⟨Nat.zero_le _, Nat.zero_le _⟩ (fun H locs hP hD hS => ?_)
    refine lv_iconst (v := nI 0) hx hb dX0_becomeNeutral_42 (by decide) ?_
    refine lv_istore_n (lv' := [(1, .int (nI 0)), (0, .ref h)]) hx hb dX0_becomeNeutral_43 rfl hl (by decide) rfl (fun ls hl => ?_)
    refine kt_for (n := n) (WD := fun (i : Nat) => wHM h g t (it (offS DG) i (rollF n E DG (it (maxS DG) n G)).1) ((rollF n E DG (it (maxS DG) n G)).2) cI cII mo eo dg to er n E DG) (LV := fun (i : Nat) => [(0, .ref h), (1, .int (nI i))]) (nL := 2) (hd := 44) ?_ hP hD hS (lv_sub hl [1, 0] rfl)
    intro i hle_i ih_i H locs ls hP hD hS hl
    have hP : va_P (dC, dI) vwCl (wHM h g t (it (offS DG) i (rollF n E DG (it (maxS DG) n G)).1) ((rollF n E DG (it (maxS DG) n G)).2) cI cII mo eo dg to er n E DG) H := hP
    have hD : va_D A (wHM h g t (it (offS DG) i (rollF n E DG (it (maxS DG) n G)).1) ((rollF n E DG (it (maxS DG) n G)).2) cI cII mo eo dg to er n E DG) := hD
    have hl : lv_has ls 2 [(0, .ref h), (1, .int (nI i))] := hl
    refine lv_iload_n hx hb dX0_becomeNeutral_44 rfl (lv_at hl 1 rfl) ?_
    refine lv_aload_n hx hb dX0_becomeNeutral_45 rfl (lv_at hl 0 rfl) ?_
    refine va_get (D := (dC, dI)) (ci := kX0) (v := .ref mo) (C := RX0) (T := TX0) (N := 3) hx hb hts hi_X0 hown hK hP 0 rfl rfl 2 (by decide) hf_18 (fun _ h9 => h9) rfl dX0_becomeNeutral_46 ?_
    refine va_get (D := (dC, dI)) (ci := kX2) (v := .int (nI n)) (C := RX2) (T := TX2) (N := 4) hx hb hts hi_X2 hown hK hP 3 rfl rfl 0 (by decide) hf_28 (fun _ h9 => h9) rfl dX0_becomeNeutral_49 ?_
    refine kt_ige (tgt := 87) hx hb (by omega) (by omega) dX0_becomeNeutral_52 (by decide) (fun hge_i => ?_) (fun hlt_i => ?_)
    · have e_i : n = i := by omega
      subst e_i
      refine lv_aload_n hx hb dX0_becomeNeutral_87 rfl (lv_at hl 0 rfl) ?_
      refine kt_callv (wR := kt_pick (wHM h g t (it (offS DG) n (rollF n E DG (it (maxS DG) n G)).1) ((rollF n E DG (it (maxS DG) n G)).2) cI cII mo eo dg to er n E DG) []) (w' := wHM h g t ((rollF n E DG (it (offS DG) n (rollF n E DG (it (maxS DG) n G)).1)).1) ((rollF n E DG (it (offS DG) n (rollF n E DG (it (maxS DG) n G)).1)).2) cI cII mo eo dg to er n E DG) (rest := []) (As := []) ⟨hx, hb, hml, hown, hts⟩ (c_X0_roll l dC dI cI cII cJ cJJ h g t (it (offS DG) n (rollF n E DG (it (maxS DG) n G)).1) ((rollF n E DG (it (maxS DG) n G)).2) mo eo dg to er n E DG _ (hn)) (cwV 0 hts gX0_becomeNeutral_X0_roll rfl rfl rfl (by decide +kernel) ⟨Nat.le_of_ble_eq_true rfl, Nat.le_of_ble_eq_true rfl⟩) hK hP hD hS hA [0, 1, 2, 3, 4, 5, 6, 7, 8, 9, 10, 11, 12] [] rfl rfl rfl rfl (by decide) [0, 1, 2, 3, 4, 5, 6, 7, 8, 9, 10, 11, 12] rfl rfl 0 kX0 rfl rfl rfl rfl rfl hl.1 (by decide) dX0_becomeNeutral_88 ⟨Nat.zero_le _, Nat.zero_le _⟩ (fun H locs hP hD hS => ?_)
      exact kt_vret (W' := wHM h g t ((neutF n E DG G).1) ((neutF n E DG G).2) cI cII mo eo dg to er n E DG) hx hb hr hS hP hK hD hlocks dX0_becomeNeutral_91
    · skip
      refine lv_aload_n hx hb dX0_becomeNeutral_55 rfl (lv_at hl 0 rfl) ?_
      refine va_get (D := (dC, dI)) (ci := kX0) (v := .ref g) (C := RX0) (T := TX0) (N := 3) hx hb hts hi_X0 hown hK hP 0 rfl rfl 0 (by decide) hf_9 (fun _ h9 => h9) rfl dX0_becomeNeutral_56 ?_
      refine lv_iload_n hx hb dX0_becomeNeutral_59 rfl (lv_at hl 1 rfl) ?_
      refine lv_iconst (v := 2) hx hb dX0_becomeNeutral_60 (by decide) ?_
      refine lv_aload_n hx hb dX0_becomeNeutral_61 rfl (lv_at hl 0 rfl) ?_
      refine va_get (D := (dC, dI)) (ci := kX0) (v := .ref mo) (C := RX0) (T := TX0) (N := 3) hx hb hts hi_X0 hown hK hP 0 rfl rfl 2 (by decide) hf_18 (fun _ h9 => h9) rfl dX0_becomeNeutral_62 ?_
      refine va_get (D := (dC, dI)) (ci := kX2) (v := .ref dg) (C := RX2) (T := TX2) (N := 4) hx hb hts hi_X2 hown hK hP 3 rfl rfl 2 (by decide) hf_38 (fun _ h9 => h9) rfl dX0_becomeNeutral_65 ?_
      refine lv_iload_n hx hb dX0_becomeNeutral_68 rfl (lv_at hl 1 rfl) ?_
      refine kt_iald hx hb hK hP 12 0 rfl rfl (by omega) (by decide) dX0_becomeNeutral_69 ?_
      refine lv_iconst (v := 1) hx hb dX0_becomeNeutral_70 (by decide) ?_
      refine lv_isub hx hb dX0_becomeNeutral_71 ?_
      refine lv_imul hx hb dX0_becomeNeutral_72 ?_
      refine lv_aload_n hx hb dX0_becomeNeutral_73 rfl (lv_at hl 0 rfl) ?_
      refine va_get (D := (dC, dI)) (ci := kX0) (v := .ref g) (C := RX0) (T := TX0) (N := 3) hx hb hts hi_X0 hown hK hP 0 rfl rfl 0 (by decide) hf_9 (fun _ h9 => h9) rfl dX0_becomeNeutral_74 ?_
      refine lv_iload_n hx hb dX0_becomeNeutral_77 rfl (lv_at hl 1 rfl) ?_
      refine kt_iald hx hb hK hP 1 0 rfl rfl (by omega) (by decide) dX0_becomeNeutral_78 ?_
      refine lv_isub hx hb dX0_becomeNeutral_79 ?_
      refine kt_iast hx hb hK hP hD hS 1 0 rfl rfl (by omega) (by decide) dX0_becomeNeutral_80 (fun H locs hP hD hS => ?_)
      have hP : va_P (dC, dI) vwCl (wHM h g t (upd (it (offS DG) i (rollF n E DG (it (maxS DG) n G)).1) i ((2 * ((DG i) - 1)) - ((it (offS DG) i (rollF n E DG (it (maxS DG) n G)).1) i))) ((rollF n E DG (it (maxS DG) n G)).2) cI cII mo eo dg to er n E DG) H := hP
      have hD : va_D A (wHM h g t (upd (it (offS DG) i (rollF n E DG (it (maxS DG) n G)).1) i ((2 * ((DG i) - 1)) - ((it (offS DG) i (rollF n E DG (it (maxS DG) n G)).1) i))) ((rollF n E DG (it (maxS DG) n G)).2) cI cII mo eo dg to er n E DG) := hD
      refine lv_iinc (v := nI (i + 1)) (lv' := [(1, .int (nI (i + 1))), (0, .ref h)]) hx hb dX0_becomeNeutral_81 hl (k := 1) rfl (kt_inc _) (by decide) rfl (fun ls hl => ?_)
      refine lv_goto (tgt := 44) hx hb dX0_becomeNeutral_84 (by decide) ?_
      exact ih_i H locs ls hlt_i hP hD hS (lv_sub hl [1, 0] rfl)
  · skip
    refine lv_aload_n hx hb dX0_becomeNeutral_13 rfl (lv_at hl 0 rfl) ?_
    refine va_get (D := (dC, dI)) (ci := kX0) (v := .ref g) (C := RX0) (T := TX0) (N := 3) hx hb hts hi_X0 hown hK hP 0 rfl rfl 0 (by decide) hf_9 (fun _ h9 => h9) rfl dX0_becomeNeutral_14 ?_
    refine lv_iload_n hx hb dX0_becomeNeutral_17 rfl (lv_at hl 1 rfl) ?_
    refine lv_iconst (v := 2) hx hb dX0_becomeNeutral_18 (by decide) ?_
    refine lv_aload_n hx hb dX0_becomeNeutral_19 rfl (lv_at hl 0 rfl) ?_
    refine va_get (D := (dC, dI)) (ci := kX0) (v := .ref mo) (C := RX0) (T := TX0) (N := 3) hx hb hts hi_X0 hown hK hP 0 rfl rfl 2 (by decide) hf_18 (fun _ h9 => h9) rfl dX0_becomeNeutral_20 ?_
    refine va_get (D := (dC, dI)) (ci := kX2) (v := .ref dg) (C := RX2) (T := TX2) (N := 4) hx hb hts hi_X2 hown hK hP 3 rfl rfl 2 (by decide) hf_38 (fun _ h9 => h9) rfl dX0_becomeNeutral_23 ?_
    refine lv_iload_n hx hb dX0_becomeNeutral_26 rfl (lv_at hl 1 rfl) ?_
    refine kt_iald hx hb hK hP 12 0 rfl rfl (by omega) (by decide) dX0_becomeNeutral_27 ?_
    refine lv_iconst (v := 1) hx hb dX0_becomeNeutral_28 (by decide) ?_
    refine lv_isub hx hb dX0_becomeNeutral_29 ?_
    refine lv_imul hx hb dX0_becomeNeutral_30 ?_
    refine kt_iast hx hb hK hP hD hS 1 0 rfl rfl (by omega) (by decide) dX0_becomeNeutral_31 (fun H locs hP hD hS => ?_)
    have hP : va_P (dC, dI) vwCl (wHM h g t (upd (it (maxS DG) i G) i (2 * ((DG i) - 1))) T cI cII mo eo dg to er n E DG) H := hP
    have hD : va_D A (wHM h g t (upd (it (maxS DG) i G) i (2 * ((DG i) - 1))) T cI cII mo eo dg to er n E DG) := hD
    refine lv_iinc (v := nI (i + 1)) (lv' := [(1, .int (nI (i + 1))), (0, .ref h)]) hx hb dX0_becomeNeutral_32 hl (k := 1) rfl (kt_inc _) (by decide) rfl (fun ls hl => ?_)
    refine lv_goto (tgt := 2) hx hb dX0_becomeNeutral_35 (by decide) ?_
    exact ih_i H locs ls hlt_i hP hD hS (lv_sub hl [1, 0] rfl)
end
