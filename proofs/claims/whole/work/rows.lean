section
-- ===== PART A: goes FIRST, ahead of the names: the tables' words, and 'selects' of the private methods out of them =====
/-- a private method of a class that the tables say can be made, by its rows of tables_1 -/
def lw_okq (q : MethodName × Nat) : Prop := (q.1.cls ≠ "java/lang/invoke/MethodHandle" ∧ q.1.cls ≠ "java/lang/invoke/VarHandle") ∧ Cond.instantiable q.1.cls q.2 ∈ tables_1 ∧ Cond.privateMethod q.1 ∈ tables_1 ∧ Cond.instanceMethod q.1 ∈ tables_1
theorem lw_p0 : lw_okq (⟨"KnocksThroughRock", "rowOn", "(II)LKnocksThroughRock$Shelf;"⟩, 9) := ⟨⟨by decide +kernel, by decide +kernel⟩, List.mem_of_getElem? (i := 24) (by decide +kernel), List.mem_of_getElem? (i := 177) (by decide +kernel), List.mem_of_getElem? (i := 178) (by decide +kernel)⟩
theorem lw_p1 : lw_okq (⟨"KnocksThroughRock", "rowOn", "(I)LKnocksThroughRock$Shelf;"⟩, 9) := ⟨⟨by decide +kernel, by decide +kernel⟩, List.mem_of_getElem? (i := 24) (by decide +kernel), List.mem_of_getElem? (i := 181) (by decide +kernel), List.mem_of_getElem? (i := 182) (by decide +kernel)⟩
theorem lw_p2 : lw_okq (⟨"KnocksThroughRock", "whyNot", "(I)I"⟩, 9) := ⟨⟨by decide +kernel, by decide +kernel⟩, List.mem_of_getElem? (i := 24) (by decide +kernel), List.mem_of_getElem? (i := 188) (by decide +kernel), List.mem_of_getElem? (i := 189) (by decide +kernel)⟩
theorem lw_p3 : lw_okq (⟨"KnocksThroughRock", "obeyAll", "(LKnocksThroughRock$Shelf;)I"⟩, 9) := ⟨⟨by decide +kernel, by decide +kernel⟩, List.mem_of_getElem? (i := 24) (by decide +kernel), List.mem_of_getElem? (i := 216) (by decide +kernel), List.mem_of_getElem? (i := 217) (by decide +kernel)⟩
theorem lw_p4 : lw_okq (⟨"KnocksThroughRock", "obey", "(LKnocksThroughRock$Shelf;I)Z"⟩, 9) := ⟨⟨by decide +kernel, by decide +kernel⟩, List.mem_of_getElem? (i := 24) (by decide +kernel), List.mem_of_getElem? (i := 220) (by decide +kernel), List.mem_of_getElem? (i := 221) (by decide +kernel)⟩
theorem lw_p5 : lw_okq (⟨"KnocksThroughRock", "obeyKind", "(III)Z"⟩, 9) := ⟨⟨by decide +kernel, by decide +kernel⟩, List.mem_of_getElem? (i := 24) (by decide +kernel), List.mem_of_getElem? (i := 224) (by decide +kernel), List.mem_of_getElem? (i := 225) (by decide +kernel)⟩
theorem lw_p6 : lw_okq (⟨"KnocksThroughRock", "obeyGang", "(II)Z"⟩, 9) := ⟨⟨by decide +kernel, by decide +kernel⟩, List.mem_of_getElem? (i := 24) (by decide +kernel), List.mem_of_getElem? (i := 280) (by decide +kernel), List.mem_of_getElem? (i := 281) (by decide +kernel)⟩
theorem lw_p7 : lw_okq (⟨"KnocksThroughRock", "rockOn", "(I)LKnocksThroughRock$Rock;"⟩, 9) := ⟨⟨by decide +kernel, by decide +kernel⟩, List.mem_of_getElem? (i := 24) (by decide +kernel), List.mem_of_getElem? (i := 422) (by decide +kernel), List.mem_of_getElem? (i := 423) (by decide +kernel)⟩
theorem lw_p8 : lw_okq (⟨"KnocksThroughRock", "knockFrom", "(I)V"⟩, 9) := ⟨⟨by decide +kernel, by decide +kernel⟩, List.mem_of_getElem? (i := 24) (by decide +kernel), List.mem_of_getElem? (i := 446) (by decide +kernel), List.mem_of_getElem? (i := 447) (by decide +kernel)⟩
theorem lw_p9 : lw_okq (⟨"KnocksThroughRock$Ways", "nearest", "()I"⟩, 6) := ⟨⟨by decide +kernel, by decide +kernel⟩, List.mem_of_getElem? (i := 93) (by decide +kernel), List.mem_of_getElem? (i := 461) (by decide +kernel), List.mem_of_getElem? (i := 462) (by decide +kernel)⟩
theorem lw_p10 : lw_okq (⟨"KnocksThroughRock$Ways", "enter", "(II)V"⟩, 6) := ⟨⟨by decide +kernel, by decide +kernel⟩, List.mem_of_getElem? (i := 93) (by decide +kernel), List.mem_of_getElem? (i := 467) (by decide +kernel), List.mem_of_getElem? (i := 468) (by decide +kernel)⟩
theorem lw_p11 : lw_okq (⟨"KnocksThroughRock", "mayHaveKnocked", "(LKnocksThroughRock$Shelf;)Z"⟩, 9) := ⟨⟨by decide +kernel, by decide +kernel⟩, List.mem_of_getElem? (i := 24) (by decide +kernel), List.mem_of_getElem? (i := 494) (by decide +kernel), List.mem_of_getElem? (i := 495) (by decide +kernel)⟩
theorem lw_p12 : lw_okq (⟨"KnocksThroughRock", "hourOfKnock", "(LKnocksThroughRock$Shelf;I)J"⟩, 9) := ⟨⟨by decide +kernel, by decide +kernel⟩, List.mem_of_getElem? (i := 24) (by decide +kernel), List.mem_of_getElem? (i := 498) (by decide +kernel), List.mem_of_getElem? (i := 499) (by decide +kernel)⟩
theorem lw_p13 : lw_okq (⟨"KnocksThroughRock", "takeTimes", "()V"⟩, 9) := ⟨⟨by decide +kernel, by decide +kernel⟩, List.mem_of_getElem? (i := 24) (by decide +kernel), List.mem_of_getElem? (i := 506) (by decide +kernel), List.mem_of_getElem? (i := 507) (by decide +kernel)⟩
theorem lw_p14 : lw_okq (⟨"KnocksThroughRock", "mostAlike", "(LKnocksThroughRock$Shelf;I)I"⟩, 9) := ⟨⟨by decide +kernel, by decide +kernel⟩, List.mem_of_getElem? (i := 24) (by decide +kernel), List.mem_of_getElem? (i := 514) (by decide +kernel), List.mem_of_getElem? (i := 515) (by decide +kernel)⟩
theorem lw_p15 : lw_okq (⟨"KnocksThroughRock", "soonIn", "(LKnocksThroughRock$Mountain;)I"⟩, 9) := ⟨⟨by decide +kernel, by decide +kernel⟩, List.mem_of_getElem? (i := 24) (by decide +kernel), List.mem_of_getElem? (i := 535) (by decide +kernel), List.mem_of_getElem? (i := 536) (by decide +kernel)⟩
def lw_privs_1 : List (MethodName × Nat) := [(⟨"KnocksThroughRock", "rowOn", "(II)LKnocksThroughRock$Shelf;"⟩, 9), (⟨"KnocksThroughRock", "rowOn", "(I)LKnocksThroughRock$Shelf;"⟩, 9), (⟨"KnocksThroughRock", "whyNot", "(I)I"⟩, 9), (⟨"KnocksThroughRock", "obeyAll", "(LKnocksThroughRock$Shelf;)I"⟩, 9), (⟨"KnocksThroughRock", "obey", "(LKnocksThroughRock$Shelf;I)Z"⟩, 9), (⟨"KnocksThroughRock", "obeyKind", "(III)Z"⟩, 9), (⟨"KnocksThroughRock", "obeyGang", "(II)Z"⟩, 9), (⟨"KnocksThroughRock", "rockOn", "(I)LKnocksThroughRock$Rock;"⟩, 9), (⟨"KnocksThroughRock", "knockFrom", "(I)V"⟩, 9), (⟨"KnocksThroughRock$Ways", "nearest", "()I"⟩, 6), (⟨"KnocksThroughRock$Ways", "enter", "(II)V"⟩, 6), (⟨"KnocksThroughRock", "mayHaveKnocked", "(LKnocksThroughRock$Shelf;)Z"⟩, 9), (⟨"KnocksThroughRock", "hourOfKnock", "(LKnocksThroughRock$Shelf;I)J"⟩, 9), (⟨"KnocksThroughRock", "takeTimes", "()V"⟩, 9), (⟨"KnocksThroughRock", "mostAlike", "(LKnocksThroughRock$Shelf;I)I"⟩, 9), (⟨"KnocksThroughRock", "soonIn", "(LKnocksThroughRock$Mountain;)I"⟩, 9)]
theorem lw_r1 : ∀ q ∈ lw_privs_1, lw_okq q := List.forall_mem_cons.mpr ⟨lw_p0, List.forall_mem_cons.mpr ⟨lw_p1, List.forall_mem_cons.mpr ⟨lw_p2, List.forall_mem_cons.mpr ⟨lw_p3, List.forall_mem_cons.mpr ⟨lw_p4, List.forall_mem_cons.mpr ⟨lw_p5, List.forall_mem_cons.mpr ⟨lw_p6, List.forall_mem_cons.mpr ⟨lw_p7, List.forall_mem_cons.mpr ⟨lw_p8, List.forall_mem_cons.mpr ⟨lw_p9, List.forall_mem_cons.mpr ⟨lw_p10, List.forall_mem_cons.mpr ⟨lw_p11, List.forall_mem_cons.mpr ⟨lw_p12, List.forall_mem_cons.mpr ⟨lw_p13, List.forall_mem_cons.mpr ⟨lw_p14, List.forall_mem_cons.mpr ⟨lw_p15, fun _ h => absurd h List.not_mem_nil⟩⟩⟩⟩⟩⟩⟩⟩⟩⟩⟩⟩⟩⟩⟩⟩
theorem lw_p16 : lw_okq (⟨"KnocksThroughRock", "findClashes", "(LKnocksThroughRock$Shelf;I)V"⟩, 9) := ⟨⟨by decide +kernel, by decide +kernel⟩, List.mem_of_getElem? (i := 24) (by decide +kernel), List.mem_of_getElem? (i := 562) (by decide +kernel), List.mem_of_getElem? (i := 563) (by decide +kernel)⟩
theorem lw_p17 : lw_okq (⟨"KnocksThroughRock", "isWithoutClash", "(I)Z"⟩, 9) := ⟨⟨by decide +kernel, by decide +kernel⟩, List.mem_of_getElem? (i := 24) (by decide +kernel), List.mem_of_getElem? (i := 566) (by decide +kernel), List.mem_of_getElem? (i := 567) (by decide +kernel)⟩
theorem lw_p18 : lw_okq (⟨"java/lang/Throwable", "fillInStackTrace", "(I)Ljava/lang/Throwable;"⟩, 6) := ⟨⟨by decide +kernel, by decide +kernel⟩, List.mem_of_getElem? (i := 735) (by decide +kernel), List.mem_of_getElem? (i := 733) (by decide +kernel), List.mem_of_getElem? (i := 734) (by decide +kernel)⟩
theorem lw_p19 : lw_okq (⟨"KnocksThroughRockModel", "wrongRow", "(II)I"⟩, 23) := ⟨⟨by decide +kernel, by decide +kernel⟩, List.mem_of_getElem? (i := 815) (by decide +kernel), List.mem_of_getElem? (i := 899) (by decide +kernel), List.mem_of_getElem? (i := 900) (by decide +kernel)⟩
theorem lw_p20 : lw_okq (⟨"KnocksThroughRockModel", "readsStatement", "()Z"⟩, 23) := ⟨⟨by decide +kernel, by decide +kernel⟩, List.mem_of_getElem? (i := 815) (by decide +kernel), List.mem_of_getElem? (i := 910) (by decide +kernel), List.mem_of_getElem? (i := 911) (by decide +kernel)⟩
theorem lw_p21 : lw_okq (⟨"KnocksThroughRockModel", "here", "()I"⟩, 23) := ⟨⟨by decide +kernel, by decide +kernel⟩, List.mem_of_getElem? (i := 815) (by decide +kernel), List.mem_of_getElem? (i := 914) (by decide +kernel), List.mem_of_getElem? (i := 915) (by decide +kernel)⟩
theorem lw_p22 : lw_okq (⟨"KnocksThroughRockModel", "readsDigits", "(I)Z"⟩, 23) := ⟨⟨by decide +kernel, by decide +kernel⟩, List.mem_of_getElem? (i := 815) (by decide +kernel), List.mem_of_getElem? (i := 918) (by decide +kernel), List.mem_of_getElem? (i := 919) (by decide +kernel)⟩
theorem lw_p23 : lw_okq (⟨"KnocksThroughRockModel", "comesTold", "(I)Z"⟩, 23) := ⟨⟨by decide +kernel, by decide +kernel⟩, List.mem_of_getElem? (i := 815) (by decide +kernel), List.mem_of_getElem? (i := 927) (by decide +kernel), List.mem_of_getElem? (i := 928) (by decide +kernel)⟩
theorem lw_p24 : lw_okq (⟨"KnocksThroughRockModel", "setCell", "(III)V"⟩, 23) := ⟨⟨by decide +kernel, by decide +kernel⟩, List.mem_of_getElem? (i := 815) (by decide +kernel), List.mem_of_getElem? (i := 935) (by decide +kernel), List.mem_of_getElem? (i := 936) (by decide +kernel)⟩
theorem lw_p25 : lw_okq (⟨"KnocksThroughRockModel", "digs", "(II)Z"⟩, 23) := ⟨⟨by decide +kernel, by decide +kernel⟩, List.mem_of_getElem? (i := 815) (by decide +kernel), List.mem_of_getElem? (i := 942) (by decide +kernel), List.mem_of_getElem? (i := 943) (by decide +kernel)⟩
theorem lw_p26 : lw_okq (⟨"KnocksThroughRockModel", "gangCell", "(I)I"⟩, 23) := ⟨⟨by decide +kernel, by decide +kernel⟩, List.mem_of_getElem? (i := 815) (by decide +kernel), List.mem_of_getElem? (i := 946) (by decide +kernel), List.mem_of_getElem? (i := 947) (by decide +kernel)⟩
theorem lw_p27 : lw_okq (⟨"KnocksThroughRockModel", "toil", "(I)I"⟩, 23) := ⟨⟨by decide +kernel, by decide +kernel⟩, List.mem_of_getElem? (i := 815) (by decide +kernel), List.mem_of_getElem? (i := 953) (by decide +kernel), List.mem_of_getElem? (i := 954) (by decide +kernel)⟩
theorem lw_p28 : lw_okq (⟨"KnocksThroughRockModel", "kind", "(I)I"⟩, 23) := ⟨⟨by decide +kernel, by decide +kernel⟩, List.mem_of_getElem? (i := 815) (by decide +kernel), List.mem_of_getElem? (i := 957) (by decide +kernel), List.mem_of_getElem? (i := 958) (by decide +kernel)⟩
theorem lw_p29 : lw_okq (⟨"KnocksThroughRockModel", "figure", "(I)I"⟩, 23) := ⟨⟨by decide +kernel, by decide +kernel⟩, List.mem_of_getElem? (i := 815) (by decide +kernel), List.mem_of_getElem? (i := 961) (by decide +kernel), List.mem_of_getElem? (i := 962) (by decide +kernel)⟩
theorem lw_p30 : lw_okq (⟨"KnocksThroughRockModel", "slow", "(I)I"⟩, 23) := ⟨⟨by decide +kernel, by decide +kernel⟩, List.mem_of_getElem? (i := 815) (by decide +kernel), List.mem_of_getElem? (i := 972) (by decide +kernel), List.mem_of_getElem? (i := 973) (by decide +kernel)⟩
theorem lw_p31 : lw_okq (⟨"KnocksThroughRockModel", "loss", "(I)I"⟩, 23) := ⟨⟨by decide +kernel, by decide +kernel⟩, List.mem_of_getElem? (i := 815) (by decide +kernel), List.mem_of_getElem? (i := 979) (by decide +kernel), List.mem_of_getElem? (i := 980) (by decide +kernel)⟩
def lw_privs_2 : List (MethodName × Nat) := [(⟨"KnocksThroughRock", "findClashes", "(LKnocksThroughRock$Shelf;I)V"⟩, 9), (⟨"KnocksThroughRock", "isWithoutClash", "(I)Z"⟩, 9), (⟨"java/lang/Throwable", "fillInStackTrace", "(I)Ljava/lang/Throwable;"⟩, 6), (⟨"KnocksThroughRockModel", "wrongRow", "(II)I"⟩, 23), (⟨"KnocksThroughRockModel", "readsStatement", "()Z"⟩, 23), (⟨"KnocksThroughRockModel", "here", "()I"⟩, 23), (⟨"KnocksThroughRockModel", "readsDigits", "(I)Z"⟩, 23), (⟨"KnocksThroughRockModel", "comesTold", "(I)Z"⟩, 23), (⟨"KnocksThroughRockModel", "setCell", "(III)V"⟩, 23), (⟨"KnocksThroughRockModel", "digs", "(II)Z"⟩, 23), (⟨"KnocksThroughRockModel", "gangCell", "(I)I"⟩, 23), (⟨"KnocksThroughRockModel", "toil", "(I)I"⟩, 23), (⟨"KnocksThroughRockModel", "kind", "(I)I"⟩, 23), (⟨"KnocksThroughRockModel", "figure", "(I)I"⟩, 23), (⟨"KnocksThroughRockModel", "slow", "(I)I"⟩, 23), (⟨"KnocksThroughRockModel", "loss", "(I)I"⟩, 23)]
theorem lw_r2 : ∀ q ∈ lw_privs_2, lw_okq q := List.forall_mem_cons.mpr ⟨lw_p16, List.forall_mem_cons.mpr ⟨lw_p17, List.forall_mem_cons.mpr ⟨lw_p18, List.forall_mem_cons.mpr ⟨lw_p19, List.forall_mem_cons.mpr ⟨lw_p20, List.forall_mem_cons.mpr ⟨lw_p21, List.forall_mem_cons.mpr ⟨lw_p22, List.forall_mem_cons.mpr ⟨lw_p23, List.forall_mem_cons.mpr ⟨lw_p24, List.forall_mem_cons.mpr ⟨lw_p25, List.forall_mem_cons.mpr ⟨lw_p26, List.forall_mem_cons.mpr ⟨lw_p27, List.forall_mem_cons.mpr ⟨lw_p28, List.forall_mem_cons.mpr ⟨lw_p29, List.forall_mem_cons.mpr ⟨lw_p30, List.forall_mem_cons.mpr ⟨lw_p31, fun _ h => absurd h List.not_mem_nil⟩⟩⟩⟩⟩⟩⟩⟩⟩⟩⟩⟩⟩⟩⟩⟩
theorem lw_p32 : lw_okq (⟨"KnocksThroughRockModel", "wrongKept", "(I)I"⟩, 23) := ⟨⟨by decide +kernel, by decide +kernel⟩, List.mem_of_getElem? (i := 815) (by decide +kernel), List.mem_of_getElem? (i := 990) (by decide +kernel), List.mem_of_getElem? (i := 991) (by decide +kernel)⟩
theorem lw_p33 : lw_okq (⟨"KnocksThroughRockModel", "haveMet", "()Z"⟩, 23) := ⟨⟨by decide +kernel, by decide +kernel⟩, List.mem_of_getElem? (i := 815) (by decide +kernel), List.mem_of_getElem? (i := 1007) (by decide +kernel), List.mem_of_getElem? (i := 1008) (by decide +kernel)⟩
theorem lw_p34 : lw_okq (⟨"KnocksThroughRockModel", "timeOf", "(II)I"⟩, 23) := ⟨⟨by decide +kernel, by decide +kernel⟩, List.mem_of_getElem? (i := 815) (by decide +kernel), List.mem_of_getElem? (i := 1015) (by decide +kernel), List.mem_of_getElem? (i := 1016) (by decide +kernel)⟩
theorem lw_p35 : lw_okq (⟨"KnocksThroughRockModel", "finds", "(I)V"⟩, 23) := ⟨⟨by decide +kernel, by decide +kernel⟩, List.mem_of_getElem? (i := 815) (by decide +kernel), List.mem_of_getElem? (i := 1019) (by decide +kernel), List.mem_of_getElem? (i := 1020) (by decide +kernel)⟩
theorem lw_p36 : lw_okq (⟨"KnocksThroughRockModel", "isBetter", "(II)Z"⟩, 23) := ⟨⟨by decide +kernel, by decide +kernel⟩, List.mem_of_getElem? (i := 815) (by decide +kernel), List.mem_of_getElem? (i := 1024) (by decide +kernel), List.mem_of_getElem? (i := 1025) (by decide +kernel)⟩
theorem lw_p37 : lw_okq (⟨"KnocksThroughRockModel", "countsWays", "(I)V"⟩, 23) := ⟨⟨by decide +kernel, by decide +kernel⟩, List.mem_of_getElem? (i := 815) (by decide +kernel), List.mem_of_getElem? (i := 1037) (by decide +kernel), List.mem_of_getElem? (i := 1038) (by decide +kernel)⟩
theorem lw_p38 : lw_okq (⟨"KnocksThroughRockModel", "told", "(II)I"⟩, 23) := ⟨⟨by decide +kernel, by decide +kernel⟩, List.mem_of_getElem? (i := 815) (by decide +kernel), List.mem_of_getElem? (i := 1049) (by decide +kernel), List.mem_of_getElem? (i := 1050) (by decide +kernel)⟩
theorem lw_p39 : lw_okq (⟨"KnocksThroughRockModel", "isFrom", "(II)Z"⟩, 23) := ⟨⟨by decide +kernel, by decide +kernel⟩, List.mem_of_getElem? (i := 815) (by decide +kernel), List.mem_of_getElem? (i := 1053) (by decide +kernel), List.mem_of_getElem? (i := 1054) (by decide +kernel)⟩
theorem lw_p40 : lw_okq (⟨"KnocksThroughRockModel", "alikeAt", "(II)I"⟩, 23) := ⟨⟨by decide +kernel, by decide +kernel⟩, List.mem_of_getElem? (i := 815) (by decide +kernel), List.mem_of_getElem? (i := 1061) (by decide +kernel), List.mem_of_getElem? (i := 1062) (by decide +kernel)⟩
theorem lw_p41 : lw_okq (⟨"KnocksThroughRockModel", "begins", "()V"⟩, 23) := ⟨⟨by decide +kernel, by decide +kernel⟩, List.mem_of_getElem? (i := 815) (by decide +kernel), List.mem_of_getElem? (i := 1070) (by decide +kernel), List.mem_of_getElem? (i := 1071) (by decide +kernel)⟩
theorem lw_p42 : lw_okq (⟨"KnocksThroughRockModel", "ends", "()V"⟩, 23) := ⟨⟨by decide +kernel, by decide +kernel⟩, List.mem_of_getElem? (i := 815) (by decide +kernel), List.mem_of_getElem? (i := 1074) (by decide +kernel), List.mem_of_getElem? (i := 1075) (by decide +kernel)⟩
theorem lw_p43 : lw_okq (⟨"KnocksThroughRockModel", "findsToils", "(I)V"⟩, 23) := ⟨⟨by decide +kernel, by decide +kernel⟩, List.mem_of_getElem? (i := 815) (by decide +kernel), List.mem_of_getElem? (i := 1082) (by decide +kernel), List.mem_of_getElem? (i := 1083) (by decide +kernel)⟩
theorem lw_p44 : lw_okq (⟨"KnocksThroughRockModel", "soonNow", "()I"⟩, 23) := ⟨⟨by decide +kernel, by decide +kernel⟩, List.mem_of_getElem? (i := 815) (by decide +kernel), List.mem_of_getElem? (i := 1090) (by decide +kernel), List.mem_of_getElem? (i := 1091) (by decide +kernel)⟩
theorem lw_p45 : lw_okq (⟨"KnocksThroughRockModel", "isSafe", "(III)Z"⟩, 23) := ⟨⟨by decide +kernel, by decide +kernel⟩, List.mem_of_getElem? (i := 815) (by decide +kernel), List.mem_of_getElem? (i := 1114) (by decide +kernel), List.mem_of_getElem? (i := 1115) (by decide +kernel)⟩
theorem lw_p46 : lw_okq (⟨"KnocksThroughRockModel", "drawn", "(I)I"⟩, 23) := ⟨⟨by decide +kernel, by decide +kernel⟩, List.mem_of_getElem? (i := 815) (by decide +kernel), List.mem_of_getElem? (i := 1123) (by decide +kernel), List.mem_of_getElem? (i := 1124) (by decide +kernel)⟩
theorem lw_p47 : lw_okq (⟨"KnocksThroughRockModel", "hours", "()I"⟩, 23) := ⟨⟨by decide +kernel, by decide +kernel⟩, List.mem_of_getElem? (i := 815) (by decide +kernel), List.mem_of_getElem? (i := 1130) (by decide +kernel), List.mem_of_getElem? (i := 1131) (by decide +kernel)⟩
def lw_privs_3 : List (MethodName × Nat) := [(⟨"KnocksThroughRockModel", "wrongKept", "(I)I"⟩, 23), (⟨"KnocksThroughRockModel", "haveMet", "()Z"⟩, 23), (⟨"KnocksThroughRockModel", "timeOf", "(II)I"⟩, 23), (⟨"KnocksThroughRockModel", "finds", "(I)V"⟩, 23), (⟨"KnocksThroughRockModel", "isBetter", "(II)Z"⟩, 23), (⟨"KnocksThroughRockModel", "countsWays", "(I)V"⟩, 23), (⟨"KnocksThroughRockModel", "told", "(II)I"⟩, 23), (⟨"KnocksThroughRockModel", "isFrom", "(II)Z"⟩, 23), (⟨"KnocksThroughRockModel", "alikeAt", "(II)I"⟩, 23), (⟨"KnocksThroughRockModel", "begins", "()V"⟩, 23), (⟨"KnocksThroughRockModel", "ends", "()V"⟩, 23), (⟨"KnocksThroughRockModel", "findsToils", "(I)V"⟩, 23), (⟨"KnocksThroughRockModel", "soonNow", "()I"⟩, 23), (⟨"KnocksThroughRockModel", "isSafe", "(III)Z"⟩, 23), (⟨"KnocksThroughRockModel", "drawn", "(I)I"⟩, 23), (⟨"KnocksThroughRockModel", "hours", "()I"⟩, 23)]
theorem lw_r3 : ∀ q ∈ lw_privs_3, lw_okq q := List.forall_mem_cons.mpr ⟨lw_p32, List.forall_mem_cons.mpr ⟨lw_p33, List.forall_mem_cons.mpr ⟨lw_p34, List.forall_mem_cons.mpr ⟨lw_p35, List.forall_mem_cons.mpr ⟨lw_p36, List.forall_mem_cons.mpr ⟨lw_p37, List.forall_mem_cons.mpr ⟨lw_p38, List.forall_mem_cons.mpr ⟨lw_p39, List.forall_mem_cons.mpr ⟨lw_p40, List.forall_mem_cons.mpr ⟨lw_p41, List.forall_mem_cons.mpr ⟨lw_p42, List.forall_mem_cons.mpr ⟨lw_p43, List.forall_mem_cons.mpr ⟨lw_p44, List.forall_mem_cons.mpr ⟨lw_p45, List.forall_mem_cons.mpr ⟨lw_p46, List.forall_mem_cons.mpr ⟨lw_p47, fun _ h => absurd h List.not_mem_nil⟩⟩⟩⟩⟩⟩⟩⟩⟩⟩⟩⟩⟩⟩⟩⟩
theorem lw_p48 : lw_okq (⟨"KnocksThroughRockModel", "wrongThree", "(II)I"⟩, 23) := ⟨⟨by decide +kernel, by decide +kernel⟩, List.mem_of_getElem? (i := 815) (by decide +kernel), List.mem_of_getElem? (i := 1138) (by decide +kernel), List.mem_of_getElem? (i := 1139) (by decide +kernel)⟩
def lw_privs_4 : List (MethodName × Nat) := [(⟨"KnocksThroughRockModel", "wrongThree", "(II)I"⟩, 23)]
theorem lw_r4 : ∀ q ∈ lw_privs_4, lw_okq q := List.forall_mem_cons.mpr ⟨lw_p48, fun _ h => absurd h List.not_mem_nil⟩
def lw_privs : List (MethodName × Nat) := lw_privs_1 ++ (lw_privs_2 ++ (lw_privs_3 ++ (lw_privs_4)))
def lw_tbl : List Cond := k2_sels lw_privs ++ tables_1
theorem lw_privs_ok : ∀ q ∈ lw_privs, lw_okq q := by
  show ∀ q ∈ lw_privs_1 ++ (lw_privs_2 ++ (lw_privs_3 ++ (lw_privs_4))), lw_okq q
  exact List.forall_mem_append.mpr ⟨lw_r1, List.forall_mem_append.mpr ⟨lw_r2, List.forall_mem_append.mpr ⟨lw_r3, lw_r4⟩⟩⟩
end
section
/-! ===== BEGIN exceptions that leave a method, and their catching by the caller (launches without stack traces) ===== -/
section VXA
/-! The laws vx_back, vx_callV, vx_callS, vx_callSW, vx_throw0, vx_throwS follow proofs of the library, with one case more: JvmDerived/Free/Laws.lean (Back.of_free), Shelf42/LK1.lean (callV, callS), Shelf/KitTraced.lean (throwNew0V, throwNewS). -/
/-- where a method has thrown q: the class by its name, the cell, what was written, the world -/
def vx_T (XC : String → State → State → Prop) (st : State) (q : Addr) (t : State) (mc ms : Nat) (free : Addr → Prop) : Prop :=
  ∃ (E : String) (ce : Cell) (L : List Loc), XC E st t ∧ t.heap[q]? = some ce ∧ ce.vm = .none ∧ st.vm.findClass E = some ce.cls ∧ st.WarmedH t.vm ∧ st.sameButNew ({ t with vm := st.vm } : State) L mc ms ∧ ∀ z ∈ L, free z.base
def vx_Q (Qc : Array Value → State → Outcome → State → Prop) (XC : String → State → State → Prop) (mc ms : Nat) (free : Addr → Prop) : Array Value → State → Outcome → State → Prop := fun a st o t =>
  (Qc a st o t ∧ ∃ L, FrameEnd st o t L mc ms ∧ ∀ q ∈ L, free q.base) ∨ ∃ q, o = .threw q ∧ vx_T XC st q t mc ms free
/-- a callee that returns or throws -/
def vx_Met (l : Launch) (y : MethodName) (ws : List Cond) (rm : Room) (Pc : Array Value → State → Prop) (Qc : Array Value → State → Outcome → State → Prop) (XC : String → State → State → Prop) (mc ms : Nat) (free : Addr → Prop) : Prop :=
  MetFree l y (headSpec ws rm) Pc (fun _ _ _ _ _ => True) (vx_Q Qc XC mc ms free)
def vx_Post (XC : String → State → State → Prop) (mc ms : Nat) (free : Addr → Prop) : Pt → Array Value → Addr → Pt → Prop := fun A a q B =>
  ∃ (g : JFrame) (mk : MethodId) (t : State) (L : List Loc) (E : String) (ce : Cell), B.U.heap = t.heap ∧ B.U.vm = t.vm ∧ XC E (A.U.calling g mk a) t ∧ t.heap[q]? = some ce ∧ ce.vm = .none ∧ A.U.vm.findClass E = some ce.cls ∧ B.locs = A.locs ++ L ∧ (∀ z ∈ L, free z.base) ∧ B.cells = A.cells + mc ∧ B.slots = A.slots + ms
def vx_Back (l : Launch) (R : Room) (p : Program) (e : Env) (below : List Frame) (s : State) (sargs : Array Value) (y : MethodName) (len W9 : Nat)
    (Pre : Pt → Array Value → Prop) (Post : Pt → Array Value → Option Value → Pt → Prop) (PostX : Pt → Array Value → Addr → Pt → Prop) : Prop :=
  ∀ (m : MethodId) (meth : Method) (c : Code) (A : Pt) (g : JFrame) (ig : Instr) (mk : MethodId) (a : Array Value),
    Stand p l e R s m sargs below meth c A.U A.locs A.cells A.slots → g.method = m → g.locals.size = c.maxLocals → decode c.code g.pc = .ok (ig, len) →
    2 * g.monitorRoom + (g.stack.map fun v => v.category).sum ≤ W9 → A.U.methodNamed? y = some mk → Pre A a →
    (∃ (v : Option Value) (B : Pt), Stand p l e R s m sargs below meth c B.U B.locs B.cells B.slots ∧ Post A a v B ∧
      Steps p.tables e below (doInvoke e (A.U.setTop g) [] mk a).1 (B.U.setTop { g with pc := g.pc + len, stack := v.toList ++ g.stack })) ∨
    (∃ (q : Addr) (B : Pt), Stand p l e R s m sargs below meth c B.U B.locs B.cells B.slots ∧ PostX A a q B ∧
      Steps p.tables e below (doInvoke e (A.U.setTop g) [] mk a).1 ((B.U.setTop g).pushFrame (.throwing q)))
section Payer
variable {l : Launch} {R : Room} {p : Program} {e : Env} {below : List Frame} {s : State} {sargs : Array Value} {y : MethodName} {len W9 : Nat}
theorem vx_back {ws : List Cond} {rm : Room} {Pc : Array Value → State → Prop} {Qc : Array Value → State → Outcome → State → Prop} {XC : String → State → State → Prop} {mc ms : Nat} {free : Addr → Prop} {bytes : ByteArray} {maxL : Nat} {ret : Option FieldType}
    (hM : vx_Met l y ws rm Pc Qc XC mc ms free) (hblind : FrameBlind Pc) (hrc : rm.cells = mc) (hrs : rm.slots = ms)
    (hframes : rm.frames + 1 ≤ R.frames) (hlocals : W9 + (maxL + 11) + rm.locals ≤ R.locals)
    (hws : ∀ w ∈ ws, ∀ a' U, s.WarmedH U.vm → w.before a' U = true) (hcode : Cond.code y bytes maxL ret ∈ ws) (hinit : ∀ a' U, s.WarmedH U.vm → (Cond.initialized y.cls).before a' U = true) :
    vx_Back l R p e below s sargs y len W9 (PreOf R mc ms Pc) (PostOf Qc mc ms free) (vx_Post XC mc ms free) := by
  intro m meth c A g ig mk a X hg hsize hdg hW hn hp
  have h1 : (headSpec ws rm).pre.before a A.U = true := atoms_intro fun w hw => hws w hw _ _ X.warmed
  have h2 : (Cond.code y bytes maxL ret).before a A.U = true := hws _ hcode _ _ X.warmed
  have h3 : (Cond.initialized y.cls).before a A.U = true := hinit _ _ X.warmed
  have h4 : A.cells + (headSpec ws rm).room.cells ≤ R.cells := by rw [show (headSpec ws rm).room.cells = mc from hrc]; exact hp.1
  have h5 : A.slots + (headSpec ws rm).room.slots ≤ R.slots := by rw [show (headSpec ws rm).room.slots = ms from hrs]; exact hp.2.1
  have hPc : Pc a (A.U.calling g mk a) := hblind _ _ _ _ hp.2.2
  obtain ⟨U, Ls, c0, s0⟩ := A
  dsimp only [Pt.U, Pt.locs, Pt.cells, Pt.slots] at h1 h2 h3 h4 h5 X hn hPc ⊢
  obtain ⟨methY, cY, hmY, hcY, -, hlY, -, -, -, -⟩ := Cond.code_spec hn h2
  obtain ⟨kY, hkY, -⟩ := className_of_methodNamed hn
  have hinitY : kY.init = .initialized := Cond.initialized_spec (findClass_of_methodNamed hn) hkY h3
  have h : At U g.method c below := by rw [hg]; exact X.here
  have hlocals9 : W9 + (maxL + 11) + (headSpec ws rm).room.locals ≤ R.locals := hlocals
  have happ : (headSpec ws rm).appliesLoose y e.platform (U.calling g mk a) = true :=
    Spec.appliesLoose_calling (g := g) h hdg hn hkY hinitY
      (X.room_calling (g := g) (R' := (headSpec ws rm).room) hsize hmY hcY hframes (by rw [hlY]; omega) h4 h5) h1
  obtain ⟨mid, hmid⟩ := h.above
  have hfr : (U.setTop g).frames = (.java g :: mid) ++ below := by rw [State.frames_setTop' g h.top, hmid]; rfl
  obtain ⟨o, s₂, hsteps, -, hend, hq⟩ := Steps.callFree hM p X.admits X.cas X.clock (acts := []) hfr happ hPc trivial
  have hq' : vx_Q Qc XC mc ms free a (U.calling g mk a) o s₂ := hq
  rw [State.frames_setTop' g h.top] at hend
  obtain ⟨g₀, hg0⟩ := Option.isSome_iff_exists.mp h.top
  obtain ⟨r, hr⟩ := State.topJava?_eq_some.mp hg0
  have hr' : (({ U with heap := s₂.heap, slotsUsed := s₂.slotsUsed } : State).setVm s₂.vm).frames = .java g₀ :: r := hr
  rcases hq' with ⟨hqc, L, hfe, hL⟩ | ⟨q, rfl, E, ce, L, hx, hce, hcv, hcl, hW₂, hsm, hL⟩
  · obtain ⟨⟨v, rfl⟩, hW₂, e2, q2, q3, q4, q5, q6⟩ := id hfe
    have e3 : s₂ = ({ (U.calling g mk a).setFrames s₂.frames with heap := s₂.heap, slotsUsed := s₂.slotsUsed } : State).setVm s₂.vm := by
      have : s₂ = ({ s₂ with vm := (U.calling g mk a).vm } : State).setVm s₂.vm := rfl
      rw [e2] at this
      exact this
    obtain ⟨c₂, i₂, len₂, hc₂, hd₂, hf₂⟩ := hend
    have hW' : U.WarmedH s₂.vm := hW₂
    have hcc : c₂ = c := by
      have h1 : s₂.code? g.method = U.code? g.method := by
        rw [State.code?_eq, State.code?_eq, hW'.alike.method?]
      exact Option.some.inj (hc₂.symm.trans (h1.trans h.code))
    subst hcc
    have hlen : len₂ = len := by rw [hdg] at hd₂; cases hd₂; rfl
    subst hlen
    have hs₂ : s₂ = (({ U with heap := s₂.heap, slotsUsed := s₂.slotsUsed } : State).setVm s₂.vm).setTop { g with pc := g.pc + len₂, stack := v.toList ++ g.stack } := by
      refine e3.trans ?_
      rw [hf₂, State.calling_eq h.top, State.setFrames_setFrames, State.setTop_of_frames _ hr', hr]
      rfl
    have hsame : U.sameButNew ({ U with heap := s₂.heap, slotsUsed := s₂.slotsUsed } : State) L mc ms := by
      refine ⟨?_, q2, q3, q4, q5, q6⟩
      obtain ⟨t, ht, -⟩ := State.frames_cons hr
      show ({ U with heap := s₂.heap, slotsUsed := s₂.slotsUsed } : State) = { U.setFrames U.frames with heap := s₂.heap, slotsUsed := s₂.slotsUsed }
      rw [State.setFrames_self ht]
    subst hg
    refine Or.inl ⟨v, ⟨(({ U with heap := s₂.heap, slotsUsed := s₂.slotsUsed } : State).setVm s₂.vm), Ls ++ L, c0 + mc, s0 + ms⟩,
      ⟨X.admits, X.cas, X.clock, X.frames, X.room, X.hears, X.method, X.code, (X.here.setHeapUsed s₂.heap s₂.slotsUsed).setVm hW'.alike, X.tail, State.WarmedH.trans X.warmed hW', X.limits, X.bytes, X.same.trans (hsame.setVm s.vm)⟩,
      ⟨g, mk, s₂, L, rfl, rfl, hqc, rfl, hL, rfl, rfl⟩, ?_⟩
    show Steps p.tables e below _ ((({ U with heap := s₂.heap, slotsUsed := s₂.slotsUsed } : State).setVm s₂.vm).setTop { g with pc := g.pc + len₂, stack := v.toList ++ g.stack })
    rw [← hs₂]
    exact hsteps
  · obtain ⟨e2, q2, q3, q4, q5, q6⟩ := id hsm
    have e3 : s₂ = ({ (U.calling g mk a).setFrames s₂.frames with heap := s₂.heap, slotsUsed := s₂.slotsUsed } : State).setVm s₂.vm := by
      have : s₂ = ({ s₂ with vm := (U.calling g mk a).vm } : State).setVm s₂.vm := rfl
      rw [e2] at this
      exact this
    have hf₂ : s₂.frames = .throwing q :: .java g :: U.frames.tail := hend
    have hW' : U.WarmedH s₂.vm := hW₂
    have hs₂ : s₂ = ((({ U with heap := s₂.heap, slotsUsed := s₂.slotsUsed } : State).setVm s₂.vm).setTop g).pushFrame (.throwing q) := by
      refine e3.trans ?_
      rw [hf₂, State.calling_eq h.top, State.setFrames_setFrames, State.pushFrame, State.frames_setTop _ hr', State.setTop_of_frames _ hr', State.setFrames_setFrames, hr]
      rfl
    have hsame : U.sameButNew ({ U with heap := s₂.heap, slotsUsed := s₂.slotsUsed } : State) L mc ms := by
      refine ⟨?_, q2, q3, q4, q5, q6⟩
      obtain ⟨t, ht, -⟩ := State.frames_cons hr
      show ({ U with heap := s₂.heap, slotsUsed := s₂.slotsUsed } : State) = { U.setFrames U.frames with heap := s₂.heap, slotsUsed := s₂.slotsUsed }
      rw [State.setFrames_self ht]
    subst hg
    refine Or.inr ⟨q, ⟨(({ U with heap := s₂.heap, slotsUsed := s₂.slotsUsed } : State).setVm s₂.vm), Ls ++ L, c0 + mc, s0 + ms⟩,
      ⟨X.admits, X.cas, X.clock, X.frames, X.room, X.hears, X.method, X.code, (X.here.setHeapUsed s₂.heap s₂.slotsUsed).setVm hW'.alike, X.tail, State.WarmedH.trans X.warmed hW', X.limits, X.bytes, X.same.trans (hsame.setVm s.vm)⟩,
      ⟨g, mk, s₂, L, E, ce, rfl, rfl, hx, hce, hcv, hcl, rfl, hL, rfl, rfl⟩, ?_⟩
    show Steps p.tables e below _ (((({ U with heap := s₂.heap, slotsUsed := s₂.slotsUsed } : State).setVm s₂.vm).setTop g).pushFrame (.throwing q))
    rw [← hs₂]
    exact hsteps
end Payer
section Calls
variable {p : Program} {l : Launch} {e : Env} {R : Room} {s : State} {m : MethodId} {args : Array Value} {below : List Frame} {meth : Method} {c : Code} {T : State} {locs : List Loc} {cells slots : Nat}
theorem vx_callV (X : Stand p l e R s m args below meth c T locs cells slots) (hexec : p.tables.exec = Jvm.exec) {own C : String} {index : Nat} {y : MethodName} {bytes : ByteArray} {maxL : Nat} {ret : Option FieldType}
    (hown : s.vm.findClass own = some m.cls) (hlink : (Cond.methodLink own index y).before args s = true) (hinst : (Cond.instanceMethod y).before args s = true) (hsel : (Cond.selects C y y).before args s = true)
    (hcode : (Cond.code y bytes maxL ret).before args s = true) (hy : y.cls ≠ "java/lang/invoke/MethodHandle" ∧ y.cls ≠ "java/lang/invoke/VarHandle")
    {W9 : Nat} {Pre : Pt → Array Value → Prop} {Post : Pt → Array Value → Option Value → Pt → Prop} {PostX : Pt → Array Value → Addr → Pt → Prop} (hK : vx_Back l R p e below s args y 3 W9 Pre Post PostX)
    {b : Addr} {cellB : Cell} (hcell : T.heap[b]? = some cellB) (hobj : cellB.vm.isStatics = false) (hcls : s.vm.findClass C = some cellB.cls)
    {g : JFrame} (hg : g.method = m) (hsize : g.locals.size = c.maxLocals) {argsL rest : List Value} (hlen : ∀ sig, parseMethodDescriptor y.desc = some sig → argsL.length = sig.parameters.length)
    (hstack : g.stack = argsL.reverse ++ .ref b :: rest) (hW : 2 * g.monitorRoom + (rest.map fun v => v.category).sum ≤ W9) (hdg : decode c.code g.pc = .ok (.invokevirtual index, 3))
    (hpre : ∀ vm₁, s.WarmedH vm₁ → Pre ⟨T.setVm vm₁, locs, cells, slots⟩ (Value.ref b :: argsL).toArray) :
    (∃ (v : Option Value) (vm₁ : Vm) (B : Pt), s.WarmedH vm₁ ∧ Stand p l e R s m args below meth c B.U B.locs B.cells B.slots ∧ Post ⟨T.setVm vm₁, locs, cells, slots⟩ (Value.ref b :: argsL).toArray v B ∧
      ∀ target, Steps p.tables e below (B.U.setTop { g with pc := g.pc + 3, stack := v.toList ++ rest }) target → Steps p.tables e below (T.setTop g) target) ∨
    (∃ (q : Addr) (vm₁ : Vm) (B : Pt), s.WarmedH vm₁ ∧ Stand p l e R s m args below meth c B.U B.locs B.cells B.slots ∧ PostX ⟨T.setVm vm₁, locs, cells, slots⟩ (Value.ref b :: argsL).toArray q B ∧
      Steps p.tables e below (T.setTop g) ((B.U.setTop { g with stack := rest }).pushFrame (.throwing q))) := by
  obtain ⟨mk, methM, hnamed, hmethM, hstM, habM⟩ := Cond.instanceMethod_spec hinst
  obtain ⟨methM', cM, hmethM', -, -, -, -, -, -, hsigM⟩ := Cond.code_spec hnamed hcode
  cases hmethM.symm.trans hmethM'
  obtain ⟨c2, r2, m2, q1, q2, q3, q4, kP, hkP, hkPi⟩ := Cond.selects_spec hsel
  cases hcls.symm.trans q1
  cases (State.methodFound?_of_named hnamed hy).symm.trans q2
  cases hnamed.symm.trans q3
  have hselP : selectMethod e.platform s.vm cellB.cls mk = .method mk := by rw [Launch.admits_selectMethod X.admits]; exact q4
  obtain ⟨vm₁, X₁, hstep₁⟩ := X.invokevirtual hexec hown hlink hnamed hmethM hstM hkP hkPi hy (a := b) (cell := cellB) hcell
    (fun z h => by rw [h] at hobj; cases hobj) hselP hmethM habM hkP hkPi (g := g) hg (argsL := argsL) (rest := rest) (hlen _ hsigM) hstack hdg
  rcases hK m meth c ⟨T.setVm vm₁, locs, cells, slots⟩ { g with stack := rest } (.invokevirtual index) mk (Value.ref b :: argsL).toArray X₁ hg hsize hdg hW (X₁.named hnamed) (hpre vm₁ X₁.warmed) with ⟨v, B, X', hpost, hsteps⟩ | ⟨q, B, X', hpost, hsteps⟩
  · exact Or.inl ⟨v, vm₁, B, X₁.warmed, X', hpost, fun target h => hstep₁ _ fun acts => by rw [doInvoke_state]; exact hsteps.trans h⟩
  · exact Or.inr ⟨q, vm₁, B, X₁.warmed, X', hpost, hstep₁ _ fun acts => by rw [doInvoke_state]; exact hsteps⟩
theorem vx_callS (X : Stand p l e R s m args below meth c T locs cells slots) (hexec : p.tables.exec = Jvm.exec) {own : String} {index : Nat} {y : MethodName} {bytes : ByteArray} {maxL : Nat} {ret : Option FieldType}
    (hown : s.vm.findClass own = some m.cls) (hlink : (Cond.methodLink own index y).before args s = true) (hstat : (Cond.static y).before args s = true) (hinit : (Cond.initialized y.cls).before args s = true)
    (hcode : (Cond.code y bytes maxL ret).before args s = true) (hy : y.cls ≠ "java/lang/invoke/MethodHandle" ∧ y.cls ≠ "java/lang/invoke/VarHandle")
    {W9 : Nat} {Pre : Pt → Array Value → Prop} {Post : Pt → Array Value → Option Value → Pt → Prop} {PostX : Pt → Array Value → Addr → Pt → Prop} (hK : vx_Back l R p e below s args y 3 W9 Pre Post PostX)
    {g : JFrame} (hg : g.method = m) (hsize : g.locals.size = c.maxLocals) {argsL rest : List Value} (hlen : ∀ sig, parseMethodDescriptor y.desc = some sig → argsL.length = sig.parameters.length)
    (hstack : g.stack = argsL.reverse ++ rest) (hW : 2 * g.monitorRoom + (rest.map fun v => v.category).sum ≤ W9) (hdg : decode c.code g.pc = .ok (.invokestatic index, 3))
    (hpre : ∀ vm₁, s.WarmedH vm₁ → Pre ⟨T.setVm vm₁, locs, cells, slots⟩ argsL.toArray) :
    (∃ (v : Option Value) (vm₁ : Vm) (B : Pt), s.WarmedH vm₁ ∧ Stand p l e R s m args below meth c B.U B.locs B.cells B.slots ∧ Post ⟨T.setVm vm₁, locs, cells, slots⟩ argsL.toArray v B ∧
      ∀ target, Steps p.tables e below (B.U.setTop { g with pc := g.pc + 3, stack := v.toList ++ rest }) target → Steps p.tables e below (T.setTop g) target) ∨
    (∃ (q : Addr) (vm₁ : Vm) (B : Pt), s.WarmedH vm₁ ∧ Stand p l e R s m args below meth c B.U B.locs B.cells B.slots ∧ PostX ⟨T.setVm vm₁, locs, cells, slots⟩ argsL.toArray q B ∧
      Steps p.tables e below (T.setTop g) ((B.U.setTop { g with stack := rest }).pushFrame (.throwing q))) := by
  obtain ⟨mk, hnamed⟩ := Cond.code_named hcode
  obtain ⟨methM, cM, hmethM, -, -, -, -, -, -, hsigM⟩ := Cond.code_spec hnamed hcode
  have hstatic : methM.isStatic = true := Cond.static_spec hnamed hmethM hstat
  obtain ⟨kP, hkP, -⟩ := className_of_methodNamed hnamed
  have hinitP : kP.init = .initialized := Cond.initialized_spec (findClass_of_methodNamed hnamed) hkP hinit
  obtain ⟨vm₁, X₁, hstep₁⟩ := X.invokestatic hexec hown hlink hnamed hmethM hstatic hkP hinitP hy (g := g) hg (argsL := argsL) (rest := rest) (hlen _ hsigM) hstack hdg
  rcases hK m meth c ⟨T.setVm vm₁, locs, cells, slots⟩ { g with stack := rest } (.invokestatic index) mk argsL.toArray X₁ hg hsize hdg hW (X₁.named hnamed) (hpre vm₁ X₁.warmed) with ⟨v, B, X', hpost, hsteps⟩ | ⟨q, B, X', hpost, hsteps⟩
  · exact Or.inl ⟨v, vm₁, B, X₁.warmed, X', hpost, fun target h => hstep₁ _ fun acts => by rw [doInvoke_state]; exact hsteps.trans h⟩
  · exact Or.inr ⟨q, vm₁, B, X₁.warmed, X', hpost, hstep₁ _ fun acts => by rw [doInvoke_state]; exact hsteps⟩
end Calls
theorem vx_cls {s : State} {T : State} {vm₁ : Vm} {E : String} {k : ClassId} (hW : s.WarmedH vm₁) (h : (T.setVm vm₁).vm.findClass E = some k) : s.vm.findClass E = some k := by
  have h1 : vm₁.findClass E = some k := h
  rw [hW.alike.findClass] at h1
  exact h1
/-- the method's frame g, with q thrown over it -/
def vx_W (p : Program) (l : Launch) (e : Env) (R : Room) (s : State) (m : MethodId) (args : Array Value) (below : List Frame) (meth : Method) (c : Code) (H : Heap) (locs : List Loc) (cells slots : Nat) (Q : State → Prop) (g : JFrame) (q : Addr) : Prop :=
  ∀ T : State, T.heap = H → Stand p l e R s m args below meth c T locs cells slots → ∃ t, Steps p.tables e below ((T.setTop g).pushFrame (.throwing q)) t ∧ Q t
def vx_Run (p : Program) (l : Launch) (e : Env) (R : Room) (s : State) (m : MethodId) (args : Array Value) (below : List Frame) (meth : Method) (c : Code) (H : Heap) (locs : List Loc) (cells slots mc ms : Nat) (g : JFrame) (rest : List Value) (Qa : State → Outcome → State → Prop) (XC : String → State → State → Prop) (free : Addr → Prop) : Prop :=
  ∀ T : State, T.heap = H → Stand p l e R s m args below meth c T locs cells slots →
    (∃ (v : Option Value) (st₀ t T' : State) (L : List Loc), st₀.heap = H ∧ Stand p l e R s m args below meth c T' (locs ++ L) (cells + mc) (slots + ms) ∧ (∀ q ∈ L, free q.base) ∧ T'.heap = t.heap ∧ T'.vm = t.vm ∧ Qa st₀ (.returned v) t ∧
      Goes p e below T g T' { g with pc := g.pc + 3, stack := v.toList ++ rest }) ∨
    (∃ (q : Addr) (st₀ t T' : State) (L : List Loc) (E : String) (ce : Cell), st₀.heap = H ∧ Stand p l e R s m args below meth c T' (locs ++ L) (cells + mc) (slots + ms) ∧ (∀ z ∈ L, free z.base) ∧ T'.heap = t.heap ∧ T'.vm = t.vm ∧ XC E st₀ t ∧ t.heap[q]? = some ce ∧ ce.vm = .none ∧ s.vm.findClass E = some ce.cls ∧
      Steps p.tables e below (T.setTop g) ((T'.setTop { g with stack := rest }).pushFrame (.throwing q)))
def vx_X {S : Type} (px : S → Prop) (B : String → S → State → Prop) (A : Nat → Prop) : String → State → State → Prop := fun E st t => ∃ u : S, px u ∧ B E u t ∧ va_F A st t
section Runs
variable {p : Program} {l : Launch} {e : Env} {R : Room} {s : State} {m : MethodId} {args : Array Value} {below : List Frame} {meth : Method} {c : Code} {H : Heap} {locs : List Loc} {cells slots : Nat}
variable {y : MethodName} {bytes cc : ByteArray} {maxL nL mc ms n index : Nat} {ret : Option FieldType} {ws : List Cond} {rm : Room} {Pc : Array Value → State → Prop} {Qc : Array Value → State → Outcome → State → Prop} {XC : String → State → State → Prop} {free : Addr → Prop} {Ts : List Cond} {own C : String} {b : Addr} {As rest : List Value} {g : JFrame}
theorem vx_callBack (cb : CallB R s args own index y bytes maxL ret ws rm mc ms n) (hM : vx_Met l y ws rm Pc Qc XC mc ms free) (hbl : FrameBlind Pc) : vx_Back l R p e below s args y 3 8 (PreOf R mc ms Pc) (PostOf Qc mc ms free) (vx_Post XC mc ms free) := by
  obtain ⟨hrc, hrs, hfr, hlo, hws, hcw, -, hini, -⟩ := cb
  exact vx_back (bytes := bytes) (maxL := maxL) (ret := ret) hM hbl hrc hrs hfr hlo hws hcw (fun a' U hW => word_at hW (Or.inl (by first | rfl | simp [Cond.onTables, Cond.keeps, Cond.steady])) hini)
theorem vx_runV (S : CallFix p m c cc nL s args Ts own) (hM : vx_Met l y ws rm Pc Qc XC mc ms free) (cw : CallW R s args own C index y bytes maxL ret ws rm mc ms n) (hp : PreV s H C b Pc As)
    (hg : g.method = m) (hn : As.length = n) (hsize : g.locals.size = nL) (hstack : g.stack = As.reverse ++ .ref b :: rest) (hW : 2 * g.monitorRoom + (rest.map fun v => v.category).sum ≤ 8) (hdg : decode cc g.pc = .ok (.invokevirtual index, 3)) (hf : cells + mc ≤ R.cells ∧ slots + ms ≤ R.slots) :
    vx_Run p l e R s m args below meth c H locs cells slots mc ms g rest (Qc (Value.ref b :: As).toArray) XC free := by
  have hK : vx_Back l R p e below s args y 3 8 (PreOf R mc ms Pc) (PostOf Qc mc ms free) (vx_Post XC mc ms free) := vx_callBack cw.1 hM hp.1
  obtain ⟨⟨-, -, -, -, -, -, hcode, -, hy, hlen, hl⟩, hin, hse⟩ := cw
  obtain ⟨hx, hb, hml, ho, -⟩ := S
  obtain ⟨-, ⟨cellB, hcB, hoB, hclB⟩, hPc⟩ := hp
  intro T hT X
  rcases vx_callV X hx (C := C) (bytes := bytes) (maxL := maxL) (ret := ret) ho hl hin hse hcode hy hK (by rw [hT]; exact hcB) hoB hclB hg (hsize.trans hml.symm) (argsL := As) (rest := rest) (fun sig h => hn.trans (hlen sig h)) hstack hW (by rw [hb]; exact hdg)
    (fun vm₁ hW₁ => ⟨hf.1, hf.2, hPc (T.setVm vm₁) hT hW₁⟩) with ⟨v, vm₁, ⟨U', l2, c2, s2⟩, hW₁, X', ⟨g', mk, t, L, e1, e2, hq, h1, hL, h2, h3⟩, st⟩ | ⟨q, vm₁, ⟨U', l2, c2, s2⟩, hW₁, X', ⟨g', mk, t, L, E, ce, e1, e2, hq, hce, hcv, hcl, h1, hL, h2, h3⟩, st⟩
  · dsimp only [Pt.U, Pt.locs, Pt.cells, Pt.slots] at X' e1 e2 h1 h2 h3 st
    subst h1; subst h2; subst h3
    exact Or.inl ⟨v, (T.setVm vm₁).calling g' mk (Value.ref b :: As).toArray, t, U', L, hT, X', hL, e1, e2, hq, st⟩
  · dsimp only [Pt.U, Pt.locs, Pt.cells, Pt.slots] at X' e1 e2 h1 h2 h3 st hcl
    subst h1; subst h2; subst h3
    exact Or.inr ⟨q, (T.setVm vm₁).calling g' mk (Value.ref b :: As).toArray, t, U', L, E, ce, hT, X', hL, e1, e2, hq, hce, hcv, vx_cls hW₁ hcl, st⟩
theorem vx_runS (S : CallFix p m c cc nL s args Ts own) (hM : vx_Met l y ws rm Pc Qc XC mc ms free) (cw : CallB R s args own index y bytes maxL ret ws rm mc ms n ∧ (Cond.static y).before args s = true) (hp : PreS s H Pc As)
    (hg : g.method = m) (hn : As.length = n) (hsize : g.locals.size = nL) (hstack : g.stack = As.reverse ++ rest) (hW : 2 * g.monitorRoom + (rest.map fun v => v.category).sum ≤ 8) (hdg : decode cc g.pc = .ok (.invokestatic index, 3)) (hf : cells + mc ≤ R.cells ∧ slots + ms ≤ R.slots) :
    vx_Run p l e R s m args below meth c H locs cells slots mc ms g rest (Qc As.toArray) XC free := by
  have hK : vx_Back l R p e below s args y 3 8 (PreOf R mc ms Pc) (PostOf Qc mc ms free) (vx_Post XC mc ms free) := vx_callBack cw.1 hM hp.1
  obtain ⟨⟨-, -, -, -, -, -, hcode, hini, hy, hlen, hl⟩, hstt⟩ := cw
  obtain ⟨hx, hb, hml, ho, -⟩ := S
  intro T hT X
  rcases vx_callS X hx (bytes := bytes) (maxL := maxL) (ret := ret) ho hl hstt hini hcode hy hK hg (hsize.trans hml.symm) (argsL := As) (rest := rest) (fun sig h => hn.trans (hlen sig h)) hstack hW (by rw [hb]; exact hdg)
    (fun vm₁ hW₁ => ⟨hf.1, hf.2, hp.2 (T.setVm vm₁) hT hW₁⟩) with ⟨v, vm₁, ⟨U', l2, c2, s2⟩, hW₁, X', ⟨g', mk, t, L, e1, e2, hq, h1, hL, h2, h3⟩, st⟩ | ⟨q, vm₁, ⟨U', l2, c2, s2⟩, hW₁, X', ⟨g', mk, t, L, E, ce, e1, e2, hq, hce, hcv, hcl, h1, hL, h2, h3⟩, st⟩
  · dsimp only [Pt.U, Pt.locs, Pt.cells, Pt.slots] at X' e1 e2 h1 h2 h3 st
    subst h1; subst h2; subst h3
    exact Or.inl ⟨v, (T.setVm vm₁).calling g' mk As.toArray, t, U', L, hT, X', hL, e1, e2, hq, st⟩
  · dsimp only [Pt.U, Pt.locs, Pt.cells, Pt.slots] at X' e1 e2 h1 h2 h3 st hcl
    subst h1; subst h2; subst h3
    exact Or.inr ⟨q, (T.setVm vm₁).calling g' mk As.toArray, t, U', L, E, ce, hT, X', hL, e1, e2, hq, hce, hcv, vx_cls hW₁ hcl, st⟩
end Runs
section Rows
variable {p : Program} {l : Launch} {e : Env} {R : Room} {s : State} {m : MethodId} {args : Array Value} {below : List Frame} {meth : Method} {c : Code} {H : Heap} {locs : List Loc} {cells slots : Nat} {Q : State → Prop}
variable {mc ms : Nat} {free : Addr → Prop} {A0 A1 : Nat → Prop} {H0 : Heap} {a : Array Value} {pc : Nat} {ls : Array Slot} {st0 rest : List Value}
theorem vx_keep {st₀ t T' : State} {L : List Loc} (h0 : st₀.heap = H) (e1 : T'.heap = t.heap) (hS : va_S A0 H0 H locs) (hA : ∀ q, q < H.size → A1 q → A0 q) (hf : ∀ q, free q → A0 q) (hL : ∀ q ∈ L, free q.base) (hF : va_F A1 st₀ t) :
    H.size ≤ T'.heap.size ∧ (∀ q : Nat, q < H.size → ¬ A1 q → T'.heap[q]? = H[q]?) ∧ va_S A0 H0 T'.heap (locs ++ L) := by
  obtain ⟨hz, hk⟩ := hF
  rw [h0] at hz hk
  exact ⟨by rw [e1]; exact hz, fun q h1 h2 => by rw [e1]; exact hk q h1 h2,
    ⟨Nat.le_trans hS.1 (by rw [e1]; exact hz), fun q h1 h2 => by rw [e1, hk q (Nat.lt_of_lt_of_le h1 hS.1) (fun z => h2 (hA q (Nat.lt_of_lt_of_le h1 hS.1) z))]; exact hS.2.1 q h1 h2, fun q hq => by
      rcases List.mem_append.mp hq with h | h
      · exact hS.2.2 q h
      · exact hf _ (hL q h)⟩⟩
theorem vx_calli {S SX : Type} {post : Int32 → S → Prop} {px : SX → Prop} {B : S → State → Prop} {BX : String → SX → State → Prop} {AX : Nat → Prop} (hr : vx_Run p l e R s m args below meth c H locs cells slots mc ms (F0 m pc ls st0) rest (va_Qi post B A1 a) (vx_X px BX AX) free) (hS : va_S A0 H0 H locs) (hA : ∀ q, q < H.size → A1 q → A0 q) (hf : ∀ q, free q → A0 q) (hAX : ∀ q, q < H.size → AX q → A0 q)
    (kx : ∀ (E : String) (ce : Cell) (q9 : Addr) (u : SX) (t : State) (H1 : Heap) (locs1 : List Loc), t.heap = H1 → s.vm.Alike t.vm → px u → BX E u t → H.size ≤ H1.size → (∀ q : Nat, q < H.size → ¬ AX q → H1[q]? = H[q]?) → va_S A0 H0 H1 locs1 → H1[q9]? = some ce → ce.vm = .none → s.vm.findClass E = some ce.cls → vx_W p l e R s m args below meth c H1 locs1 (cells + mc) (slots + ms) Q (F0 m pc ls rest) q9)
    (kk : ∀ (r : Int32) (u : S) (t : State) (H1 : Heap) (locs1 : List Loc), t.heap = H1 → s.vm.Alike t.vm → post r u → B u t → H.size ≤ H1.size → (∀ q : Nat, q < H.size → ¬ A1 q → H1[q]? = H[q]?) → va_S A0 H0 H1 locs1 → W p l e R s m args below meth c H1 locs1 (cells + mc) (slots + ms) Q (F0 m (pc + 3) ls (.int r :: rest))) : W p l e R s m args below meth c H locs cells slots Q (F0 m pc ls st0) := by
  intro T hT X
  rcases hr T hT X with ⟨v, st₀, t, T', L, h0, X', hL, e1, e2, ⟨⟨r, u, hv, hp, hb⟩, hF⟩, st⟩ | ⟨q, st₀, t, T', L, E, ce, h0, X', hL, e1, e2, ⟨u, hp, hb, hF⟩, hce, hcv, hcl, st⟩
  · cases hv
    obtain ⟨k1, k2, k3⟩ := vx_keep h0 e1 hS hA hf hL hF
    obtain ⟨t2, a1, b1⟩ := kk r u t T'.heap (locs ++ L) e1.symm (by rw [← e2]; exact X'.warmed.alike) hp hb k1 k2 k3 T' rfl X'
    exact ⟨t2, st t2 a1, b1⟩
  · obtain ⟨k1, k2, k3⟩ := vx_keep h0 e1 hS hAX hf hL hF
    obtain ⟨t2, a1, b1⟩ := kx E ce q u t T'.heap (locs ++ L) e1.symm (by rw [← e2]; exact X'.warmed.alike) hp hb k1 k2 k3 (by rw [e1]; exact hce) hcv hcl T' rfl X'
    exact ⟨t2, st.trans a1, b1⟩
theorem vx_calll {S SX : Type} {post : Int64 → S → Prop} {px : SX → Prop} {B : S → State → Prop} {BX : String → SX → State → Prop} {AX : Nat → Prop} (hr : vx_Run p l e R s m args below meth c H locs cells slots mc ms (F0 m pc ls st0) rest (va_Ql post B A1 a) (vx_X px BX AX) free) (hS : va_S A0 H0 H locs) (hA : ∀ q, q < H.size → A1 q → A0 q) (hf : ∀ q, free q → A0 q) (hAX : ∀ q, q < H.size → AX q → A0 q)
    (kx : ∀ (E : String) (ce : Cell) (q9 : Addr) (u : SX) (t : State) (H1 : Heap) (locs1 : List Loc), t.heap = H1 → s.vm.Alike t.vm → px u → BX E u t → H.size ≤ H1.size → (∀ q : Nat, q < H.size → ¬ AX q → H1[q]? = H[q]?) → va_S A0 H0 H1 locs1 → H1[q9]? = some ce → ce.vm = .none → s.vm.findClass E = some ce.cls → vx_W p l e R s m args below meth c H1 locs1 (cells + mc) (slots + ms) Q (F0 m pc ls rest) q9)
    (kk : ∀ (r : Int64) (u : S) (t : State) (H1 : Heap) (locs1 : List Loc), t.heap = H1 → s.vm.Alike t.vm → post r u → B u t → H.size ≤ H1.size → (∀ q : Nat, q < H.size → ¬ A1 q → H1[q]? = H[q]?) → va_S A0 H0 H1 locs1 → W p l e R s m args below meth c H1 locs1 (cells + mc) (slots + ms) Q (F0 m (pc + 3) ls (.long r :: rest))) : W p l e R s m args below meth c H locs cells slots Q (F0 m pc ls st0) := by
  intro T hT X
  rcases hr T hT X with ⟨v, st₀, t, T', L, h0, X', hL, e1, e2, ⟨⟨r, u, hv, hp, hb⟩, hF⟩, st⟩ | ⟨q, st₀, t, T', L, E, ce, h0, X', hL, e1, e2, ⟨u, hp, hb, hF⟩, hce, hcv, hcl, st⟩
  · cases hv
    obtain ⟨k1, k2, k3⟩ := vx_keep h0 e1 hS hA hf hL hF
    obtain ⟨t2, a1, b1⟩ := kk r u t T'.heap (locs ++ L) e1.symm (by rw [← e2]; exact X'.warmed.alike) hp hb k1 k2 k3 T' rfl X'
    exact ⟨t2, st t2 a1, b1⟩
  · obtain ⟨k1, k2, k3⟩ := vx_keep h0 e1 hS hAX hf hL hF
    obtain ⟨t2, a1, b1⟩ := kx E ce q u t T'.heap (locs ++ L) e1.symm (by rw [← e2]; exact X'.warmed.alike) hp hb k1 k2 k3 (by rw [e1]; exact hce) hcv hcl T' rfl X'
    exact ⟨t2, st.trans a1, b1⟩
theorem vx_callf {S SX : Type} {post : UInt32 → S → Prop} {px : SX → Prop} {B : S → State → Prop} {BX : String → SX → State → Prop} {AX : Nat → Prop} (hr : vx_Run p l e R s m args below meth c H locs cells slots mc ms (F0 m pc ls st0) rest (va_Qf post B A1 a) (vx_X px BX AX) free) (hS : va_S A0 H0 H locs) (hA : ∀ q, q < H.size → A1 q → A0 q) (hf : ∀ q, free q → A0 q) (hAX : ∀ q, q < H.size → AX q → A0 q)
    (kx : ∀ (E : String) (ce : Cell) (q9 : Addr) (u : SX) (t : State) (H1 : Heap) (locs1 : List Loc), t.heap = H1 → s.vm.Alike t.vm → px u → BX E u t → H.size ≤ H1.size → (∀ q : Nat, q < H.size → ¬ AX q → H1[q]? = H[q]?) → va_S A0 H0 H1 locs1 → H1[q9]? = some ce → ce.vm = .none → s.vm.findClass E = some ce.cls → vx_W p l e R s m args below meth c H1 locs1 (cells + mc) (slots + ms) Q (F0 m pc ls rest) q9)
    (kk : ∀ (r : UInt32) (u : S) (t : State) (H1 : Heap) (locs1 : List Loc), t.heap = H1 → s.vm.Alike t.vm → post r u → B u t → H.size ≤ H1.size → (∀ q : Nat, q < H.size → ¬ A1 q → H1[q]? = H[q]?) → va_S A0 H0 H1 locs1 → W p l e R s m args below meth c H1 locs1 (cells + mc) (slots + ms) Q (F0 m (pc + 3) ls (.float r :: rest))) : W p l e R s m args below meth c H locs cells slots Q (F0 m pc ls st0) := by
  intro T hT X
  rcases hr T hT X with ⟨v, st₀, t, T', L, h0, X', hL, e1, e2, ⟨⟨r, u, hv, hp, hb⟩, hF⟩, st⟩ | ⟨q, st₀, t, T', L, E, ce, h0, X', hL, e1, e2, ⟨u, hp, hb, hF⟩, hce, hcv, hcl, st⟩
  · cases hv
    obtain ⟨k1, k2, k3⟩ := vx_keep h0 e1 hS hA hf hL hF
    obtain ⟨t2, a1, b1⟩ := kk r u t T'.heap (locs ++ L) e1.symm (by rw [← e2]; exact X'.warmed.alike) hp hb k1 k2 k3 T' rfl X'
    exact ⟨t2, st t2 a1, b1⟩
  · obtain ⟨k1, k2, k3⟩ := vx_keep h0 e1 hS hAX hf hL hF
    obtain ⟨t2, a1, b1⟩ := kx E ce q u t T'.heap (locs ++ L) e1.symm (by rw [← e2]; exact X'.warmed.alike) hp hb k1 k2 k3 (by rw [e1]; exact hce) hcv hcl T' rfl X'
    exact ⟨t2, st.trans a1, b1⟩
theorem vx_calld {S SX : Type} {post : UInt64 → S → Prop} {px : SX → Prop} {B : S → State → Prop} {BX : String → SX → State → Prop} {AX : Nat → Prop} (hr : vx_Run p l e R s m args below meth c H locs cells slots mc ms (F0 m pc ls st0) rest (va_Qd post B A1 a) (vx_X px BX AX) free) (hS : va_S A0 H0 H locs) (hA : ∀ q, q < H.size → A1 q → A0 q) (hf : ∀ q, free q → A0 q) (hAX : ∀ q, q < H.size → AX q → A0 q)
    (kx : ∀ (E : String) (ce : Cell) (q9 : Addr) (u : SX) (t : State) (H1 : Heap) (locs1 : List Loc), t.heap = H1 → s.vm.Alike t.vm → px u → BX E u t → H.size ≤ H1.size → (∀ q : Nat, q < H.size → ¬ AX q → H1[q]? = H[q]?) → va_S A0 H0 H1 locs1 → H1[q9]? = some ce → ce.vm = .none → s.vm.findClass E = some ce.cls → vx_W p l e R s m args below meth c H1 locs1 (cells + mc) (slots + ms) Q (F0 m pc ls rest) q9)
    (kk : ∀ (r : UInt64) (u : S) (t : State) (H1 : Heap) (locs1 : List Loc), t.heap = H1 → s.vm.Alike t.vm → post r u → B u t → H.size ≤ H1.size → (∀ q : Nat, q < H.size → ¬ A1 q → H1[q]? = H[q]?) → va_S A0 H0 H1 locs1 → W p l e R s m args below meth c H1 locs1 (cells + mc) (slots + ms) Q (F0 m (pc + 3) ls (.double r :: rest))) : W p l e R s m args below meth c H locs cells slots Q (F0 m pc ls st0) := by
  intro T hT X
  rcases hr T hT X with ⟨v, st₀, t, T', L, h0, X', hL, e1, e2, ⟨⟨r, u, hv, hp, hb⟩, hF⟩, st⟩ | ⟨q, st₀, t, T', L, E, ce, h0, X', hL, e1, e2, ⟨u, hp, hb, hF⟩, hce, hcv, hcl, st⟩
  · cases hv
    obtain ⟨k1, k2, k3⟩ := vx_keep h0 e1 hS hA hf hL hF
    obtain ⟨t2, a1, b1⟩ := kk r u t T'.heap (locs ++ L) e1.symm (by rw [← e2]; exact X'.warmed.alike) hp hb k1 k2 k3 T' rfl X'
    exact ⟨t2, st t2 a1, b1⟩
  · obtain ⟨k1, k2, k3⟩ := vx_keep h0 e1 hS hAX hf hL hF
    obtain ⟨t2, a1, b1⟩ := kx E ce q u t T'.heap (locs ++ L) e1.symm (by rw [← e2]; exact X'.warmed.alike) hp hb k1 k2 k3 (by rw [e1]; exact hce) hcv hcl T' rfl X'
    exact ⟨t2, st.trans a1, b1⟩
theorem vx_callv {S SX : Type} {post : S → Prop} {px : SX → Prop} {B : S → State → Prop} {BX : String → SX → State → Prop} {AX : Nat → Prop} (hr : vx_Run p l e R s m args below meth c H locs cells slots mc ms (F0 m pc ls st0) rest (va_Qv post B A1 a) (vx_X px BX AX) free) (hS : va_S A0 H0 H locs) (hA : ∀ q, q < H.size → A1 q → A0 q) (hf : ∀ q, free q → A0 q) (hAX : ∀ q, q < H.size → AX q → A0 q)
    (kx : ∀ (E : String) (ce : Cell) (q9 : Addr) (u : SX) (t : State) (H1 : Heap) (locs1 : List Loc), t.heap = H1 → s.vm.Alike t.vm → px u → BX E u t → H.size ≤ H1.size → (∀ q : Nat, q < H.size → ¬ AX q → H1[q]? = H[q]?) → va_S A0 H0 H1 locs1 → H1[q9]? = some ce → ce.vm = .none → s.vm.findClass E = some ce.cls → vx_W p l e R s m args below meth c H1 locs1 (cells + mc) (slots + ms) Q (F0 m pc ls rest) q9)
    (kk : ∀ (u : S) (t : State) (H1 : Heap) (locs1 : List Loc), t.heap = H1 → s.vm.Alike t.vm → post u → B u t → H.size ≤ H1.size → (∀ q : Nat, q < H.size → ¬ A1 q → H1[q]? = H[q]?) → va_S A0 H0 H1 locs1 → W p l e R s m args below meth c H1 locs1 (cells + mc) (slots + ms) Q (F0 m (pc + 3) ls (rest))) : W p l e R s m args below meth c H locs cells slots Q (F0 m pc ls st0) := by
  intro T hT X
  rcases hr T hT X with ⟨v, st₀, t, T', L, h0, X', hL, e1, e2, ⟨⟨u, hv, hp, hb⟩, hF⟩, st⟩ | ⟨q, st₀, t, T', L, E, ce, h0, X', hL, e1, e2, ⟨u, hp, hb, hF⟩, hce, hcv, hcl, st⟩
  · cases hv
    obtain ⟨k1, k2, k3⟩ := vx_keep h0 e1 hS hA hf hL hF
    obtain ⟨t2, a1, b1⟩ := kk u t T'.heap (locs ++ L) e1.symm (by rw [← e2]; exact X'.warmed.alike) hp hb k1 k2 k3 T' rfl X'
    exact ⟨t2, st t2 a1, b1⟩
  · obtain ⟨k1, k2, k3⟩ := vx_keep h0 e1 hS hAX hf hL hF
    obtain ⟨t2, a1, b1⟩ := kx E ce q u t T'.heap (locs ++ L) e1.symm (by rw [← e2]; exact X'.warmed.alike) hp hb k1 k2 k3 (by rw [e1]; exact hce) hcv hcl T' rfl X'
    exact ⟨t2, st.trans a1, b1⟩
/-- caught by the row x of this method's table; the rows ahead don't take it -/
theorem vx_catch {own name : String} {E : String} {ce : Cell} {q : Addr} (hown : s.vm.findClass own = some m.cls) (pre : List ExceptionTableEntry) (x : ExceptionTableEntry) (suf : List ExceptionTableEntry) (hsplit : c.exceptionTable.toList = pre ++ x :: suf)
    (hpass : ∀ z ∈ pre, covers z pc = false ∨ (z.catchType ≠ 0 ∧ ∃ nm : String, (Cond.classLink own z.catchType nm).before args s = true ∧ va_Nc E nm s)) (hx : covers x pc = true) (h0 : x.catchType ≠ 0)
    (hlink : (Cond.classLink own x.catchType name).before args s = true) (hcast : (Cond.castable E name).before args s = true) (hcell : H[q]? = some ce) (hv : ce.vm = .none) (hcl : s.vm.findClass E = some ce.cls)
    (kk : W p l e R s m args below meth c H locs cells slots Q (F0 m x.handlerPc ls [.ref q])) : vx_W p l e R s m args below meth c H locs cells slots Q (F0 m pc ls rest) q := by
  intro T hT X
  have hpl : e.platform.magicAccessors = ({} : Platform).magicAccessors := by rw [X.admits.platform]
  obtain ⟨c3, c4, hc3, hc4, hasg⟩ := Cond.castable_spec hcast
  cases Option.some.inj (hc3.symm.trans hcl)
  obtain ⟨c5, hc5, hcl5⟩ := Cond.classLink_spec hown hlink e.platform hpl
  cases Option.some.inj (hc4.symm.trans hc5)
  obtain ⟨vm', X', st⟩ := X.thenCaughtThrough q (g := F0 m pc ls rest) rfl (Steps.refl _) (by rw [hT]; exact hcell) (by rw [hv]; rfl) (by obtain ⟨k9, h9, -⟩ := Vm.findClass_spec hcl; exact ⟨k9, h9⟩) pre x suf hsplit
    (fun z hz => by
      rcases hpass z hz with h | ⟨hz0, nm, hl1, hn1⟩
      · exact Or.inl h
      · obtain ⟨c6, hc6, hcl6⟩ := Cond.classLink_spec hown hl1 e.platform hpl
        obtain ⟨a8, b8, h1, h2, h3⟩ := hn1
        cases Option.some.inj (h1.symm.trans hcl)
        cases Option.some.inj (h2.symm.trans hc6)
        exact Or.inr ⟨hz0, _, hcl6, h3⟩) hx (Or.inr ⟨h0, c4, hcl5, hasg⟩)
  obtain ⟨t, a1, b1⟩ := kk (T.setVm vm') hT X'
  exact ⟨t, st.trans a1, b1⟩
end Rows
section Ends
variable {p : Program} {l : Launch} {e : Env} {R : Room} {s : State} {m : MethodId} {args : Array Value} {below : List Frame} {meth : Method} {c : Code} {H : Heap} {locs : List Loc} {cells slots : Nat} {Q : State → Prop}
variable {mc ms : Nat} {free : Addr → Prop} {A0 A1 : Nat → Prop} {H0 : Heap} {a : Array Value} {ls : Array Slot} {st0 rest : List Value}
variable {Qc : Array Value → State → Outcome → State → Prop} {XC : String → State → State → Prop}
/-- what a body that may throw owes at its end -/
def vx_MQ (below : List Frame) (Qc : Array Value → State → Outcome → State → Prop) (XC : String → State → State → Prop) (a : Array Value) (s : State) (mc ms : Nat) (free : Addr → Prop) : State → Prop := fun t =>
  ∃ o, t.status = .running ∧ Ended t below o ∧ vx_Q Qc XC mc ms free a s o t
theorem vx_ret {g : JFrame} {mc ms : Nat} (k : W p l e R s m args below meth c H locs cells slots (MQ below Qc args s mc ms free) g) : W p l e R s m args below meth c H locs cells slots (vx_MQ below Qc XC args s mc ms free) g := by
  intro T hT X
  obtain ⟨t, a1, o, b1, b2, b3, b4⟩ := k T hT X
  exact ⟨t, a1, o, b1, b2, Or.inl ⟨b3, b4⟩⟩
/-- not caught here: it goes on to the caller -/
theorem vx_widen {g : JFrame} {q : Addr} {k n : Nat} (h1 : cells ≤ k) (h2 : slots ≤ n) (kk : vx_W p l e R s m args below meth c H locs k n Q g q) : vx_W p l e R s m args below meth c H locs cells slots Q g q := fun T hT X => kk T hT (stand_widen X h1 h2)
theorem vx_out {pc : Nat} {E : String} {ce : Cell} {q : Addr} {mc ms : Nat} (hout : ∀ x ∈ c.exceptionTable.toList, covers x pc = false) (hlocks : meth.locks = false) (hcell : H[q]? = some ce) (hv : ce.vm = .none) (hcl : s.vm.findClass E = some ce.cls)
    (hx : ∀ t : State, t.heap = H → s.vm.Alike t.vm → XC E s t) (hf : ∀ z ∈ locs, free z.base) (hc : cells ≤ mc) (hs : slots ≤ ms) :
    vx_W p l e R s m args below meth c H locs cells slots (vx_MQ below Qc XC args s mc ms free) (F0 m pc ls rest) q := by
  intro T hT X
  obtain ⟨st1, hrun, hend, hW, hsm⟩ := X.leaveThrown q (g := F0 m pc ls rest) rfl rfl rfl hout hlocks
  have hcell9 : (T.setFrames (.throwing q :: below)).heap[q]? = some ce := by
    show T.heap[q]? = some ce
    rw [hT]; exact hcell
  exact ⟨_, st1, .threw q, hrun, hend, Or.inr ⟨q, rfl, E, ce, locs, hx _ hT hW.alike, hcell9, hv, hcl, hW, hsm.mono hc hs, hf⟩⟩
theorem vx_frame {U : State} {k n : Nat} (h : s.sameButNew ({ U with vm := s.vm } : State) locs k n) : s.heap.size ≤ U.heap.size ∧ ∀ q : Nat, q < s.heap.size → (∀ z ∈ locs, z.base ≠ q) → U.heap[q]? = s.heap[q]? := by
  obtain ⟨-, h2, -, -, -, h6⟩ := h
  refine ⟨h2, fun q hq hz => ?_⟩
  obtain ⟨c9, e1, e2, e3, e4⟩ := h6 q _ (Array.getElem?_eq_getElem hq)
  have hs : c9.slots = (s.heap[q]).slots := Array.ext_getElem? fun i => e4 i fun hm => hz _ hm rfl
  have h9 : c9 = s.heap[q] := by
    rw [hs] at e2
    exact e2
  have e5 : U.heap[q]? = some c9 := e1
  rw [e5, h9, Array.getElem?_eq_getElem hq]
/-- the words of a throw but the four that speak of the heap -/
def vx_no (w : Cond) : Bool := decide (w ≠ .isRef (.static Bundle.tN "UNASSIGNED_STACK" Bundle.steD)) && decide (w ≠ .isRef (.static Bundle.tN "SUPPRESSED_SENTINEL" Bundle.listD)) && decide (w ≠ .laysStatic Bundle.tN "UNASSIGNED_STACK" Bundle.steD) && decide (w ≠ .laysStatic Bundle.tN "SUPPRESSED_SENTINEL" Bundle.listD)
def vx_at0 (own : String) (ic : Nat) (X : String) (names : List String) : List Cond := (Bundle.ownAtoms0 own ic X names).filter vx_no
def vx_atS (own : String) (ic : Nat) (X : String) (names : List String) : List Cond := (Bundle.ownAtoms own ic X names).filter vx_no
/-- a word that the tables alone decide, or a good one -/
def vx_ot (w : Cond) : Bool := w.onTables || goodWord w
theorem vx_ot_at {args a' : Array Value} {s U : State} {w : Cond} (hW : s.WarmedH U.vm) (hvm : s.vm = U.vm) (hg : vx_ot w = true) (h : w.before args s = true) : w.before a' U = true := by
  simp only [vx_ot, Bool.or_eq_true] at hg
  rcases hg with hg | hg
  · exact va_tabs hg hvm h
  · exact word_at hW (good_of_word hg) h
/-- a list's words: the good ones out of the method's own list, the others by premises of their own -/
theorem vx_hat {args : Array Value} {s : State} {L B : List Cond} (h1 : ∀ w ∈ L.filter goodWord, w.before args s = true) (h2 : ∀ w ∈ L.filter (fun w => !goodWord w), w ∈ B) (h3 : ∀ w ∈ B, w.before args s = true) : ∀ w ∈ L, w.before args s = true := by
  intro w hw
  by_cases g : goodWord w = true
  · exact h1 w (List.mem_filter.mpr ⟨hw, g⟩)
  · refine h3 w (h2 w (List.mem_filter.mpr ⟨hw, ?_⟩))
    show (!goodWord w) = true
    cases hgw : goodWord w
    · rfl
    · exact absurd hgw g
theorem vx_c {args : Array Value} {s : State} {w : Cond} {B : List Cond} (h : w.before args s = true) (t : ∀ w ∈ B, w.before args s = true) : ∀ w' ∈ w :: B, w'.before args s = true := fun w' h' => (List.mem_cons.mp h').elim (fun e => by rw [e]; exact h) (t w')
theorem vx_n {args : Array Value} {s : State} : ∀ w ∈ ([] : List Cond), w.before args s = true := fun _ h => nomatch h
theorem vx_own {args : Array Value} {s : State} {L : List Cond} (h1 : ∀ w ∈ L.filter vx_no, w.before args s = true)
    (hU : (Cond.isRef (.static Bundle.tN "UNASSIGNED_STACK" Bundle.steD)).before args s = true) (hN : (Cond.isRef (.static Bundle.tN "SUPPRESSED_SENTINEL" Bundle.listD)).before args s = true)
    (lU : (Cond.laysStatic Bundle.tN "UNASSIGNED_STACK" Bundle.steD).before args s = true) (lN : (Cond.laysStatic Bundle.tN "SUPPRESSED_SENTINEL" Bundle.listD).before args s = true) : ∀ w ∈ L, w.before args s = true := by
  intro w hw
  by_cases e1 : w = .isRef (.static Bundle.tN "UNASSIGNED_STACK" Bundle.steD)
  · rw [e1]; exact hU
  · by_cases e2 : w = .isRef (.static Bundle.tN "SUPPRESSED_SENTINEL" Bundle.listD)
    · rw [e2]; exact hN
    · by_cases e3 : w = .laysStatic Bundle.tN "UNASSIGNED_STACK" Bundle.steD
      · rw [e3]; exact lU
      · by_cases e4 : w = .laysStatic Bundle.tN "SUPPRESSED_SENTINEL" Bundle.listD
        · rw [e4]; exact lN
        · exact h1 w (List.mem_filter.mpr ⟨hw, by unfold vx_no; rw [decide_eq_true e1, decide_eq_true e2, decide_eq_true e3, decide_eq_true e4]; rfl⟩)
/-- where a static field lies, its class's statics cell in H -/
def vx_L (C n d : String) (A : Nat → Prop) (U : State) (H : Heap) : Prop := ∃ (c : ClassId) (k : Class) (i : Nat) (f : Field) (a : Nat) (cell : Cell), U.vm.findClass C = some c ∧ U.fieldFound? C n d = some (c, k, i, f) ∧ f.isStatic = true ∧ k.statics = some a ∧ H[a]? = some cell ∧ cell.vm.isStatics = true ∧ cell.cls = c ∧ f.slot < cell.slots.size ∧ k.staticTypes[f.slot]? = some f.type ∧ ¬ A a
theorem vx_L.moved {C n d : String} {A : Nat → Prop} {u U : State} {H : Heap} (hvm : u.vm.Alike U.vm) (h : vx_L C n d A u H) : vx_L C n d A U H := by
  obtain ⟨c, k, i, f, a, cell, h1, h2, h3, h4, h5, h6, h7, h8, h9, h10⟩ := h
  obtain ⟨k', hi', he⟩ := State.fieldFound?_setVm hvm h2
  exact ⟨c, k', i, f, a, cell, by rw [hvm.findClass]; exact h1, hi', h3, by rw [he]; exact h4, h5, h6, h7, h8, by rw [he]; exact h9, h10⟩
theorem vx_L.kept {C n d : String} {A : Nat → Prop} {U : State} {H H1 : Heap} (h : vx_L C n d A U H) (hq : ∀ a : Nat, a < H.size → ¬ A a → H1[a]? = H[a]?) : vx_L C n d A U H1 := by
  obtain ⟨c, k, i, f, a, cell, h1, h2, h3, h4, h5, h6, h7, h8, h9, h10⟩ := h
  exact ⟨c, k, i, f, a, cell, h1, h2, h3, h4, by rw [hq a (Array.getElem?_eq_some_iff.mp h5).1 h10]; exact h5, h6, h7, h8, h9, h10⟩
theorem vx_L.narrow {C n d : String} {A B : Nat → Prop} {U : State} {H : Heap} (h : vx_L C n d A U H) (hAB : ∀ q, B q → A q) : vx_L C n d B U H := by
  obtain ⟨c, k, i, f, a, cell, h1, h2, h3, h4, h5, h6, h7, h8, h9, h10⟩ := h
  exact ⟨c, k, i, f, a, cell, h1, h2, h3, h4, h5, h6, h7, h8, h9, fun z => h10 (hAB _ z)⟩
theorem vx_L.word {C n d : String} {A : Nat → Prop} {s : State} {args : Array Value} (h : vx_L C n d A s s.heap) : (Cond.laysStatic C n d).before args s = true := by
  obtain ⟨c, k, i, f, a, cell, h1, h2, h3, h4, h5, h6, h7, h8, h9, -⟩ := h
  show (Cond.laysStatic C n d).holds args s none s [] = true
  exact Cond.laysStatic_of h1 h2 h3 h4 h5 h6 h7 h8 h9
/-- .. and what it holds: null or some reference -/
def vx_Zq (C n d : String) (A : Nat → Prop) (U : State) (H : Heap) : Prop := va_Zq C n d A U H ∧ vx_L C n d A U H
theorem vx_Zq.moved {C n d : String} {A : Nat → Prop} {u U : State} {H : Heap} (hvm : u.vm.Alike U.vm) (h : vx_Zq C n d A u H) : vx_Zq C n d A U H := ⟨va_Zq.moved hvm h.1, vx_L.moved hvm h.2⟩
theorem vx_Zq.kept {C n d : String} {A : Nat → Prop} {U : State} {H H1 : Heap} (h : vx_Zq C n d A U H) (hq : ∀ a : Nat, a < H.size → ¬ A a → H1[a]? = H[a]?) : vx_Zq C n d A U H1 := ⟨va_Zq.kept h.1 hq, vx_L.kept h.2 hq⟩
theorem vx_Zq.narrow {C n d : String} {A B : Nat → Prop} {U : State} {H : Heap} (h : vx_Zq C n d A U H) (hAB : ∀ q, B q → A q) : vx_Zq C n d B U H := ⟨va_Zq.narrow h.1 hAB, vx_L.narrow h.2 hAB⟩
theorem vx_Zqof {args : Array Value} {s : State} {C n d : String} {A : Nat → Prop} (hl : (Cond.laysStatic C n d).before args s = true) (hini : (Cond.initialized C).before args s = true) (h : (Cond.isRef (.static C n d)).before args s = true) (hA : ∀ a : Nat, a < s.heap.size → ¬ A a) : vx_Zq C n d A s s.heap := by
  refine ⟨va_Zqof hl hini h hA, ?_⟩
  obtain ⟨c, k, i, f, a, cell, h1, h2, h3, h4, h5, h6, h7, h8, h9⟩ := Cond.laysStatic_spec hl
  exact ⟨c, k, i, f, a, cell, h1, h2, h3, h4, h5, h6, h7, h8, h9, hA a (Array.getElem?_eq_some_iff.mp h5).1⟩
theorem vx_isRef {C n d : String} {v : Value} {A : Nat → Prop} {s : State} {args : Array Value} (h : va_Z C n d v A s s.heap) (hv : v.isRef = true) : (Cond.isRef (.static C n d)).before args s = true := by
  obtain ⟨cf, kf, fi, f, a, cell, h1, h2, h3, h4, h5, h6, h7, -⟩ := h
  have he : (Term.static C n d).eval args s none [] s = some v := by
    simp [Term.eval, State.fieldNamed?, h1, h2, h4, h5, h6, h7]
  simp only [Cond.before, Cond.holds, Cond.value, he]
  cases v <;> simp_all [Value.isRef]
theorem vx_isRefq {C n d : String} {A : Nat → Prop} {s : State} {args : Array Value} (h : va_Zq C n d A s s.heap) : (Cond.isRef (.static C n d)).before args s = true := by
  rcases h with h | ⟨t, h⟩
  · exact vx_isRef h rfl
  · exact vx_isRef h rfl
/-- the same frame, seen from here: as if the method were called anew in this heap -/
theorem vx_rebase {T : State} (X : Stand p l e R s m args below meth c T locs cells slots) {R' : Room} (hf : R'.frames ≤ R.frames) (hl : R'.locals ≤ R.locals) (hc : cells + R'.cells ≤ R.cells) (hs : slots + R'.slots ≤ R.slots) :
    Stand p l e R' ((T.setVm s.vm).setFrames (.invoking m args :: below)) m args below meth c T [] 0 0 := by
  have htop : (T.setVm s.vm).topJava?.isSome := X.here.top
  have hF : ((T.setVm s.vm).setFrames (.invoking m args :: below)).frames = .invoking m args :: below := State.frames_setFrames _ (State.cur_lt_of_top htop)
  obtain ⟨g₀, hg0⟩ := Option.isSome_iff_exists.mp htop
  obtain ⟨r, hr⟩ := State.topJava?_eq_some.mp hg0
  have hl9 : e.platform.stackLimits (T.setVm s.vm).me = e.platform.stackLimits s.me := X.limits
  have hb9 : (T.setVm s.vm).me.stackBytes = s.me.stackBytes := X.bytes
  refine ⟨X.admits, X.cas, X.clock, hF, ?_, X.hears, X.method, X.code, X.here, X.tail, X.warmed, ?_, ?_, ?_⟩
  · have h := X.room
    have hU : ((T.setVm s.vm).setFrames (.invoking m args :: below)).localsInUse = s.localsInUse := by
      rw [State.localsInUse_invoking hF (meth := meth) (c := c) X.method X.code, State.localsInUse_invoking X.frames X.method X.code]
    simp only [State.hasRoom, Bool.and_eq_true, decide_eq_true_eq] at h ⊢
    obtain ⟨⟨⟨⟨h1, h2, h3, h4, h5, h6⟩, h7⟩, h8⟩, h9⟩ := h
    rw [X.frames, List.length_cons] at h2 h3
    have q1 := X.heapSize
    have q2 := X.used
    simp only [hF, hU, List.length_cons, State.stackLimits_setFrames, State.stackBytes_setFrames, hl9, hb9]
    refine ⟨⟨⟨⟨by omega, by omega, by omega, by omega, by omega, h6⟩, ?_⟩, ?_⟩, X.book⟩
    · show T.heap.size + R'.cells ≤ e.platform.maxCells
      omega
    · show T.slotsUsed + R'.slots ≤ e.platform.maxSlots
      omega
  · rw [State.stackLimits_setFrames]; rfl
  · rw [State.stackBytes_setFrames]; rfl
  · refine ⟨?_, Nat.le_refl _, Nat.le_refl _, ?_, ?_, fun a c9 h9 => ⟨c9, h9, rfl, rfl, fun _ _ => rfl⟩⟩
    · obtain ⟨t, ht, -⟩ := State.frames_cons hr
      show T.setVm s.vm = { ((T.setVm s.vm).setFrames (.invoking m args :: below)).setFrames (T.setVm s.vm).frames with heap := T.heap, slotsUsed := T.slotsUsed }
      rw [State.setFrames_setFrames, State.setFrames_self ht]
      rfl
    · show T.slotsUsed = T.slotsUsed + ((T.heap.toList.drop T.heap.size).map (·.slots.size)).sum
      rw [List.drop_eq_nil_of_le (Nat.le_of_eq Array.length_toList)]
      rfl
    · show ((T.heap.toList.drop T.heap.size).map (·.slots.size)).sum ≤ 0
      rw [List.drop_eq_nil_of_le (Nat.le_of_eq Array.length_toList)]
      exact Nat.le_refl _
/-- 'throw new E()': new; dup; invokespecial; athrow -/
theorem vx_throw0 {cc : ByteArray} {pc : Nat} (hexec : p.tables.exec = Jvm.exec) (hb : c.code = cc) (hl : l.stackTraces = false) {own cls : String} {names : List String} {ik ic mc ms : Nat} {A : Nat → Prop}
    (hown : s.vm.findClass own = some m.cls) (hcls : Bundle.fit cls = true) (hnames : ∀ n ∈ names, Bundle.fit n = true)
    (hk : (Cond.classLink own ik cls).before args s = true) (hini : (Cond.initialized cls).before args s = true) (hat : ∀ w ∈ vx_at0 own ic cls names, w.before args s = true)
    (hgood : ∀ w ∈ Cond.classLink own ik cls :: Cond.initialized cls :: vx_at0 own ic cls names, vx_ot w = true)
    (hU : vx_Zq Bundle.tN "UNASSIGNED_STACK" Bundle.steD A s s.heap) (hN : vx_Zq Bundle.tN "SUPPRESSED_SENTINEL" Bundle.listD A s s.heap) (hS : va_S A s.heap H locs) (hsize : ls.size = c.maxLocals)
    (d0 : decode cc pc = .ok (.new ik, 3)) (d3 : decode cc (pc + 3) = .ok (.dup, 1)) (d4 : decode cc (pc + 4) = .ok (.invokespecial ic, 3)) (d7 : decode cc (pc + 7) = .ok (.athrow, 1))
    (hout : ∀ x ∈ c.exceptionTable.toList, covers x (pc + 7) = false)
    (hRframes : names.length + 3 < R.frames) (hRlocals : (rest.map fun v => v.category).sum + (13 * (names.length + 1) + 42) ≤ R.locals) (hRcells : cells + 1 ≤ R.cells) (hRslots : slots + 6 ≤ R.slots) (hlocks : meth.locks = false)
    (hx : ∀ t : State, s.vm.Alike t.vm → H.size ≤ t.heap.size → (∀ q : Nat, q < H.size → t.heap[q]? = H[q]?) → XC cls s t)
    (hf : ∀ z ∈ locs, free z.base) (hc : cells + 1 ≤ mc) (hs : slots + 6 ≤ ms) :
    W p l e R s m args below meth c H locs cells slots (vx_MQ below Qc XC args s mc ms free) (F0 m pc ls rest) := by
  intro T hT X
  have htr : e.platform.stackTraces = false := (show e.platform.stackTraces = l.stackTraces by rw [X.admits.platform]).trans hl
  have Y := vx_rebase X (R' := { frames := R.frames, locals := R.locals, cells := 1, slots := 6 }) (Nat.le_refl _) (Nat.le_refl _) hRcells hRslots
  obtain ⟨s', hA⟩ : ∃ z, z = (T.setVm s.vm).setFrames (.invoking m args :: below) := ⟨_, rfl⟩
  rw [← hA] at Y
  have hvm : s'.vm = s.vm := by rw [hA]; rfl
  have hhp : s'.heap = H := by rw [hA]; exact hT
  have hW0 : s.WarmedH s'.vm := by rw [hvm]; exact State.WarmedH.refl s
  have hat' : ∀ w ∈ vx_at0 own ic cls names, w.before args s' = true := fun w hw => vx_ot_at hW0 hvm.symm (hgood w (List.mem_cons_of_mem _ (List.mem_cons_of_mem _ hw))) (hat w hw)
  have hk' : (Cond.classLink own ik cls).before args s' = true := vx_ot_at hW0 hvm.symm (hgood _ List.mem_cons_self) hk
  have hini' : (Cond.initialized cls).before args s' = true := vx_ot_at hW0 hvm.symm (hgood _ (List.mem_cons_of_mem _ List.mem_cons_self)) hini
  have hU' : vx_Zq Bundle.tN "UNASSIGNED_STACK" Bundle.steD A s' s'.heap := by rw [hhp]; exact vx_Zq.moved hW0.alike (hU.kept hS.2.1)
  have hN' : vx_Zq Bundle.tN "SUPPRESSED_SENTINEL" Bundle.listD A s' s'.heap := by rw [hhp]; exact vx_Zq.moved hW0.alike (hN.kept hS.2.1)
  have h : ∀ w ∈ Bundle.ownAtoms0 own ic cls names, w.before args s' = true := vx_own hat' (vx_isRefq hU'.1) (vx_isRefq hN'.1) hU'.2.word hN'.2.word
  have hown' : s'.vm.findClass own = some m.cls := by rw [hvm]; exact hown
  have hins : (Cond.instantiable cls 6).before args s' = true := h _ (by simp [Bundle.ownAtoms0])
  obtain ⟨vm₁, cX, kX, hfX, hkX, -, -, X₁, st1⟩ := Y.newCold hexec (own := own) (C := cls) (index := ik) (n := 6) hown' hk' hins hini'
    (g := F0 m pc ls rest) rfl (by rw [hb]; exact d0) (Nat.le_refl _) (Nat.le_refl _)
  generalize hT1 : (T.setVm vm₁).pushCell { cls := cX, slots := kX.instanceTypes.map defaultValue, vm := .none } = T1 at X₁ st1
  have hcat : (Value.ref T.heap.size).category = 1 := rfl
  have hcellA : T1.heap[T.heap.size]? = some (freshCell cX kX) := by rw [← hT1]; exact State.heap_pushCell_size _ _
  have d3' : decode c.code (pc + 3) = .ok (.dup, 1) := by rw [hb]; exact d3
  obtain ⟨U, hsteps, hrun, hend, hW, hsame, ce, hce, hO⟩ := X₁.ctorThrow0 hexec htr (own := own) (cls := cls) (names := names) (ic := ic) hown' hcls hnames h (fun x hx => nomatch hx) hfX hkX hcellA (by rw [hhp, hT]; exact Nat.le_refl _)
    (g := { method := m, pc := pc + 4, locals := ls, stack := .ref T.heap.size :: .ref T.heap.size :: rest, locked := none }) rfl hsize rfl rfl (rest := rest) rfl
    (by rw [hb]; exact d4) (by rw [hb]; exact d7) hout hRframes (by simp only [List.map_cons, List.sum_cons, hcat]; omega) hlocks
  obtain ⟨f1, f2⟩ := vx_frame hsame
  rw [hhp] at f1 f2
  have hWs : s.WarmedH U.vm := State.WarmedH.trans hW0 hW
  have hcl : s.vm.findClass cls = some ce.cls := by
    have h9 := hO.cls
    rw [hvm] at h9
    exact h9
  have hall : s.sameButNew ({ U with vm := s.vm } : State) locs mc ms := by
    subst hA
    obtain ⟨e1, e2⟩ := hsame
    rw [State.setFrames_setFrames] at e1
    have h2 : (T.setVm s.vm).sameButNew ({ U with vm := s.vm } : State) [] (0 + 1) (0 + 6) := ⟨e1, e2⟩
    have h3 := X.same.trans h2
    rw [List.append_nil] at h3
    exact h3.mono hc hs
  refine ⟨U, ?_, .threw T.heap.size, hrun, hend, Or.inr ⟨T.heap.size, rfl, cls, ce, locs, hx U hWs.alike f1 (fun q hq => f2 q hq (fun z hz => nomatch hz)), hce, hO.vm, hcl, hWs, hall, hf⟩⟩
  refine st1 _ ?_
  show Steps p.tables e below (T1.setTop { method := m, pc := pc + 3, locals := ls, stack := .ref T.heap.size :: rest, locked := none }) _
  jvm_step X₁.here [X₁.here.top, hexec, d3', Value.category]
  exact hsteps
/-- 'throw new E("text")': new; dup; ldc; invokespecial; athrow -/
theorem vx_throwS {cc : ByteArray} {pc : Nat} (hexec : p.tables.exec = Jvm.exec) (hb : c.code = cc) (hl : l.stackTraces = false) {own cls text : String} {names : List String} {ik is ic mc ms sa : Nat} {A : Nat → Prop}
    (hown : s.vm.findClass own = some m.cls) (hcls : Bundle.fit cls = true) (hnames : ∀ n ∈ names, Bundle.fit n = true)
    (hk : (Cond.classLink own ik cls).before args s = true) (hini : (Cond.initialized cls).before args s = true) (hstr : vk_R own is text sa s) (hat : ∀ w ∈ vx_atS own ic cls names, w.before args s = true)
    (hgood : ∀ w ∈ Cond.classLink own ik cls :: Cond.initialized cls :: vx_atS own ic cls names, vx_ot w = true)
    (hU : vx_Zq Bundle.tN "UNASSIGNED_STACK" Bundle.steD A s s.heap) (hN : vx_Zq Bundle.tN "SUPPRESSED_SENTINEL" Bundle.listD A s s.heap) (hS : va_S A s.heap H locs) (hsize : ls.size = c.maxLocals)
    (d0 : decode cc pc = .ok (.new ik, 3)) (d3 : decode cc (pc + 3) = .ok (.dup, 1)) (d4 : decode cc (pc + 4) = .ok (.ldc is, 2)) (d6 : decode cc (pc + 6) = .ok (.invokespecial ic, 3)) (d9 : decode cc (pc + 9) = .ok (.athrow, 1))
    (hout : ∀ x ∈ c.exceptionTable.toList, covers x (pc + 9) = false)
    (hRframes : names.length + 3 < R.frames) (hRlocals : (rest.map fun v => v.category).sum + (13 * (names.length + 1) + 43) ≤ R.locals) (hRcells : cells + 1 ≤ R.cells) (hRslots : slots + 6 ≤ R.slots) (hlocks : meth.locks = false)
    (hx : ∀ t : State, s.vm.Alike t.vm → H.size ≤ t.heap.size → (∀ q : Nat, q < H.size → t.heap[q]? = H[q]?) → XC cls s t)
    (hf : ∀ z ∈ locs, free z.base) (hc : cells + 1 ≤ mc) (hs : slots + 6 ≤ ms) :
    W p l e R s m args below meth c H locs cells slots (vx_MQ below Qc XC args s mc ms free) (F0 m pc ls rest) := by
  intro T hT X
  have htr : e.platform.stackTraces = false := (show e.platform.stackTraces = l.stackTraces by rw [X.admits.platform]).trans hl
  have Y := vx_rebase X (R' := { frames := R.frames, locals := R.locals, cells := 1, slots := 6 }) (Nat.le_refl _) (Nat.le_refl _) hRcells hRslots
  obtain ⟨s', hA⟩ : ∃ z, z = (T.setVm s.vm).setFrames (.invoking m args :: below) := ⟨_, rfl⟩
  rw [← hA] at Y
  have hvm : s'.vm = s.vm := by rw [hA]; rfl
  have hhp : s'.heap = H := by rw [hA]; exact hT
  have hW0 : s.WarmedH s'.vm := by rw [hvm]; exact State.WarmedH.refl s
  have hat' : ∀ w ∈ vx_atS own ic cls names, w.before args s' = true := fun w hw => vx_ot_at hW0 hvm.symm (hgood w (List.mem_cons_of_mem _ (List.mem_cons_of_mem _ hw))) (hat w hw)
  have hk' : (Cond.classLink own ik cls).before args s' = true := vx_ot_at hW0 hvm.symm (hgood _ List.mem_cons_self) hk
  have hini' : (Cond.initialized cls).before args s' = true := vx_ot_at hW0 hvm.symm (hgood _ (List.mem_cons_of_mem _ List.mem_cons_self)) hini
  have hU' : vx_Zq Bundle.tN "UNASSIGNED_STACK" Bundle.steD A s' s'.heap := by rw [hhp]; exact vx_Zq.moved hW0.alike (hU.kept hS.2.1)
  have hN' : vx_Zq Bundle.tN "SUPPRESSED_SENTINEL" Bundle.listD A s' s'.heap := by rw [hhp]; exact vx_Zq.moved hW0.alike (hN.kept hS.2.1)
  have h : ∀ w ∈ Bundle.ownAtoms own ic cls names, w.before args s' = true := vx_own hat' (vx_isRefq hU'.1) (vx_isRefq hN'.1) hU'.2.word hN'.2.word
  have hown' : s'.vm.findClass own = some m.cls := by rw [hvm]; exact hown
  have hins : (Cond.instantiable cls 6).before args s' = true := h _ (by simp [Bundle.ownAtoms])
  obtain ⟨vm₁, cX, kX, hfX, hkX, -, -, X₁, st1⟩ := Y.newCold hexec (own := own) (C := cls) (index := ik) (n := 6) hown' hk' hins hini'
    (g := F0 m pc ls rest) rfl (by rw [hb]; exact d0) (Nat.le_refl _) (Nat.le_refl _)
  generalize hT1 : (T.setVm vm₁).pushCell { cls := cX, slots := kX.instanceTypes.map defaultValue, vm := .none } = T1 at X₁ st1
  have hcat : (Value.ref T.heap.size).category = 1 := rfl
  have hcellA : T1.heap[T.heap.size]? = some (freshCell cX kX) := by rw [← hT1]; exact State.heap_pushCell_size _ _
  have d3' : decode c.code (pc + 3) = .ok (.dup, 1) := by rw [hb]; exact d3
  have d4' : decode c.code (pc + 4) = .ok (.ldc is, 2) := by rw [hb]; exact d4
  have hstr' : vk_R own is text sa s' := vk_R.warm hW0 hstr
  obtain ⟨U, hsteps, hrun, hend, hW, hsame, ce, hce, hO⟩ := X₁.ctorThrowS hexec htr (own := own) (cls := cls) (names := names) (ic := ic) hown' hcls hnames h (fun x hx => nomatch hx) hfX hkX hcellA (by rw [hhp, hT]; exact Nat.le_refl _) (msg := .ref sa) rfl
    (g := { method := m, pc := pc + 6, locals := ls, stack := .ref sa :: .ref T.heap.size :: .ref T.heap.size :: rest, locked := none }) rfl hsize rfl rfl (rest := rest) rfl
    (by rw [hb]; exact d6) (by rw [hb]; exact d9) hout hRframes (by simp only [List.map_cons, List.sum_cons, hcat]; omega) hlocks
  obtain ⟨f1, f2⟩ := vx_frame hsame
  rw [hhp] at f1 f2
  have hWs : s.WarmedH U.vm := State.WarmedH.trans hW0 hW
  have hcl : s.vm.findClass cls = some ce.cls := by
    have h9 := hO.cls
    rw [hvm] at h9
    exact h9
  have hall : s.sameButNew ({ U with vm := s.vm } : State) locs mc ms := by
    subst hA
    obtain ⟨e1, e2⟩ := hsame
    rw [State.setFrames_setFrames] at e1
    have h2 : (T.setVm s.vm).sameButNew ({ U with vm := s.vm } : State) [] (0 + 1) (0 + 6) := ⟨e1, e2⟩
    have h3 := X.same.trans h2
    rw [List.append_nil] at h3
    exact h3.mono hc hs
  refine ⟨U, ?_, .threw T.heap.size, hrun, hend, Or.inr ⟨T.heap.size, rfl, cls, ce, locs, hx U hWs.alike f1 (fun q hq => f2 q hq (fun z hz => nomatch hz)), hce, hO.vm, hcl, hWs, hall, hf⟩⟩
  refine st1 _ ?_
  show Steps p.tables e below (T1.setTop { method := m, pc := pc + 3, locals := ls, stack := .ref T.heap.size :: rest, locked := none }) _
  jvm_step X₁.here [X₁.here.top, hexec, d3', Value.category]
  exact X₁.ldcString hexec (own := own) (text := text) (index := is) (a := sa) hown' hstr'.1 hstr'.2
    (g := { method := m, pc := pc + 4, locals := ls, stack := .ref T.heap.size :: .ref T.heap.size :: rest, locked := none }) rfl d4' _ hsteps
/-- 'throw new E("text")', the text by a wide index -/
theorem vx_throwSW {cc : ByteArray} {pc : Nat} (hexec : p.tables.exec = Jvm.exec) (hb : c.code = cc) (hl : l.stackTraces = false) {own cls text : String} {names : List String} {ik is ic mc ms sa : Nat} {A : Nat → Prop}
    (hown : s.vm.findClass own = some m.cls) (hcls : Bundle.fit cls = true) (hnames : ∀ n ∈ names, Bundle.fit n = true)
    (hk : (Cond.classLink own ik cls).before args s = true) (hini : (Cond.initialized cls).before args s = true) (hstr : vk_R own is text sa s) (hat : ∀ w ∈ vx_atS own ic cls names, w.before args s = true)
    (hgood : ∀ w ∈ Cond.classLink own ik cls :: Cond.initialized cls :: vx_atS own ic cls names, vx_ot w = true)
    (hU : vx_Zq Bundle.tN "UNASSIGNED_STACK" Bundle.steD A s s.heap) (hN : vx_Zq Bundle.tN "SUPPRESSED_SENTINEL" Bundle.listD A s s.heap) (hS : va_S A s.heap H locs) (hsize : ls.size = c.maxLocals)
    (d0 : decode cc pc = .ok (.new ik, 3)) (d3 : decode cc (pc + 3) = .ok (.dup, 1)) (d4 : decode cc (pc + 4) = .ok (.ldc_w is, 3)) (d7 : decode cc (pc + 7) = .ok (.invokespecial ic, 3)) (d10 : decode cc (pc + 10) = .ok (.athrow, 1))
    (hout : ∀ x ∈ c.exceptionTable.toList, covers x (pc + 10) = false)
    (hRframes : names.length + 3 < R.frames) (hRlocals : (rest.map fun v => v.category).sum + (13 * (names.length + 1) + 43) ≤ R.locals) (hRcells : cells + 1 ≤ R.cells) (hRslots : slots + 6 ≤ R.slots) (hlocks : meth.locks = false)
    (hx : ∀ t : State, s.vm.Alike t.vm → H.size ≤ t.heap.size → (∀ q : Nat, q < H.size → t.heap[q]? = H[q]?) → XC cls s t)
    (hf : ∀ z ∈ locs, free z.base) (hc : cells + 1 ≤ mc) (hs : slots + 6 ≤ ms) :
    W p l e R s m args below meth c H locs cells slots (vx_MQ below Qc XC args s mc ms free) (F0 m pc ls rest) := by
  intro T hT X
  have htr : e.platform.stackTraces = false := (show e.platform.stackTraces = l.stackTraces by rw [X.admits.platform]).trans hl
  have Y := vx_rebase X (R' := { frames := R.frames, locals := R.locals, cells := 1, slots := 6 }) (Nat.le_refl _) (Nat.le_refl _) hRcells hRslots
  obtain ⟨s', hA⟩ : ∃ z, z = (T.setVm s.vm).setFrames (.invoking m args :: below) := ⟨_, rfl⟩
  rw [← hA] at Y
  have hvm : s'.vm = s.vm := by rw [hA]; rfl
  have hhp : s'.heap = H := by rw [hA]; exact hT
  have hW0 : s.WarmedH s'.vm := by rw [hvm]; exact State.WarmedH.refl s
  have hat' : ∀ w ∈ vx_atS own ic cls names, w.before args s' = true := fun w hw => vx_ot_at hW0 hvm.symm (hgood w (List.mem_cons_of_mem _ (List.mem_cons_of_mem _ hw))) (hat w hw)
  have hk' : (Cond.classLink own ik cls).before args s' = true := vx_ot_at hW0 hvm.symm (hgood _ List.mem_cons_self) hk
  have hini' : (Cond.initialized cls).before args s' = true := vx_ot_at hW0 hvm.symm (hgood _ (List.mem_cons_of_mem _ List.mem_cons_self)) hini
  have hU' : vx_Zq Bundle.tN "UNASSIGNED_STACK" Bundle.steD A s' s'.heap := by rw [hhp]; exact vx_Zq.moved hW0.alike (hU.kept hS.2.1)
  have hN' : vx_Zq Bundle.tN "SUPPRESSED_SENTINEL" Bundle.listD A s' s'.heap := by rw [hhp]; exact vx_Zq.moved hW0.alike (hN.kept hS.2.1)
  have h : ∀ w ∈ Bundle.ownAtoms own ic cls names, w.before args s' = true := vx_own hat' (vx_isRefq hU'.1) (vx_isRefq hN'.1) hU'.2.word hN'.2.word
  have hown' : s'.vm.findClass own = some m.cls := by rw [hvm]; exact hown
  have hins : (Cond.instantiable cls 6).before args s' = true := h _ (by simp [Bundle.ownAtoms])
  obtain ⟨vm₁, cX, kX, hfX, hkX, -, -, X₁, st1⟩ := Y.newCold hexec (own := own) (C := cls) (index := ik) (n := 6) hown' hk' hins hini'
    (g := F0 m pc ls rest) rfl (by rw [hb]; exact d0) (Nat.le_refl _) (Nat.le_refl _)
  generalize hT1 : (T.setVm vm₁).pushCell { cls := cX, slots := kX.instanceTypes.map defaultValue, vm := .none } = T1 at X₁ st1
  have hcat : (Value.ref T.heap.size).category = 1 := rfl
  have hcellA : T1.heap[T.heap.size]? = some (freshCell cX kX) := by rw [← hT1]; exact State.heap_pushCell_size _ _
  have d3' : decode c.code (pc + 3) = .ok (.dup, 1) := by rw [hb]; exact d3
  have d4' : decode c.code (pc + 4) = .ok (.ldc_w is, 3) := by rw [hb]; exact d4
  have hstr' : vk_R own is text sa s' := vk_R.warm hW0 hstr
  obtain ⟨U, hsteps, hrun, hend, hW, hsame, ce, hce, hO⟩ := X₁.ctorThrowS hexec htr (own := own) (cls := cls) (names := names) (ic := ic) hown' hcls hnames h (fun x hx => nomatch hx) hfX hkX hcellA (by rw [hhp, hT]; exact Nat.le_refl _) (msg := .ref sa) rfl
    (g := { method := m, pc := pc + 7, locals := ls, stack := .ref sa :: .ref T.heap.size :: .ref T.heap.size :: rest, locked := none }) rfl hsize rfl rfl (rest := rest) rfl
    (by rw [hb]; exact d7) (by rw [hb]; exact d10) hout hRframes (by simp only [List.map_cons, List.sum_cons, hcat]; omega) hlocks
  obtain ⟨f1, f2⟩ := vx_frame hsame
  rw [hhp] at f1 f2
  have hWs : s.WarmedH U.vm := State.WarmedH.trans hW0 hW
  have hcl : s.vm.findClass cls = some ce.cls := by
    have h9 := hO.cls
    rw [hvm] at h9
    exact h9
  have hall : s.sameButNew ({ U with vm := s.vm } : State) locs mc ms := by
    subst hA
    obtain ⟨e1, e2⟩ := hsame
    rw [State.setFrames_setFrames] at e1
    have h2 : (T.setVm s.vm).sameButNew ({ U with vm := s.vm } : State) [] (0 + 1) (0 + 6) := ⟨e1, e2⟩
    have h3 := X.same.trans h2
    rw [List.append_nil] at h3
    exact h3.mono hc hs
  refine ⟨U, ?_, .threw T.heap.size, hrun, hend, Or.inr ⟨T.heap.size, rfl, cls, ce, locs, hx U hWs.alike f1 (fun q hq => f2 q hq (fun z hz => nomatch hz)), hce, hO.vm, hcl, hWs, hall, hf⟩⟩
  refine st1 _ ?_
  show Steps p.tables e below (T1.setTop { method := m, pc := pc + 3, locals := ls, stack := .ref T.heap.size :: rest, locked := none }) _
  jvm_step X₁.here [X₁.here.top, hexec, d3', Value.category]
  exact X₁.ldcStringW hexec (own := own) (text := text) (index := is) (a := sa) hown' hstr'.1 hstr'.2
    (g := { method := m, pc := pc + 4, locals := ls, stack := .ref T.heap.size :: .ref T.heap.size :: rest, locked := none }) rfl d4' _ hsteps
end Ends
section Bodies
variable {l : Launch}
theorem vx_ofW {y : MethodName} {ws ws' : List Cond} {rm : Room} {Pc : Array Value → State → Prop} {Qc : Array Value → State → Outcome → State → Prop} {XC : String → State → State → Prop} {mc ms : Nat} {free : Addr → Prop} {cc : ByteArray} {maxL : Nat} {ret : Option FieldType}
    (hy : plainName y.cls = true) (hw : ws = Cond.code y cc maxL ret :: ws')
    (body : ∀ p e s m args below meth c s₁, BodyLoose p l y (headSpec ws rm) cc maxL ret e s m args below meth c s₁ → c.maxLocals = maxL → (∀ x ∈ c.exceptionTable.toList, False) → Pc args s →
      W p l e (headSpec ws rm).room s m args below meth c s.heap [] 0 0 (vx_MQ below Qc XC args s mc ms free) (entryFrame m args maxL)) : vx_Met l y ws rm Pc Qc XC mc ms free := by
  refine MetFree.of_bodyS (code := cc) (maxLocals := maxL) (ret := ret) hy ?_ ?_
  · intro args s m h hn
    obtain ⟨meth, c, h1, h2, h3, h4, h5, h6, -, -⟩ := Cond.code_spec hn (atoms_spec (ws := ws) h _ (by rw [hw]; exact List.mem_cons_self))
    exact ⟨meth, c, h1, h2, h3, h4, h5, h6⟩
  · intro p e s m args below meth c s₁ B hml hP _
    have hh0 : s₁.heap = s.heap := by rw [B.state]; rfl
    have ht : ∀ x ∈ c.exceptionTable.toList, False := by
      obtain ⟨meth9, c9, h1, h2, -, -, -, -, h7, -⟩ := Cond.code_spec B.named (atoms_spec (ws := ws) B.pre _ (by rw [hw]; exact List.mem_cons_self))
      cases Option.some.inj (h1.symm.trans B.method)
      cases Option.some.inj (h2.symm.trans (Stand.of_body B).code)
      intro x hx
      rw [Array.isEmpty_iff.mp h7] at hx
      cases hx
    obtain ⟨t, a1, o, b1, b2, b3⟩ := body p e s m args below meth c s₁ B hml ht hP s₁ hh0 (Stand.of_body B)
    exact ⟨t, o, a1, b1, b2, b3⟩
/-- the table of a body with handlers -/
theorem vx_table {p : Program} {x y : MethodName} {S : Spec} {cc bytes : ByteArray} {maxL maxL' : Nat} {ret ret' : Option FieldType} {e : Env} {s s₁ : State} {m : MethodId} {args : Array Value} {below : List Frame} {meth : Method} {c : Code} {hh : List (Nat × Nat × Nat × Nat)}
    (B : BodyLoose p l y S cc maxL ret e s m args below meth c s₁) (h : (Cond.codeWith y bytes maxL' ret' hh).before args s = true) : c.exceptionTable.toList = tableOf hh := by
  obtain ⟨m9, meth9, c9, hn9, h1, h2, -, -, h6, -⟩ := Cond.codeWith_spec h
  cases Option.some.inj (hn9.symm.trans B.named)
  cases Option.some.inj (h1.symm.trans B.method)
  cases Option.some.inj (h2.symm.trans (Stand.of_body B).code)
  rw [← h6, table_eq]
end Bodies
end VXA
/-! ===== END ===== -/
/-! ===== BEGIN a static call of a method with an exception table ===== -/
section VXS
variable {p : Program} {l : Launch} {e : Env} {R : Room} {s : State} {m : MethodId} {args : Array Value} {below : List Frame} {meth : Method} {c : Code} {T : State} {H : Heap} {locs : List Loc} {cells slots : Nat}
abbrev vx_CSW (R : Room) (s : State) (args : Array Value) (own : String) (index : Nat) (y : MethodName) (bytes : ByteArray) (maxL : Nat) (ret : Option FieldType) (hh : List (Nat × Nat × Nat × Nat)) (ws : List Cond) (rm : Room) (mc ms n : Nat) : Prop :=
  (rm.cells = mc ∧ rm.slots = ms ∧ rm.frames + 1 ≤ R.frames ∧ 8 + (maxL + 11) + rm.locals ≤ R.locals ∧ (∀ w ∈ ws, ∀ (a' : Array Value) (U : State), s.WarmedH U.vm → w.before a' U = true) ∧ Cond.codeWith y bytes maxL ret hh ∈ ws) ∧
  (Cond.codeWith y bytes maxL ret hh).before args s = true ∧ (Cond.initialized y.cls).before args s = true ∧ (y.cls ≠ "java/lang/invoke/MethodHandle" ∧ y.cls ≠ "java/lang/invoke/VarHandle") ∧
  (∀ sig, parseMethodDescriptor y.desc = some sig → n = sig.parameters.length) ∧ (Cond.methodLink own index y).before args s = true ∧ (Cond.static y).before args s = true
theorem vx_cwSW {own : String} {index maxL mc ms : Nat} {y : MethodName} {bytes : ByteArray} {ret : Option FieldType} {hh : List (Nat × Nat × Nat × Nat)} {Ts ws ws' : List Cond} {rm : Room} (n : Nat) (ht : ∀ w ∈ Ts, w.before args s = true) (hT : GoodIn Ts (va_wsS own index y ws)) (hw : ws = Cond.codeWith y bytes maxL ret hh :: ws') (hrc : rm.cells = mc) (hrs : rm.slots = ms)
    (hd : y.cls ≠ "java/lang/invoke/MethodHandle" ∧ y.cls ≠ "java/lang/invoke/VarHandle" ∧ (parseMethodDescriptor y.desc).map (fun d => d.parameters.length) = some n) (hR : rm.frames + 1 ≤ R.frames ∧ 8 + (maxL + 11) + rm.locals ≤ R.locals) :
    vx_CSW R s args own index y bytes maxL ret hh ws rm mc ms n := by
  have ok : ∀ w ∈ va_wsS own index y ws, w.before args s = true := fun w h => ht w (hT w h).1
  have hG : GoodIn Ts ws := fun w h => hT w (by unfold va_wsS; exact List.mem_append_right _ h)
  have hc : Cond.codeWith y bytes maxL ret hh ∈ ws := by rw [hw]; exact List.mem_cons_self
  refine ⟨⟨hrc, hrs, hR.1, hR.2, pay_in ht hG, hc⟩, ht _ (hG _ hc).1, ok _ (by simp [va_wsS]), ⟨hd.1, hd.2.1⟩, fun sig h => ?_, ok _ (by simp [va_wsS]), ok _ (by simp [va_wsS])⟩
  have h2 := hd.2.2
  rw [h] at h2
  exact (Option.some.inj h2).symm
theorem vx_callSW (X : Stand p l e R s m args below meth c T locs cells slots) (hexec : p.tables.exec = Jvm.exec) {own : String} {index : Nat} {y : MethodName} {bytes : ByteArray} {maxL : Nat} {ret : Option FieldType} {hh : List (Nat × Nat × Nat × Nat)}
    (hown : s.vm.findClass own = some m.cls) (hlink : (Cond.methodLink own index y).before args s = true) (hstat : (Cond.static y).before args s = true) (hinit : (Cond.initialized y.cls).before args s = true)
    (hcode : (Cond.codeWith y bytes maxL ret hh).before args s = true) (hy : y.cls ≠ "java/lang/invoke/MethodHandle" ∧ y.cls ≠ "java/lang/invoke/VarHandle")
    {W9 : Nat} {Pre : Pt → Array Value → Prop} {Post : Pt → Array Value → Option Value → Pt → Prop} (hK : Back l R p e below s args y 3 W9 Pre Post)
    {g : JFrame} (hg : g.method = m) (hsize : g.locals.size = c.maxLocals) {argsL rest : List Value} (hlen : ∀ sig, parseMethodDescriptor y.desc = some sig → argsL.length = sig.parameters.length)
    (hstack : g.stack = argsL.reverse ++ rest) (hW : 2 * g.monitorRoom + (rest.map fun v => v.category).sum ≤ W9) (hdg : decode c.code g.pc = .ok (.invokestatic index, 3))
    (hpre : ∀ vm₁, s.WarmedH vm₁ → Pre ⟨T.setVm vm₁, locs, cells, slots⟩ argsL.toArray) :
    ∃ (v : Option Value) (vm₁ : Vm) (B : Pt), s.WarmedH vm₁ ∧ Stand p l e R s m args below meth c B.U B.locs B.cells B.slots ∧ Post ⟨T.setVm vm₁, locs, cells, slots⟩ argsL.toArray v B ∧
      ∀ target, Steps p.tables e below (B.U.setTop { g with pc := g.pc + 3, stack := v.toList ++ rest }) target → Steps p.tables e below (T.setTop g) target := by
  obtain ⟨mk, methM, cM, hnamed, hmethM, -, -, -, -, -, -, hsigM⟩ := Cond.codeWith_spec hcode
  have hstatic : methM.isStatic = true := Cond.static_spec hnamed hmethM hstat
  obtain ⟨kP, hkP, -⟩ := className_of_methodNamed hnamed
  have hinitP : kP.init = .initialized := Cond.initialized_spec (findClass_of_methodNamed hnamed) hkP hinit
  obtain ⟨vm₁, X₁, hstep₁⟩ := X.invokestatic hexec hown hlink hnamed hmethM hstatic hkP hinitP hy (g := g) hg (argsL := argsL) (rest := rest) (hlen _ hsigM) hstack hdg
  obtain ⟨v, B, X', hpost, hsteps⟩ := hK m meth c ⟨T.setVm vm₁, locs, cells, slots⟩ { g with stack := rest } (.invokestatic index) mk argsL.toArray X₁ hg hsize hdg hW (X₁.named hnamed) (hpre vm₁ X₁.warmed)
  exact ⟨v, vm₁, B, X₁.warmed, X', hpost, fun target h => hstep₁ _ fun acts => by rw [doInvoke_state]; exact hsteps.trans h⟩
theorem vx_runSW {y : MethodName} {bytes cc : ByteArray} {maxL nL mc ms n index : Nat} {ret : Option FieldType} {hh : List (Nat × Nat × Nat × Nat)} {ws : List Cond} {rm : Room} {Pc : Array Value → State → Prop} {Qc : Array Value → State → Outcome → State → Prop} {free : Addr → Prop} {Ts : List Cond} {own : String} {As rest : List Value} {g : JFrame}
    (S : CallFix p m c cc nL s args Ts own) (hM : Met l y ws rm Pc Qc mc ms free) (cw : vx_CSW R s args own index y bytes maxL ret hh ws rm mc ms n) (hp : PreS s H Pc As)
    (hg : g.method = m) (hn : As.length = n) (hsize : g.locals.size = nL) (hstack : g.stack = As.reverse ++ rest) (hW : 2 * g.monitorRoom + (rest.map fun v => v.category).sum ≤ 8) (hdg : decode cc g.pc = .ok (.invokestatic index, 3)) (hf : cells + mc ≤ R.cells ∧ slots + ms ≤ R.slots) :
    va_Run p l e R s m args below meth c H locs cells slots mc ms g rest (Qc As.toArray) (free) := by
  obtain ⟨⟨hrc, hrs, hfr, hlo, hws, hcw⟩, hcode, hini, hy, hlen, hl, hstt⟩ := cw
  have hK : Back l R p e below s args y 3 8 (PreOf R mc ms Pc) (PostOf Qc mc ms free) := va_backW (hh := hh) (bytes := bytes) (maxL := maxL) (ret := ret) hM hp.1 hrc hrs hfr hlo hws hcw (fun a' U hW => word_at hW (Or.inl (by first | rfl | simp [Cond.onTables, Cond.keeps, Cond.steady])) hini)
  obtain ⟨hx, hb, hml, ho, -⟩ := S
  intro T hT X
  obtain ⟨v, vm₁, ⟨U', l2, c2, s2⟩, hW₁, X', ⟨g', mk, t, L, e1, e2, hq, h1, hL, h2, h3⟩, st⟩ := vx_callSW X hx (hh := hh) (bytes := bytes) (maxL := maxL) (ret := ret) ho hl hstt hini hcode hy hK hg (hsize.trans hml.symm) (argsL := As) (rest := rest) (fun sig h => hn.trans (hlen sig h)) hstack hW (by rw [hb]; exact hdg)
    (fun vm₁ hW₁ => ⟨hf.1, hf.2, hp.2 (T.setVm vm₁) hT hW₁⟩)
  dsimp only [Pt.U, Pt.locs, Pt.cells, Pt.slots] at X' e1 e2 h1 h2 h3 st
  subst h1; subst h2; subst h3
  exact ⟨v, (T.setVm vm₁).calling g' mk As.toArray, t, U', L, hT, X', hL, e1, e2, hq, st⟩
/-- not caught here, past rows that name other classes: it goes on to the caller -/
theorem vx_outP {p : Program} {l : Launch} {e : Env} {R : Room} {s : State} {m : MethodId} {args : Array Value} {below : List Frame} {meth : Method} {c : Code} {H : Heap} {locs : List Loc} {cells slots : Nat} {free : Addr → Prop} {ls : Array Slot} {rest : List Value} {Qc : Array Value → State → Outcome → State → Prop} {XC : String → State → State → Prop}
    {pc : Nat} {own E : String} {ce : Cell} {q : Addr} {mc ms : Nat} (hown : s.vm.findClass own = some m.cls) (hlocks : meth.locks = false)
    (hpass : ∀ z ∈ c.exceptionTable.toList, covers z pc = false ∨ (z.catchType ≠ 0 ∧ ∃ nm : String, (Cond.classLink own z.catchType nm).before args s = true ∧ va_Nc E nm s)) (hcell : H[q]? = some ce) (hv : ce.vm = .none) (hcl : s.vm.findClass E = some ce.cls)
    (hx : ∀ t : State, t.heap = H → s.vm.Alike t.vm → XC E s t) (hf : ∀ z ∈ locs, free z.base) (hc : cells ≤ mc) (hs : slots ≤ ms) :
    vx_W p l e R s m args below meth c H locs cells slots (vx_MQ below Qc XC args s mc ms free) (F0 m pc ls rest) q := by
  intro T hT X
  have hpl : e.platform.magicAccessors = ({} : Platform).magicAccessors := by rw [X.admits.platform]
  obtain ⟨vm', hW', X', st⟩ := X.outThrough hlocks q (g := F0 m pc ls rest) rfl rfl rfl (cell := ce) (by rw [hT]; exact hcell) (by rw [hv]; rfl)
    (by obtain ⟨k9, h9, -⟩ := Vm.findClass_spec hcl; exact ⟨k9, h9⟩) (fun z hz => by
      rcases hpass z hz with h | ⟨hz0, nm, hl1, hn1⟩
      · exact Or.inl h
      · obtain ⟨c6, hc6, hcl6⟩ := Cond.classLink_spec hown hl1 e.platform hpl
        obtain ⟨a8, b8, h1, h2, h3⟩ := hn1
        cases Option.some.inj (h1.symm.trans hcl)
        cases Option.some.inj (h2.symm.trans hc6)
        exact Or.inr ⟨hz0, _, hcl6, h3⟩)
  obtain ⟨g₀, hfr⟩ := X'.frames_eq
  have hcell9 : ((T.setVm vm').setFrames (.throwing q :: below)).heap[q]? = some ce := by
    show T.heap[q]? = some ce
    rw [hT]; exact hcell
  have hend : Ended ((T.setVm vm').setFrames (.throwing q :: below)) below (.threw q) := State.frames_setFrames _ (State.cur_lt_of_frames hfr)
  refine ⟨(T.setVm vm').setFrames (.throwing q :: below), ?_, .threw q, X'.here.running, hend, Or.inr ⟨q, rfl, E, ce, locs, hx _ hT (X'.ends _).1.alike, hcell9, hv, hcl, (X'.ends _).1, (X'.ends _).2.mono hc hs, hf⟩⟩
  rw [X.pushThrowing_eq]
  exact st
/-- a thing of a world lies in the heap -/
theorem vx_lt {D : va_G} {cl : List vw_C} {ws : va_W} {H1 : Heap} (h : va_P D cl ws H1) {k : Nat} {q : Nat × va_E} (hk : ws[k]? = some q) : q.1 < H1.size := (h k q hk).lt
end VXS
/-! ===== END ===== -/
/-! ===== BEGIN methods with a table of their own: called by a name, returning or throwing ===== -/
section VXH
/-! vx_backW, vx_callVX, vx_callSX, vx_callVW, vx_runVW, vx_runVX, vx_runSX, vx_ofWH follow the same proofs as their sisters above (Free/Laws.lean, Shelf42/LK1.lean); vx_outP calls Shelf42/NT130.lean (outThrough). -/
section
variable {l : Launch} {R : Room} {p : Program} {e : Env} {below : List Frame} {s : State} {sargs : Array Value} {y : MethodName} {len W9 : Nat}
theorem vx_backW {ws : List Cond} {rm : Room} {Pc : Array Value → State → Prop} {Qc : Array Value → State → Outcome → State → Prop} {XC : String → State → State → Prop} {mc ms : Nat} {free : Addr → Prop} {bytes : ByteArray} {maxL : Nat} {ret : Option FieldType} {hh : List (Nat × Nat × Nat × Nat)}
    (hM : vx_Met l y ws rm Pc Qc XC mc ms free) (hblind : FrameBlind Pc) (hrc : rm.cells = mc) (hrs : rm.slots = ms)
    (hframes : rm.frames + 1 ≤ R.frames) (hlocals : W9 + (maxL + 11) + rm.locals ≤ R.locals)
    (hws : ∀ w ∈ ws, ∀ a' U, s.WarmedH U.vm → w.before a' U = true) (hcode : Cond.codeWith y bytes maxL ret hh ∈ ws) (hinit : ∀ a' U, s.WarmedH U.vm → (Cond.initialized y.cls).before a' U = true) :
    vx_Back l R p e below s sargs y len W9 (PreOf R mc ms Pc) (PostOf Qc mc ms free) (vx_Post XC mc ms free) := by
  intro m meth c A g ig mk a X hg hsize hdg hW hn hp
  have h1 : (headSpec ws rm).pre.before a A.U = true := atoms_intro fun w hw => hws w hw _ _ X.warmed
  have h2 : (Cond.codeWith y bytes maxL ret hh).before a A.U = true := hws _ hcode _ _ X.warmed
  have h3 : (Cond.initialized y.cls).before a A.U = true := hinit _ _ X.warmed
  have h4 : A.cells + (headSpec ws rm).room.cells ≤ R.cells := by rw [show (headSpec ws rm).room.cells = mc from hrc]; exact hp.1
  have h5 : A.slots + (headSpec ws rm).room.slots ≤ R.slots := by rw [show (headSpec ws rm).room.slots = ms from hrs]; exact hp.2.1
  have hPc : Pc a (A.U.calling g mk a) := hblind _ _ _ _ hp.2.2
  obtain ⟨U, Ls, c0, s0⟩ := A
  dsimp only [Pt.U, Pt.locs, Pt.cells, Pt.slots] at h1 h2 h3 h4 h5 X hn hPc ⊢
  obtain ⟨m9, methY, cY, hn9, hmY, hcY, -, hlY, -⟩ := Cond.codeWith_spec h2
  cases Option.some.inj (hn9.symm.trans hn)
  obtain ⟨kY, hkY, -⟩ := className_of_methodNamed hn
  have hinitY : kY.init = .initialized := Cond.initialized_spec (findClass_of_methodNamed hn) hkY h3
  have h : At U g.method c below := by rw [hg]; exact X.here
  have hlocals9 : W9 + (maxL + 11) + (headSpec ws rm).room.locals ≤ R.locals := hlocals
  have happ : (headSpec ws rm).appliesLoose y e.platform (U.calling g mk a) = true :=
    Spec.appliesLoose_calling (g := g) h hdg hn hkY hinitY
      (X.room_calling (g := g) (R' := (headSpec ws rm).room) hsize hmY hcY hframes (by rw [hlY]; omega) h4 h5) h1
  obtain ⟨mid, hmid⟩ := h.above
  have hfr : (U.setTop g).frames = (.java g :: mid) ++ below := by rw [State.frames_setTop' g h.top, hmid]; rfl
  obtain ⟨o, s₂, hsteps, -, hend, hq⟩ := Steps.callFree hM p X.admits X.cas X.clock (acts := []) hfr happ hPc trivial
  have hq' : vx_Q Qc XC mc ms free a (U.calling g mk a) o s₂ := hq
  rw [State.frames_setTop' g h.top] at hend
  obtain ⟨g₀, hg0⟩ := Option.isSome_iff_exists.mp h.top
  obtain ⟨r, hr⟩ := State.topJava?_eq_some.mp hg0
  have hr' : (({ U with heap := s₂.heap, slotsUsed := s₂.slotsUsed } : State).setVm s₂.vm).frames = .java g₀ :: r := hr
  rcases hq' with ⟨hqc, L, hfe, hL⟩ | ⟨q, rfl, E, ce, L, hx, hce, hcv, hcl, hW₂, hsm, hL⟩
  · obtain ⟨⟨v, rfl⟩, hW₂, e2, q2, q3, q4, q5, q6⟩ := id hfe
    have e3 : s₂ = ({ (U.calling g mk a).setFrames s₂.frames with heap := s₂.heap, slotsUsed := s₂.slotsUsed } : State).setVm s₂.vm := by
      have : s₂ = ({ s₂ with vm := (U.calling g mk a).vm } : State).setVm s₂.vm := rfl
      rw [e2] at this
      exact this
    obtain ⟨c₂, i₂, len₂, hc₂, hd₂, hf₂⟩ := hend
    have hW' : U.WarmedH s₂.vm := hW₂
    have hcc : c₂ = c := by
      have h1 : s₂.code? g.method = U.code? g.method := by
        rw [State.code?_eq, State.code?_eq, hW'.alike.method?]
      exact Option.some.inj (hc₂.symm.trans (h1.trans h.code))
    subst hcc
    have hlen : len₂ = len := by rw [hdg] at hd₂; cases hd₂; rfl
    subst hlen
    have hs₂ : s₂ = (({ U with heap := s₂.heap, slotsUsed := s₂.slotsUsed } : State).setVm s₂.vm).setTop { g with pc := g.pc + len₂, stack := v.toList ++ g.stack } := by
      refine e3.trans ?_
      rw [hf₂, State.calling_eq h.top, State.setFrames_setFrames, State.setTop_of_frames _ hr', hr]
      rfl
    have hsame : U.sameButNew ({ U with heap := s₂.heap, slotsUsed := s₂.slotsUsed } : State) L mc ms := by
      refine ⟨?_, q2, q3, q4, q5, q6⟩
      obtain ⟨t, ht, -⟩ := State.frames_cons hr
      show ({ U with heap := s₂.heap, slotsUsed := s₂.slotsUsed } : State) = { U.setFrames U.frames with heap := s₂.heap, slotsUsed := s₂.slotsUsed }
      rw [State.setFrames_self ht]
    subst hg
    refine Or.inl ⟨v, ⟨(({ U with heap := s₂.heap, slotsUsed := s₂.slotsUsed } : State).setVm s₂.vm), Ls ++ L, c0 + mc, s0 + ms⟩,
      ⟨X.admits, X.cas, X.clock, X.frames, X.room, X.hears, X.method, X.code, (X.here.setHeapUsed s₂.heap s₂.slotsUsed).setVm hW'.alike, X.tail, State.WarmedH.trans X.warmed hW', X.limits, X.bytes, X.same.trans (hsame.setVm s.vm)⟩,
      ⟨g, mk, s₂, L, rfl, rfl, hqc, rfl, hL, rfl, rfl⟩, ?_⟩
    show Steps p.tables e below _ ((({ U with heap := s₂.heap, slotsUsed := s₂.slotsUsed } : State).setVm s₂.vm).setTop { g with pc := g.pc + len₂, stack := v.toList ++ g.stack })
    rw [← hs₂]
    exact hsteps
  · obtain ⟨e2, q2, q3, q4, q5, q6⟩ := id hsm
    have e3 : s₂ = ({ (U.calling g mk a).setFrames s₂.frames with heap := s₂.heap, slotsUsed := s₂.slotsUsed } : State).setVm s₂.vm := by
      have : s₂ = ({ s₂ with vm := (U.calling g mk a).vm } : State).setVm s₂.vm := rfl
      rw [e2] at this
      exact this
    have hf₂ : s₂.frames = .throwing q :: .java g :: U.frames.tail := hend
    have hW' : U.WarmedH s₂.vm := hW₂
    have hs₂ : s₂ = ((({ U with heap := s₂.heap, slotsUsed := s₂.slotsUsed } : State).setVm s₂.vm).setTop g).pushFrame (.throwing q) := by
      refine e3.trans ?_
      rw [hf₂, State.calling_eq h.top, State.setFrames_setFrames, State.pushFrame, State.frames_setTop _ hr', State.setTop_of_frames _ hr', State.setFrames_setFrames, hr]
      rfl
    have hsame : U.sameButNew ({ U with heap := s₂.heap, slotsUsed := s₂.slotsUsed } : State) L mc ms := by
      refine ⟨?_, q2, q3, q4, q5, q6⟩
      obtain ⟨t, ht, -⟩ := State.frames_cons hr
      show ({ U with heap := s₂.heap, slotsUsed := s₂.slotsUsed } : State) = { U.setFrames U.frames with heap := s₂.heap, slotsUsed := s₂.slotsUsed }
      rw [State.setFrames_self ht]
    subst hg
    refine Or.inr ⟨q, ⟨(({ U with heap := s₂.heap, slotsUsed := s₂.slotsUsed } : State).setVm s₂.vm), Ls ++ L, c0 + mc, s0 + ms⟩,
      ⟨X.admits, X.cas, X.clock, X.frames, X.room, X.hears, X.method, X.code, (X.here.setHeapUsed s₂.heap s₂.slotsUsed).setVm hW'.alike, X.tail, State.WarmedH.trans X.warmed hW', X.limits, X.bytes, X.same.trans (hsame.setVm s.vm)⟩,
      ⟨g, mk, s₂, L, E, ce, rfl, rfl, hx, hce, hcv, hcl, rfl, hL, rfl, rfl⟩, ?_⟩
    show Steps p.tables e below _ (((({ U with heap := s₂.heap, slotsUsed := s₂.slotsUsed } : State).setVm s₂.vm).setTop g).pushFrame (.throwing q))
    rw [← hs₂]
    exact hsteps
end
variable {p : Program} {l : Launch} {e : Env} {R : Room} {s : State} {m : MethodId} {args : Array Value} {below : List Frame} {meth : Method} {c : Code} {T : State} {H : Heap} {locs : List Loc} {cells slots : Nat}
theorem vx_callVX (X : Stand p l e R s m args below meth c T locs cells slots) (hexec : p.tables.exec = Jvm.exec) {own C : String} {index : Nat} {y : MethodName} {bytes : ByteArray} {maxL : Nat} {ret : Option FieldType} {hh : List (Nat × Nat × Nat × Nat)}
    (hown : s.vm.findClass own = some m.cls) (hlink : (Cond.methodLink own index y).before args s = true) (hinst : (Cond.instanceMethod y).before args s = true) (hsel : (Cond.selects C y y).before args s = true)
    (hcode : (Cond.codeWith y bytes maxL ret hh).before args s = true) (hy : y.cls ≠ "java/lang/invoke/MethodHandle" ∧ y.cls ≠ "java/lang/invoke/VarHandle")
    {W9 : Nat} {Pre : Pt → Array Value → Prop} {Post : Pt → Array Value → Option Value → Pt → Prop} {PostX : Pt → Array Value → Addr → Pt → Prop} (hK : vx_Back l R p e below s args y 3 W9 Pre Post PostX)
    {b : Addr} {cellB : Cell} (hcell : T.heap[b]? = some cellB) (hobj : cellB.vm.isStatics = false) (hcls : s.vm.findClass C = some cellB.cls)
    {g : JFrame} (hg : g.method = m) (hsize : g.locals.size = c.maxLocals) {argsL rest : List Value} (hlen : ∀ sig, parseMethodDescriptor y.desc = some sig → argsL.length = sig.parameters.length)
    (hstack : g.stack = argsL.reverse ++ .ref b :: rest) (hW : 2 * g.monitorRoom + (rest.map fun v => v.category).sum ≤ W9) (hdg : decode c.code g.pc = .ok (.invokevirtual index, 3))
    (hpre : ∀ vm₁, s.WarmedH vm₁ → Pre ⟨T.setVm vm₁, locs, cells, slots⟩ (Value.ref b :: argsL).toArray) :
    (∃ (v : Option Value) (vm₁ : Vm) (B : Pt), s.WarmedH vm₁ ∧ Stand p l e R s m args below meth c B.U B.locs B.cells B.slots ∧ Post ⟨T.setVm vm₁, locs, cells, slots⟩ (Value.ref b :: argsL).toArray v B ∧
      ∀ target, Steps p.tables e below (B.U.setTop { g with pc := g.pc + 3, stack := v.toList ++ rest }) target → Steps p.tables e below (T.setTop g) target) ∨
    (∃ (q : Addr) (vm₁ : Vm) (B : Pt), s.WarmedH vm₁ ∧ Stand p l e R s m args below meth c B.U B.locs B.cells B.slots ∧ PostX ⟨T.setVm vm₁, locs, cells, slots⟩ (Value.ref b :: argsL).toArray q B ∧
      Steps p.tables e below (T.setTop g) ((B.U.setTop { g with stack := rest }).pushFrame (.throwing q))) := by
  obtain ⟨mk, methM, hnamed, hmethM, hstM, habM⟩ := Cond.instanceMethod_spec hinst
  obtain ⟨m8, methM', cM, hn8, hmethM', -, -, -, -, -, -, hsigM⟩ := Cond.codeWith_spec hcode
  cases Option.some.inj (hn8.symm.trans hnamed)
  cases hmethM.symm.trans hmethM'
  obtain ⟨c2, r2, m2, q1, q2, q3, q4, kP, hkP, hkPi⟩ := Cond.selects_spec hsel
  cases hcls.symm.trans q1
  cases (State.methodFound?_of_named hnamed hy).symm.trans q2
  cases hnamed.symm.trans q3
  have hselP : selectMethod e.platform s.vm cellB.cls mk = .method mk := by rw [Launch.admits_selectMethod X.admits]; exact q4
  obtain ⟨vm₁, X₁, hstep₁⟩ := X.invokevirtual hexec hown hlink hnamed hmethM hstM hkP hkPi hy (a := b) (cell := cellB) hcell
    (fun z h => by rw [h] at hobj; cases hobj) hselP hmethM habM hkP hkPi (g := g) hg (argsL := argsL) (rest := rest) (hlen _ hsigM) hstack hdg
  rcases hK m meth c ⟨T.setVm vm₁, locs, cells, slots⟩ { g with stack := rest } (.invokevirtual index) mk (Value.ref b :: argsL).toArray X₁ hg hsize hdg hW (X₁.named hnamed) (hpre vm₁ X₁.warmed) with ⟨v, B, X', hpost, hsteps⟩ | ⟨q, B, X', hpost, hsteps⟩
  · exact Or.inl ⟨v, vm₁, B, X₁.warmed, X', hpost, fun target h => hstep₁ _ fun acts => by rw [doInvoke_state]; exact hsteps.trans h⟩
  · exact Or.inr ⟨q, vm₁, B, X₁.warmed, X', hpost, hstep₁ _ fun acts => by rw [doInvoke_state]; exact hsteps⟩
theorem vx_callSX (X : Stand p l e R s m args below meth c T locs cells slots) (hexec : p.tables.exec = Jvm.exec) {own : String} {index : Nat} {y : MethodName} {bytes : ByteArray} {maxL : Nat} {ret : Option FieldType} {hh : List (Nat × Nat × Nat × Nat)}
    (hown : s.vm.findClass own = some m.cls) (hlink : (Cond.methodLink own index y).before args s = true) (hstat : (Cond.static y).before args s = true) (hinit : (Cond.initialized y.cls).before args s = true)
    (hcode : (Cond.codeWith y bytes maxL ret hh).before args s = true) (hy : y.cls ≠ "java/lang/invoke/MethodHandle" ∧ y.cls ≠ "java/lang/invoke/VarHandle")
    {W9 : Nat} {Pre : Pt → Array Value → Prop} {Post : Pt → Array Value → Option Value → Pt → Prop} {PostX : Pt → Array Value → Addr → Pt → Prop} (hK : vx_Back l R p e below s args y 3 W9 Pre Post PostX)
    {g : JFrame} (hg : g.method = m) (hsize : g.locals.size = c.maxLocals) {argsL rest : List Value} (hlen : ∀ sig, parseMethodDescriptor y.desc = some sig → argsL.length = sig.parameters.length)
    (hstack : g.stack = argsL.reverse ++ rest) (hW : 2 * g.monitorRoom + (rest.map fun v => v.category).sum ≤ W9) (hdg : decode c.code g.pc = .ok (.invokestatic index, 3))
    (hpre : ∀ vm₁, s.WarmedH vm₁ → Pre ⟨T.setVm vm₁, locs, cells, slots⟩ argsL.toArray) :
    (∃ (v : Option Value) (vm₁ : Vm) (B : Pt), s.WarmedH vm₁ ∧ Stand p l e R s m args below meth c B.U B.locs B.cells B.slots ∧ Post ⟨T.setVm vm₁, locs, cells, slots⟩ argsL.toArray v B ∧
      ∀ target, Steps p.tables e below (B.U.setTop { g with pc := g.pc + 3, stack := v.toList ++ rest }) target → Steps p.tables e below (T.setTop g) target) ∨
    (∃ (q : Addr) (vm₁ : Vm) (B : Pt), s.WarmedH vm₁ ∧ Stand p l e R s m args below meth c B.U B.locs B.cells B.slots ∧ PostX ⟨T.setVm vm₁, locs, cells, slots⟩ argsL.toArray q B ∧
      Steps p.tables e below (T.setTop g) ((B.U.setTop { g with stack := rest }).pushFrame (.throwing q))) := by
  obtain ⟨mk, methM, cM, hnamed, hmethM, -, -, -, -, -, -, hsigM⟩ := Cond.codeWith_spec hcode
  have hstatic : methM.isStatic = true := Cond.static_spec hnamed hmethM hstat
  obtain ⟨kP, hkP, -⟩ := className_of_methodNamed hnamed
  have hinitP : kP.init = .initialized := Cond.initialized_spec (findClass_of_methodNamed hnamed) hkP hinit
  obtain ⟨vm₁, X₁, hstep₁⟩ := X.invokestatic hexec hown hlink hnamed hmethM hstatic hkP hinitP hy (g := g) hg (argsL := argsL) (rest := rest) (hlen _ hsigM) hstack hdg
  rcases hK m meth c ⟨T.setVm vm₁, locs, cells, slots⟩ { g with stack := rest } (.invokestatic index) mk argsL.toArray X₁ hg hsize hdg hW (X₁.named hnamed) (hpre vm₁ X₁.warmed) with ⟨v, B, X', hpost, hsteps⟩ | ⟨q, B, X', hpost, hsteps⟩
  · exact Or.inl ⟨v, vm₁, B, X₁.warmed, X', hpost, fun target h => hstep₁ _ fun acts => by rw [doInvoke_state]; exact hsteps.trans h⟩
  · exact Or.inr ⟨q, vm₁, B, X₁.warmed, X', hpost, hstep₁ _ fun acts => by rw [doInvoke_state]; exact hsteps⟩
theorem vx_callVW (X : Stand p l e R s m args below meth c T locs cells slots) (hexec : p.tables.exec = Jvm.exec) {own C : String} {index : Nat} {y : MethodName} {bytes : ByteArray} {maxL : Nat} {ret : Option FieldType} {hh : List (Nat × Nat × Nat × Nat)}
    (hown : s.vm.findClass own = some m.cls) (hlink : (Cond.methodLink own index y).before args s = true) (hinst : (Cond.instanceMethod y).before args s = true) (hsel : (Cond.selects C y y).before args s = true)
    (hcode : (Cond.codeWith y bytes maxL ret hh).before args s = true) (hy : y.cls ≠ "java/lang/invoke/MethodHandle" ∧ y.cls ≠ "java/lang/invoke/VarHandle")
    {W9 : Nat} {Pre : Pt → Array Value → Prop} {Post : Pt → Array Value → Option Value → Pt → Prop} (hK : Back l R p e below s args y 3 W9 Pre Post)
    {b : Addr} {cellB : Cell} (hcell : T.heap[b]? = some cellB) (hobj : cellB.vm.isStatics = false) (hcls : s.vm.findClass C = some cellB.cls)
    {g : JFrame} (hg : g.method = m) (hsize : g.locals.size = c.maxLocals) {argsL rest : List Value} (hlen : ∀ sig, parseMethodDescriptor y.desc = some sig → argsL.length = sig.parameters.length)
    (hstack : g.stack = argsL.reverse ++ .ref b :: rest) (hW : 2 * g.monitorRoom + (rest.map fun v => v.category).sum ≤ W9) (hdg : decode c.code g.pc = .ok (.invokevirtual index, 3))
    (hpre : ∀ vm₁, s.WarmedH vm₁ → Pre ⟨T.setVm vm₁, locs, cells, slots⟩ (Value.ref b :: argsL).toArray) :
    ∃ (v : Option Value) (vm₁ : Vm) (B : Pt), s.WarmedH vm₁ ∧ Stand p l e R s m args below meth c B.U B.locs B.cells B.slots ∧ Post ⟨T.setVm vm₁, locs, cells, slots⟩ (Value.ref b :: argsL).toArray v B ∧
      ∀ target, Steps p.tables e below (B.U.setTop { g with pc := g.pc + 3, stack := v.toList ++ rest }) target → Steps p.tables e below (T.setTop g) target := by
  obtain ⟨mk, methM, hnamed, hmethM, hstM, habM⟩ := Cond.instanceMethod_spec hinst
  obtain ⟨m8, methM', cM, hn8, hmethM', -, -, -, -, -, -, hsigM⟩ := Cond.codeWith_spec hcode
  cases Option.some.inj (hn8.symm.trans hnamed)
  cases hmethM.symm.trans hmethM'
  obtain ⟨c2, r2, m2, q1, q2, q3, q4, kP, hkP, hkPi⟩ := Cond.selects_spec hsel
  cases hcls.symm.trans q1
  cases (State.methodFound?_of_named hnamed hy).symm.trans q2
  cases hnamed.symm.trans q3
  have hselP : selectMethod e.platform s.vm cellB.cls mk = .method mk := by rw [Launch.admits_selectMethod X.admits]; exact q4
  obtain ⟨vm₁, X₁, hstep₁⟩ := X.invokevirtual hexec hown hlink hnamed hmethM hstM hkP hkPi hy (a := b) (cell := cellB) hcell
    (fun z h => by rw [h] at hobj; cases hobj) hselP hmethM habM hkP hkPi (g := g) hg (argsL := argsL) (rest := rest) (hlen _ hsigM) hstack hdg
  obtain ⟨v, B, X', hpost, hsteps⟩ := hK m meth c ⟨T.setVm vm₁, locs, cells, slots⟩ { g with stack := rest } (.invokevirtual index) mk (Value.ref b :: argsL).toArray X₁ hg hsize hdg hW (X₁.named hnamed) (hpre vm₁ X₁.warmed)
  exact ⟨v, vm₁, B, X₁.warmed, X', hpost, fun target h => hstep₁ _ fun acts => by rw [doInvoke_state]; exact hsteps.trans h⟩
abbrev vx_CVW (R : Room) (s : State) (args : Array Value) (own C : String) (index : Nat) (y : MethodName) (bytes : ByteArray) (maxL : Nat) (ret : Option FieldType) (hh : List (Nat × Nat × Nat × Nat)) (ws : List Cond) (rm : Room) (mc ms n : Nat) : Prop :=
  (rm.cells = mc ∧ rm.slots = ms ∧ rm.frames + 1 ≤ R.frames ∧ 8 + (maxL + 11) + rm.locals ≤ R.locals ∧ (∀ w ∈ ws, ∀ (a' : Array Value) (U : State), s.WarmedH U.vm → w.before a' U = true) ∧ Cond.codeWith y bytes maxL ret hh ∈ ws) ∧
  (Cond.codeWith y bytes maxL ret hh).before args s = true ∧ (Cond.initialized y.cls).before args s = true ∧ (y.cls ≠ "java/lang/invoke/MethodHandle" ∧ y.cls ≠ "java/lang/invoke/VarHandle") ∧
  (∀ sig, parseMethodDescriptor y.desc = some sig → n = sig.parameters.length) ∧ (Cond.methodLink own index y).before args s = true ∧ (Cond.instanceMethod y).before args s = true ∧ (Cond.selects C y y).before args s = true
theorem vx_cwVW {own C : String} {index maxL mc ms : Nat} {y : MethodName} {bytes : ByteArray} {ret : Option FieldType} {hh : List (Nat × Nat × Nat × Nat)} {Ts ws ws' : List Cond} {rm : Room} (n : Nat) (ht : ∀ w ∈ Ts, w.before args s = true) (hT : GoodIn Ts (wsV own index C y ws)) (hw : ws = Cond.codeWith y bytes maxL ret hh :: ws') (hrc : rm.cells = mc) (hrs : rm.slots = ms)
    (hd : y.cls = C ∧ y.cls ≠ "java/lang/invoke/MethodHandle" ∧ y.cls ≠ "java/lang/invoke/VarHandle" ∧ (parseMethodDescriptor y.desc).map (fun d => d.parameters.length) = some n) (hR : rm.frames + 1 ≤ R.frames ∧ 8 + (maxL + 11) + rm.locals ≤ R.locals) :
    vx_CVW R s args own C index y bytes maxL ret hh ws rm mc ms n := by
  obtain ⟨hC, hd⟩ := hd
  subst hC
  have ok : ∀ w ∈ wsV own index y.cls y ws, w.before args s = true := fun w h => ht w (hT w h).1
  have hG : GoodIn Ts ws := fun w h => hT w (by unfold wsV; exact List.mem_append_right _ h)
  have hc : Cond.codeWith y bytes maxL ret hh ∈ ws := by rw [hw]; exact List.mem_cons_self
  refine ⟨⟨hrc, hrs, hR.1, hR.2, pay_in ht hG, hc⟩, ht _ (hG _ hc).1, ok _ (by simp [wsV]), ⟨hd.1, hd.2.1⟩, fun sig h => ?_, ok _ (by simp [wsV]), ok _ (by simp [wsV]), ok _ (by simp [wsV])⟩
  have h2 := hd.2.2
  rw [h] at h2
  exact (Option.some.inj h2).symm
theorem vx_runVW {y : MethodName} {bytes cc : ByteArray} {maxL nL mc ms n index : Nat} {ret : Option FieldType} {hh : List (Nat × Nat × Nat × Nat)} {ws : List Cond} {rm : Room} {Pc : Array Value → State → Prop} {Qc : Array Value → State → Outcome → State → Prop} {free : Addr → Prop} {Ts : List Cond} {own C : String} {b : Addr} {As rest : List Value} {g : JFrame}
    (S : CallFix p m c cc nL s args Ts own) (hM : Met l y ws rm Pc Qc mc ms free) (cw : vx_CVW R s args own C index y bytes maxL ret hh ws rm mc ms n) (hp : PreV s H C b Pc As)
    (hg : g.method = m) (hn : As.length = n) (hsize : g.locals.size = nL) (hstack : g.stack = As.reverse ++ .ref b :: rest) (hW : 2 * g.monitorRoom + (rest.map fun v => v.category).sum ≤ 8) (hdg : decode cc g.pc = .ok (.invokevirtual index, 3)) (hf : cells + mc ≤ R.cells ∧ slots + ms ≤ R.slots) :
    va_Run p l e R s m args below meth c H locs cells slots mc ms g rest (Qc (Value.ref b :: As).toArray) free := by
  obtain ⟨⟨hrc, hrs, hfr, hlo, hws, hcw⟩, hcode, hini, hy, hlen, hl, hin, hse⟩ := cw
  have hK : Back l R p e below s args y 3 8 (PreOf R mc ms Pc) (PostOf Qc mc ms free) := va_backW (hh := hh) (bytes := bytes) (maxL := maxL) (ret := ret) hM hp.1 hrc hrs hfr hlo hws hcw (fun a' U hW => word_at hW (Or.inl (by first | rfl | simp [Cond.onTables, Cond.keeps, Cond.steady])) hini)
  obtain ⟨hx, hb, hml, ho, -⟩ := S
  obtain ⟨-, ⟨cellB, hcB, hoB, hclB⟩, hPc⟩ := hp
  intro T hT X
  obtain ⟨v, vm₁, ⟨U', l2, c2, s2⟩, hW₁, X', ⟨g', mk, t, L, e1, e2, hq, h1, hL, h2, h3⟩, st⟩ := vx_callVW X hx (C := C) (hh := hh) (bytes := bytes) (maxL := maxL) (ret := ret) ho hl hin hse hcode hy hK (by rw [hT]; exact hcB) hoB hclB hg (hsize.trans hml.symm) (argsL := As) (rest := rest) (fun sig h => hn.trans (hlen sig h)) hstack hW (by rw [hb]; exact hdg)
    (fun vm₁ hW₁ => ⟨hf.1, hf.2, hPc (T.setVm vm₁) hT hW₁⟩)
  dsimp only [Pt.U, Pt.locs, Pt.cells, Pt.slots] at X' e1 e2 h1 h2 h3 st
  subst h1; subst h2; subst h3
  exact ⟨v, (T.setVm vm₁).calling g' mk (Value.ref b :: As).toArray, t, U', L, hT, X', hL, e1, e2, hq, st⟩
section
variable {y : MethodName} {bytes cc : ByteArray} {maxL nL mc ms n index : Nat} {ret : Option FieldType} {ws : List Cond} {rm : Room} {Pc : Array Value → State → Prop} {Qc : Array Value → State → Outcome → State → Prop} {XC : String → State → State → Prop} {free : Addr → Prop} {Ts : List Cond} {own C : String} {b : Addr} {As rest : List Value} {g : JFrame}
theorem vx_runVX {hh : List (Nat × Nat × Nat × Nat)} (S : CallFix p m c cc nL s args Ts own) (hM : vx_Met l y ws rm Pc Qc XC mc ms free) (cw : vx_CVW R s args own C index y bytes maxL ret hh ws rm mc ms n) (hp : PreV s H C b Pc As)
    (hg : g.method = m) (hn : As.length = n) (hsize : g.locals.size = nL) (hstack : g.stack = As.reverse ++ .ref b :: rest) (hW : 2 * g.monitorRoom + (rest.map fun v => v.category).sum ≤ 8) (hdg : decode cc g.pc = .ok (.invokevirtual index, 3)) (hf : cells + mc ≤ R.cells ∧ slots + ms ≤ R.slots) :
    vx_Run p l e R s m args below meth c H locs cells slots mc ms g rest (Qc (Value.ref b :: As).toArray) XC free := by
  obtain ⟨⟨hrc, hrs, hfr, hlo, hws, hcw⟩, hcode, hini, hy, hlen, hl, hin, hse⟩ := cw
  have hK : vx_Back l R p e below s args y 3 8 (PreOf R mc ms Pc) (PostOf Qc mc ms free) (vx_Post XC mc ms free) := vx_backW (hh := hh) (bytes := bytes) (maxL := maxL) (ret := ret) hM hp.1 hrc hrs hfr hlo hws hcw (fun a' U hW => word_at hW (Or.inl (by first | rfl | simp [Cond.onTables, Cond.keeps, Cond.steady])) hini)
  obtain ⟨hx, hb, hml, ho, -⟩ := S
  obtain ⟨-, ⟨cellB, hcB, hoB, hclB⟩, hPc⟩ := hp
  intro T hT X
  rcases vx_callVX X hx (C := C) (hh := hh) (bytes := bytes) (maxL := maxL) (ret := ret) ho hl hin hse hcode hy hK (by rw [hT]; exact hcB) hoB hclB hg (hsize.trans hml.symm) (argsL := As) (rest := rest) (fun sig h => hn.trans (hlen sig h)) hstack hW (by rw [hb]; exact hdg)
    (fun vm₁ hW₁ => ⟨hf.1, hf.2, hPc (T.setVm vm₁) hT hW₁⟩) with ⟨v, vm₁, ⟨U', l2, c2, s2⟩, hW₁, X', ⟨g', mk, t, L, e1, e2, hq, h1, hL, h2, h3⟩, st⟩ | ⟨q, vm₁, ⟨U', l2, c2, s2⟩, hW₁, X', ⟨g', mk, t, L, E, ce, e1, e2, hq, hce, hcv, hcl, h1, hL, h2, h3⟩, st⟩
  · dsimp only [Pt.U, Pt.locs, Pt.cells, Pt.slots] at X' e1 e2 h1 h2 h3 st
    subst h1; subst h2; subst h3
    exact Or.inl ⟨v, (T.setVm vm₁).calling g' mk (Value.ref b :: As).toArray, t, U', L, hT, X', hL, e1, e2, hq, st⟩
  · dsimp only [Pt.U, Pt.locs, Pt.cells, Pt.slots] at X' e1 e2 h1 h2 h3 st hcl
    subst h1; subst h2; subst h3
    exact Or.inr ⟨q, (T.setVm vm₁).calling g' mk (Value.ref b :: As).toArray, t, U', L, E, ce, hT, X', hL, e1, e2, hq, hce, hcv, vx_cls hW₁ hcl, st⟩
theorem vx_runSX {hh : List (Nat × Nat × Nat × Nat)} (S : CallFix p m c cc nL s args Ts own) (hM : vx_Met l y ws rm Pc Qc XC mc ms free) (cw : vx_CSW R s args own index y bytes maxL ret hh ws rm mc ms n) (hp : PreS s H Pc As)
    (hg : g.method = m) (hn : As.length = n) (hsize : g.locals.size = nL) (hstack : g.stack = As.reverse ++ rest) (hW : 2 * g.monitorRoom + (rest.map fun v => v.category).sum ≤ 8) (hdg : decode cc g.pc = .ok (.invokestatic index, 3)) (hf : cells + mc ≤ R.cells ∧ slots + ms ≤ R.slots) :
    vx_Run p l e R s m args below meth c H locs cells slots mc ms g rest (Qc As.toArray) XC free := by
  obtain ⟨⟨hrc, hrs, hfr, hlo, hws, hcw⟩, hcode, hini, hy, hlen, hl, hstt⟩ := cw
  have hK : vx_Back l R p e below s args y 3 8 (PreOf R mc ms Pc) (PostOf Qc mc ms free) (vx_Post XC mc ms free) := vx_backW (hh := hh) (bytes := bytes) (maxL := maxL) (ret := ret) hM hp.1 hrc hrs hfr hlo hws hcw (fun a' U hW => word_at hW (Or.inl (by first | rfl | simp [Cond.onTables, Cond.keeps, Cond.steady])) hini)
  obtain ⟨hx, hb, hml, ho, -⟩ := S
  intro T hT X
  rcases vx_callSX X hx (hh := hh) (bytes := bytes) (maxL := maxL) (ret := ret) ho hl hstt hini hcode hy hK hg (hsize.trans hml.symm) (argsL := As) (rest := rest) (fun sig h => hn.trans (hlen sig h)) hstack hW (by rw [hb]; exact hdg)
    (fun vm₁ hW₁ => ⟨hf.1, hf.2, hp.2 (T.setVm vm₁) hT hW₁⟩) with ⟨v, vm₁, ⟨U', l2, c2, s2⟩, hW₁, X', ⟨g', mk, t, L, e1, e2, hq, h1, hL, h2, h3⟩, st⟩ | ⟨q, vm₁, ⟨U', l2, c2, s2⟩, hW₁, X', ⟨g', mk, t, L, E, ce, e1, e2, hq, hce, hcv, hcl, h1, hL, h2, h3⟩, st⟩
  · dsimp only [Pt.U, Pt.locs, Pt.cells, Pt.slots] at X' e1 e2 h1 h2 h3 st
    subst h1; subst h2; subst h3
    exact Or.inl ⟨v, (T.setVm vm₁).calling g' mk As.toArray, t, U', L, hT, X', hL, e1, e2, hq, st⟩
  · dsimp only [Pt.U, Pt.locs, Pt.cells, Pt.slots] at X' e1 e2 h1 h2 h3 st hcl
    subst h1; subst h2; subst h3
    exact Or.inr ⟨q, (T.setVm vm₁).calling g' mk As.toArray, t, U', L, E, ce, hT, X', hL, e1, e2, hq, hce, hcv, vx_cls hW₁ hcl, st⟩
end
end VXH
theorem vx_ofWH {l : Launch} {y : MethodName} {ws ws' : List Cond} {rm : Room} {Pc : Array Value → State → Prop} {Qc : Array Value → State → Outcome → State → Prop} {XC : String → State → State → Prop} {mc ms : Nat} {free : Addr → Prop} {cc : ByteArray} {maxL : Nat} {ret : Option FieldType} {hh : List (Nat × Nat × Nat × Nat)}
    (hy : plainName y.cls = true) (hw : ws = Cond.codeWith y cc maxL ret hh :: ws')
    (body : ∀ p e s m args below meth c s₁, BodyLoose p l y (headSpec ws rm) cc maxL ret e s m args below meth c s₁ → c.maxLocals = maxL → Pc args s →
      W p l e (headSpec ws rm).room s m args below meth c s.heap [] 0 0 (vx_MQ below Qc XC args s mc ms free) (entryFrame m args maxL)) : vx_Met l y ws rm Pc Qc XC mc ms free := by
  refine MetFree.of_bodyS (code := cc) (maxLocals := maxL) (ret := ret) hy ?_ ?_
  · intro args s m h hn
    obtain ⟨m9, meth, c, hn9, h1, h2, h3, h4, -, h5, h6, -⟩ := Cond.codeWith_spec (atoms_spec (ws := ws) h _ (by rw [hw]; exact List.mem_cons_self))
    cases hn.symm.trans hn9
    exact ⟨meth, c, h1, h2, h3, h4, h5, h6⟩
  · intro p e s m args below meth c s₁ B hml hP _
    have hh0 : s₁.heap = s.heap := by rw [B.state]; rfl
    obtain ⟨t, a1, o, b1, b2, b3⟩ := body p e s m args below meth c s₁ B hml hP s₁ hh0 (Stand.of_body B)
    exact ⟨t, o, a1, b1, b2, b3⟩
/-! ===== END ===== -/

def RX0 : String := "KnocksThroughRock$Clay"
def TX0 : u_T := fun k => match k with
  | _ => ("KnocksThroughRock$Rock", "figure", "I", true)
def tyX0 : Nat → FieldType := fun k => match k with
  | _ => .int
abbrev wsX00 : List Cond := u_ws RX0 TX0 1
theorem nmX0 : ∀ a, a < 1 → ∀ b, b < 1 → a ≠ b → (TX0 a).2.1 ≠ (TX0 b).2.1 := by decide +kernel
theorem tyX0_ok : ∀ k, k < 1 → parseFieldDescriptor (TX0 k).2.2.1 = some (tyX0 k) := by decide +kernel
abbrev cX0_init : ByteArray := prog_2_method_1_code
def yX0_init : MethodName := ⟨RX0, "<init>", "(I)V"⟩
abbrev cX0_kind : ByteArray := prog_2_method_2_code
def yX0_kind : MethodName := ⟨RX0, "kind", "()I"⟩
abbrev cX0_slow : ByteArray := prog_2_method_3_code
def yX0_slow : MethodName := ⟨RX0, "slow", "()I"⟩
abbrev cX0_loss : ByteArray := prog_2_method_4_code
def yX0_loss : MethodName := ⟨RX0, "loss", "()I"⟩
abbrev cX0_toil : ByteArray := prog_2_method_5_code
def yX0_toil : MethodName := ⟨RX0, "toil", "()I"⟩
abbrev cX0_worth : ByteArray := prog_2_method_6_code
def yX0_worth : MethodName := ⟨RX0, "worth", "()I"⟩
def RX1 : String := "KnocksThroughRock$Dug"
def TX1 : u_T := fun k => match k with
  | _ => ("KnocksThroughRock$Rock", "figure", "I", true)
def tyX1 : Nat → FieldType := fun k => match k with
  | _ => .int
abbrev wsX10 : List Cond := u_ws RX1 TX1 1
theorem nmX1 : ∀ a, a < 1 → ∀ b, b < 1 → a ≠ b → (TX1 a).2.1 ≠ (TX1 b).2.1 := by decide +kernel
theorem tyX1_ok : ∀ k, k < 1 → parseFieldDescriptor (TX1 k).2.2.1 = some (tyX1 k) := by decide +kernel
abbrev cX1_init : ByteArray := prog_3_method_1_code
def yX1_init : MethodName := ⟨RX1, "<init>", "(I)V"⟩
abbrev cX1_kind : ByteArray := prog_3_method_2_code
def yX1_kind : MethodName := ⟨RX1, "kind", "()I"⟩
abbrev cX1_loss : ByteArray := prog_3_method_3_code
def yX1_loss : MethodName := ⟨RX1, "loss", "()I"⟩
abbrev cX1_toil : ByteArray := prog_3_method_4_code
def yX1_toil : MethodName := ⟨RX1, "toil", "()I"⟩
abbrev cX1_worth : ByteArray := prog_3_method_5_code
def yX1_worth : MethodName := ⟨RX1, "worth", "()I"⟩
abbrev cX1_fail : ByteArray := prog_3_method_6_code
def yX1_fail : MethodName := ⟨RX1, "fail", "()V"⟩
def RX2 : String := "KnocksThroughRock$Fault"
def TX2 : u_T := fun k => match k with
  | _ => ("KnocksThroughRock$Rock", "figure", "I", true)
def tyX2 : Nat → FieldType := fun k => match k with
  | _ => .int
abbrev wsX20 : List Cond := u_ws RX2 TX2 1
theorem nmX2 : ∀ a, a < 1 → ∀ b, b < 1 → a ≠ b → (TX2 a).2.1 ≠ (TX2 b).2.1 := by decide +kernel
theorem tyX2_ok : ∀ k, k < 1 → parseFieldDescriptor (TX2 k).2.2.1 = some (tyX2 k) := by decide +kernel
abbrev cX2_init : ByteArray := prog_4_method_1_code
def yX2_init : MethodName := ⟨RX2, "<init>", "(I)V"⟩
abbrev cX2_kind : ByteArray := prog_4_method_2_code
def yX2_kind : MethodName := ⟨RX2, "kind", "()I"⟩
abbrev cX2_slow : ByteArray := prog_4_method_3_code
def yX2_slow : MethodName := ⟨RX2, "slow", "()I"⟩
abbrev cX2_loss : ByteArray := prog_4_method_4_code
def yX2_loss : MethodName := ⟨RX2, "loss", "()I"⟩
abbrev cX2_toil : ByteArray := prog_4_method_5_code
def yX2_toil : MethodName := ⟨RX2, "toil", "()I"⟩
abbrev cX2_worth : ByteArray := prog_4_method_6_code
def yX2_worth : MethodName := ⟨RX2, "worth", "()I"⟩
def RX3 : String := "KnocksThroughRock$Granite"
def TX3 : u_T := fun k => match k with
  | _ => ("KnocksThroughRock$Rock", "figure", "I", true)
def tyX3 : Nat → FieldType := fun k => match k with
  | _ => .int
abbrev wsX30 : List Cond := u_ws RX3 TX3 1
theorem nmX3 : ∀ a, a < 1 → ∀ b, b < 1 → a ≠ b → (TX3 a).2.1 ≠ (TX3 b).2.1 := by decide +kernel
theorem tyX3_ok : ∀ k, k < 1 → parseFieldDescriptor (TX3 k).2.2.1 = some (tyX3 k) := by decide +kernel
abbrev cX3_init : ByteArray := prog_5_method_1_code
def yX3_init : MethodName := ⟨RX3, "<init>", "(I)V"⟩
abbrev cX3_kind : ByteArray := prog_5_method_2_code
def yX3_kind : MethodName := ⟨RX3, "kind", "()I"⟩
abbrev cX3_slow : ByteArray := prog_5_method_3_code
def yX3_slow : MethodName := ⟨RX3, "slow", "()I"⟩
abbrev cX3_loss : ByteArray := prog_5_method_4_code
def yX3_loss : MethodName := ⟨RX3, "loss", "()I"⟩
abbrev cX3_toil : ByteArray := prog_5_method_5_code
def yX3_toil : MethodName := ⟨RX3, "toil", "()I"⟩
abbrev cX3_worth : ByteArray := prog_5_method_6_code
def yX3_worth : MethodName := ⟨RX3, "worth", "()I"⟩
def RX4 : String := "KnocksThroughRock$Hollow"
def TX4 : u_T := fun k => match k with
  | _ => ("KnocksThroughRock$Rock", "figure", "I", true)
def tyX4 : Nat → FieldType := fun k => match k with
  | _ => .int
abbrev wsX40 : List Cond := u_ws RX4 TX4 1
theorem nmX4 : ∀ a, a < 1 → ∀ b, b < 1 → a ≠ b → (TX4 a).2.1 ≠ (TX4 b).2.1 := by decide +kernel
theorem tyX4_ok : ∀ k, k < 1 → parseFieldDescriptor (TX4 k).2.2.1 = some (tyX4 k) := by decide +kernel
abbrev cX4_init : ByteArray := prog_6_method_1_code
def yX4_init : MethodName := ⟨RX4, "<init>", "(I)V"⟩
abbrev cX4_kind : ByteArray := prog_6_method_2_code
def yX4_kind : MethodName := ⟨RX4, "kind", "()I"⟩
abbrev cX4_slow : ByteArray := prog_6_method_3_code
def yX4_slow : MethodName := ⟨RX4, "slow", "()I"⟩
abbrev cX4_toil : ByteArray := prog_6_method_4_code
def yX4_toil : MethodName := ⟨RX4, "toil", "()I"⟩
def RX5 : String := "KnocksThroughRock$Mountain"
def TX5 : u_T := fun k => match k with
  | 0 => ("KnocksThroughRock$Mountain", "cells", "[LKnocksThroughRock$Rock;", true)
  | 1 => ("KnocksThroughRock$Mountain", "places", "[I", true)
  | 2 => ("KnocksThroughRock$Mountain", "hours", "[I", true)
  | _ => ("KnocksThroughRock$Mountain", "dug", "LKnocksThroughRock$Rock;", true)
def tyX5 : Nat → FieldType := fun k => match k with
  | 0 => .array (.object "KnocksThroughRock$Rock")
  | 1 => .array .int
  | 2 => .array .int
  | _ => .object "KnocksThroughRock$Rock"
abbrev wsX50 : List Cond := u_ws RX5 TX5 4
theorem nmX5 : ∀ a, a < 4 → ∀ b, b < 4 → a ≠ b → (TX5 a).2.1 ≠ (TX5 b).2.1 := by decide +kernel
theorem tyX5_ok : ∀ k, k < 4 → parseFieldDescriptor (TX5 k).2.2.1 = some (tyX5 k) := by decide +kernel
abbrev cX5_init : ByteArray := prog_7_method_1_code
def yX5_init : MethodName := ⟨RX5, "<init>", "()V"⟩
abbrev cX5_become : ByteArray := prog_7_method_2_code
def yX5_become : MethodName := ⟨RX5, "become", "(LKnocksThroughRock$Mountain;)V"⟩
abbrev cX5_advance : ByteArray := prog_7_method_3_code
def yX5_advance : MethodName := ⟨RX5, "advance", "(II)I"⟩
abbrev cX5_gangsMet : ByteArray := prog_7_method_4_code
def yX5_gangsMet : MethodName := ⟨RX5, "gangsMet", "()Z"⟩
abbrev cX5_allHours : ByteArray := prog_7_method_5_code
def yX5_allHours : MethodName := ⟨RX5, "allHours", "()I"⟩
def RX6 : String := "KnocksThroughRock$Rock"
def TX6 : u_T := fun k => match k with
  | _ => ("KnocksThroughRock$Rock", "figure", "I", true)
def tyX6 : Nat → FieldType := fun k => match k with
  | _ => .int
abbrev wsX60 : List Cond := u_ws RX6 TX6 1
theorem nmX6 : ∀ a, a < 1 → ∀ b, b < 1 → a ≠ b → (TX6 a).2.1 ≠ (TX6 b).2.1 := by decide +kernel
theorem tyX6_ok : ∀ k, k < 1 → parseFieldDescriptor (TX6 k).2.2.1 = some (tyX6 k) := by decide +kernel
abbrev cX6_init : ByteArray := prog_8_method_1_code
def yX6_init : MethodName := ⟨RX6, "<init>", "(I)V"⟩
abbrev cX6_kind : ByteArray := prog_8_method_2_code
def yX6_kind : MethodName := ⟨RX6, "kind", "()I"⟩
abbrev cX6_slow : ByteArray := prog_8_method_3_code
def yX6_slow : MethodName := ⟨RX6, "slow", "()I"⟩
abbrev cX6_loss : ByteArray := prog_8_method_4_code
def yX6_loss : MethodName := ⟨RX6, "loss", "()I"⟩
abbrev cX6_toil : ByteArray := prog_8_method_5_code
def yX6_toil : MethodName := ⟨RX6, "toil", "()I"⟩
abbrev cX6_worth : ByteArray := prog_8_method_6_code
def yX6_worth : MethodName := ⟨RX6, "worth", "()I"⟩
abbrev cX6_fail : ByteArray := prog_8_method_7_code
def yX6_fail : MethodName := ⟨RX6, "fail", "()V"⟩
def RX7 : String := "KnocksThroughRock$Shelf"
def TX7 : u_T := fun k => match k with
  | 0 => ("KnocksThroughRock$Shelf", "rock", "LKnocksThroughRock$Rock;", false)
  | 1 => ("KnocksThroughRock$Shelf", "sort", "I", false)
  | 2 => ("KnocksThroughRock$Shelf", "size", "I", false)
  | _ => ("KnocksThroughRock$Shelf", "elements", "[I", true)
def tyX7 : Nat → FieldType := fun k => match k with
  | 0 => .object "KnocksThroughRock$Rock"
  | 1 => .int
  | 2 => .int
  | _ => .array .int
abbrev wsX70 : List Cond := u_ws RX7 TX7 4
theorem nmX7 : ∀ a, a < 4 → ∀ b, b < 4 → a ≠ b → (TX7 a).2.1 ≠ (TX7 b).2.1 := by decide +kernel
theorem tyX7_ok : ∀ k, k < 4 → parseFieldDescriptor (TX7 k).2.2.1 = some (tyX7 k) := by decide +kernel
abbrev cX7_init : ByteArray := prog_9_method_1_code
def yX7_init : MethodName := ⟨RX7, "<init>", "()V"⟩
abbrev cX7_isEmpty : ByteArray := prog_9_method_2_code
def yX7_isEmpty : MethodName := ⟨RX7, "isEmpty", "()Z"⟩
abbrev cX7_clear : ByteArray := prog_9_method_3_code
def yX7_clear : MethodName := ⟨RX7, "clear", "()V"⟩
abbrev cX7_holdRock : ByteArray := prog_9_method_4_code
def yX7_holdRock : MethodName := ⟨RX7, "holdRock", "(LKnocksThroughRock$Rock;)V"⟩
abbrev cX7_holdRow : ByteArray := prog_9_method_5_code
def yX7_holdRow : MethodName := ⟨RX7, "holdRow", "(II)V"⟩
abbrev cX7_spans : ByteArray := prog_9_method_6_code
def yX7_spans : MethodName := ⟨RX7, "spans", "(II)Z"⟩
abbrev cX7_set : ByteArray := prog_9_method_7_code
def yX7_set : MethodName := ⟨RX7, "set", "(II)V"⟩
abbrev cX7_at : ByteArray := prog_9_method_8_code
def yX7_at : MethodName := ⟨RX7, "at", "(I)I"⟩
abbrev cX7_digit : ByteArray := prog_9_method_9_code
def yX7_digit : MethodName := ⟨RX7, "digit", "(I)I"⟩
def RX8 : String := "KnocksThroughRock$Vein"
def TX8 : u_T := fun k => match k with
  | _ => ("KnocksThroughRock$Rock", "figure", "I", true)
def tyX8 : Nat → FieldType := fun k => match k with
  | _ => .int
abbrev wsX80 : List Cond := u_ws RX8 TX8 1
theorem nmX8 : ∀ a, a < 1 → ∀ b, b < 1 → a ≠ b → (TX8 a).2.1 ≠ (TX8 b).2.1 := by decide +kernel
theorem tyX8_ok : ∀ k, k < 1 → parseFieldDescriptor (TX8 k).2.2.1 = some (tyX8 k) := by decide +kernel
abbrev cX8_init : ByteArray := prog_10_method_1_code
def yX8_init : MethodName := ⟨RX8, "<init>", "(I)V"⟩
abbrev cX8_kind : ByteArray := prog_10_method_2_code
def yX8_kind : MethodName := ⟨RX8, "kind", "()I"⟩
abbrev cX8_slow : ByteArray := prog_10_method_3_code
def yX8_slow : MethodName := ⟨RX8, "slow", "()I"⟩
abbrev cX8_loss : ByteArray := prog_10_method_4_code
def yX8_loss : MethodName := ⟨RX8, "loss", "()I"⟩
abbrev cX8_toil : ByteArray := prog_10_method_5_code
def yX8_toil : MethodName := ⟨RX8, "toil", "()I"⟩
abbrev cX8_worth : ByteArray := prog_10_method_6_code
def yX8_worth : MethodName := ⟨RX8, "worth", "()I"⟩
abbrev cX8_fail : ByteArray := prog_10_method_7_code
def yX8_fail : MethodName := ⟨RX8, "fail", "()V"⟩
def RX9 : String := "KnocksThroughRock$Water"
def TX9 : u_T := fun k => match k with
  | _ => ("KnocksThroughRock$Rock", "figure", "I", true)
def tyX9 : Nat → FieldType := fun k => match k with
  | _ => .int
abbrev wsX90 : List Cond := u_ws RX9 TX9 1
theorem nmX9 : ∀ a, a < 1 → ∀ b, b < 1 → a ≠ b → (TX9 a).2.1 ≠ (TX9 b).2.1 := by decide +kernel
theorem tyX9_ok : ∀ k, k < 1 → parseFieldDescriptor (TX9 k).2.2.1 = some (tyX9 k) := by decide +kernel
abbrev cX9_init : ByteArray := prog_11_method_1_code
def yX9_init : MethodName := ⟨RX9, "<init>", "(I)V"⟩
abbrev cX9_kind : ByteArray := prog_11_method_2_code
def yX9_kind : MethodName := ⟨RX9, "kind", "()I"⟩
abbrev cX9_slow : ByteArray := prog_11_method_3_code
def yX9_slow : MethodName := ⟨RX9, "slow", "()I"⟩
abbrev cX9_loss : ByteArray := prog_11_method_4_code
def yX9_loss : MethodName := ⟨RX9, "loss", "()I"⟩
abbrev cX9_toil : ByteArray := prog_11_method_5_code
def yX9_toil : MethodName := ⟨RX9, "toil", "()I"⟩
abbrev cX9_worth : ByteArray := prog_11_method_6_code
def yX9_worth : MethodName := ⟨RX9, "worth", "()I"⟩
abbrev cX9_fail : ByteArray := prog_11_method_7_code
def yX9_fail : MethodName := ⟨RX9, "fail", "()V"⟩
def RX10 : String := "KnocksThroughRock$Ways"
def TX10 : u_T := fun k => match k with
  | 0 => ("KnocksThroughRock$Ways", "cost", "[I", true)
  | 1 => ("KnocksThroughRock$Ways", "least", "[I", true)
  | 2 => ("KnocksThroughRock$Ways", "lost", "[I", true)
  | 3 => ("KnocksThroughRock$Ways", "number", "[I", true)
  | 4 => ("KnocksThroughRock$Ways", "loss", "[I", true)
  | _ => ("KnocksThroughRock$Ways", "isSettled", "[Z", true)
def tyX10 : Nat → FieldType := fun k => match k with
  | 0 => .array .int
  | 1 => .array .int
  | 2 => .array .int
  | 3 => .array .int
  | 4 => .array .int
  | _ => .array .boolean
abbrev wsX100 : List Cond := u_ws RX10 TX10 6
theorem nmX10 : ∀ a, a < 6 → ∀ b, b < 6 → a ≠ b → (TX10 a).2.1 ≠ (TX10 b).2.1 := by decide +kernel
theorem tyX10_ok : ∀ k, k < 6 → parseFieldDescriptor (TX10 k).2.2.1 = some (tyX10 k) := by decide +kernel
abbrev cX10_init : ByteArray := prog_12_method_1_code
def yX10_init : MethodName := ⟨RX10, "<init>", "()V"⟩
abbrev cX10_byKnocks : ByteArray := prog_12_method_2_code
def yX10_byKnocks : MethodName := ⟨RX10, "byKnocks", "(LKnocksThroughRock$Mountain;)V"⟩
abbrev cX10_byToil : ByteArray := prog_12_method_3_code
def yX10_byToil : MethodName := ⟨RX10, "byToil", "(LKnocksThroughRock$Mountain;)V"⟩
abbrev cX10_spread : ByteArray := prog_12_method_4_code
def yX10_spread : MethodName := ⟨RX10, "spread", "(I)V"⟩
abbrev cX10_nearest : ByteArray := prog_12_method_5_code
def yX10_nearest : MethodName := ⟨RX10, "nearest", "()I"⟩
abbrev cX10_enter : ByteArray := prog_12_method_6_code
def yX10_enter : MethodName := ⟨RX10, "enter", "(II)V"⟩
def RX11 : String := "KnocksThroughRock"
def TX11 : u_T := fun k => match k with
  | 0 => ("KnocksThroughRock", "now", "LKnocksThroughRock$Mountain;", true)
  | 1 => ("KnocksThroughRock", "mind", "LKnocksThroughRock$Mountain;", true)
  | 2 => ("KnocksThroughRock", "kept", "LKnocksThroughRock$Mountain;", true)
  | 3 => ("KnocksThroughRock", "isKept", "Z", false)
  | 4 => ("KnocksThroughRock", "shelves", "[LKnocksThroughRock$Shelf;", true)
  | 5 => ("KnocksThroughRock", "ways", "LKnocksThroughRock$Ways;", true)
  | 6 => ("KnocksThroughRock", "otherWays", "LKnocksThroughRock$Ways;", true)
  | 7 => ("KnocksThroughRock", "times", "[I", true)
  | _ => ("KnocksThroughRock", "clashes", "[I", true)
def tyX11 : Nat → FieldType := fun k => match k with
  | 0 => .object "KnocksThroughRock$Mountain"
  | 1 => .object "KnocksThroughRock$Mountain"
  | 2 => .object "KnocksThroughRock$Mountain"
  | 3 => .boolean
  | 4 => .array (.object "KnocksThroughRock$Shelf")
  | 5 => .object "KnocksThroughRock$Ways"
  | 6 => .object "KnocksThroughRock$Ways"
  | 7 => .array .int
  | _ => .array .int
abbrev wsX110 : List Cond := u_ws RX11 TX11 9
theorem nmX11 : ∀ a, a < 9 → ∀ b, b < 9 → a ≠ b → (TX11 a).2.1 ≠ (TX11 b).2.1 := by decide +kernel
theorem tyX11_ok : ∀ k, k < 9 → parseFieldDescriptor (TX11 k).2.2.1 = some (tyX11 k) := by decide +kernel
abbrev cX11_init : ByteArray := prog_1_method_1_code
def yX11_init : MethodName := ⟨RX11, "<init>", "()V"⟩
abbrev cX11_mountain : ByteArray := prog_1_method_2_code
def yX11_mountain : MethodName := ⟨RX11, "mountain", "(I)I"⟩
abbrev cX11_cell : ByteArray := prog_1_method_3_code
def yX11_cell : MethodName := ⟨RX11, "cell", "(II)I"⟩
abbrev cX11_lay : ByteArray := prog_1_method_4_code
def yX11_lay : MethodName := ⟨RX11, "lay", "(II)I"⟩
abbrev cX11_gang : ByteArray := prog_1_method_5_code
def yX11_gang : MethodName := ⟨RX11, "gang", "(II)I"⟩
abbrev cX11_dig : ByteArray := prog_1_method_6_code
def yX11_dig : MethodName := ⟨RX11, "dig", "(II)I"⟩
abbrev cX11_met : ByteArray := prog_1_method_7_code
def yX11_met : MethodName := ⟨RX11, "met", "()I"⟩
abbrev cX11_time : ByteArray := prog_1_method_8_code
def yX11_time : MethodName := ⟨RX11, "time", "(II)I"⟩
abbrev cX11_loud : ByteArray := prog_1_method_9_code
def yX11_loud : MethodName := ⟨RX11, "loud", "(III)I"⟩
abbrev cX11_paths : ByteArray := prog_1_method_10_code
def yX11_paths : MethodName := ⟨RX11, "paths", "(II)I"⟩
abbrev cX11_reaches : ByteArray := prog_1_method_11_code
def yX11_reaches : MethodName := ⟨RX11, "reaches", "(II)I"⟩
abbrev cX11_from : ByteArray := prog_1_method_12_code
def yX11_from : MethodName := ⟨RX11, "from", "(II)I"⟩
abbrev cX11_listen : ByteArray := prog_1_method_13_code
def yX11_listen : MethodName := ⟨RX11, "listen", "(II)I"⟩
abbrev cX11_rocks : ByteArray := prog_1_method_14_code
def yX11_rocks : MethodName := ⟨RX11, "rocks", "(IIIII)I"⟩
abbrev cX11_toils : ByteArray := prog_1_method_15_code
def yX11_toils : MethodName := ⟨RX11, "toils", "()I"⟩
abbrev cX11_soon : ByteArray := prog_1_method_16_code
def yX11_soon : MethodName := ⟨RX11, "soon", "()I"⟩
abbrev cX11_side : ByteArray := prog_1_method_17_code
def yX11_side : MethodName := ⟨RX11, "side", "(II)I"⟩
abbrev cX11_taken : ByteArray := prog_1_method_18_code
def yX11_taken : MethodName := ⟨RX11, "taken", "(III)I"⟩
abbrev cX11_safe : ByteArray := prog_1_method_19_code
def yX11_safe : MethodName := ⟨RX11, "safe", "(III)I"⟩
abbrev cX11_seeded : ByteArray := prog_1_method_20_code
def yX11_seeded : MethodName := ⟨RX11, "seeded", "(III)I"⟩
abbrev cX11_judge : ByteArray := prog_1_method_21_code
def yX11_judge : MethodName := ⟨RX11, "judge", "(I)I"⟩
abbrev cX11_image : ByteArray := prog_1_method_22_code
def yX11_image : MethodName := ⟨RX11, "image", "()I"⟩
abbrev cX11_restore : ByteArray := prog_1_method_23_code
def yX11_restore : MethodName := ⟨RX11, "restore", "()I"⟩
abbrev cX11_count : ByteArray := prog_1_method_24_code
def yX11_count : MethodName := ⟨RX11, "count", "(I)I"⟩
abbrev cX11_keep : ByteArray := prog_1_method_25_code
def yX11_keep : MethodName := ⟨RX11, "keep", "(IIII)I"⟩
abbrev cX11_row : ByteArray := prog_1_method_26_code
def yX11_row : MethodName := ⟨RX11, "row", "(III)I"⟩
abbrev cX11_put : ByteArray := prog_1_method_27_code
def yX11_put : MethodName := ⟨RX11, "put", "(III)I"⟩
abbrev cX11_element : ByteArray := prog_1_method_28_code
def yX11_element : MethodName := ⟨RX11, "element", "(II)J"⟩
abbrev cX11_copy : ByteArray := prog_1_method_29_code
def yX11_copy : MethodName := ⟨RX11, "copy", "(IIIII)I"⟩
abbrev cX11_pay : ByteArray := prog_1_method_30_code
def yX11_pay : MethodName := ⟨RX11, "pay", "(I)I"⟩
abbrev cX11_toss : ByteArray := prog_1_method_31_code
def yX11_toss : MethodName := ⟨RX11, "toss", "(I)I"⟩
abbrev cX11_isBelow : ByteArray := prog_1_method_32_code
def yX11_isBelow : MethodName := ⟨RX11, "isBelow", "(II)Z"⟩
abbrev cX11_neighbour : ByteArray := prog_1_method_33_code
def yX11_neighbour : MethodName := ⟨RX11, "neighbour", "(II)I"⟩
abbrev cX11_rockOf : ByteArray := prog_1_method_34_code
def yX11_rockOf : MethodName := ⟨RX11, "rockOf", "(II)LKnocksThroughRock$Rock;"⟩
abbrev cX11_rockOn : ByteArray := prog_1_method_35_code
def yX11_rockOn : MethodName := ⟨RX11, "rockOn", "(I)LKnocksThroughRock$Rock;"⟩
abbrev cX11_rowOn : ByteArray := prog_1_method_36_code
def yX11_rowOn : MethodName := ⟨RX11, "rowOn", "(I)LKnocksThroughRock$Shelf;"⟩
abbrev cX11_rowOn_ : ByteArray := prog_1_method_37_code
def yX11_rowOn_ : MethodName := ⟨RX11, "rowOn", "(II)LKnocksThroughRock$Shelf;"⟩
abbrev cX11_whyNot : ByteArray := prog_1_method_38_code
def yX11_whyNot : MethodName := ⟨RX11, "whyNot", "(I)I"⟩
abbrev cX11_digitsBehind : ByteArray := prog_1_method_39_code
def yX11_digitsBehind : MethodName := ⟨RX11, "digitsBehind", "(I)I"⟩
abbrev cX11_strayByte : ByteArray := prog_1_method_40_code
def yX11_strayByte : MethodName := ⟨RX11, "strayByte", "(LKnocksThroughRock$Shelf;)I"⟩
abbrev cX11_obeyAll : ByteArray := prog_1_method_41_code
def yX11_obeyAll : MethodName := ⟨RX11, "obeyAll", "(LKnocksThroughRock$Shelf;)I"⟩
abbrev cX11_obey : ByteArray := prog_1_method_42_code
def yX11_obey : MethodName := ⟨RX11, "obey", "(LKnocksThroughRock$Shelf;I)Z"⟩
abbrev cX11_obeyKind : ByteArray := prog_1_method_43_code
def yX11_obeyKind : MethodName := ⟨RX11, "obeyKind", "(III)Z"⟩
abbrev cX11_obeyGang : ByteArray := prog_1_method_44_code
def yX11_obeyGang : MethodName := ⟨RX11, "obeyGang", "(II)Z"⟩
abbrev cX11_knockFrom : ByteArray := prog_1_method_45_code
def yX11_knockFrom : MethodName := ⟨RX11, "knockFrom", "(I)V"⟩
abbrev cX11_tellsCells : ByteArray := prog_1_method_46_code
def yX11_tellsCells : MethodName := ⟨RX11, "tellsCells", "(LKnocksThroughRock$Shelf;I)Z"⟩
abbrev cX11_mayHaveKnocked : ByteArray := prog_1_method_47_code
def yX11_mayHaveKnocked : MethodName := ⟨RX11, "mayHaveKnocked", "(LKnocksThroughRock$Shelf;)Z"⟩
abbrev cX11_hourOfKnock : ByteArray := prog_1_method_48_code
def yX11_hourOfKnock : MethodName := ⟨RX11, "hourOfKnock", "(LKnocksThroughRock$Shelf;I)J"⟩
abbrev cX11_takeTimes : ByteArray := prog_1_method_49_code
def yX11_takeTimes : MethodName := ⟨RX11, "takeTimes", "()V"⟩
abbrev cX11_mostAlike : ByteArray := prog_1_method_50_code
def yX11_mostAlike : MethodName := ⟨RX11, "mostAlike", "(LKnocksThroughRock$Shelf;I)I"⟩
abbrev cX11_soonIn : ByteArray := prog_1_method_51_code
def yX11_soonIn : MethodName := ⟨RX11, "soonIn", "(LKnocksThroughRock$Mountain;)I"⟩
abbrev cX11_areAlike : ByteArray := prog_1_method_52_code
def yX11_areAlike : MethodName := ⟨RX11, "areAlike", "(III)Z"⟩
abbrev cX11_findClashes : ByteArray := prog_1_method_53_code
def yX11_findClashes : MethodName := ⟨RX11, "findClashes", "(LKnocksThroughRock$Shelf;I)V"⟩
abbrev cX11_isWithoutClash : ByteArray := prog_1_method_54_code
def yX11_isWithoutClash : MethodName := ⟨RX11, "isWithoutClash", "(I)Z"⟩
abbrev cX11_nextSeed : ByteArray := prog_1_method_55_code
def yX11_nextSeed : MethodName := ⟨RX11, "nextSeed", "(I)I"⟩
abbrev cX11_draw : ByteArray := prog_1_method_56_code
def yX11_draw : MethodName := ⟨RX11, "draw", "(II)I"⟩
def RX12 : String := "KnocksThroughRockModel"
def TX12 : u_T := fun k => match k with
  | 0 => ("KnocksThroughRockModel", "s", "[I", true)
  | 1 => ("KnocksThroughRockModel", "image", "[I", true)
  | 2 => ("KnocksThroughRockModel", "read", "[I", true)
  | 3 => ("KnocksThroughRockModel", "mind", "[I", true)
  | 4 => ("KnocksThroughRockModel", "kept", "[I", true)
  | 5 => ("KnocksThroughRockModel", "sort", "[I", true)
  | 6 => ("KnocksThroughRockModel", "size", "[I", true)
  | 7 => ("KnocksThroughRockModel", "element", "[I", true)
  | 8 => ("KnocksThroughRockModel", "keptKind", "[I", true)
  | 9 => ("KnocksThroughRockModel", "keptFigure", "[I", true)
  | 10 => ("KnocksThroughRockModel", "hasImage", "Z", false)
  | 11 => ("KnocksThroughRockModel", "thrown", "I", false)
  | 12 => ("KnocksThroughRockModel", "times", "[I", true)
  | 13 => ("KnocksThroughRockModel", "losses", "[I", true)
  | 14 => ("KnocksThroughRockModel", "ways", "[I", true)
  | 15 => ("KnocksThroughRockModel", "pos", "I", false)
  | 16 => ("KnocksThroughRockModel", "base", "I", false)
  | 17 => ("KnocksThroughRockModel", "end", "I", false)
  | 18 => ("KnocksThroughRockModel", "numbers", "[I", true)
  | 19 => ("KnocksThroughRockModel", "listened", "[I", true)
  | 20 => ("KnocksThroughRockModel", "toils", "[I", true)
  | 21 => ("KnocksThroughRockModel", "other", "[I", true)
  | _ => ("KnocksThroughRockModel", "seed", "I", false)
def tyX12 : Nat → FieldType := fun k => match k with
  | 0 => .array .int
  | 1 => .array .int
  | 2 => .array .int
  | 3 => .array .int
  | 4 => .array .int
  | 5 => .array .int
  | 6 => .array .int
  | 7 => .array .int
  | 8 => .array .int
  | 9 => .array .int
  | 10 => .boolean
  | 11 => .int
  | 12 => .array .int
  | 13 => .array .int
  | 14 => .array .int
  | 15 => .int
  | 16 => .int
  | 17 => .int
  | 18 => .array .int
  | 19 => .array .int
  | 20 => .array .int
  | 21 => .array .int
  | _ => .int
abbrev wsX120 : List Cond := u_ws RX12 TX12 23
theorem nmX12 : ∀ a, a < 23 → ∀ b, b < 23 → a ≠ b → (TX12 a).2.1 ≠ (TX12 b).2.1 := by decide +kernel
theorem tyX12_ok : ∀ k, k < 23 → parseFieldDescriptor (TX12 k).2.2.1 = some (tyX12 k) := by decide +kernel
abbrev cX12_init : ByteArray := prog_14_method_1_code
def yX12_init : MethodName := ⟨RX12, "<init>", "()V"⟩
abbrev cX12_thrown : ByteArray := prog_14_method_2_code
def yX12_thrown : MethodName := ⟨RX12, "thrown", "()I"⟩
abbrev cX12_isIn : ByteArray := prog_14_method_3_code
def yX12_isIn : MethodName := ⟨RX12, "isIn", "(JJJ)Z"⟩
abbrev cX12_isShelf : ByteArray := prog_14_method_4_code
def yX12_isShelf : MethodName := ⟨RX12, "isShelf", "(I)Z"⟩
abbrev cX12_isCell : ByteArray := prog_14_method_5_code
def yX12_isCell : MethodName := ⟨RX12, "isCell", "(I)Z"⟩
abbrev cX12_isGang : ByteArray := prog_14_method_6_code
def yX12_isGang : MethodName := ⟨RX12, "isGang", "(I)Z"⟩
abbrev cX12_lays : ByteArray := prog_14_method_7_code
def yX12_lays : MethodName := ⟨RX12, "lays", "([I[I)V"⟩
abbrev cX12_begins : ByteArray := prog_14_method_8_code
def yX12_begins : MethodName := ⟨RX12, "begins", "()V"⟩
abbrev cX12_ends : ByteArray := prog_14_method_9_code
def yX12_ends : MethodName := ⟨RX12, "ends", "()V"⟩
abbrev cX12_kind : ByteArray := prog_14_method_10_code
def yX12_kind : MethodName := ⟨RX12, "kind", "(I)I"⟩
abbrev cX12_figure : ByteArray := prog_14_method_11_code
def yX12_figure : MethodName := ⟨RX12, "figure", "(I)I"⟩
abbrev cX12_setCell : ByteArray := prog_14_method_12_code
def yX12_setCell : MethodName := ⟨RX12, "setCell", "(III)V"⟩
abbrev cX12_gangCell : ByteArray := prog_14_method_13_code
def yX12_gangCell : MethodName := ⟨RX12, "gangCell", "(I)I"⟩
abbrev cX12_slowBy : ByteArray := prog_14_method_14_code
def yX12_slowBy : MethodName := ⟨RX12, "slowBy", "(II)I"⟩
abbrev cX12_lossBy : ByteArray := prog_14_method_15_code
def yX12_lossBy : MethodName := ⟨RX12, "lossBy", "(II)I"⟩
abbrev cX12_toilBy : ByteArray := prog_14_method_16_code
def yX12_toilBy : MethodName := ⟨RX12, "toilBy", "(II)I"⟩
abbrev cX12_slow : ByteArray := prog_14_method_17_code
def yX12_slow : MethodName := ⟨RX12, "slow", "(I)I"⟩
abbrev cX12_loss : ByteArray := prog_14_method_18_code
def yX12_loss : MethodName := ⟨RX12, "loss", "(I)I"⟩
abbrev cX12_toil : ByteArray := prog_14_method_19_code
def yX12_toil : MethodName := ⟨RX12, "toil", "(I)I"⟩
abbrev cX12_beside : ByteArray := prog_14_method_20_code
def yX12_beside : MethodName := ⟨RX12, "beside", "(II)I"⟩
abbrev cX12_digs : ByteArray := prog_14_method_21_code
def yX12_digs : MethodName := ⟨RX12, "digs", "(II)Z"⟩
abbrev cX12_haveMet : ByteArray := prog_14_method_22_code
def yX12_haveMet : MethodName := ⟨RX12, "haveMet", "()Z"⟩
abbrev cX12_isBetter : ByteArray := prog_14_method_23_code
def yX12_isBetter : MethodName := ⟨RX12, "isBetter", "(II)Z"⟩
abbrev cX12_finds : ByteArray := prog_14_method_24_code
def yX12_finds : MethodName := ⟨RX12, "finds", "(I)V"⟩
abbrev cX12_countsWays : ByteArray := prog_14_method_25_code
def yX12_countsWays : MethodName := ⟨RX12, "countsWays", "(I)V"⟩
abbrev cX12_timeOf : ByteArray := prog_14_method_26_code
def yX12_timeOf : MethodName := ⟨RX12, "timeOf", "(II)I"⟩
abbrev cX12_here : ByteArray := prog_14_method_27_code
def yX12_here : MethodName := ⟨RX12, "here", "()I"⟩
abbrev cX12_readsDigits : ByteArray := prog_14_method_28_code
def yX12_readsDigits : MethodName := ⟨RX12, "readsDigits", "(I)Z"⟩
abbrev cX12_readsStatement : ByteArray := prog_14_method_29_code
def yX12_readsStatement : MethodName := ⟨RX12, "readsStatement", "()Z"⟩
abbrev cX12_comesTold : ByteArray := prog_14_method_30_code
def yX12_comesTold : MethodName := ⟨RX12, "comesTold", "(I)Z"⟩
abbrev cX12_wrongRow : ByteArray := prog_14_method_31_code
def yX12_wrongRow : MethodName := ⟨RX12, "wrongRow", "(II)I"⟩
abbrev cX12_mountain : ByteArray := prog_14_method_32_code
def yX12_mountain : MethodName := ⟨RX12, "mountain", "(I)I"⟩
abbrev cX12_cell : ByteArray := prog_14_method_33_code
def yX12_cell : MethodName := ⟨RX12, "cell", "(II)I"⟩
abbrev cX12_wrongKept : ByteArray := prog_14_method_34_code
def yX12_wrongKept : MethodName := ⟨RX12, "wrongKept", "(I)I"⟩
abbrev cX12_lay : ByteArray := prog_14_method_35_code
def yX12_lay : MethodName := ⟨RX12, "lay", "(II)I"⟩
abbrev cX12_gang : ByteArray := prog_14_method_36_code
def yX12_gang : MethodName := ⟨RX12, "gang", "(II)I"⟩
abbrev cX12_dig : ByteArray := prog_14_method_37_code
def yX12_dig : MethodName := ⟨RX12, "dig", "(II)I"⟩
abbrev cX12_met : ByteArray := prog_14_method_38_code
def yX12_met : MethodName := ⟨RX12, "met", "()I"⟩
abbrev cX12_time : ByteArray := prog_14_method_39_code
def yX12_time : MethodName := ⟨RX12, "time", "(II)I"⟩
abbrev cX12_loud : ByteArray := prog_14_method_40_code
def yX12_loud : MethodName := ⟨RX12, "loud", "(III)I"⟩
abbrev cX12_paths : ByteArray := prog_14_method_41_code
def yX12_paths : MethodName := ⟨RX12, "paths", "(II)I"⟩
abbrev cX12_reaches : ByteArray := prog_14_method_42_code
def yX12_reaches : MethodName := ⟨RX12, "reaches", "(II)I"⟩
abbrev cX12_told : ByteArray := prog_14_method_43_code
def yX12_told : MethodName := ⟨RX12, "told", "(II)I"⟩
abbrev cX12_isFrom : ByteArray := prog_14_method_44_code
def yX12_isFrom : MethodName := ⟨RX12, "isFrom", "(II)Z"⟩
abbrev cX12_from : ByteArray := prog_14_method_45_code
def yX12_from : MethodName := ⟨RX12, "from", "(II)I"⟩
abbrev cX12_alikeAt : ByteArray := prog_14_method_46_code
def yX12_alikeAt : MethodName := ⟨RX12, "alikeAt", "(II)I"⟩
abbrev cX12_listen : ByteArray := prog_14_method_47_code
def yX12_listen : MethodName := ⟨RX12, "listen", "(II)I"⟩
abbrev cX12_rocks : ByteArray := prog_14_method_48_code
def yX12_rocks : MethodName := ⟨RX12, "rocks", "(IIIII)I"⟩
abbrev cX12_findsToils : ByteArray := prog_14_method_49_code
def yX12_findsToils : MethodName := ⟨RX12, "findsToils", "(I)V"⟩
abbrev cX12_toils : ByteArray := prog_14_method_50_code
def yX12_toils : MethodName := ⟨RX12, "toils", "()I"⟩
abbrev cX12_soonNow : ByteArray := prog_14_method_51_code
def yX12_soonNow : MethodName := ⟨RX12, "soonNow", "()I"⟩
abbrev cX12_soon : ByteArray := prog_14_method_52_code
def yX12_soon : MethodName := ⟨RX12, "soon", "()I"⟩
abbrev cX12_side : ByteArray := prog_14_method_53_code
def yX12_side : MethodName := ⟨RX12, "side", "(II)I"⟩
abbrev cX12_bits : ByteArray := prog_14_method_54_code
def yX12_bits : MethodName := ⟨RX12, "bits", "(I)I"⟩
abbrev cX12_areTaken : ByteArray := prog_14_method_55_code
def yX12_areTaken : MethodName := ⟨RX12, "areTaken", "(III)Z"⟩
abbrev cX12_taken : ByteArray := prog_14_method_56_code
def yX12_taken : MethodName := ⟨RX12, "taken", "(III)I"⟩
abbrev cX12_isSafe : ByteArray := prog_14_method_57_code
def yX12_isSafe : MethodName := ⟨RX12, "isSafe", "(III)Z"⟩
abbrev cX12_safe : ByteArray := prog_14_method_58_code
def yX12_safe : MethodName := ⟨RX12, "safe", "(III)I"⟩
abbrev cX12_drawn : ByteArray := prog_14_method_59_code
def yX12_drawn : MethodName := ⟨RX12, "drawn", "(I)I"⟩
abbrev cX12_hours : ByteArray := prog_14_method_60_code
def yX12_hours : MethodName := ⟨RX12, "hours", "()I"⟩
abbrev cX12_seeded : ByteArray := prog_14_method_61_code
def yX12_seeded : MethodName := ⟨RX12, "seeded", "(III)I"⟩
abbrev cX12_wrongThree : ByteArray := prog_14_method_62_code
def yX12_wrongThree : MethodName := ⟨RX12, "wrongThree", "(II)I"⟩
abbrev cX12_judge : ByteArray := prog_14_method_63_code
def yX12_judge : MethodName := ⟨RX12, "judge", "(I)I"⟩
abbrev cX12_image : ByteArray := prog_14_method_64_code
def yX12_image : MethodName := ⟨RX12, "image", "()I"⟩
abbrev cX12_restore : ByteArray := prog_14_method_65_code
def yX12_restore : MethodName := ⟨RX12, "restore", "()I"⟩
abbrev cX12_count : ByteArray := prog_14_method_66_code
def yX12_count : MethodName := ⟨RX12, "count", "(I)I"⟩
abbrev cX12_payBy : ByteArray := prog_14_method_67_code
def yX12_payBy : MethodName := ⟨RX12, "payBy", "(II)I"⟩
abbrev cX12_keep : ByteArray := prog_14_method_68_code
def yX12_keep : MethodName := ⟨RX12, "keep", "(IIII)I"⟩
abbrev cX12_row : ByteArray := prog_14_method_69_code
def yX12_row : MethodName := ⟨RX12, "row", "(III)I"⟩
abbrev cX12_put : ByteArray := prog_14_method_70_code
def yX12_put : MethodName := ⟨RX12, "put", "(III)I"⟩
abbrev cX12_element : ByteArray := prog_14_method_71_code
def yX12_element : MethodName := ⟨RX12, "element", "(II)J"⟩
abbrev cX12_copy : ByteArray := prog_14_method_72_code
def yX12_copy : MethodName := ⟨RX12, "copy", "(IIIII)I"⟩
abbrev cX12_pay : ByteArray := prog_14_method_73_code
def yX12_pay : MethodName := ⟨RX12, "pay", "(I)I"⟩
abbrev cX12_toss : ByteArray := prog_14_method_74_code
def yX12_toss : MethodName := ⟨RX12, "toss", "(I)I"⟩
def RJ6 : String := "java/lang/Integer"
def TJ6 : u_T := fun k => match k with
  | _ => ("", "", "", false)
def tyJ6 : Nat → FieldType := fun k => match k with
  | _ => .int
abbrev wsJ60 : List Cond := u_ws RJ6 TJ6 0
theorem nmJ6 : ∀ a, a < 0 → ∀ b, b < 0 → a ≠ b → (TJ6 a).2.1 ≠ (TJ6 b).2.1 := by decide +kernel
theorem tyJ6_ok : ∀ k, k < 0 → parseFieldDescriptor (TJ6 k).2.2.1 = some (tyJ6 k) := by decide +kernel
abbrev cJ6_bitCount_0f7a4 : ByteArray := prog_18_method_49_code
def yJ6_bitCount_0f7a4 : MethodName := ⟨RJ6, "bitCount", "(I)I"⟩
def RJ9 : String := "java/lang/Math"
def TJ9 : u_T := fun k => match k with
  | _ => ("", "", "", false)
def tyJ9 : Nat → FieldType := fun k => match k with
  | _ => .int
abbrev wsJ90 : List Cond := u_ws RJ9 TJ9 0
theorem nmJ9 : ∀ a, a < 0 → ∀ b, b < 0 → a ≠ b → (TJ9 a).2.1 ≠ (TJ9 b).2.1 := by decide +kernel
theorem tyJ9_ok : ∀ k, k < 0 → parseFieldDescriptor (TJ9 k).2.2.1 = some (tyJ9 k) := by decide +kernel
abbrev cJ9_max_7cf53 : ByteArray := prog_19_method_65_code
def yJ9_max_7cf53 : MethodName := ⟨RJ9, "max", "(II)I"⟩
abbrev cJ9_min_7cf53 : ByteArray := prog_19_method_69_code
def yJ9_min_7cf53 : MethodName := ⟨RJ9, "min", "(II)I"⟩
def RJ0 : String := "java/lang/String"
def TJ0 : u_T := fun k => match k with
  | _ => ("", "", "", false)
def tyJ0 : Nat → FieldType := fun k => match k with
  | _ => .int
abbrev wsJ00 : List Cond := u_ws RJ0 TJ0 0
theorem nmJ0 : ∀ a, a < 0 → ∀ b, b < 0 → a ≠ b → (TJ0 a).2.1 ≠ (TJ0 b).2.1 := by decide +kernel
theorem tyJ0_ok : ∀ k, k < 0 → parseFieldDescriptor (TJ0 k).2.2.1 = some (tyJ0 k) := by decide +kernel
def RJ10 : String := "java/lang/System"
def TJ10 : u_T := fun k => match k with
  | _ => ("", "", "", false)
def tyJ10 : Nat → FieldType := fun k => match k with
  | _ => .int
abbrev wsJ100 : List Cond := u_ws RJ10 TJ10 0
theorem nmJ10 : ∀ a, a < 0 → ∀ b, b < 0 → a ≠ b → (TJ10 a).2.1 ≠ (TJ10 b).2.1 := by decide +kernel
theorem tyJ10_ok : ∀ k, k < 0 → parseFieldDescriptor (TJ10 k).2.2.1 = some (tyJ10 k) := by decide +kernel
def RL : String := "KnocksThroughRockLaw"
abbrev cL_element : ByteArray := method_3_code
def yL_element : MethodName := ⟨RL, "element", "(LKnocksThroughRock;II[J)I"⟩
abbrev cL_law : ByteArray := code
def yL_law : MethodName := ⟨RL, "law", "([I)Z"⟩
abbrev vwCl : List vw_C := [(RX0, TX0, 1), (RX1, TX1, 1), (RX2, TX2, 1), (RX3, TX3, 1), (RX4, TX4, 1), (RX5, TX5, 4), (RX6, TX6, 1), (RX7, TX7, 4), (RX8, TX8, 1), (RX9, TX9, 1), (RX10, TX10, 6), (RX11, TX11, 9), (RX12, TX12, 23)]
end
section
theorem dX0_init_0 : decode cX0_init 0 = .ok (.aload_n 0, 1) := by decide +kernel
theorem dX0_init_1 : decode cX0_init 1 = .ok (.iload_n 1, 1) := by decide +kernel
theorem dX0_init_2 : decode cX0_init 2 = .ok (.invokespecial 3, 3) := by decide +kernel
theorem dX0_init_5 : decode cX0_init 5 = .ok (.return_, 1) := by decide +kernel
theorem dX0_kind_0 : decode cX0_kind 0 = .ok (.iconst 2, 1) := by decide +kernel
theorem dX0_kind_1 : decode cX0_kind 1 = .ok (.ireturn, 1) := by decide +kernel
theorem dX0_slow_0 : decode cX0_slow 0 = .ok (.aload_n 0, 1) := by decide +kernel
theorem dX0_slow_1 : decode cX0_slow 1 = .ok (.invokespecial 9, 3) := by decide +kernel
theorem dX0_slow_4 : decode cX0_slow 4 = .ok (.aload_n 0, 1) := by decide +kernel
theorem dX0_slow_5 : decode cX0_slow 5 = .ok (.getfield 13, 3) := by decide +kernel
theorem dX0_slow_8 : decode cX0_slow 8 = .ok (.iadd, 1) := by decide +kernel
theorem dX0_slow_9 : decode cX0_slow 9 = .ok (.ireturn, 1) := by decide +kernel
theorem dX0_loss_0 : decode cX0_loss 0 = .ok (.aload_n 0, 1) := by decide +kernel
theorem dX0_loss_1 : decode cX0_loss 1 = .ok (.invokespecial 19, 3) := by decide +kernel
theorem dX0_loss_4 : decode cX0_loss 4 = .ok (.iconst 3, 1) := by decide +kernel
theorem dX0_loss_5 : decode cX0_loss 5 = .ok (.iadd, 1) := by decide +kernel
theorem dX0_loss_6 : decode cX0_loss 6 = .ok (.ireturn, 1) := by decide +kernel
theorem dX0_toil_0 : decode cX0_toil 0 = .ok (.aload_n 0, 1) := by decide +kernel
theorem dX0_toil_1 : decode cX0_toil 1 = .ok (.invokespecial 22, 3) := by decide +kernel
theorem dX0_toil_4 : decode cX0_toil 4 = .ok (.iconst 2, 1) := by decide +kernel
theorem dX0_toil_5 : decode cX0_toil 5 = .ok (.isub, 1) := by decide +kernel
theorem dX0_toil_6 : decode cX0_toil 6 = .ok (.ireturn, 1) := by decide +kernel
theorem dX0_worth_0 : decode cX0_worth 0 = .ok (.aload_n 0, 1) := by decide +kernel
theorem dX0_worth_1 : decode cX0_worth 1 = .ok (.invokespecial 25, 3) := by decide +kernel
theorem dX0_worth_4 : decode cX0_worth 4 = .ok (.iconst 1, 1) := by decide +kernel
theorem dX0_worth_5 : decode cX0_worth 5 = .ok (.isub, 1) := by decide +kernel
theorem dX0_worth_6 : decode cX0_worth 6 = .ok (.ireturn, 1) := by decide +kernel
theorem dX1_init_0 : decode cX1_init 0 = .ok (.aload_n 0, 1) := by decide +kernel
theorem dX1_init_1 : decode cX1_init 1 = .ok (.iload_n 1, 1) := by decide +kernel
theorem dX1_init_2 : decode cX1_init 2 = .ok (.invokespecial 3, 3) := by decide +kernel
theorem dX1_init_5 : decode cX1_init 5 = .ok (.return_, 1) := by decide +kernel
theorem dX1_kind_0 : decode cX1_kind 0 = .ok (.bipush 7, 2) := by decide +kernel
theorem dX1_kind_2 : decode cX1_kind 2 = .ok (.ireturn, 1) := by decide +kernel
theorem dX1_loss_0 : decode cX1_loss 0 = .ok (.aload_n 0, 1) := by decide +kernel
theorem dX1_loss_1 : decode cX1_loss 1 = .ok (.invokespecial 9, 3) := by decide +kernel
theorem dX1_loss_4 : decode cX1_loss 4 = .ok (.iconst 1, 1) := by decide +kernel
theorem dX1_loss_5 : decode cX1_loss 5 = .ok (.isub, 1) := by decide +kernel
theorem dX1_loss_6 : decode cX1_loss 6 = .ok (.ireturn, 1) := by decide +kernel
theorem dX1_toil_0 : decode cX1_toil 0 = .ok (.iconst 0, 1) := by decide +kernel
theorem dX1_toil_1 : decode cX1_toil 1 = .ok (.ireturn, 1) := by decide +kernel
theorem dX1_worth_0 : decode cX1_worth 0 = .ok (.aload_n 0, 1) := by decide +kernel
theorem dX1_worth_1 : decode cX1_worth 1 = .ok (.invokespecial 13, 3) := by decide +kernel
theorem dX1_worth_4 : decode cX1_worth 4 = .ok (.aload_n 0, 1) := by decide +kernel
theorem dX1_worth_5 : decode cX1_worth 5 = .ok (.getfield 16, 3) := by decide +kernel
theorem dX1_worth_8 : decode cX1_worth 8 = .ok (.isub, 1) := by decide +kernel
theorem dX1_worth_9 : decode cX1_worth 9 = .ok (.ireturn, 1) := by decide +kernel
theorem dX1_fail_0 : decode cX1_fail 0 = .ok (.return_, 1) := by decide +kernel
theorem dX2_init_0 : decode cX2_init 0 = .ok (.aload_n 0, 1) := by decide +kernel
theorem dX2_init_1 : decode cX2_init 1 = .ok (.iload_n 1, 1) := by decide +kernel
theorem dX2_init_2 : decode cX2_init 2 = .ok (.invokespecial 3, 3) := by decide +kernel
theorem dX2_init_5 : decode cX2_init 5 = .ok (.return_, 1) := by decide +kernel
theorem dX2_kind_0 : decode cX2_kind 0 = .ok (.bipush 6, 2) := by decide +kernel
theorem dX2_kind_2 : decode cX2_kind 2 = .ok (.ireturn, 1) := by decide +kernel
theorem dX2_slow_0 : decode cX2_slow 0 = .ok (.aload_n 0, 1) := by decide +kernel
theorem dX2_slow_1 : decode cX2_slow 1 = .ok (.invokespecial 9, 3) := by decide +kernel
theorem dX2_slow_4 : decode cX2_slow 4 = .ok (.iconst 2, 1) := by decide +kernel
theorem dX2_slow_5 : decode cX2_slow 5 = .ok (.imul, 1) := by decide +kernel
theorem dX2_slow_6 : decode cX2_slow 6 = .ok (.ireturn, 1) := by decide +kernel
theorem dX2_loss_0 : decode cX2_loss 0 = .ok (.aload_n 0, 1) := by decide +kernel
theorem dX2_loss_1 : decode cX2_loss 1 = .ok (.invokespecial 13, 3) := by decide +kernel
theorem dX2_loss_4 : decode cX2_loss 4 = .ok (.aload_n 0, 1) := by decide +kernel
theorem dX2_loss_5 : decode cX2_loss 5 = .ok (.getfield 16, 3) := by decide +kernel
theorem dX2_loss_8 : decode cX2_loss 8 = .ok (.iadd, 1) := by decide +kernel
theorem dX2_loss_9 : decode cX2_loss 9 = .ok (.ireturn, 1) := by decide +kernel
theorem dX2_toil_0 : decode cX2_toil 0 = .ok (.aload_n 0, 1) := by decide +kernel
theorem dX2_toil_1 : decode cX2_toil 1 = .ok (.invokespecial 22, 3) := by decide +kernel
theorem dX2_toil_4 : decode cX2_toil 4 = .ok (.iconst 4, 1) := by decide +kernel
theorem dX2_toil_5 : decode cX2_toil 5 = .ok (.iadd, 1) := by decide +kernel
theorem dX2_toil_6 : decode cX2_toil 6 = .ok (.ireturn, 1) := by decide +kernel
theorem dX2_worth_0 : decode cX2_worth 0 = .ok (.aload_n 0, 1) := by decide +kernel
theorem dX2_worth_1 : decode cX2_worth 1 = .ok (.invokespecial 25, 3) := by decide +kernel
theorem dX2_worth_4 : decode cX2_worth 4 = .ok (.iconst 5, 1) := by decide +kernel
theorem dX2_worth_5 : decode cX2_worth 5 = .ok (.iadd, 1) := by decide +kernel
theorem dX2_worth_6 : decode cX2_worth 6 = .ok (.ireturn, 1) := by decide +kernel
theorem dX3_init_0 : decode cX3_init 0 = .ok (.aload_n 0, 1) := by decide +kernel
theorem dX3_init_1 : decode cX3_init 1 = .ok (.iload_n 1, 1) := by decide +kernel
theorem dX3_init_2 : decode cX3_init 2 = .ok (.invokespecial 3, 3) := by decide +kernel
theorem dX3_init_5 : decode cX3_init 5 = .ok (.return_, 1) := by decide +kernel
theorem dX3_kind_0 : decode cX3_kind 0 = .ok (.iconst 1, 1) := by decide +kernel
theorem dX3_kind_1 : decode cX3_kind 1 = .ok (.ireturn, 1) := by decide +kernel
theorem dX3_slow_0 : decode cX3_slow 0 = .ok (.aload_n 0, 1) := by decide +kernel
theorem dX3_slow_1 : decode cX3_slow 1 = .ok (.invokespecial 9, 3) := by decide +kernel
theorem dX3_slow_4 : decode cX3_slow 4 = .ok (.iconst 2, 1) := by decide +kernel
theorem dX3_slow_5 : decode cX3_slow 5 = .ok (.isub, 1) := by decide +kernel
theorem dX3_slow_6 : decode cX3_slow 6 = .ok (.ireturn, 1) := by decide +kernel
theorem dX3_loss_0 : decode cX3_loss 0 = .ok (.aload_n 0, 1) := by decide +kernel
theorem dX3_loss_1 : decode cX3_loss 1 = .ok (.invokespecial 13, 3) := by decide +kernel
theorem dX3_loss_4 : decode cX3_loss 4 = .ok (.iconst 1, 1) := by decide +kernel
theorem dX3_loss_5 : decode cX3_loss 5 = .ok (.isub, 1) := by decide +kernel
theorem dX3_loss_6 : decode cX3_loss 6 = .ok (.ireturn, 1) := by decide +kernel
theorem dX3_toil_0 : decode cX3_toil 0 = .ok (.aload_n 0, 1) := by decide +kernel
theorem dX3_toil_1 : decode cX3_toil 1 = .ok (.invokespecial 16, 3) := by decide +kernel
theorem dX3_toil_4 : decode cX3_toil 4 = .ok (.iconst 2, 1) := by decide +kernel
theorem dX3_toil_5 : decode cX3_toil 5 = .ok (.imul, 1) := by decide +kernel
theorem dX3_toil_6 : decode cX3_toil 6 = .ok (.ireturn, 1) := by decide +kernel
theorem dX3_worth_0 : decode cX3_worth 0 = .ok (.aload_n 0, 1) := by decide +kernel
theorem dX3_worth_1 : decode cX3_worth 1 = .ok (.invokespecial 19, 3) := by decide +kernel
theorem dX3_worth_4 : decode cX3_worth 4 = .ok (.aload_n 0, 1) := by decide +kernel
theorem dX3_worth_5 : decode cX3_worth 5 = .ok (.getfield 22, 3) := by decide +kernel
theorem dX3_worth_8 : decode cX3_worth 8 = .ok (.iadd, 1) := by decide +kernel
theorem dX3_worth_9 : decode cX3_worth 9 = .ok (.ireturn, 1) := by decide +kernel
theorem dX4_init_0 : decode cX4_init 0 = .ok (.aload_n 0, 1) := by decide +kernel
theorem dX4_init_1 : decode cX4_init 1 = .ok (.iload_n 1, 1) := by decide +kernel
theorem dX4_init_2 : decode cX4_init 2 = .ok (.invokespecial 3, 3) := by decide +kernel
theorem dX4_init_5 : decode cX4_init 5 = .ok (.return_, 1) := by decide +kernel
theorem dX4_kind_0 : decode cX4_kind 0 = .ok (.iconst 5, 1) := by decide +kernel
theorem dX4_kind_1 : decode cX4_kind 1 = .ok (.ireturn, 1) := by decide +kernel
theorem dX4_slow_0 : decode cX4_slow 0 = .ok (.aload_n 0, 1) := by decide +kernel
theorem dX4_slow_1 : decode cX4_slow 1 = .ok (.invokespecial 9, 3) := by decide +kernel
theorem dX4_slow_4 : decode cX4_slow 4 = .ok (.iconst 3, 1) := by decide +kernel
theorem dX4_slow_5 : decode cX4_slow 5 = .ok (.isub, 1) := by decide +kernel
theorem dX4_slow_6 : decode cX4_slow 6 = .ok (.ireturn, 1) := by decide +kernel
theorem dX4_toil_0 : decode cX4_toil 0 = .ok (.aload_n 0, 1) := by decide +kernel
theorem dX4_toil_1 : decode cX4_toil 1 = .ok (.invokespecial 13, 3) := by decide +kernel
theorem dX4_toil_4 : decode cX4_toil 4 = .ok (.iconst 4, 1) := by decide +kernel
theorem dX4_toil_5 : decode cX4_toil 5 = .ok (.isub, 1) := by decide +kernel
theorem dX4_toil_6 : decode cX4_toil 6 = .ok (.ireturn, 1) := by decide +kernel
theorem dX5_init_0 : decode cX5_init 0 = .ok (.aload_n 0, 1) := by decide +kernel
theorem dX5_init_1 : decode cX5_init 1 = .ok (.invokespecial 3, 3) := by decide +kernel
theorem dX5_init_4 : decode cX5_init 4 = .ok (.aload_n 0, 1) := by decide +kernel
theorem dX5_init_5 : decode cX5_init 5 = .ok (.bipush 20, 2) := by decide +kernel
theorem dX5_init_7 : decode cX5_init 7 = .ok (.anewarray 9, 3) := by decide +kernel
theorem dX5_init_10 : decode cX5_init 10 = .ok (.putfield 11, 3) := by decide +kernel
theorem dX5_init_13 : decode cX5_init 13 = .ok (.aload_n 0, 1) := by decide +kernel
theorem dX5_init_14 : decode cX5_init 14 = .ok (.iconst 2, 1) := by decide +kernel
theorem dX5_init_15 : decode cX5_init 15 = .ok (.newarray .int, 2) := by decide +kernel
theorem dX5_init_17 : decode cX5_init 17 = .ok (.putfield 17, 3) := by decide +kernel
theorem dX5_init_20 : decode cX5_init 20 = .ok (.aload_n 0, 1) := by decide +kernel
theorem dX5_init_21 : decode cX5_init 21 = .ok (.iconst 2, 1) := by decide +kernel
theorem dX5_init_22 : decode cX5_init 22 = .ok (.newarray .int, 2) := by decide +kernel
theorem dX5_init_24 : decode cX5_init 24 = .ok (.putfield 21, 3) := by decide +kernel
theorem dX5_init_27 : decode cX5_init 27 = .ok (.aload_n 0, 1) := by decide +kernel
theorem dX5_init_28 : decode cX5_init 28 = .ok (.new 24, 3) := by decide +kernel
theorem dX5_init_31 : decode cX5_init 31 = .ok (.dup, 1) := by decide +kernel
theorem dX5_init_32 : decode cX5_init 32 = .ok (.iconst 0, 1) := by decide +kernel
theorem dX5_init_33 : decode cX5_init 33 = .ok (.invokespecial 26, 3) := by decide +kernel
theorem dX5_init_36 : decode cX5_init 36 = .ok (.putfield 29, 3) := by decide +kernel
theorem dX5_init_39 : decode cX5_init 39 = .ok (.new 9, 3) := by decide +kernel
theorem dX5_init_42 : decode cX5_init 42 = .ok (.dup, 1) := by decide +kernel
theorem dX5_init_43 : decode cX5_init 43 = .ok (.iconst 0, 1) := by decide +kernel
theorem dX5_init_44 : decode cX5_init 44 = .ok (.invokespecial 33, 3) := by decide +kernel
theorem dX5_init_47 : decode cX5_init 47 = .ok (.astore_n 1, 1) := by decide +kernel
theorem dX5_init_48 : decode cX5_init 48 = .ok (.iconst 0, 1) := by decide +kernel
theorem dX5_init_49 : decode cX5_init 49 = .ok (.istore_n 2, 1) := by decide +kernel
theorem dX5_init_50 : decode cX5_init 50 = .ok (.iload_n 2, 1) := by decide +kernel
theorem dX5_init_51 : decode cX5_init 51 = .ok (.bipush 20, 2) := by decide +kernel
theorem dX5_init_53 : decode cX5_init 53 = .ok (.if_icmp .ge 16, 3) := by decide +kernel
theorem dX5_init_56 : decode cX5_init 56 = .ok (.aload_n 0, 1) := by decide +kernel
theorem dX5_init_57 : decode cX5_init 57 = .ok (.getfield 11, 3) := by decide +kernel
theorem dX5_init_60 : decode cX5_init 60 = .ok (.iload_n 2, 1) := by decide +kernel
theorem dX5_init_61 : decode cX5_init 61 = .ok (.aload_n 1, 1) := by decide +kernel
theorem dX5_init_62 : decode cX5_init 62 = .ok (.aastore, 1) := by decide +kernel
theorem dX5_init_63 : decode cX5_init 63 = .ok (.iinc 2 1, 3) := by decide +kernel
theorem dX5_init_66 : decode cX5_init 66 = .ok (.goto (-16), 3) := by decide +kernel
theorem dX5_init_69 : decode cX5_init 69 = .ok (.aload_n 0, 1) := by decide +kernel
theorem dX5_init_70 : decode cX5_init 70 = .ok (.getfield 17, 3) := by decide +kernel
theorem dX5_init_73 : decode cX5_init 73 = .ok (.iconst 1, 1) := by decide +kernel
theorem dX5_init_74 : decode cX5_init 74 = .ok (.bipush 19, 2) := by decide +kernel
theorem dX5_init_76 : decode cX5_init 76 = .ok (.iastore, 1) := by decide +kernel
theorem dX5_init_77 : decode cX5_init 77 = .ok (.return_, 1) := by decide +kernel
theorem dX5_become_0 : decode cX5_become 0 = .ok (.iconst 0, 1) := by decide +kernel
theorem dX5_become_1 : decode cX5_become 1 = .ok (.istore_n 2, 1) := by decide +kernel
theorem dX5_become_2 : decode cX5_become 2 = .ok (.iload_n 2, 1) := by decide +kernel
theorem dX5_become_3 : decode cX5_become 3 = .ok (.bipush 20, 2) := by decide +kernel
theorem dX5_become_5 : decode cX5_become 5 = .ok (.if_icmp .ge 21, 3) := by decide +kernel
theorem dX5_become_8 : decode cX5_become 8 = .ok (.aload_n 0, 1) := by decide +kernel
theorem dX5_become_9 : decode cX5_become 9 = .ok (.getfield 11, 3) := by decide +kernel
theorem dX5_become_12 : decode cX5_become 12 = .ok (.iload_n 2, 1) := by decide +kernel
theorem dX5_become_13 : decode cX5_become 13 = .ok (.aload_n 1, 1) := by decide +kernel
theorem dX5_become_14 : decode cX5_become 14 = .ok (.getfield 11, 3) := by decide +kernel
theorem dX5_become_17 : decode cX5_become 17 = .ok (.iload_n 2, 1) := by decide +kernel
theorem dX5_become_18 : decode cX5_become 18 = .ok (.aaload, 1) := by decide +kernel
theorem dX5_become_19 : decode cX5_become 19 = .ok (.aastore, 1) := by decide +kernel
theorem dX5_become_20 : decode cX5_become 20 = .ok (.iinc 2 1, 3) := by decide +kernel
theorem dX5_become_23 : decode cX5_become 23 = .ok (.goto (-21), 3) := by decide +kernel
theorem dX5_become_26 : decode cX5_become 26 = .ok (.iconst 0, 1) := by decide +kernel
theorem dX5_become_27 : decode cX5_become 27 = .ok (.istore_n 2, 1) := by decide +kernel
theorem dX5_become_28 : decode cX5_become 28 = .ok (.iload_n 2, 1) := by decide +kernel
theorem dX5_become_29 : decode cX5_become 29 = .ok (.iconst 2, 1) := by decide +kernel
theorem dX5_become_30 : decode cX5_become 30 = .ok (.if_icmp .ge 33, 3) := by decide +kernel
theorem dX5_become_33 : decode cX5_become 33 = .ok (.aload_n 0, 1) := by decide +kernel
theorem dX5_become_34 : decode cX5_become 34 = .ok (.getfield 17, 3) := by decide +kernel
theorem dX5_become_37 : decode cX5_become 37 = .ok (.iload_n 2, 1) := by decide +kernel
theorem dX5_become_38 : decode cX5_become 38 = .ok (.aload_n 1, 1) := by decide +kernel
theorem dX5_become_39 : decode cX5_become 39 = .ok (.getfield 17, 3) := by decide +kernel
theorem dX5_become_42 : decode cX5_become 42 = .ok (.iload_n 2, 1) := by decide +kernel
theorem dX5_become_43 : decode cX5_become 43 = .ok (.iaload, 1) := by decide +kernel
theorem dX5_become_44 : decode cX5_become 44 = .ok (.iastore, 1) := by decide +kernel
theorem dX5_become_45 : decode cX5_become 45 = .ok (.aload_n 0, 1) := by decide +kernel
theorem dX5_become_46 : decode cX5_become 46 = .ok (.getfield 21, 3) := by decide +kernel
theorem dX5_become_49 : decode cX5_become 49 = .ok (.iload_n 2, 1) := by decide +kernel
theorem dX5_become_50 : decode cX5_become 50 = .ok (.aload_n 1, 1) := by decide +kernel
theorem dX5_become_51 : decode cX5_become 51 = .ok (.getfield 21, 3) := by decide +kernel
theorem dX5_become_54 : decode cX5_become 54 = .ok (.iload_n 2, 1) := by decide +kernel
theorem dX5_become_55 : decode cX5_become 55 = .ok (.iaload, 1) := by decide +kernel
theorem dX5_become_56 : decode cX5_become 56 = .ok (.iastore, 1) := by decide +kernel
theorem dX5_become_57 : decode cX5_become 57 = .ok (.iinc 2 1, 3) := by decide +kernel
theorem dX5_become_60 : decode cX5_become 60 = .ok (.goto (-32), 3) := by decide +kernel
theorem dX5_become_63 : decode cX5_become 63 = .ok (.return_, 1) := by decide +kernel
theorem dX5_advance_0 : decode cX5_advance 0 = .ok (.aload_n 0, 1) := by decide +kernel
theorem dX5_advance_1 : decode cX5_advance 1 = .ok (.getfield 17, 3) := by decide +kernel
theorem dX5_advance_4 : decode cX5_advance 4 = .ok (.iload_n 1, 1) := by decide +kernel
theorem dX5_advance_5 : decode cX5_advance 5 = .ok (.iaload, 1) := by decide +kernel
theorem dX5_advance_6 : decode cX5_advance 6 = .ok (.iload_n 2, 1) := by decide +kernel
theorem dX5_advance_7 : decode cX5_advance 7 = .ok (.invokestatic 34, 3) := by decide +kernel
theorem dX5_advance_10 : decode cX5_advance 10 = .ok (.istore_n 3, 1) := by decide +kernel
theorem dX5_advance_11 : decode cX5_advance 11 = .ok (.iload_n 3, 1) := by decide +kernel
theorem dX5_advance_12 : decode cX5_advance 12 = .ok (.iconst (-1), 1) := by decide +kernel
theorem dX5_advance_13 : decode cX5_advance 13 = .ok (.if_icmp .ne 5, 3) := by decide +kernel
theorem dX5_advance_16 : decode cX5_advance 16 = .ok (.iconst (-1), 1) := by decide +kernel
theorem dX5_advance_17 : decode cX5_advance 17 = .ok (.ireturn, 1) := by decide +kernel
theorem dX5_advance_18 : decode cX5_advance 18 = .ok (.aload_n 0, 1) := by decide +kernel
theorem dX5_advance_19 : decode cX5_advance 19 = .ok (.getfield 11, 3) := by decide +kernel
theorem dX5_advance_22 : decode cX5_advance 22 = .ok (.iload_n 3, 1) := by decide +kernel
theorem dX5_advance_23 : decode cX5_advance 23 = .ok (.aaload, 1) := by decide +kernel
theorem dX5_advance_24 : decode cX5_advance 24 = .ok (.invokevirtual 38, 3) := by decide +kernel
theorem dX5_advance_27 : decode cX5_advance 27 = .ok (.istore 4, 2) := by decide +kernel
theorem dX5_advance_29 : decode cX5_advance 29 = .ok (.aload_n 0, 1) := by decide +kernel
theorem dX5_advance_30 : decode cX5_advance 30 = .ok (.getfield 17, 3) := by decide +kernel
theorem dX5_advance_33 : decode cX5_advance 33 = .ok (.iload_n 1, 1) := by decide +kernel
theorem dX5_advance_34 : decode cX5_advance 34 = .ok (.iload_n 3, 1) := by decide +kernel
theorem dX5_advance_35 : decode cX5_advance 35 = .ok (.iastore, 1) := by decide +kernel
theorem dX5_advance_36 : decode cX5_advance 36 = .ok (.aload_n 0, 1) := by decide +kernel
theorem dX5_advance_37 : decode cX5_advance 37 = .ok (.getfield 21, 3) := by decide +kernel
theorem dX5_advance_40 : decode cX5_advance 40 = .ok (.iload_n 1, 1) := by decide +kernel
theorem dX5_advance_41 : decode cX5_advance 41 = .ok (.dup2, 1) := by decide +kernel
theorem dX5_advance_42 : decode cX5_advance 42 = .ok (.iaload, 1) := by decide +kernel
theorem dX5_advance_43 : decode cX5_advance 43 = .ok (.iload 4, 2) := by decide +kernel
theorem dX5_advance_45 : decode cX5_advance 45 = .ok (.iadd, 1) := by decide +kernel
theorem dX5_advance_46 : decode cX5_advance 46 = .ok (.iastore, 1) := by decide +kernel
theorem dX5_advance_47 : decode cX5_advance 47 = .ok (.aload_n 0, 1) := by decide +kernel
theorem dX5_advance_48 : decode cX5_advance 48 = .ok (.getfield 11, 3) := by decide +kernel
theorem dX5_advance_51 : decode cX5_advance 51 = .ok (.iload_n 3, 1) := by decide +kernel
theorem dX5_advance_52 : decode cX5_advance 52 = .ok (.aload_n 0, 1) := by decide +kernel
theorem dX5_advance_53 : decode cX5_advance 53 = .ok (.getfield 29, 3) := by decide +kernel
theorem dX5_advance_56 : decode cX5_advance 56 = .ok (.aastore, 1) := by decide +kernel
theorem dX5_advance_57 : decode cX5_advance 57 = .ok (.iload 4, 2) := by decide +kernel
theorem dX5_advance_59 : decode cX5_advance 59 = .ok (.ireturn, 1) := by decide +kernel
theorem dX5_gangsMet_0 : decode cX5_gangsMet 0 = .ok (.aload_n 0, 1) := by decide +kernel
theorem dX5_gangsMet_1 : decode cX5_gangsMet 1 = .ok (.getfield 17, 3) := by decide +kernel
theorem dX5_gangsMet_4 : decode cX5_gangsMet 4 = .ok (.iconst 0, 1) := by decide +kernel
theorem dX5_gangsMet_5 : decode cX5_gangsMet 5 = .ok (.iaload, 1) := by decide +kernel
theorem dX5_gangsMet_6 : decode cX5_gangsMet 6 = .ok (.aload_n 0, 1) := by decide +kernel
theorem dX5_gangsMet_7 : decode cX5_gangsMet 7 = .ok (.getfield 17, 3) := by decide +kernel
theorem dX5_gangsMet_10 : decode cX5_gangsMet 10 = .ok (.iconst 1, 1) := by decide +kernel
theorem dX5_gangsMet_11 : decode cX5_gangsMet 11 = .ok (.iaload, 1) := by decide +kernel
theorem dX5_gangsMet_12 : decode cX5_gangsMet 12 = .ok (.if_icmp .ne 5, 3) := by decide +kernel
theorem dX5_gangsMet_15 : decode cX5_gangsMet 15 = .ok (.iconst 1, 1) := by decide +kernel
theorem dX5_gangsMet_16 : decode cX5_gangsMet 16 = .ok (.ireturn, 1) := by decide +kernel
theorem dX5_gangsMet_17 : decode cX5_gangsMet 17 = .ok (.iconst 0, 1) := by decide +kernel
theorem dX5_gangsMet_18 : decode cX5_gangsMet 18 = .ok (.istore_n 1, 1) := by decide +kernel
theorem dX5_gangsMet_19 : decode cX5_gangsMet 19 = .ok (.iload_n 1, 1) := by decide +kernel
theorem dX5_gangsMet_20 : decode cX5_gangsMet 20 = .ok (.iconst 4, 1) := by decide +kernel
theorem dX5_gangsMet_21 : decode cX5_gangsMet 21 = .ok (.if_icmp .ge 30, 3) := by decide +kernel
theorem dX5_gangsMet_24 : decode cX5_gangsMet 24 = .ok (.aload_n 0, 1) := by decide +kernel
theorem dX5_gangsMet_25 : decode cX5_gangsMet 25 = .ok (.getfield 17, 3) := by decide +kernel
theorem dX5_gangsMet_28 : decode cX5_gangsMet 28 = .ok (.iconst 0, 1) := by decide +kernel
theorem dX5_gangsMet_29 : decode cX5_gangsMet 29 = .ok (.iaload, 1) := by decide +kernel
theorem dX5_gangsMet_30 : decode cX5_gangsMet 30 = .ok (.iload_n 1, 1) := by decide +kernel
theorem dX5_gangsMet_31 : decode cX5_gangsMet 31 = .ok (.invokestatic 34, 3) := by decide +kernel
theorem dX5_gangsMet_34 : decode cX5_gangsMet 34 = .ok (.aload_n 0, 1) := by decide +kernel
theorem dX5_gangsMet_35 : decode cX5_gangsMet 35 = .ok (.getfield 17, 3) := by decide +kernel
theorem dX5_gangsMet_38 : decode cX5_gangsMet 38 = .ok (.iconst 1, 1) := by decide +kernel
theorem dX5_gangsMet_39 : decode cX5_gangsMet 39 = .ok (.iaload, 1) := by decide +kernel
theorem dX5_gangsMet_40 : decode cX5_gangsMet 40 = .ok (.if_icmp .ne 5, 3) := by decide +kernel
theorem dX5_gangsMet_43 : decode cX5_gangsMet 43 = .ok (.iconst 1, 1) := by decide +kernel
theorem dX5_gangsMet_44 : decode cX5_gangsMet 44 = .ok (.ireturn, 1) := by decide +kernel
theorem dX5_gangsMet_45 : decode cX5_gangsMet 45 = .ok (.iinc 1 1, 3) := by decide +kernel
theorem dX5_gangsMet_48 : decode cX5_gangsMet 48 = .ok (.goto (-29), 3) := by decide +kernel
theorem dX5_gangsMet_51 : decode cX5_gangsMet 51 = .ok (.iconst 0, 1) := by decide +kernel
theorem dX5_gangsMet_52 : decode cX5_gangsMet 52 = .ok (.ireturn, 1) := by decide +kernel
theorem dX5_allHours_0 : decode cX5_allHours 0 = .ok (.aload_n 0, 1) := by decide +kernel
theorem dX5_allHours_1 : decode cX5_allHours 1 = .ok (.getfield 21, 3) := by decide +kernel
theorem dX5_allHours_4 : decode cX5_allHours 4 = .ok (.iconst 0, 1) := by decide +kernel
theorem dX5_allHours_5 : decode cX5_allHours 5 = .ok (.iaload, 1) := by decide +kernel
theorem dX5_allHours_6 : decode cX5_allHours 6 = .ok (.aload_n 0, 1) := by decide +kernel
theorem dX5_allHours_7 : decode cX5_allHours 7 = .ok (.getfield 21, 3) := by decide +kernel
theorem dX5_allHours_10 : decode cX5_allHours 10 = .ok (.iconst 1, 1) := by decide +kernel
theorem dX5_allHours_11 : decode cX5_allHours 11 = .ok (.iaload, 1) := by decide +kernel
theorem dX5_allHours_12 : decode cX5_allHours 12 = .ok (.iadd, 1) := by decide +kernel
theorem dX5_allHours_13 : decode cX5_allHours 13 = .ok (.ireturn, 1) := by decide +kernel
theorem dX6_init_0 : decode cX6_init 0 = .ok (.aload_n 0, 1) := by decide +kernel
theorem dX6_init_1 : decode cX6_init 1 = .ok (.invokespecial 3, 3) := by decide +kernel
theorem dX6_init_4 : decode cX6_init 4 = .ok (.aload_n 0, 1) := by decide +kernel
theorem dX6_init_5 : decode cX6_init 5 = .ok (.iload_n 1, 1) := by decide +kernel
theorem dX6_init_6 : decode cX6_init 6 = .ok (.putfield 9, 3) := by decide +kernel
theorem dX6_init_9 : decode cX6_init 9 = .ok (.return_, 1) := by decide +kernel
theorem dX6_kind_0 : decode cX6_kind 0 = .ok (.iconst 0, 1) := by decide +kernel
theorem dX6_kind_1 : decode cX6_kind 1 = .ok (.ireturn, 1) := by decide +kernel
theorem dX6_slow_0 : decode cX6_slow 0 = .ok (.iconst 4, 1) := by decide +kernel
theorem dX6_slow_1 : decode cX6_slow 1 = .ok (.ireturn, 1) := by decide +kernel
theorem dX6_loss_0 : decode cX6_loss 0 = .ok (.iconst 2, 1) := by decide +kernel
theorem dX6_loss_1 : decode cX6_loss 1 = .ok (.ireturn, 1) := by decide +kernel
theorem dX6_toil_0 : decode cX6_toil 0 = .ok (.iconst 5, 1) := by decide +kernel
theorem dX6_toil_1 : decode cX6_toil 1 = .ok (.ireturn, 1) := by decide +kernel
theorem dX6_worth_0 : decode cX6_worth 0 = .ok (.iconst 3, 1) := by decide +kernel
theorem dX6_worth_1 : decode cX6_worth 1 = .ok (.ireturn, 1) := by decide +kernel
theorem dX6_fail_0 : decode cX6_fail 0 = .ok (.aload_n 0, 1) := by decide +kernel
theorem dX6_fail_1 : decode cX6_fail 1 = .ok (.getfield 9, 3) := by decide +kernel
theorem dX6_fail_4 : decode cX6_fail 4 = .ok (.ifCond .eq 13, 3) := by decide +kernel
theorem dX6_fail_7 : decode cX6_fail 7 = .ok (.new 15, 3) := by decide +kernel
theorem dX6_fail_10 : decode cX6_fail 10 = .ok (.dup, 1) := by decide +kernel
theorem dX6_fail_11 : decode cX6_fail 11 = .ok (.ldc 17, 2) := by decide +kernel
theorem dX6_fail_13 : decode cX6_fail 13 = .ok (.invokespecial 19, 3) := by decide +kernel
theorem dX6_fail_16 : decode cX6_fail 16 = .ok (.athrow, 1) := by decide +kernel
theorem dX6_fail_17 : decode cX6_fail 17 = .ok (.return_, 1) := by decide +kernel
theorem dX7_init_0 : decode cX7_init 0 = .ok (.aload_n 0, 1) := by decide +kernel
theorem dX7_init_1 : decode cX7_init 1 = .ok (.invokespecial 3, 3) := by decide +kernel
theorem dX7_init_4 : decode cX7_init 4 = .ok (.aload_n 0, 1) := by decide +kernel
theorem dX7_init_5 : decode cX7_init 5 = .ok (.aconst_null, 1) := by decide +kernel
theorem dX7_init_6 : decode cX7_init 6 = .ok (.putfield 9, 3) := by decide +kernel
theorem dX7_init_9 : decode cX7_init 9 = .ok (.aload_n 0, 1) := by decide +kernel
theorem dX7_init_10 : decode cX7_init 10 = .ok (.iconst (-1), 1) := by decide +kernel
theorem dX7_init_11 : decode cX7_init 11 = .ok (.putfield 15, 3) := by decide +kernel
theorem dX7_init_14 : decode cX7_init 14 = .ok (.aload_n 0, 1) := by decide +kernel
theorem dX7_init_15 : decode cX7_init 15 = .ok (.iconst 0, 1) := by decide +kernel
theorem dX7_init_16 : decode cX7_init 16 = .ok (.putfield 19, 3) := by decide +kernel
theorem dX7_init_19 : decode cX7_init 19 = .ok (.aload_n 0, 1) := by decide +kernel
theorem dX7_init_20 : decode cX7_init 20 = .ok (.bipush 100, 2) := by decide +kernel
theorem dX7_init_22 : decode cX7_init 22 = .ok (.newarray .int, 2) := by decide +kernel
theorem dX7_init_24 : decode cX7_init 24 = .ok (.putfield 22, 3) := by decide +kernel
theorem dX7_init_27 : decode cX7_init 27 = .ok (.return_, 1) := by decide +kernel
theorem dX7_isEmpty_0 : decode cX7_isEmpty 0 = .ok (.aload_n 0, 1) := by decide +kernel
theorem dX7_isEmpty_1 : decode cX7_isEmpty 1 = .ok (.getfield 9, 3) := by decide +kernel
theorem dX7_isEmpty_4 : decode cX7_isEmpty 4 = .ok (.ifnonnull 15, 3) := by decide +kernel
theorem dX7_isEmpty_7 : decode cX7_isEmpty 7 = .ok (.aload_n 0, 1) := by decide +kernel
theorem dX7_isEmpty_8 : decode cX7_isEmpty 8 = .ok (.getfield 15, 3) := by decide +kernel
theorem dX7_isEmpty_11 : decode cX7_isEmpty 11 = .ok (.iconst (-1), 1) := by decide +kernel
theorem dX7_isEmpty_12 : decode cX7_isEmpty 12 = .ok (.if_icmp .ne 7, 3) := by decide +kernel
theorem dX7_isEmpty_15 : decode cX7_isEmpty 15 = .ok (.iconst 1, 1) := by decide +kernel
theorem dX7_isEmpty_16 : decode cX7_isEmpty 16 = .ok (.goto 4, 3) := by decide +kernel
theorem dX7_isEmpty_19 : decode cX7_isEmpty 19 = .ok (.iconst 0, 1) := by decide +kernel
theorem dX7_isEmpty_20 : decode cX7_isEmpty 20 = .ok (.ireturn, 1) := by decide +kernel
theorem dX7_clear_0 : decode cX7_clear 0 = .ok (.aload_n 0, 1) := by decide +kernel
theorem dX7_clear_1 : decode cX7_clear 1 = .ok (.aconst_null, 1) := by decide +kernel
theorem dX7_clear_2 : decode cX7_clear 2 = .ok (.putfield 9, 3) := by decide +kernel
theorem dX7_clear_5 : decode cX7_clear 5 = .ok (.aload_n 0, 1) := by decide +kernel
theorem dX7_clear_6 : decode cX7_clear 6 = .ok (.iconst (-1), 1) := by decide +kernel
theorem dX7_clear_7 : decode cX7_clear 7 = .ok (.putfield 15, 3) := by decide +kernel
theorem dX7_clear_10 : decode cX7_clear 10 = .ok (.aload_n 0, 1) := by decide +kernel
theorem dX7_clear_11 : decode cX7_clear 11 = .ok (.iconst 0, 1) := by decide +kernel
theorem dX7_clear_12 : decode cX7_clear 12 = .ok (.putfield 19, 3) := by decide +kernel
theorem dX7_clear_15 : decode cX7_clear 15 = .ok (.return_, 1) := by decide +kernel
theorem dX7_holdRock_0 : decode cX7_holdRock 0 = .ok (.aload_n 0, 1) := by decide +kernel
theorem dX7_holdRock_1 : decode cX7_holdRock 1 = .ok (.invokevirtual 26, 3) := by decide +kernel
theorem dX7_holdRock_4 : decode cX7_holdRock 4 = .ok (.aload_n 0, 1) := by decide +kernel
theorem dX7_holdRock_5 : decode cX7_holdRock 5 = .ok (.aload_n 1, 1) := by decide +kernel
theorem dX7_holdRock_6 : decode cX7_holdRock 6 = .ok (.putfield 9, 3) := by decide +kernel
theorem dX7_holdRock_9 : decode cX7_holdRock 9 = .ok (.return_, 1) := by decide +kernel
theorem dX7_holdRow_0 : decode cX7_holdRow 0 = .ok (.aload_n 0, 1) := by decide +kernel
theorem dX7_holdRow_1 : decode cX7_holdRow 1 = .ok (.invokevirtual 26, 3) := by decide +kernel
theorem dX7_holdRow_4 : decode cX7_holdRow 4 = .ok (.aload_n 0, 1) := by decide +kernel
theorem dX7_holdRow_5 : decode cX7_holdRow 5 = .ok (.iload_n 1, 1) := by decide +kernel
theorem dX7_holdRow_6 : decode cX7_holdRow 6 = .ok (.putfield 15, 3) := by decide +kernel
theorem dX7_holdRow_9 : decode cX7_holdRow 9 = .ok (.aload_n 0, 1) := by decide +kernel
theorem dX7_holdRow_10 : decode cX7_holdRow 10 = .ok (.iload_n 2, 1) := by decide +kernel
theorem dX7_holdRow_11 : decode cX7_holdRow 11 = .ok (.putfield 19, 3) := by decide +kernel
theorem dX7_holdRow_14 : decode cX7_holdRow 14 = .ok (.iconst 0, 1) := by decide +kernel
theorem dX7_holdRow_15 : decode cX7_holdRow 15 = .ok (.istore_n 3, 1) := by decide +kernel
theorem dX7_holdRow_16 : decode cX7_holdRow 16 = .ok (.iload_n 3, 1) := by decide +kernel
theorem dX7_holdRow_17 : decode cX7_holdRow 17 = .ok (.iload_n 2, 1) := by decide +kernel
theorem dX7_holdRow_18 : decode cX7_holdRow 18 = .ok (.if_icmp .ge 22, 3) := by decide +kernel
theorem dX7_holdRow_21 : decode cX7_holdRow 21 = .ok (.iload_n 3, 1) := by decide +kernel
theorem dX7_holdRow_22 : decode cX7_holdRow 22 = .ok (.bipush 100, 2) := by decide +kernel
theorem dX7_holdRow_24 : decode cX7_holdRow 24 = .ok (.if_icmp .ge 16, 3) := by decide +kernel
theorem dX7_holdRow_27 : decode cX7_holdRow 27 = .ok (.aload_n 0, 1) := by decide +kernel
theorem dX7_holdRow_28 : decode cX7_holdRow 28 = .ok (.getfield 22, 3) := by decide +kernel
theorem dX7_holdRow_31 : decode cX7_holdRow 31 = .ok (.iload_n 3, 1) := by decide +kernel
theorem dX7_holdRow_32 : decode cX7_holdRow 32 = .ok (.iconst 0, 1) := by decide +kernel
theorem dX7_holdRow_33 : decode cX7_holdRow 33 = .ok (.iastore, 1) := by decide +kernel
theorem dX7_holdRow_34 : decode cX7_holdRow 34 = .ok (.iinc 3 1, 3) := by decide +kernel
theorem dX7_holdRow_37 : decode cX7_holdRow 37 = .ok (.goto (-21), 3) := by decide +kernel
theorem dX7_holdRow_40 : decode cX7_holdRow 40 = .ok (.return_, 1) := by decide +kernel
theorem dX7_spans_0 : decode cX7_spans 0 = .ok (.iload_n 1, 1) := by decide +kernel
theorem dX7_spans_1 : decode cX7_spans 1 = .ok (.ifCond .lt 21, 3) := by decide +kernel
theorem dX7_spans_4 : decode cX7_spans 4 = .ok (.iload_n 2, 1) := by decide +kernel
theorem dX7_spans_5 : decode cX7_spans 5 = .ok (.ifCond .lt 17, 3) := by decide +kernel
theorem dX7_spans_8 : decode cX7_spans 8 = .ok (.iload_n 1, 1) := by decide +kernel
theorem dX7_spans_9 : decode cX7_spans 9 = .ok (.aload_n 0, 1) := by decide +kernel
theorem dX7_spans_10 : decode cX7_spans 10 = .ok (.getfield 19, 3) := by decide +kernel
theorem dX7_spans_13 : decode cX7_spans 13 = .ok (.iload_n 2, 1) := by decide +kernel
theorem dX7_spans_14 : decode cX7_spans 14 = .ok (.isub, 1) := by decide +kernel
theorem dX7_spans_15 : decode cX7_spans 15 = .ok (.if_icmp .gt 7, 3) := by decide +kernel
theorem dX7_spans_18 : decode cX7_spans 18 = .ok (.iconst 1, 1) := by decide +kernel
theorem dX7_spans_19 : decode cX7_spans 19 = .ok (.goto 4, 3) := by decide +kernel
theorem dX7_spans_22 : decode cX7_spans 22 = .ok (.iconst 0, 1) := by decide +kernel
theorem dX7_spans_23 : decode cX7_spans 23 = .ok (.ireturn, 1) := by decide +kernel
theorem dX7_set_0 : decode cX7_set 0 = .ok (.aload_n 0, 1) := by decide +kernel
theorem dX7_set_1 : decode cX7_set 1 = .ok (.getfield 15, 3) := by decide +kernel
theorem dX7_set_4 : decode cX7_set 4 = .ok (.ifCond .ne 14, 3) := by decide +kernel
theorem dX7_set_7 : decode cX7_set 7 = .ok (.aload_n 0, 1) := by decide +kernel
theorem dX7_set_8 : decode cX7_set 8 = .ok (.getfield 22, 3) := by decide +kernel
theorem dX7_set_11 : decode cX7_set 11 = .ok (.iload_n 1, 1) := by decide +kernel
theorem dX7_set_12 : decode cX7_set 12 = .ok (.iload_n 2, 1) := by decide +kernel
theorem dX7_set_13 : decode cX7_set 13 = .ok (.i2b, 1) := by decide +kernel
theorem dX7_set_14 : decode cX7_set 14 = .ok (.iastore, 1) := by decide +kernel
theorem dX7_set_15 : decode cX7_set 15 = .ok (.goto 29, 3) := by decide +kernel
theorem dX7_set_18 : decode cX7_set 18 = .ok (.aload_n 0, 1) := by decide +kernel
theorem dX7_set_19 : decode cX7_set 19 = .ok (.getfield 15, 3) := by decide +kernel
theorem dX7_set_22 : decode cX7_set 22 = .ok (.iconst 1, 1) := by decide +kernel
theorem dX7_set_23 : decode cX7_set 23 = .ok (.if_icmp .ne 14, 3) := by decide +kernel
theorem dX7_set_26 : decode cX7_set 26 = .ok (.aload_n 0, 1) := by decide +kernel
theorem dX7_set_27 : decode cX7_set 27 = .ok (.getfield 22, 3) := by decide +kernel
theorem dX7_set_30 : decode cX7_set 30 = .ok (.iload_n 1, 1) := by decide +kernel
theorem dX7_set_31 : decode cX7_set 31 = .ok (.iload_n 2, 1) := by decide +kernel
theorem dX7_set_32 : decode cX7_set 32 = .ok (.i2s, 1) := by decide +kernel
theorem dX7_set_33 : decode cX7_set 33 = .ok (.iastore, 1) := by decide +kernel
theorem dX7_set_34 : decode cX7_set 34 = .ok (.goto 10, 3) := by decide +kernel
theorem dX7_set_37 : decode cX7_set 37 = .ok (.aload_n 0, 1) := by decide +kernel
theorem dX7_set_38 : decode cX7_set 38 = .ok (.getfield 22, 3) := by decide +kernel
theorem dX7_set_41 : decode cX7_set 41 = .ok (.iload_n 1, 1) := by decide +kernel
theorem dX7_set_42 : decode cX7_set 42 = .ok (.iload_n 2, 1) := by decide +kernel
theorem dX7_set_43 : decode cX7_set 43 = .ok (.iastore, 1) := by decide +kernel
theorem dX7_set_44 : decode cX7_set 44 = .ok (.return_, 1) := by decide +kernel
theorem dX7_at_0 : decode cX7_at 0 = .ok (.iload_n 1, 1) := by decide +kernel
theorem dX7_at_1 : decode cX7_at 1 = .ok (.aload_n 0, 1) := by decide +kernel
theorem dX7_at_2 : decode cX7_at 2 = .ok (.getfield 19, 3) := by decide +kernel
theorem dX7_at_5 : decode cX7_at 5 = .ok (.invokestatic 29, 3) := by decide +kernel
theorem dX7_at_8 : decode cX7_at 8 = .ok (.ifCond .eq 12, 3) := by decide +kernel
theorem dX7_at_11 : decode cX7_at 11 = .ok (.aload_n 0, 1) := by decide +kernel
theorem dX7_at_12 : decode cX7_at 12 = .ok (.getfield 22, 3) := by decide +kernel
theorem dX7_at_15 : decode cX7_at 15 = .ok (.iload_n 1, 1) := by decide +kernel
theorem dX7_at_16 : decode cX7_at 16 = .ok (.iaload, 1) := by decide +kernel
theorem dX7_at_17 : decode cX7_at 17 = .ok (.goto 4, 3) := by decide +kernel
theorem dX7_at_20 : decode cX7_at 20 = .ok (.iconst (-1), 1) := by decide +kernel
theorem dX7_at_21 : decode cX7_at 21 = .ok (.ireturn, 1) := by decide +kernel
theorem dX7_digit_0 : decode cX7_digit 0 = .ok (.aload_n 0, 1) := by decide +kernel
theorem dX7_digit_1 : decode cX7_digit 1 = .ok (.iload_n 1, 1) := by decide +kernel
theorem dX7_digit_2 : decode cX7_digit 2 = .ok (.invokevirtual 33, 3) := by decide +kernel
theorem dX7_digit_5 : decode cX7_digit 5 = .ok (.bipush 48, 2) := by decide +kernel
theorem dX7_digit_7 : decode cX7_digit 7 = .ok (.isub, 1) := by decide +kernel
theorem dX7_digit_8 : decode cX7_digit 8 = .ok (.ireturn, 1) := by decide +kernel
theorem dX8_init_0 : decode cX8_init 0 = .ok (.aload_n 0, 1) := by decide +kernel
theorem dX8_init_1 : decode cX8_init 1 = .ok (.iload_n 1, 1) := by decide +kernel
theorem dX8_init_2 : decode cX8_init 2 = .ok (.invokespecial 3, 3) := by decide +kernel
theorem dX8_init_5 : decode cX8_init 5 = .ok (.return_, 1) := by decide +kernel
theorem dX8_kind_0 : decode cX8_kind 0 = .ok (.iconst 4, 1) := by decide +kernel
theorem dX8_kind_1 : decode cX8_kind 1 = .ok (.ireturn, 1) := by decide +kernel
theorem dX8_slow_0 : decode cX8_slow 0 = .ok (.aload_n 0, 1) := by decide +kernel
theorem dX8_slow_1 : decode cX8_slow 1 = .ok (.invokespecial 9, 3) := by decide +kernel
theorem dX8_slow_4 : decode cX8_slow 4 = .ok (.iconst 1, 1) := by decide +kernel
theorem dX8_slow_5 : decode cX8_slow 5 = .ok (.iadd, 1) := by decide +kernel
theorem dX8_slow_6 : decode cX8_slow 6 = .ok (.ireturn, 1) := by decide +kernel
theorem dX8_loss_0 : decode cX8_loss 0 = .ok (.iconst 0, 1) := by decide +kernel
theorem dX8_loss_1 : decode cX8_loss 1 = .ok (.ireturn, 1) := by decide +kernel
theorem dX8_toil_0 : decode cX8_toil 0 = .ok (.aload_n 0, 1) := by decide +kernel
theorem dX8_toil_1 : decode cX8_toil 1 = .ok (.invokespecial 13, 3) := by decide +kernel
theorem dX8_toil_4 : decode cX8_toil 4 = .ok (.aload_n 0, 1) := by decide +kernel
theorem dX8_toil_5 : decode cX8_toil 5 = .ok (.getfield 16, 3) := by decide +kernel
theorem dX8_toil_8 : decode cX8_toil 8 = .ok (.iadd, 1) := by decide +kernel
theorem dX8_toil_9 : decode cX8_toil 9 = .ok (.ireturn, 1) := by decide +kernel
theorem dX8_worth_0 : decode cX8_worth 0 = .ok (.aload_n 0, 1) := by decide +kernel
theorem dX8_worth_1 : decode cX8_worth 1 = .ok (.invokespecial 22, 3) := by decide +kernel
theorem dX8_worth_4 : decode cX8_worth 4 = .ok (.aload_n 0, 1) := by decide +kernel
theorem dX8_worth_5 : decode cX8_worth 5 = .ok (.getfield 16, 3) := by decide +kernel
theorem dX8_worth_8 : decode cX8_worth 8 = .ok (.iconst 1, 1) := by decide +kernel
theorem dX8_worth_9 : decode cX8_worth 9 = .ok (.iadd, 1) := by decide +kernel
theorem dX8_worth_10 : decode cX8_worth 10 = .ok (.imul, 1) := by decide +kernel
theorem dX8_worth_11 : decode cX8_worth 11 = .ok (.ireturn, 1) := by decide +kernel
theorem dX8_fail_0 : decode cX8_fail 0 = .ok (.aload_n 0, 1) := by decide +kernel
theorem dX8_fail_1 : decode cX8_fail 1 = .ok (.getfield 16, 3) := by decide +kernel
theorem dX8_fail_4 : decode cX8_fail 4 = .ok (.ifCond .eq 13, 3) := by decide +kernel
theorem dX8_fail_7 : decode cX8_fail 7 = .ok (.new 25, 3) := by decide +kernel
theorem dX8_fail_10 : decode cX8_fail 10 = .ok (.dup, 1) := by decide +kernel
theorem dX8_fail_11 : decode cX8_fail 11 = .ok (.ldc 27, 2) := by decide +kernel
theorem dX8_fail_13 : decode cX8_fail 13 = .ok (.invokespecial 29, 3) := by decide +kernel
theorem dX8_fail_16 : decode cX8_fail 16 = .ok (.athrow, 1) := by decide +kernel
theorem dX8_fail_17 : decode cX8_fail 17 = .ok (.return_, 1) := by decide +kernel
theorem dX9_init_0 : decode cX9_init 0 = .ok (.aload_n 0, 1) := by decide +kernel
theorem dX9_init_1 : decode cX9_init 1 = .ok (.iload_n 1, 1) := by decide +kernel
theorem dX9_init_2 : decode cX9_init 2 = .ok (.invokespecial 3, 3) := by decide +kernel
theorem dX9_init_5 : decode cX9_init 5 = .ok (.return_, 1) := by decide +kernel
theorem dX9_kind_0 : decode cX9_kind 0 = .ok (.iconst 3, 1) := by decide +kernel
theorem dX9_kind_1 : decode cX9_kind 1 = .ok (.ireturn, 1) := by decide +kernel
theorem dX9_slow_0 : decode cX9_slow 0 = .ok (.aload_n 0, 1) := by decide +kernel
theorem dX9_slow_1 : decode cX9_slow 1 = .ok (.invokespecial 9, 3) := by decide +kernel
theorem dX9_slow_4 : decode cX9_slow 4 = .ok (.iconst 2, 1) := by decide +kernel
theorem dX9_slow_5 : decode cX9_slow 5 = .ok (.idiv, 1) := by decide +kernel
theorem dX9_slow_6 : decode cX9_slow 6 = .ok (.ireturn, 1) := by decide +kernel
theorem dX9_loss_0 : decode cX9_loss 0 = .ok (.iconst 0, 1) := by decide +kernel
theorem dX9_loss_1 : decode cX9_loss 1 = .ok (.aload_n 0, 1) := by decide +kernel
theorem dX9_loss_2 : decode cX9_loss 2 = .ok (.invokespecial 13, 3) := by decide +kernel
theorem dX9_loss_5 : decode cX9_loss 5 = .ok (.aload_n 0, 1) := by decide +kernel
theorem dX9_loss_6 : decode cX9_loss 6 = .ok (.getfield 16, 3) := by decide +kernel
theorem dX9_loss_9 : decode cX9_loss 9 = .ok (.isub, 1) := by decide +kernel
theorem dX9_loss_10 : decode cX9_loss 10 = .ok (.invokestatic 22, 3) := by decide +kernel
theorem dX9_loss_13 : decode cX9_loss 13 = .ok (.ireturn, 1) := by decide +kernel
theorem dX9_toil_0 : decode cX9_toil 0 = .ok (.aload_n 0, 1) := by decide +kernel
theorem dX9_toil_1 : decode cX9_toil 1 = .ok (.invokespecial 28, 3) := by decide +kernel
theorem dX9_toil_4 : decode cX9_toil 4 = .ok (.aload_n 0, 1) := by decide +kernel
theorem dX9_toil_5 : decode cX9_toil 5 = .ok (.getfield 16, 3) := by decide +kernel
theorem dX9_toil_8 : decode cX9_toil 8 = .ok (.iconst 1, 1) := by decide +kernel
theorem dX9_toil_9 : decode cX9_toil 9 = .ok (.iadd, 1) := by decide +kernel
theorem dX9_toil_10 : decode cX9_toil 10 = .ok (.imul, 1) := by decide +kernel
theorem dX9_toil_11 : decode cX9_toil 11 = .ok (.ireturn, 1) := by decide +kernel
theorem dX9_worth_0 : decode cX9_worth 0 = .ok (.aload_n 0, 1) := by decide +kernel
theorem dX9_worth_1 : decode cX9_worth 1 = .ok (.invokespecial 31, 3) := by decide +kernel
theorem dX9_worth_4 : decode cX9_worth 4 = .ok (.iconst 2, 1) := by decide +kernel
theorem dX9_worth_5 : decode cX9_worth 5 = .ok (.imul, 1) := by decide +kernel
theorem dX9_worth_6 : decode cX9_worth 6 = .ok (.ireturn, 1) := by decide +kernel
theorem dX9_fail_0 : decode cX9_fail 0 = .ok (.aload_n 0, 1) := by decide +kernel
theorem dX9_fail_1 : decode cX9_fail 1 = .ok (.getfield 16, 3) := by decide +kernel
theorem dX9_fail_4 : decode cX9_fail 4 = .ok (.ifCond .eq 13, 3) := by decide +kernel
theorem dX9_fail_7 : decode cX9_fail 7 = .ok (.new 34, 3) := by decide +kernel
theorem dX9_fail_10 : decode cX9_fail 10 = .ok (.dup, 1) := by decide +kernel
theorem dX9_fail_11 : decode cX9_fail 11 = .ok (.ldc 36, 2) := by decide +kernel
theorem dX9_fail_13 : decode cX9_fail 13 = .ok (.invokespecial 38, 3) := by decide +kernel
theorem dX9_fail_16 : decode cX9_fail 16 = .ok (.athrow, 1) := by decide +kernel
theorem dX9_fail_17 : decode cX9_fail 17 = .ok (.return_, 1) := by decide +kernel
theorem dX10_init_0 : decode cX10_init 0 = .ok (.aload_n 0, 1) := by decide +kernel
theorem dX10_init_1 : decode cX10_init 1 = .ok (.invokespecial 3, 3) := by decide +kernel
theorem dX10_init_4 : decode cX10_init 4 = .ok (.aload_n 0, 1) := by decide +kernel
theorem dX10_init_5 : decode cX10_init 5 = .ok (.bipush 20, 2) := by decide +kernel
theorem dX10_init_7 : decode cX10_init 7 = .ok (.newarray .int, 2) := by decide +kernel
theorem dX10_init_9 : decode cX10_init 9 = .ok (.putfield 9, 3) := by decide +kernel
theorem dX10_init_12 : decode cX10_init 12 = .ok (.aload_n 0, 1) := by decide +kernel
theorem dX10_init_13 : decode cX10_init 13 = .ok (.bipush 20, 2) := by decide +kernel
theorem dX10_init_15 : decode cX10_init 15 = .ok (.newarray .int, 2) := by decide +kernel
theorem dX10_init_17 : decode cX10_init 17 = .ok (.putfield 15, 3) := by decide +kernel
theorem dX10_init_20 : decode cX10_init 20 = .ok (.aload_n 0, 1) := by decide +kernel
theorem dX10_init_21 : decode cX10_init 21 = .ok (.bipush 20, 2) := by decide +kernel
theorem dX10_init_23 : decode cX10_init 23 = .ok (.newarray .int, 2) := by decide +kernel
theorem dX10_init_25 : decode cX10_init 25 = .ok (.putfield 18, 3) := by decide +kernel
theorem dX10_init_28 : decode cX10_init 28 = .ok (.aload_n 0, 1) := by decide +kernel
theorem dX10_init_29 : decode cX10_init 29 = .ok (.bipush 20, 2) := by decide +kernel
theorem dX10_init_31 : decode cX10_init 31 = .ok (.newarray .int, 2) := by decide +kernel
theorem dX10_init_33 : decode cX10_init 33 = .ok (.putfield 21, 3) := by decide +kernel
theorem dX10_init_36 : decode cX10_init 36 = .ok (.aload_n 0, 1) := by decide +kernel
theorem dX10_init_37 : decode cX10_init 37 = .ok (.bipush 20, 2) := by decide +kernel
theorem dX10_init_39 : decode cX10_init 39 = .ok (.newarray .int, 2) := by decide +kernel
theorem dX10_init_41 : decode cX10_init 41 = .ok (.putfield 24, 3) := by decide +kernel
theorem dX10_init_44 : decode cX10_init 44 = .ok (.aload_n 0, 1) := by decide +kernel
theorem dX10_init_45 : decode cX10_init 45 = .ok (.bipush 20, 2) := by decide +kernel
theorem dX10_init_47 : decode cX10_init 47 = .ok (.newarray .boolean, 2) := by decide +kernel
theorem dX10_init_49 : decode cX10_init 49 = .ok (.putfield 27, 3) := by decide +kernel
theorem dX10_init_52 : decode cX10_init 52 = .ok (.return_, 1) := by decide +kernel
theorem dX10_byKnocks_0 : decode cX10_byKnocks 0 = .ok (.iconst 0, 1) := by decide +kernel
theorem dX10_byKnocks_1 : decode cX10_byKnocks 1 = .ok (.istore_n 2, 1) := by decide +kernel
theorem dX10_byKnocks_2 : decode cX10_byKnocks 2 = .ok (.iload_n 2, 1) := by decide +kernel
theorem dX10_byKnocks_3 : decode cX10_byKnocks 3 = .ok (.bipush 20, 2) := by decide +kernel
theorem dX10_byKnocks_5 : decode cX10_byKnocks 5 = .ok (.if_icmp .ge 39, 3) := by decide +kernel
theorem dX10_byKnocks_8 : decode cX10_byKnocks 8 = .ok (.aload_n 0, 1) := by decide +kernel
theorem dX10_byKnocks_9 : decode cX10_byKnocks 9 = .ok (.getfield 9, 3) := by decide +kernel
theorem dX10_byKnocks_12 : decode cX10_byKnocks 12 = .ok (.iload_n 2, 1) := by decide +kernel
theorem dX10_byKnocks_13 : decode cX10_byKnocks 13 = .ok (.aload_n 1, 1) := by decide +kernel
theorem dX10_byKnocks_14 : decode cX10_byKnocks 14 = .ok (.getfield 31, 3) := by decide +kernel
theorem dX10_byKnocks_17 : decode cX10_byKnocks 17 = .ok (.iload_n 2, 1) := by decide +kernel
theorem dX10_byKnocks_18 : decode cX10_byKnocks 18 = .ok (.aaload, 1) := by decide +kernel
theorem dX10_byKnocks_19 : decode cX10_byKnocks 19 = .ok (.invokevirtual 37, 3) := by decide +kernel
theorem dX10_byKnocks_22 : decode cX10_byKnocks 22 = .ok (.iastore, 1) := by decide +kernel
theorem dX10_byKnocks_23 : decode cX10_byKnocks 23 = .ok (.aload_n 0, 1) := by decide +kernel
theorem dX10_byKnocks_24 : decode cX10_byKnocks 24 = .ok (.getfield 24, 3) := by decide +kernel
theorem dX10_byKnocks_27 : decode cX10_byKnocks 27 = .ok (.iload_n 2, 1) := by decide +kernel
theorem dX10_byKnocks_28 : decode cX10_byKnocks 28 = .ok (.aload_n 1, 1) := by decide +kernel
theorem dX10_byKnocks_29 : decode cX10_byKnocks 29 = .ok (.getfield 31, 3) := by decide +kernel
theorem dX10_byKnocks_32 : decode cX10_byKnocks 32 = .ok (.iload_n 2, 1) := by decide +kernel
theorem dX10_byKnocks_33 : decode cX10_byKnocks 33 = .ok (.aaload, 1) := by decide +kernel
theorem dX10_byKnocks_34 : decode cX10_byKnocks 34 = .ok (.invokevirtual 43, 3) := by decide +kernel
theorem dX10_byKnocks_37 : decode cX10_byKnocks 37 = .ok (.iastore, 1) := by decide +kernel
theorem dX10_byKnocks_38 : decode cX10_byKnocks 38 = .ok (.iinc 2 1, 3) := by decide +kernel
theorem dX10_byKnocks_41 : decode cX10_byKnocks 41 = .ok (.goto (-39), 3) := by decide +kernel
theorem dX10_byKnocks_44 : decode cX10_byKnocks 44 = .ok (.return_, 1) := by decide +kernel
theorem dX10_byToil_0 : decode cX10_byToil 0 = .ok (.iconst 0, 1) := by decide +kernel
theorem dX10_byToil_1 : decode cX10_byToil 1 = .ok (.istore_n 2, 1) := by decide +kernel
theorem dX10_byToil_2 : decode cX10_byToil 2 = .ok (.iload_n 2, 1) := by decide +kernel
theorem dX10_byToil_3 : decode cX10_byToil 3 = .ok (.bipush 20, 2) := by decide +kernel
theorem dX10_byToil_5 : decode cX10_byToil 5 = .ok (.if_icmp .ge 31, 3) := by decide +kernel
theorem dX10_byToil_8 : decode cX10_byToil 8 = .ok (.aload_n 0, 1) := by decide +kernel
theorem dX10_byToil_9 : decode cX10_byToil 9 = .ok (.getfield 9, 3) := by decide +kernel
theorem dX10_byToil_12 : decode cX10_byToil 12 = .ok (.iload_n 2, 1) := by decide +kernel
theorem dX10_byToil_13 : decode cX10_byToil 13 = .ok (.aload_n 1, 1) := by decide +kernel
theorem dX10_byToil_14 : decode cX10_byToil 14 = .ok (.getfield 31, 3) := by decide +kernel
theorem dX10_byToil_17 : decode cX10_byToil 17 = .ok (.iload_n 2, 1) := by decide +kernel
theorem dX10_byToil_18 : decode cX10_byToil 18 = .ok (.aaload, 1) := by decide +kernel
theorem dX10_byToil_19 : decode cX10_byToil 19 = .ok (.invokevirtual 45, 3) := by decide +kernel
theorem dX10_byToil_22 : decode cX10_byToil 22 = .ok (.iastore, 1) := by decide +kernel
theorem dX10_byToil_23 : decode cX10_byToil 23 = .ok (.aload_n 0, 1) := by decide +kernel
theorem dX10_byToil_24 : decode cX10_byToil 24 = .ok (.getfield 24, 3) := by decide +kernel
theorem dX10_byToil_27 : decode cX10_byToil 27 = .ok (.iload_n 2, 1) := by decide +kernel
theorem dX10_byToil_28 : decode cX10_byToil 28 = .ok (.iconst 0, 1) := by decide +kernel
theorem dX10_byToil_29 : decode cX10_byToil 29 = .ok (.iastore, 1) := by decide +kernel
theorem dX10_byToil_30 : decode cX10_byToil 30 = .ok (.iinc 2 1, 3) := by decide +kernel
theorem dX10_byToil_33 : decode cX10_byToil 33 = .ok (.goto (-31), 3) := by decide +kernel
theorem dX10_byToil_36 : decode cX10_byToil 36 = .ok (.return_, 1) := by decide +kernel
theorem dX10_spread_0 : decode cX10_spread 0 = .ok (.iconst 0, 1) := by decide +kernel
theorem dX10_spread_1 : decode cX10_spread 1 = .ok (.istore_n 2, 1) := by decide +kernel
theorem dX10_spread_2 : decode cX10_spread 2 = .ok (.iload_n 2, 1) := by decide +kernel
theorem dX10_spread_3 : decode cX10_spread 3 = .ok (.bipush 20, 2) := by decide +kernel
theorem dX10_spread_5 : decode cX10_spread 5 = .ok (.if_icmp .ge 24, 3) := by decide +kernel
theorem dX10_spread_8 : decode cX10_spread 8 = .ok (.aload_n 0, 1) := by decide +kernel
theorem dX10_spread_9 : decode cX10_spread 9 = .ok (.getfield 15, 3) := by decide +kernel
theorem dX10_spread_12 : decode cX10_spread 12 = .ok (.iload_n 2, 1) := by decide +kernel
theorem dX10_spread_13 : decode cX10_spread 13 = .ok (.ldc 48, 2) := by decide +kernel
theorem dX10_spread_15 : decode cX10_spread 15 = .ok (.iastore, 1) := by decide +kernel
theorem dX10_spread_16 : decode cX10_spread 16 = .ok (.aload_n 0, 1) := by decide +kernel
theorem dX10_spread_17 : decode cX10_spread 17 = .ok (.getfield 27, 3) := by decide +kernel
theorem dX10_spread_20 : decode cX10_spread 20 = .ok (.iload_n 2, 1) := by decide +kernel
theorem dX10_spread_21 : decode cX10_spread 21 = .ok (.iconst 0, 1) := by decide +kernel
theorem dX10_spread_22 : decode cX10_spread 22 = .ok (.bastore, 1) := by decide +kernel
theorem dX10_spread_23 : decode cX10_spread 23 = .ok (.iinc 2 1, 3) := by decide +kernel
theorem dX10_spread_26 : decode cX10_spread 26 = .ok (.goto (-24), 3) := by decide +kernel
theorem dX10_spread_29 : decode cX10_spread 29 = .ok (.aload_n 0, 1) := by decide +kernel
theorem dX10_spread_30 : decode cX10_spread 30 = .ok (.getfield 15, 3) := by decide +kernel
theorem dX10_spread_33 : decode cX10_spread 33 = .ok (.iload_n 1, 1) := by decide +kernel
theorem dX10_spread_34 : decode cX10_spread 34 = .ok (.iconst 0, 1) := by decide +kernel
theorem dX10_spread_35 : decode cX10_spread 35 = .ok (.iastore, 1) := by decide +kernel
theorem dX10_spread_36 : decode cX10_spread 36 = .ok (.aload_n 0, 1) := by decide +kernel
theorem dX10_spread_37 : decode cX10_spread 37 = .ok (.getfield 18, 3) := by decide +kernel
theorem dX10_spread_40 : decode cX10_spread 40 = .ok (.iload_n 1, 1) := by decide +kernel
theorem dX10_spread_41 : decode cX10_spread 41 = .ok (.iconst 0, 1) := by decide +kernel
theorem dX10_spread_42 : decode cX10_spread 42 = .ok (.iastore, 1) := by decide +kernel
theorem dX10_spread_43 : decode cX10_spread 43 = .ok (.aload_n 0, 1) := by decide +kernel
theorem dX10_spread_44 : decode cX10_spread 44 = .ok (.getfield 21, 3) := by decide +kernel
theorem dX10_spread_47 : decode cX10_spread 47 = .ok (.iload_n 1, 1) := by decide +kernel
theorem dX10_spread_48 : decode cX10_spread 48 = .ok (.iconst 1, 1) := by decide +kernel
theorem dX10_spread_49 : decode cX10_spread 49 = .ok (.iastore, 1) := by decide +kernel
theorem dX10_spread_50 : decode cX10_spread 50 = .ok (.iconst 0, 1) := by decide +kernel
theorem dX10_spread_51 : decode cX10_spread 51 = .ok (.istore_n 2, 1) := by decide +kernel
theorem dX10_spread_52 : decode cX10_spread 52 = .ok (.iload_n 2, 1) := by decide +kernel
theorem dX10_spread_53 : decode cX10_spread 53 = .ok (.bipush 20, 2) := by decide +kernel
theorem dX10_spread_55 : decode cX10_spread 55 = .ok (.if_icmp .ge 47, 3) := by decide +kernel
theorem dX10_spread_58 : decode cX10_spread 58 = .ok (.aload_n 0, 1) := by decide +kernel
theorem dX10_spread_59 : decode cX10_spread 59 = .ok (.invokevirtual 49, 3) := by decide +kernel
theorem dX10_spread_62 : decode cX10_spread 62 = .ok (.istore_n 3, 1) := by decide +kernel
theorem dX10_spread_63 : decode cX10_spread 63 = .ok (.aload_n 0, 1) := by decide +kernel
theorem dX10_spread_64 : decode cX10_spread 64 = .ok (.getfield 27, 3) := by decide +kernel
theorem dX10_spread_67 : decode cX10_spread 67 = .ok (.iload_n 3, 1) := by decide +kernel
theorem dX10_spread_68 : decode cX10_spread 68 = .ok (.iconst 1, 1) := by decide +kernel
theorem dX10_spread_69 : decode cX10_spread 69 = .ok (.bastore, 1) := by decide +kernel
theorem dX10_spread_70 : decode cX10_spread 70 = .ok (.iconst 0, 1) := by decide +kernel
theorem dX10_spread_71 : decode cX10_spread 71 = .ok (.istore 4, 2) := by decide +kernel
theorem dX10_spread_73 : decode cX10_spread 73 = .ok (.iload 4, 2) := by decide +kernel
theorem dX10_spread_75 : decode cX10_spread 75 = .ok (.iconst 4, 1) := by decide +kernel
theorem dX10_spread_76 : decode cX10_spread 76 = .ok (.if_icmp .ge 20, 3) := by decide +kernel
theorem dX10_spread_79 : decode cX10_spread 79 = .ok (.aload_n 0, 1) := by decide +kernel
theorem dX10_spread_80 : decode cX10_spread 80 = .ok (.iload_n 3, 1) := by decide +kernel
theorem dX10_spread_81 : decode cX10_spread 81 = .ok (.iload 4, 2) := by decide +kernel
theorem dX10_spread_83 : decode cX10_spread 83 = .ok (.invokestatic 52, 3) := by decide +kernel
theorem dX10_spread_86 : decode cX10_spread 86 = .ok (.iload_n 3, 1) := by decide +kernel
theorem dX10_spread_87 : decode cX10_spread 87 = .ok (.invokevirtual 56, 3) := by decide +kernel
theorem dX10_spread_90 : decode cX10_spread 90 = .ok (.iinc 4 1, 3) := by decide +kernel
theorem dX10_spread_93 : decode cX10_spread 93 = .ok (.goto (-20), 3) := by decide +kernel
theorem dX10_spread_96 : decode cX10_spread 96 = .ok (.iinc 2 1, 3) := by decide +kernel
theorem dX10_spread_99 : decode cX10_spread 99 = .ok (.goto (-47), 3) := by decide +kernel
theorem dX10_spread_102 : decode cX10_spread 102 = .ok (.return_, 1) := by decide +kernel
theorem dX10_nearest_0 : decode cX10_nearest 0 = .ok (.iconst 0, 1) := by decide +kernel
theorem dX10_nearest_1 : decode cX10_nearest 1 = .ok (.istore_n 1, 1) := by decide +kernel
theorem dX10_nearest_2 : decode cX10_nearest 2 = .ok (.ldc 60, 2) := by decide +kernel
theorem dX10_nearest_4 : decode cX10_nearest 4 = .ok (.istore_n 2, 1) := by decide +kernel
theorem dX10_nearest_5 : decode cX10_nearest 5 = .ok (.iconst 0, 1) := by decide +kernel
theorem dX10_nearest_6 : decode cX10_nearest 6 = .ok (.istore_n 3, 1) := by decide +kernel
theorem dX10_nearest_7 : decode cX10_nearest 7 = .ok (.iload_n 3, 1) := by decide +kernel
theorem dX10_nearest_8 : decode cX10_nearest 8 = .ok (.bipush 20, 2) := by decide +kernel
theorem dX10_nearest_10 : decode cX10_nearest 10 = .ok (.if_icmp .ge 37, 3) := by decide +kernel
theorem dX10_nearest_13 : decode cX10_nearest 13 = .ok (.aload_n 0, 1) := by decide +kernel
theorem dX10_nearest_14 : decode cX10_nearest 14 = .ok (.getfield 27, 3) := by decide +kernel
theorem dX10_nearest_17 : decode cX10_nearest 17 = .ok (.iload_n 3, 1) := by decide +kernel
theorem dX10_nearest_18 : decode cX10_nearest 18 = .ok (.baload, 1) := by decide +kernel
theorem dX10_nearest_19 : decode cX10_nearest 19 = .ok (.ifCond .ne 22, 3) := by decide +kernel
theorem dX10_nearest_22 : decode cX10_nearest 22 = .ok (.aload_n 0, 1) := by decide +kernel
theorem dX10_nearest_23 : decode cX10_nearest 23 = .ok (.getfield 15, 3) := by decide +kernel
theorem dX10_nearest_26 : decode cX10_nearest 26 = .ok (.iload_n 3, 1) := by decide +kernel
theorem dX10_nearest_27 : decode cX10_nearest 27 = .ok (.iaload, 1) := by decide +kernel
theorem dX10_nearest_28 : decode cX10_nearest 28 = .ok (.iload_n 2, 1) := by decide +kernel
theorem dX10_nearest_29 : decode cX10_nearest 29 = .ok (.if_icmp .ge 12, 3) := by decide +kernel
theorem dX10_nearest_32 : decode cX10_nearest 32 = .ok (.iload_n 3, 1) := by decide +kernel
theorem dX10_nearest_33 : decode cX10_nearest 33 = .ok (.istore_n 1, 1) := by decide +kernel
theorem dX10_nearest_34 : decode cX10_nearest 34 = .ok (.aload_n 0, 1) := by decide +kernel
theorem dX10_nearest_35 : decode cX10_nearest 35 = .ok (.getfield 15, 3) := by decide +kernel
theorem dX10_nearest_38 : decode cX10_nearest 38 = .ok (.iload_n 3, 1) := by decide +kernel
theorem dX10_nearest_39 : decode cX10_nearest 39 = .ok (.iaload, 1) := by decide +kernel
theorem dX10_nearest_40 : decode cX10_nearest 40 = .ok (.istore_n 2, 1) := by decide +kernel
theorem dX10_nearest_41 : decode cX10_nearest 41 = .ok (.iinc 3 1, 3) := by decide +kernel
theorem dX10_nearest_44 : decode cX10_nearest 44 = .ok (.goto (-37), 3) := by decide +kernel
theorem dX10_nearest_47 : decode cX10_nearest 47 = .ok (.iload_n 1, 1) := by decide +kernel
theorem dX10_nearest_48 : decode cX10_nearest 48 = .ok (.ireturn, 1) := by decide +kernel
theorem dX10_enter_0 : decode cX10_enter 0 = .ok (.iload_n 1, 1) := by decide +kernel
theorem dX10_enter_1 : decode cX10_enter 1 = .ok (.iconst (-1), 1) := by decide +kernel
theorem dX10_enter_2 : decode cX10_enter 2 = .ok (.if_icmp .eq 12, 3) := by decide +kernel
theorem dX10_enter_5 : decode cX10_enter 5 = .ok (.aload_n 0, 1) := by decide +kernel
theorem dX10_enter_6 : decode cX10_enter 6 = .ok (.getfield 27, 3) := by decide +kernel
theorem dX10_enter_9 : decode cX10_enter 9 = .ok (.iload_n 1, 1) := by decide +kernel
theorem dX10_enter_10 : decode cX10_enter 10 = .ok (.baload, 1) := by decide +kernel
theorem dX10_enter_11 : decode cX10_enter 11 = .ok (.ifCond .eq 4, 3) := by decide +kernel
theorem dX10_enter_14 : decode cX10_enter 14 = .ok (.return_, 1) := by decide +kernel
theorem dX10_enter_15 : decode cX10_enter 15 = .ok (.aload_n 0, 1) := by decide +kernel
theorem dX10_enter_16 : decode cX10_enter 16 = .ok (.getfield 15, 3) := by decide +kernel
theorem dX10_enter_19 : decode cX10_enter 19 = .ok (.iload_n 2, 1) := by decide +kernel
theorem dX10_enter_20 : decode cX10_enter 20 = .ok (.iaload, 1) := by decide +kernel
theorem dX10_enter_21 : decode cX10_enter 21 = .ok (.aload_n 0, 1) := by decide +kernel
theorem dX10_enter_22 : decode cX10_enter 22 = .ok (.getfield 9, 3) := by decide +kernel
theorem dX10_enter_25 : decode cX10_enter 25 = .ok (.iload_n 1, 1) := by decide +kernel
theorem dX10_enter_26 : decode cX10_enter 26 = .ok (.iaload, 1) := by decide +kernel
theorem dX10_enter_27 : decode cX10_enter 27 = .ok (.iadd, 1) := by decide +kernel
theorem dX10_enter_28 : decode cX10_enter 28 = .ok (.istore_n 3, 1) := by decide +kernel
theorem dX10_enter_29 : decode cX10_enter 29 = .ok (.aload_n 0, 1) := by decide +kernel
theorem dX10_enter_30 : decode cX10_enter 30 = .ok (.getfield 18, 3) := by decide +kernel
theorem dX10_enter_33 : decode cX10_enter 33 = .ok (.iload_n 2, 1) := by decide +kernel
theorem dX10_enter_34 : decode cX10_enter 34 = .ok (.iaload, 1) := by decide +kernel
theorem dX10_enter_35 : decode cX10_enter 35 = .ok (.aload_n 0, 1) := by decide +kernel
theorem dX10_enter_36 : decode cX10_enter 36 = .ok (.getfield 24, 3) := by decide +kernel
theorem dX10_enter_39 : decode cX10_enter 39 = .ok (.iload_n 1, 1) := by decide +kernel
theorem dX10_enter_40 : decode cX10_enter 40 = .ok (.iaload, 1) := by decide +kernel
theorem dX10_enter_41 : decode cX10_enter 41 = .ok (.iadd, 1) := by decide +kernel
theorem dX10_enter_42 : decode cX10_enter 42 = .ok (.istore 4, 2) := by decide +kernel
theorem dX10_enter_44 : decode cX10_enter 44 = .ok (.iload_n 3, 1) := by decide +kernel
theorem dX10_enter_45 : decode cX10_enter 45 = .ok (.aload_n 0, 1) := by decide +kernel
theorem dX10_enter_46 : decode cX10_enter 46 = .ok (.getfield 15, 3) := by decide +kernel
theorem dX10_enter_49 : decode cX10_enter 49 = .ok (.iload_n 1, 1) := by decide +kernel
theorem dX10_enter_50 : decode cX10_enter 50 = .ok (.iaload, 1) := by decide +kernel
theorem dX10_enter_51 : decode cX10_enter 51 = .ok (.if_icmp .ge 33, 3) := by decide +kernel
theorem dX10_enter_54 : decode cX10_enter 54 = .ok (.aload_n 0, 1) := by decide +kernel
theorem dX10_enter_55 : decode cX10_enter 55 = .ok (.getfield 15, 3) := by decide +kernel
theorem dX10_enter_58 : decode cX10_enter 58 = .ok (.iload_n 1, 1) := by decide +kernel
theorem dX10_enter_59 : decode cX10_enter 59 = .ok (.iload_n 3, 1) := by decide +kernel
theorem dX10_enter_60 : decode cX10_enter 60 = .ok (.iastore, 1) := by decide +kernel
theorem dX10_enter_61 : decode cX10_enter 61 = .ok (.aload_n 0, 1) := by decide +kernel
theorem dX10_enter_62 : decode cX10_enter 62 = .ok (.getfield 18, 3) := by decide +kernel
theorem dX10_enter_65 : decode cX10_enter 65 = .ok (.iload_n 1, 1) := by decide +kernel
theorem dX10_enter_66 : decode cX10_enter 66 = .ok (.iload 4, 2) := by decide +kernel
theorem dX10_enter_68 : decode cX10_enter 68 = .ok (.iastore, 1) := by decide +kernel
theorem dX10_enter_69 : decode cX10_enter 69 = .ok (.aload_n 0, 1) := by decide +kernel
theorem dX10_enter_70 : decode cX10_enter 70 = .ok (.getfield 21, 3) := by decide +kernel
theorem dX10_enter_73 : decode cX10_enter 73 = .ok (.iload_n 1, 1) := by decide +kernel
theorem dX10_enter_74 : decode cX10_enter 74 = .ok (.aload_n 0, 1) := by decide +kernel
theorem dX10_enter_75 : decode cX10_enter 75 = .ok (.getfield 21, 3) := by decide +kernel
theorem dX10_enter_78 : decode cX10_enter 78 = .ok (.iload_n 2, 1) := by decide +kernel
theorem dX10_enter_79 : decode cX10_enter 79 = .ok (.iaload, 1) := by decide +kernel
theorem dX10_enter_80 : decode cX10_enter 80 = .ok (.iastore, 1) := by decide +kernel
theorem dX10_enter_81 : decode cX10_enter 81 = .ok (.goto 45, 3) := by decide +kernel
theorem dX10_enter_84 : decode cX10_enter 84 = .ok (.iload_n 3, 1) := by decide +kernel
theorem dX10_enter_85 : decode cX10_enter 85 = .ok (.aload_n 0, 1) := by decide +kernel
theorem dX10_enter_86 : decode cX10_enter 86 = .ok (.getfield 15, 3) := by decide +kernel
theorem dX10_enter_89 : decode cX10_enter 89 = .ok (.iload_n 1, 1) := by decide +kernel
theorem dX10_enter_90 : decode cX10_enter 90 = .ok (.iaload, 1) := by decide +kernel
theorem dX10_enter_91 : decode cX10_enter 91 = .ok (.if_icmp .ne 35, 3) := by decide +kernel
theorem dX10_enter_94 : decode cX10_enter 94 = .ok (.aload_n 0, 1) := by decide +kernel
theorem dX10_enter_95 : decode cX10_enter 95 = .ok (.getfield 18, 3) := by decide +kernel
theorem dX10_enter_98 : decode cX10_enter 98 = .ok (.iload_n 1, 1) := by decide +kernel
theorem dX10_enter_99 : decode cX10_enter 99 = .ok (.aload_n 0, 1) := by decide +kernel
theorem dX10_enter_100 : decode cX10_enter 100 = .ok (.getfield 18, 3) := by decide +kernel
theorem dX10_enter_103 : decode cX10_enter 103 = .ok (.iload_n 1, 1) := by decide +kernel
theorem dX10_enter_104 : decode cX10_enter 104 = .ok (.iaload, 1) := by decide +kernel
theorem dX10_enter_105 : decode cX10_enter 105 = .ok (.iload 4, 2) := by decide +kernel
theorem dX10_enter_107 : decode cX10_enter 107 = .ok (.invokestatic 61, 3) := by decide +kernel
theorem dX10_enter_110 : decode cX10_enter 110 = .ok (.iastore, 1) := by decide +kernel
theorem dX10_enter_111 : decode cX10_enter 111 = .ok (.aload_n 0, 1) := by decide +kernel
theorem dX10_enter_112 : decode cX10_enter 112 = .ok (.getfield 21, 3) := by decide +kernel
theorem dX10_enter_115 : decode cX10_enter 115 = .ok (.iload_n 1, 1) := by decide +kernel
theorem dX10_enter_116 : decode cX10_enter 116 = .ok (.dup2, 1) := by decide +kernel
theorem dX10_enter_117 : decode cX10_enter 117 = .ok (.iaload, 1) := by decide +kernel
theorem dX10_enter_118 : decode cX10_enter 118 = .ok (.aload_n 0, 1) := by decide +kernel
theorem dX10_enter_119 : decode cX10_enter 119 = .ok (.getfield 21, 3) := by decide +kernel
theorem dX10_enter_122 : decode cX10_enter 122 = .ok (.iload_n 2, 1) := by decide +kernel
theorem dX10_enter_123 : decode cX10_enter 123 = .ok (.iaload, 1) := by decide +kernel
theorem dX10_enter_124 : decode cX10_enter 124 = .ok (.iadd, 1) := by decide +kernel
theorem dX10_enter_125 : decode cX10_enter 125 = .ok (.iastore, 1) := by decide +kernel
theorem dX10_enter_126 : decode cX10_enter 126 = .ok (.return_, 1) := by decide +kernel
theorem dX11_init_0 : decode cX11_init 0 = .ok (.aload_n 0, 1) := by decide +kernel
theorem dX11_init_1 : decode cX11_init 1 = .ok (.invokespecial 3, 3) := by decide +kernel
theorem dX11_init_4 : decode cX11_init 4 = .ok (.aload_n 0, 1) := by decide +kernel
theorem dX11_init_5 : decode cX11_init 5 = .ok (.new 9, 3) := by decide +kernel
theorem dX11_init_8 : decode cX11_init 8 = .ok (.dup, 1) := by decide +kernel
theorem dX11_init_9 : decode cX11_init 9 = .ok (.invokespecial 11, 3) := by decide +kernel
theorem dX11_init_12 : decode cX11_init 12 = .ok (.putfield 12, 3) := by decide +kernel
theorem dX11_init_15 : decode cX11_init 15 = .ok (.aload_n 0, 1) := by decide +kernel
theorem dX11_init_16 : decode cX11_init 16 = .ok (.new 9, 3) := by decide +kernel
theorem dX11_init_19 : decode cX11_init 19 = .ok (.dup, 1) := by decide +kernel
theorem dX11_init_20 : decode cX11_init 20 = .ok (.invokespecial 11, 3) := by decide +kernel
theorem dX11_init_23 : decode cX11_init 23 = .ok (.putfield 16, 3) := by decide +kernel
theorem dX11_init_26 : decode cX11_init 26 = .ok (.aload_n 0, 1) := by decide +kernel
theorem dX11_init_27 : decode cX11_init 27 = .ok (.new 9, 3) := by decide +kernel
theorem dX11_init_30 : decode cX11_init 30 = .ok (.dup, 1) := by decide +kernel
theorem dX11_init_31 : decode cX11_init 31 = .ok (.invokespecial 11, 3) := by decide +kernel
theorem dX11_init_34 : decode cX11_init 34 = .ok (.putfield 19, 3) := by decide +kernel
theorem dX11_init_37 : decode cX11_init 37 = .ok (.aload_n 0, 1) := by decide +kernel
theorem dX11_init_38 : decode cX11_init 38 = .ok (.iconst 0, 1) := by decide +kernel
theorem dX11_init_39 : decode cX11_init 39 = .ok (.putfield 22, 3) := by decide +kernel
theorem dX11_init_42 : decode cX11_init 42 = .ok (.aload_n 0, 1) := by decide +kernel
theorem dX11_init_43 : decode cX11_init 43 = .ok (.bipush 8, 2) := by decide +kernel
theorem dX11_init_45 : decode cX11_init 45 = .ok (.anewarray 26, 3) := by decide +kernel
theorem dX11_init_48 : decode cX11_init 48 = .ok (.putfield 28, 3) := by decide +kernel
theorem dX11_init_51 : decode cX11_init 51 = .ok (.aload_n 0, 1) := by decide +kernel
theorem dX11_init_52 : decode cX11_init 52 = .ok (.new 32, 3) := by decide +kernel
theorem dX11_init_55 : decode cX11_init 55 = .ok (.dup, 1) := by decide +kernel
theorem dX11_init_56 : decode cX11_init 56 = .ok (.invokespecial 34, 3) := by decide +kernel
theorem dX11_init_59 : decode cX11_init 59 = .ok (.putfield 35, 3) := by decide +kernel
theorem dX11_init_62 : decode cX11_init 62 = .ok (.aload_n 0, 1) := by decide +kernel
theorem dX11_init_63 : decode cX11_init 63 = .ok (.new 32, 3) := by decide +kernel
theorem dX11_init_66 : decode cX11_init 66 = .ok (.dup, 1) := by decide +kernel
theorem dX11_init_67 : decode cX11_init 67 = .ok (.invokespecial 34, 3) := by decide +kernel
theorem dX11_init_70 : decode cX11_init 70 = .ok (.putfield 39, 3) := by decide +kernel
theorem dX11_init_73 : decode cX11_init 73 = .ok (.aload_n 0, 1) := by decide +kernel
theorem dX11_init_74 : decode cX11_init 74 = .ok (.sipush 400, 3) := by decide +kernel
theorem dX11_init_77 : decode cX11_init 77 = .ok (.newarray .int, 2) := by decide +kernel
theorem dX11_init_79 : decode cX11_init 79 = .ok (.putfield 42, 3) := by decide +kernel
theorem dX11_init_82 : decode cX11_init 82 = .ok (.aload_n 0, 1) := by decide +kernel
theorem dX11_init_83 : decode cX11_init 83 = .ok (.bipush 8, 2) := by decide +kernel
theorem dX11_init_85 : decode cX11_init 85 = .ok (.newarray .int, 2) := by decide +kernel
theorem dX11_init_87 : decode cX11_init 87 = .ok (.putfield 46, 3) := by decide +kernel
theorem dX11_init_90 : decode cX11_init 90 = .ok (.iconst 0, 1) := by decide +kernel
theorem dX11_init_91 : decode cX11_init 91 = .ok (.istore_n 1, 1) := by decide +kernel
theorem dX11_init_92 : decode cX11_init 92 = .ok (.iload_n 1, 1) := by decide +kernel
theorem dX11_init_93 : decode cX11_init 93 = .ok (.bipush 8, 2) := by decide +kernel
theorem dX11_init_95 : decode cX11_init 95 = .ok (.if_icmp .ge 22, 3) := by decide +kernel
theorem dX11_init_98 : decode cX11_init 98 = .ok (.aload_n 0, 1) := by decide +kernel
theorem dX11_init_99 : decode cX11_init 99 = .ok (.getfield 28, 3) := by decide +kernel
theorem dX11_init_102 : decode cX11_init 102 = .ok (.iload_n 1, 1) := by decide +kernel
theorem dX11_init_103 : decode cX11_init 103 = .ok (.new 26, 3) := by decide +kernel
theorem dX11_init_106 : decode cX11_init 106 = .ok (.dup, 1) := by decide +kernel
theorem dX11_init_107 : decode cX11_init 107 = .ok (.invokespecial 49, 3) := by decide +kernel
theorem dX11_init_110 : decode cX11_init 110 = .ok (.aastore, 1) := by decide +kernel
theorem dX11_init_111 : decode cX11_init 111 = .ok (.iinc 1 1, 3) := by decide +kernel
theorem dX11_init_114 : decode cX11_init 114 = .ok (.goto (-22), 3) := by decide +kernel
theorem dX11_init_117 : decode cX11_init 117 = .ok (.return_, 1) := by decide +kernel
theorem dX11_mountain_0 : decode cX11_mountain 0 = .ok (.aload_n 0, 1) := by decide +kernel
theorem dX11_mountain_1 : decode cX11_mountain 1 = .ok (.iload_n 1, 1) := by decide +kernel
theorem dX11_mountain_2 : decode cX11_mountain 2 = .ok (.iconst 0, 1) := by decide +kernel
theorem dX11_mountain_3 : decode cX11_mountain 3 = .ok (.invokevirtual 50, 3) := by decide +kernel
theorem dX11_mountain_6 : decode cX11_mountain 6 = .ok (.astore_n 2, 1) := by decide +kernel
theorem dX11_mountain_7 : decode cX11_mountain 7 = .ok (.aload_n 2, 1) := by decide +kernel
theorem dX11_mountain_8 : decode cX11_mountain 8 = .ok (.ifnonnull 9, 3) := by decide +kernel
theorem dX11_mountain_11 : decode cX11_mountain 11 = .ok (.aload_n 0, 1) := by decide +kernel
theorem dX11_mountain_12 : decode cX11_mountain 12 = .ok (.iload_n 1, 1) := by decide +kernel
theorem dX11_mountain_13 : decode cX11_mountain 13 = .ok (.invokevirtual 54, 3) := by decide +kernel
theorem dX11_mountain_16 : decode cX11_mountain 16 = .ok (.ireturn, 1) := by decide +kernel
theorem dX11_mountain_17 : decode cX11_mountain 17 = .ok (.aload_n 2, 1) := by decide +kernel
theorem dX11_mountain_18 : decode cX11_mountain 18 = .ok (.invokestatic 58, 3) := by decide +kernel
theorem dX11_mountain_21 : decode cX11_mountain 21 = .ok (.istore_n 3, 1) := by decide +kernel
theorem dX11_mountain_22 : decode cX11_mountain 22 = .ok (.iload_n 3, 1) := by decide +kernel
theorem dX11_mountain_23 : decode cX11_mountain 23 = .ok (.iconst (-1), 1) := by decide +kernel
theorem dX11_mountain_24 : decode cX11_mountain 24 = .ok (.if_icmp .eq 9, 3) := by decide +kernel
theorem dX11_mountain_27 : decode cX11_mountain 27 = .ok (.sipush (-1000), 3) := by decide +kernel
theorem dX11_mountain_30 : decode cX11_mountain 30 = .ok (.iload_n 3, 1) := by decide +kernel
theorem dX11_mountain_31 : decode cX11_mountain 31 = .ok (.isub, 1) := by decide +kernel
theorem dX11_mountain_32 : decode cX11_mountain 32 = .ok (.ireturn, 1) := by decide +kernel
theorem dX11_mountain_33 : decode cX11_mountain 33 = .ok (.aload_n 0, 1) := by decide +kernel
theorem dX11_mountain_34 : decode cX11_mountain 34 = .ok (.getfield 16, 3) := by decide +kernel
theorem dX11_mountain_37 : decode cX11_mountain 37 = .ok (.aload_n 0, 1) := by decide +kernel
theorem dX11_mountain_38 : decode cX11_mountain 38 = .ok (.getfield 12, 3) := by decide +kernel
theorem dX11_mountain_41 : decode cX11_mountain 41 = .ok (.invokevirtual 62, 3) := by decide +kernel
theorem dX11_mountain_44 : decode cX11_mountain 44 = .ok (.aload_n 0, 1) := by decide +kernel
theorem dX11_mountain_45 : decode cX11_mountain 45 = .ok (.aload_n 2, 1) := by decide +kernel
theorem dX11_mountain_46 : decode cX11_mountain 46 = .ok (.invokevirtual 66, 3) := by decide +kernel
theorem dX11_mountain_49 : decode cX11_mountain 49 = .ok (.istore 4, 2) := by decide +kernel
theorem dX11_mountain_51 : decode cX11_mountain 51 = .ok (.iload 4, 2) := by decide +kernel
theorem dX11_mountain_53 : decode cX11_mountain 53 = .ok (.ifCond .le 14, 3) := by decide +kernel
theorem dX11_mountain_56 : decode cX11_mountain 56 = .ok (.aload_n 0, 1) := by decide +kernel
theorem dX11_mountain_57 : decode cX11_mountain 57 = .ok (.getfield 12, 3) := by decide +kernel
theorem dX11_mountain_60 : decode cX11_mountain 60 = .ok (.aload_n 0, 1) := by decide +kernel
theorem dX11_mountain_61 : decode cX11_mountain 61 = .ok (.getfield 16, 3) := by decide +kernel
theorem dX11_mountain_64 : decode cX11_mountain 64 = .ok (.invokevirtual 62, 3) := by decide +kernel
theorem dX11_mountain_67 : decode cX11_mountain 67 = .ok (.iload 4, 2) := by decide +kernel
theorem dX11_mountain_69 : decode cX11_mountain 69 = .ok (.ireturn, 1) := by decide +kernel
theorem dX11_cell_0 : decode cX11_cell 0 = .ok (.iload_n 1, 1) := by decide +kernel
theorem dX11_cell_1 : decode cX11_cell 1 = .ok (.bipush 20, 2) := by decide +kernel
theorem dX11_cell_3 : decode cX11_cell 3 = .ok (.invokestatic 69, 3) := by decide +kernel
theorem dX11_cell_6 : decode cX11_cell 6 = .ok (.ifCond .ne 5, 3) := by decide +kernel
theorem dX11_cell_9 : decode cX11_cell 9 = .ok (.iconst (-1), 1) := by decide +kernel
theorem dX11_cell_10 : decode cX11_cell 10 = .ok (.ireturn, 1) := by decide +kernel
theorem dX11_cell_11 : decode cX11_cell 11 = .ok (.aload_n 0, 1) := by decide +kernel
theorem dX11_cell_12 : decode cX11_cell 12 = .ok (.getfield 12, 3) := by decide +kernel
theorem dX11_cell_15 : decode cX11_cell 15 = .ok (.getfield 73, 3) := by decide +kernel
theorem dX11_cell_18 : decode cX11_cell 18 = .ok (.iload_n 1, 1) := by decide +kernel
theorem dX11_cell_19 : decode cX11_cell 19 = .ok (.aaload, 1) := by decide +kernel
theorem dX11_cell_20 : decode cX11_cell 20 = .ok (.astore_n 3, 1) := by decide +kernel
theorem dX11_cell_21 : decode cX11_cell 21 = .ok (.iload_n 2, 1) := by decide +kernel
theorem dX11_cell_22 : decode cX11_cell 22 = .ok (.tableswitch 59 0 4 #[34, 39, 44, 49, 54], 34) := by decide +kernel
theorem dX11_cell_56 : decode cX11_cell 56 = .ok (.aload_n 3, 1) := by decide +kernel
theorem dX11_cell_57 : decode cX11_cell 57 = .ok (.invokevirtual 77, 3) := by decide +kernel
theorem dX11_cell_60 : decode cX11_cell 60 = .ok (.ireturn, 1) := by decide +kernel
theorem dX11_cell_61 : decode cX11_cell 61 = .ok (.aload_n 3, 1) := by decide +kernel
theorem dX11_cell_62 : decode cX11_cell 62 = .ok (.getfield 83, 3) := by decide +kernel
theorem dX11_cell_65 : decode cX11_cell 65 = .ok (.ireturn, 1) := by decide +kernel
theorem dX11_cell_66 : decode cX11_cell 66 = .ok (.aload_n 3, 1) := by decide +kernel
theorem dX11_cell_67 : decode cX11_cell 67 = .ok (.invokevirtual 87, 3) := by decide +kernel
theorem dX11_cell_70 : decode cX11_cell 70 = .ok (.ireturn, 1) := by decide +kernel
theorem dX11_cell_71 : decode cX11_cell 71 = .ok (.aload_n 3, 1) := by decide +kernel
theorem dX11_cell_72 : decode cX11_cell 72 = .ok (.invokevirtual 90, 3) := by decide +kernel
theorem dX11_cell_75 : decode cX11_cell 75 = .ok (.ireturn, 1) := by decide +kernel
theorem dX11_cell_76 : decode cX11_cell 76 = .ok (.aload_n 3, 1) := by decide +kernel
theorem dX11_cell_77 : decode cX11_cell 77 = .ok (.invokevirtual 93, 3) := by decide +kernel
theorem dX11_cell_80 : decode cX11_cell 80 = .ok (.ireturn, 1) := by decide +kernel
theorem dX11_cell_81 : decode cX11_cell 81 = .ok (.iconst (-1), 1) := by decide +kernel
theorem dX11_cell_82 : decode cX11_cell 82 = .ok (.ireturn, 1) := by decide +kernel
theorem dX11_lay_0 : decode cX11_lay 0 = .ok (.iload_n 2, 1) := by decide +kernel
theorem dX11_lay_1 : decode cX11_lay 1 = .ok (.bipush 20, 2) := by decide +kernel
theorem dX11_lay_3 : decode cX11_lay 3 = .ok (.invokestatic 69, 3) := by decide +kernel
theorem dX11_lay_6 : decode cX11_lay 6 = .ok (.ifCond .ne 5, 3) := by decide +kernel
theorem dX11_lay_9 : decode cX11_lay 9 = .ok (.iconst (-1), 1) := by decide +kernel
theorem dX11_lay_10 : decode cX11_lay 10 = .ok (.ireturn, 1) := by decide +kernel
theorem dX11_lay_11 : decode cX11_lay 11 = .ok (.aload_n 0, 1) := by decide +kernel
theorem dX11_lay_12 : decode cX11_lay 12 = .ok (.iload_n 1, 1) := by decide +kernel
theorem dX11_lay_13 : decode cX11_lay 13 = .ok (.invokevirtual 96, 3) := by decide +kernel
theorem dX11_lay_16 : decode cX11_lay 16 = .ok (.astore_n 3, 1) := by decide +kernel
theorem dX11_lay_17 : decode cX11_lay 17 = .ok (.aload_n 3, 1) := by decide +kernel
theorem dX11_lay_18 : decode cX11_lay 18 = .ok (.ifnonnull 9, 3) := by decide +kernel
theorem dX11_lay_21 : decode cX11_lay 21 = .ok (.aload_n 0, 1) := by decide +kernel
theorem dX11_lay_22 : decode cX11_lay 22 = .ok (.iload_n 1, 1) := by decide +kernel
theorem dX11_lay_23 : decode cX11_lay 23 = .ok (.invokevirtual 54, 3) := by decide +kernel
theorem dX11_lay_26 : decode cX11_lay 26 = .ok (.ireturn, 1) := by decide +kernel
theorem dX11_lay_27 : decode cX11_lay 27 = .ok (.aload_n 0, 1) := by decide +kernel
theorem dX11_lay_28 : decode cX11_lay 28 = .ok (.getfield 12, 3) := by decide +kernel
theorem dX11_lay_31 : decode cX11_lay 31 = .ok (.getfield 73, 3) := by decide +kernel
theorem dX11_lay_34 : decode cX11_lay 34 = .ok (.iload_n 2, 1) := by decide +kernel
theorem dX11_lay_35 : decode cX11_lay 35 = .ok (.aaload, 1) := by decide +kernel
theorem dX11_lay_36 : decode cX11_lay 36 = .ok (.invokevirtual 77, 3) := by decide +kernel
theorem dX11_lay_39 : decode cX11_lay 39 = .ok (.istore 4, 2) := by decide +kernel
theorem dX11_lay_41 : decode cX11_lay 41 = .ok (.aload_n 0, 1) := by decide +kernel
theorem dX11_lay_42 : decode cX11_lay 42 = .ok (.getfield 12, 3) := by decide +kernel
theorem dX11_lay_45 : decode cX11_lay 45 = .ok (.getfield 73, 3) := by decide +kernel
theorem dX11_lay_48 : decode cX11_lay 48 = .ok (.iload_n 2, 1) := by decide +kernel
theorem dX11_lay_49 : decode cX11_lay 49 = .ok (.aload_n 3, 1) := by decide +kernel
theorem dX11_lay_50 : decode cX11_lay 50 = .ok (.aastore, 1) := by decide +kernel
theorem dX11_lay_51 : decode cX11_lay 51 = .ok (.iload 4, 2) := by decide +kernel
theorem dX11_lay_53 : decode cX11_lay 53 = .ok (.ireturn, 1) := by decide +kernel
theorem dX11_gang_0 : decode cX11_gang 0 = .ok (.iload_n 1, 1) := by decide +kernel
theorem dX11_gang_1 : decode cX11_gang 1 = .ok (.iconst 2, 1) := by decide +kernel
theorem dX11_gang_2 : decode cX11_gang 2 = .ok (.invokestatic 69, 3) := by decide +kernel
theorem dX11_gang_5 : decode cX11_gang 5 = .ok (.ifCond .eq 11, 3) := by decide +kernel
theorem dX11_gang_8 : decode cX11_gang 8 = .ok (.iload_n 2, 1) := by decide +kernel
theorem dX11_gang_9 : decode cX11_gang 9 = .ok (.iconst 2, 1) := by decide +kernel
theorem dX11_gang_10 : decode cX11_gang 10 = .ok (.invokestatic 69, 3) := by decide +kernel
theorem dX11_gang_13 : decode cX11_gang 13 = .ok (.ifCond .ne 5, 3) := by decide +kernel
theorem dX11_gang_16 : decode cX11_gang 16 = .ok (.iconst (-1), 1) := by decide +kernel
theorem dX11_gang_17 : decode cX11_gang 17 = .ok (.ireturn, 1) := by decide +kernel
theorem dX11_gang_18 : decode cX11_gang 18 = .ok (.iload_n 2, 1) := by decide +kernel
theorem dX11_gang_19 : decode cX11_gang 19 = .ok (.ifCond .ne 15, 3) := by decide +kernel
theorem dX11_gang_22 : decode cX11_gang 22 = .ok (.aload_n 0, 1) := by decide +kernel
theorem dX11_gang_23 : decode cX11_gang 23 = .ok (.getfield 12, 3) := by decide +kernel
theorem dX11_gang_26 : decode cX11_gang 26 = .ok (.getfield 100, 3) := by decide +kernel
theorem dX11_gang_29 : decode cX11_gang 29 = .ok (.iload_n 1, 1) := by decide +kernel
theorem dX11_gang_30 : decode cX11_gang 30 = .ok (.iaload, 1) := by decide +kernel
theorem dX11_gang_31 : decode cX11_gang 31 = .ok (.goto 12, 3) := by decide +kernel
theorem dX11_gang_34 : decode cX11_gang 34 = .ok (.aload_n 0, 1) := by decide +kernel
theorem dX11_gang_35 : decode cX11_gang 35 = .ok (.getfield 12, 3) := by decide +kernel
theorem dX11_gang_38 : decode cX11_gang 38 = .ok (.getfield 103, 3) := by decide +kernel
theorem dX11_gang_41 : decode cX11_gang 41 = .ok (.iload_n 1, 1) := by decide +kernel
theorem dX11_gang_42 : decode cX11_gang 42 = .ok (.iaload, 1) := by decide +kernel
theorem dX11_gang_43 : decode cX11_gang 43 = .ok (.ireturn, 1) := by decide +kernel
theorem dX11_dig_0 : decode cX11_dig 0 = .ok (.iload_n 1, 1) := by decide +kernel
theorem dX11_dig_1 : decode cX11_dig 1 = .ok (.iconst 2, 1) := by decide +kernel
theorem dX11_dig_2 : decode cX11_dig 2 = .ok (.invokestatic 69, 3) := by decide +kernel
theorem dX11_dig_5 : decode cX11_dig 5 = .ok (.ifCond .eq 11, 3) := by decide +kernel
theorem dX11_dig_8 : decode cX11_dig 8 = .ok (.iload_n 2, 1) := by decide +kernel
theorem dX11_dig_9 : decode cX11_dig 9 = .ok (.iconst 4, 1) := by decide +kernel
theorem dX11_dig_10 : decode cX11_dig 10 = .ok (.invokestatic 69, 3) := by decide +kernel
theorem dX11_dig_13 : decode cX11_dig 13 = .ok (.ifCond .ne 5, 3) := by decide +kernel
theorem dX11_dig_16 : decode cX11_dig 16 = .ok (.iconst (-1), 1) := by decide +kernel
theorem dX11_dig_17 : decode cX11_dig 17 = .ok (.ireturn, 1) := by decide +kernel
theorem dX11_dig_18 : decode cX11_dig 18 = .ok (.aload_n 0, 1) := by decide +kernel
theorem dX11_dig_19 : decode cX11_dig 19 = .ok (.getfield 12, 3) := by decide +kernel
theorem dX11_dig_22 : decode cX11_dig 22 = .ok (.iload_n 1, 1) := by decide +kernel
theorem dX11_dig_23 : decode cX11_dig 23 = .ok (.iload_n 2, 1) := by decide +kernel
theorem dX11_dig_24 : decode cX11_dig 24 = .ok (.invokevirtual 106, 3) := by decide +kernel
theorem dX11_dig_27 : decode cX11_dig 27 = .ok (.istore_n 3, 1) := by decide +kernel
theorem dX11_dig_28 : decode cX11_dig 28 = .ok (.iload_n 3, 1) := by decide +kernel
theorem dX11_dig_29 : decode cX11_dig 29 = .ok (.iconst (-1), 1) := by decide +kernel
theorem dX11_dig_30 : decode cX11_dig 30 = .ok (.if_icmp .ne 8, 3) := by decide +kernel
theorem dX11_dig_33 : decode cX11_dig 33 = .ok (.bipush (-3), 2) := by decide +kernel
theorem dX11_dig_35 : decode cX11_dig 35 = .ok (.goto 4, 3) := by decide +kernel
theorem dX11_dig_38 : decode cX11_dig 38 = .ok (.iload_n 3, 1) := by decide +kernel
theorem dX11_dig_39 : decode cX11_dig 39 = .ok (.ireturn, 1) := by decide +kernel
theorem dX11_met_0 : decode cX11_met 0 = .ok (.aload_n 0, 1) := by decide +kernel
theorem dX11_met_1 : decode cX11_met 1 = .ok (.getfield 12, 3) := by decide +kernel
theorem dX11_met_4 : decode cX11_met 4 = .ok (.invokevirtual 110, 3) := by decide +kernel
theorem dX11_met_7 : decode cX11_met 7 = .ok (.ifCond .eq 7, 3) := by decide +kernel
theorem dX11_met_10 : decode cX11_met 10 = .ok (.iconst 1, 1) := by decide +kernel
theorem dX11_met_11 : decode cX11_met 11 = .ok (.goto 4, 3) := by decide +kernel
theorem dX11_met_14 : decode cX11_met 14 = .ok (.iconst 0, 1) := by decide +kernel
theorem dX11_met_15 : decode cX11_met 15 = .ok (.ireturn, 1) := by decide +kernel
theorem dX11_time_0 : decode cX11_time 0 = .ok (.iload_n 1, 1) := by decide +kernel
theorem dX11_time_1 : decode cX11_time 1 = .ok (.bipush 20, 2) := by decide +kernel
theorem dX11_time_3 : decode cX11_time 3 = .ok (.invokestatic 69, 3) := by decide +kernel
theorem dX11_time_6 : decode cX11_time 6 = .ok (.ifCond .eq 12, 3) := by decide +kernel
theorem dX11_time_9 : decode cX11_time 9 = .ok (.iload_n 2, 1) := by decide +kernel
theorem dX11_time_10 : decode cX11_time 10 = .ok (.bipush 20, 2) := by decide +kernel
theorem dX11_time_12 : decode cX11_time 12 = .ok (.invokestatic 69, 3) := by decide +kernel
theorem dX11_time_15 : decode cX11_time 15 = .ok (.ifCond .ne 5, 3) := by decide +kernel
theorem dX11_time_18 : decode cX11_time 18 = .ok (.iconst (-1), 1) := by decide +kernel
theorem dX11_time_19 : decode cX11_time 19 = .ok (.ireturn, 1) := by decide +kernel
theorem dX11_time_20 : decode cX11_time 20 = .ok (.aload_n 0, 1) := by decide +kernel
theorem dX11_time_21 : decode cX11_time 21 = .ok (.iload_n 1, 1) := by decide +kernel
theorem dX11_time_22 : decode cX11_time 22 = .ok (.invokevirtual 114, 3) := by decide +kernel
theorem dX11_time_25 : decode cX11_time 25 = .ok (.aload_n 0, 1) := by decide +kernel
theorem dX11_time_26 : decode cX11_time 26 = .ok (.getfield 35, 3) := by decide +kernel
theorem dX11_time_29 : decode cX11_time 29 = .ok (.getfield 118, 3) := by decide +kernel
theorem dX11_time_32 : decode cX11_time 32 = .ok (.iload_n 2, 1) := by decide +kernel
theorem dX11_time_33 : decode cX11_time 33 = .ok (.iaload, 1) := by decide +kernel
theorem dX11_time_34 : decode cX11_time 34 = .ok (.ireturn, 1) := by decide +kernel
theorem dX11_loud_0 : decode cX11_loud 0 = .ok (.iload_n 1, 1) := by decide +kernel
theorem dX11_loud_1 : decode cX11_loud 1 = .ok (.bipush 20, 2) := by decide +kernel
theorem dX11_loud_3 : decode cX11_loud 3 = .ok (.invokestatic 69, 3) := by decide +kernel
theorem dX11_loud_6 : decode cX11_loud 6 = .ok (.ifCond .eq 21, 3) := by decide +kernel
theorem dX11_loud_9 : decode cX11_loud 9 = .ok (.iload_n 2, 1) := by decide +kernel
theorem dX11_loud_10 : decode cX11_loud 10 = .ok (.bipush 20, 2) := by decide +kernel
theorem dX11_loud_12 : decode cX11_loud 12 = .ok (.invokestatic 69, 3) := by decide +kernel
theorem dX11_loud_15 : decode cX11_loud 15 = .ok (.ifCond .eq 12, 3) := by decide +kernel
theorem dX11_loud_18 : decode cX11_loud 18 = .ok (.iload_n 3, 1) := by decide +kernel
theorem dX11_loud_19 : decode cX11_loud 19 = .ok (.bipush 100, 2) := by decide +kernel
theorem dX11_loud_21 : decode cX11_loud 21 = .ok (.invokestatic 69, 3) := by decide +kernel
theorem dX11_loud_24 : decode cX11_loud 24 = .ok (.ifCond .ne 5, 3) := by decide +kernel
theorem dX11_loud_27 : decode cX11_loud 27 = .ok (.iconst (-1), 1) := by decide +kernel
theorem dX11_loud_28 : decode cX11_loud 28 = .ok (.ireturn, 1) := by decide +kernel
theorem dX11_loud_29 : decode cX11_loud 29 = .ok (.aload_n 0, 1) := by decide +kernel
theorem dX11_loud_30 : decode cX11_loud 30 = .ok (.iload_n 1, 1) := by decide +kernel
theorem dX11_loud_31 : decode cX11_loud 31 = .ok (.invokevirtual 114, 3) := by decide +kernel
theorem dX11_loud_34 : decode cX11_loud 34 = .ok (.iconst 0, 1) := by decide +kernel
theorem dX11_loud_35 : decode cX11_loud 35 = .ok (.iload_n 3, 1) := by decide +kernel
theorem dX11_loud_36 : decode cX11_loud 36 = .ok (.aload_n 0, 1) := by decide +kernel
theorem dX11_loud_37 : decode cX11_loud 37 = .ok (.getfield 35, 3) := by decide +kernel
theorem dX11_loud_40 : decode cX11_loud 40 = .ok (.getfield 121, 3) := by decide +kernel
theorem dX11_loud_43 : decode cX11_loud 43 = .ok (.iload_n 2, 1) := by decide +kernel
theorem dX11_loud_44 : decode cX11_loud 44 = .ok (.iaload, 1) := by decide +kernel
theorem dX11_loud_45 : decode cX11_loud 45 = .ok (.isub, 1) := by decide +kernel
theorem dX11_loud_46 : decode cX11_loud 46 = .ok (.invokestatic 124, 3) := by decide +kernel
theorem dX11_loud_49 : decode cX11_loud 49 = .ok (.ireturn, 1) := by decide +kernel
theorem dX11_paths_0 : decode cX11_paths 0 = .ok (.iload_n 1, 1) := by decide +kernel
theorem dX11_paths_1 : decode cX11_paths 1 = .ok (.bipush 20, 2) := by decide +kernel
theorem dX11_paths_3 : decode cX11_paths 3 = .ok (.invokestatic 69, 3) := by decide +kernel
theorem dX11_paths_6 : decode cX11_paths 6 = .ok (.ifCond .eq 12, 3) := by decide +kernel
theorem dX11_paths_9 : decode cX11_paths 9 = .ok (.iload_n 2, 1) := by decide +kernel
theorem dX11_paths_10 : decode cX11_paths 10 = .ok (.bipush 20, 2) := by decide +kernel
theorem dX11_paths_12 : decode cX11_paths 12 = .ok (.invokestatic 69, 3) := by decide +kernel
theorem dX11_paths_15 : decode cX11_paths 15 = .ok (.ifCond .ne 5, 3) := by decide +kernel
theorem dX11_paths_18 : decode cX11_paths 18 = .ok (.iconst (-1), 1) := by decide +kernel
theorem dX11_paths_19 : decode cX11_paths 19 = .ok (.ireturn, 1) := by decide +kernel
theorem dX11_paths_20 : decode cX11_paths 20 = .ok (.aload_n 0, 1) := by decide +kernel
theorem dX11_paths_21 : decode cX11_paths 21 = .ok (.iload_n 1, 1) := by decide +kernel
theorem dX11_paths_22 : decode cX11_paths 22 = .ok (.invokevirtual 114, 3) := by decide +kernel
theorem dX11_paths_25 : decode cX11_paths 25 = .ok (.aload_n 0, 1) := by decide +kernel
theorem dX11_paths_26 : decode cX11_paths 26 = .ok (.getfield 35, 3) := by decide +kernel
theorem dX11_paths_29 : decode cX11_paths 29 = .ok (.getfield 129, 3) := by decide +kernel
theorem dX11_paths_32 : decode cX11_paths 32 = .ok (.iload_n 2, 1) := by decide +kernel
theorem dX11_paths_33 : decode cX11_paths 33 = .ok (.iaload, 1) := by decide +kernel
theorem dX11_paths_34 : decode cX11_paths 34 = .ok (.ireturn, 1) := by decide +kernel
theorem dX11_reaches_0 : decode cX11_reaches 0 = .ok (.iload_n 1, 1) := by decide +kernel
theorem dX11_reaches_1 : decode cX11_reaches 1 = .ok (.bipush 20, 2) := by decide +kernel
theorem dX11_reaches_3 : decode cX11_reaches 3 = .ok (.invokestatic 69, 3) := by decide +kernel
theorem dX11_reaches_6 : decode cX11_reaches 6 = .ok (.ifCond .eq 14, 3) := by decide +kernel
theorem dX11_reaches_9 : decode cX11_reaches 9 = .ok (.iload_n 2, 1) := by decide +kernel
theorem dX11_reaches_10 : decode cX11_reaches 10 = .ok (.iconst 1, 1) := by decide +kernel
theorem dX11_reaches_11 : decode cX11_reaches 11 = .ok (.if_icmp .lt 9, 3) := by decide +kernel
theorem dX11_reaches_14 : decode cX11_reaches 14 = .ok (.iload_n 2, 1) := by decide +kernel
theorem dX11_reaches_15 : decode cX11_reaches 15 = .ok (.bipush 99, 2) := by decide +kernel
theorem dX11_reaches_17 : decode cX11_reaches 17 = .ok (.if_icmp .le 5, 3) := by decide +kernel
theorem dX11_reaches_20 : decode cX11_reaches 20 = .ok (.iconst (-1), 1) := by decide +kernel
theorem dX11_reaches_21 : decode cX11_reaches 21 = .ok (.ireturn, 1) := by decide +kernel
theorem dX11_reaches_22 : decode cX11_reaches 22 = .ok (.aload_n 0, 1) := by decide +kernel
theorem dX11_reaches_23 : decode cX11_reaches 23 = .ok (.iload_n 1, 1) := by decide +kernel
theorem dX11_reaches_24 : decode cX11_reaches 24 = .ok (.invokevirtual 114, 3) := by decide +kernel
theorem dX11_reaches_27 : decode cX11_reaches 27 = .ok (.iconst 0, 1) := by decide +kernel
theorem dX11_reaches_28 : decode cX11_reaches 28 = .ok (.istore_n 3, 1) := by decide +kernel
theorem dX11_reaches_29 : decode cX11_reaches 29 = .ok (.iconst 0, 1) := by decide +kernel
theorem dX11_reaches_30 : decode cX11_reaches 30 = .ok (.istore 4, 2) := by decide +kernel
theorem dX11_reaches_32 : decode cX11_reaches 32 = .ok (.iload 4, 2) := by decide +kernel
theorem dX11_reaches_34 : decode cX11_reaches 34 = .ok (.bipush 20, 2) := by decide +kernel
theorem dX11_reaches_36 : decode cX11_reaches 36 = .ok (.if_icmp .ge 30, 3) := by decide +kernel
theorem dX11_reaches_39 : decode cX11_reaches 39 = .ok (.iload_n 2, 1) := by decide +kernel
theorem dX11_reaches_40 : decode cX11_reaches 40 = .ok (.aload_n 0, 1) := by decide +kernel
theorem dX11_reaches_41 : decode cX11_reaches 41 = .ok (.getfield 35, 3) := by decide +kernel
theorem dX11_reaches_44 : decode cX11_reaches 44 = .ok (.getfield 121, 3) := by decide +kernel
theorem dX11_reaches_47 : decode cX11_reaches 47 = .ok (.iload 4, 2) := by decide +kernel
theorem dX11_reaches_49 : decode cX11_reaches 49 = .ok (.iaload, 1) := by decide +kernel
theorem dX11_reaches_50 : decode cX11_reaches 50 = .ok (.if_icmp .le 10, 3) := by decide +kernel
theorem dX11_reaches_53 : decode cX11_reaches 53 = .ok (.iload_n 3, 1) := by decide +kernel
theorem dX11_reaches_54 : decode cX11_reaches 54 = .ok (.iconst 1, 1) := by decide +kernel
theorem dX11_reaches_55 : decode cX11_reaches 55 = .ok (.iload 4, 2) := by decide +kernel
theorem dX11_reaches_57 : decode cX11_reaches 57 = .ok (.ishl, 1) := by decide +kernel
theorem dX11_reaches_58 : decode cX11_reaches 58 = .ok (.ior, 1) := by decide +kernel
theorem dX11_reaches_59 : decode cX11_reaches 59 = .ok (.istore_n 3, 1) := by decide +kernel
theorem dX11_reaches_60 : decode cX11_reaches 60 = .ok (.iinc 4 1, 3) := by decide +kernel
theorem dX11_reaches_63 : decode cX11_reaches 63 = .ok (.goto (-31), 3) := by decide +kernel
theorem dX11_reaches_66 : decode cX11_reaches 66 = .ok (.iload_n 3, 1) := by decide +kernel
theorem dX11_reaches_67 : decode cX11_reaches 67 = .ok (.ireturn, 1) := by decide +kernel
theorem dX11_from_0 : decode cX11_from 0 = .ok (.iload_n 2, 1) := by decide +kernel
theorem dX11_from_1 : decode cX11_from 1 = .ok (.iconst 2, 1) := by decide +kernel
theorem dX11_from_2 : decode cX11_from 2 = .ok (.invokestatic 69, 3) := by decide +kernel
theorem dX11_from_5 : decode cX11_from 5 = .ok (.ifCond .ne 5, 3) := by decide +kernel
theorem dX11_from_8 : decode cX11_from 8 = .ok (.iconst (-1), 1) := by decide +kernel
theorem dX11_from_9 : decode cX11_from 9 = .ok (.ireturn, 1) := by decide +kernel
theorem dX11_from_10 : decode cX11_from 10 = .ok (.aload_n 0, 1) := by decide +kernel
theorem dX11_from_11 : decode cX11_from 11 = .ok (.iload_n 1, 1) := by decide +kernel
theorem dX11_from_12 : decode cX11_from 12 = .ok (.iconst 2, 1) := by decide +kernel
theorem dX11_from_13 : decode cX11_from 13 = .ok (.invokevirtual 50, 3) := by decide +kernel
theorem dX11_from_16 : decode cX11_from 16 = .ok (.astore_n 3, 1) := by decide +kernel
theorem dX11_from_17 : decode cX11_from 17 = .ok (.aload_n 3, 1) := by decide +kernel
theorem dX11_from_18 : decode cX11_from 18 = .ok (.ifnonnull 9, 3) := by decide +kernel
theorem dX11_from_21 : decode cX11_from 21 = .ok (.aload_n 0, 1) := by decide +kernel
theorem dX11_from_22 : decode cX11_from 22 = .ok (.iload_n 1, 1) := by decide +kernel
theorem dX11_from_23 : decode cX11_from 23 = .ok (.invokevirtual 54, 3) := by decide +kernel
theorem dX11_from_26 : decode cX11_from 26 = .ok (.ireturn, 1) := by decide +kernel
theorem dX11_from_27 : decode cX11_from 27 = .ok (.aload_n 3, 1) := by decide +kernel
theorem dX11_from_28 : decode cX11_from 28 = .ok (.getfield 132, 3) := by decide +kernel
theorem dX11_from_31 : decode cX11_from 31 = .ok (.iconst 2, 1) := by decide +kernel
theorem dX11_from_32 : decode cX11_from 32 = .ok (.irem, 1) := by decide +kernel
theorem dX11_from_33 : decode cX11_from 33 = .ok (.ifCond .ne 11, 3) := by decide +kernel
theorem dX11_from_36 : decode cX11_from 36 = .ok (.aload_n 3, 1) := by decide +kernel
theorem dX11_from_37 : decode cX11_from 37 = .ok (.iconst 2, 1) := by decide +kernel
theorem dX11_from_38 : decode cX11_from 38 = .ok (.invokestatic 135, 3) := by decide +kernel
theorem dX11_from_41 : decode cX11_from 41 = .ok (.ifCond .ne 6, 3) := by decide +kernel
theorem dX11_from_44 : decode cX11_from 44 = .ok (.bipush (-13), 2) := by decide +kernel
theorem dX11_from_46 : decode cX11_from 46 = .ok (.ireturn, 1) := by decide +kernel
theorem dX11_from_47 : decode cX11_from 47 = .ok (.aload_n 0, 1) := by decide +kernel
theorem dX11_from_48 : decode cX11_from 48 = .ok (.getfield 35, 3) := by decide +kernel
theorem dX11_from_51 : decode cX11_from 51 = .ok (.aload_n 0, 1) := by decide +kernel
theorem dX11_from_52 : decode cX11_from 52 = .ok (.getfield 12, 3) := by decide +kernel
theorem dX11_from_55 : decode cX11_from 55 = .ok (.invokevirtual 139, 3) := by decide +kernel
theorem dX11_from_58 : decode cX11_from 58 = .ok (.iconst 0, 1) := by decide +kernel
theorem dX11_from_59 : decode cX11_from 59 = .ok (.istore 4, 2) := by decide +kernel
theorem dX11_from_61 : decode cX11_from 61 = .ok (.bipush (-4), 2) := by decide +kernel
theorem dX11_from_63 : decode cX11_from 63 = .ok (.istore 5, 2) := by decide +kernel
theorem dX11_from_65 : decode cX11_from 65 = .ok (.bipush 19, 2) := by decide +kernel
theorem dX11_from_67 : decode cX11_from 67 = .ok (.istore 6, 2) := by decide +kernel
theorem dX11_from_69 : decode cX11_from 69 = .ok (.iload 6, 2) := by decide +kernel
theorem dX11_from_71 : decode cX11_from 71 = .ok (.ifCond .lt 33, 3) := by decide +kernel
theorem dX11_from_74 : decode cX11_from 74 = .ok (.aload_n 0, 1) := by decide +kernel
theorem dX11_from_75 : decode cX11_from 75 = .ok (.getfield 35, 3) := by decide +kernel
theorem dX11_from_78 : decode cX11_from 78 = .ok (.iload 6, 2) := by decide +kernel
theorem dX11_from_80 : decode cX11_from 80 = .ok (.invokevirtual 142, 3) := by decide +kernel
theorem dX11_from_83 : decode cX11_from 83 = .ok (.aload_n 0, 1) := by decide +kernel
theorem dX11_from_84 : decode cX11_from 84 = .ok (.aload_n 3, 1) := by decide +kernel
theorem dX11_from_85 : decode cX11_from 85 = .ok (.invokevirtual 145, 3) := by decide +kernel
theorem dX11_from_88 : decode cX11_from 88 = .ok (.ifCond .eq 10, 3) := by decide +kernel
theorem dX11_from_91 : decode cX11_from 91 = .ok (.iinc 4 1, 3) := by decide +kernel
theorem dX11_from_94 : decode cX11_from 94 = .ok (.iload 6, 2) := by decide +kernel
theorem dX11_from_96 : decode cX11_from 96 = .ok (.istore 5, 2) := by decide +kernel
theorem dX11_from_98 : decode cX11_from 98 = .ok (.iinc 6 (-1), 3) := by decide +kernel
theorem dX11_from_101 : decode cX11_from 101 = .ok (.goto (-32), 3) := by decide +kernel
theorem dX11_from_104 : decode cX11_from 104 = .ok (.iload_n 2, 1) := by decide +kernel
theorem dX11_from_105 : decode cX11_from 105 = .ok (.ifCond .ne 8, 3) := by decide +kernel
theorem dX11_from_108 : decode cX11_from 108 = .ok (.iload 4, 2) := by decide +kernel
theorem dX11_from_110 : decode cX11_from 110 = .ok (.goto 5, 3) := by decide +kernel
theorem dX11_from_113 : decode cX11_from 113 = .ok (.iload 5, 2) := by decide +kernel
theorem dX11_from_115 : decode cX11_from 115 = .ok (.ireturn, 1) := by decide +kernel
theorem dX11_listen_0 : decode cX11_listen 0 = .ok (.iload_n 2, 1) := by decide +kernel
theorem dX11_listen_1 : decode cX11_listen 1 = .ok (.iconst 2, 1) := by decide +kernel
theorem dX11_listen_2 : decode cX11_listen 2 = .ok (.invokestatic 69, 3) := by decide +kernel
theorem dX11_listen_5 : decode cX11_listen 5 = .ok (.ifCond .ne 5, 3) := by decide +kernel
theorem dX11_listen_8 : decode cX11_listen 8 = .ok (.iconst (-1), 1) := by decide +kernel
theorem dX11_listen_9 : decode cX11_listen 9 = .ok (.ireturn, 1) := by decide +kernel
theorem dX11_listen_10 : decode cX11_listen 10 = .ok (.aload_n 0, 1) := by decide +kernel
theorem dX11_listen_11 : decode cX11_listen 11 = .ok (.iload_n 1, 1) := by decide +kernel
theorem dX11_listen_12 : decode cX11_listen 12 = .ok (.iconst 0, 1) := by decide +kernel
theorem dX11_listen_13 : decode cX11_listen 13 = .ok (.invokevirtual 50, 3) := by decide +kernel
theorem dX11_listen_16 : decode cX11_listen 16 = .ok (.astore_n 3, 1) := by decide +kernel
theorem dX11_listen_17 : decode cX11_listen 17 = .ok (.aload_n 3, 1) := by decide +kernel
theorem dX11_listen_18 : decode cX11_listen 18 = .ok (.ifnonnull 9, 3) := by decide +kernel
theorem dX11_listen_21 : decode cX11_listen 21 = .ok (.aload_n 0, 1) := by decide +kernel
theorem dX11_listen_22 : decode cX11_listen 22 = .ok (.iload_n 1, 1) := by decide +kernel
theorem dX11_listen_23 : decode cX11_listen 23 = .ok (.invokevirtual 54, 3) := by decide +kernel
theorem dX11_listen_26 : decode cX11_listen 26 = .ok (.ireturn, 1) := by decide +kernel
theorem dX11_listen_27 : decode cX11_listen 27 = .ok (.aload_n 3, 1) := by decide +kernel
theorem dX11_listen_28 : decode cX11_listen 28 = .ok (.getfield 132, 3) := by decide +kernel
theorem dX11_listen_31 : decode cX11_listen 31 = .ok (.bipush 20, 2) := by decide +kernel
theorem dX11_listen_33 : decode cX11_listen 33 = .ok (.if_icmp .gt 11, 3) := by decide +kernel
theorem dX11_listen_36 : decode cX11_listen 36 = .ok (.aload_n 3, 1) := by decide +kernel
theorem dX11_listen_37 : decode cX11_listen 37 = .ok (.iconst 1, 1) := by decide +kernel
theorem dX11_listen_38 : decode cX11_listen 38 = .ok (.invokestatic 135, 3) := by decide +kernel
theorem dX11_listen_41 : decode cX11_listen 41 = .ok (.ifCond .ne 6, 3) := by decide +kernel
theorem dX11_listen_44 : decode cX11_listen 44 = .ok (.bipush (-13), 2) := by decide +kernel
theorem dX11_listen_46 : decode cX11_listen 46 = .ok (.ireturn, 1) := by decide +kernel
theorem dX11_listen_47 : decode cX11_listen 47 = .ok (.aload_n 3, 1) := by decide +kernel
theorem dX11_listen_48 : decode cX11_listen 48 = .ok (.getfield 132, 3) := by decide +kernel
theorem dX11_listen_51 : decode cX11_listen 51 = .ok (.ifCond .ne 6, 3) := by decide +kernel
theorem dX11_listen_54 : decode cX11_listen 54 = .ok (.bipush (-4), 2) := by decide +kernel
theorem dX11_listen_56 : decode cX11_listen 56 = .ok (.ireturn, 1) := by decide +kernel
theorem dX11_listen_57 : decode cX11_listen 57 = .ok (.aload_n 0, 1) := by decide +kernel
theorem dX11_listen_58 : decode cX11_listen 58 = .ok (.invokevirtual 149, 3) := by decide +kernel
theorem dX11_listen_61 : decode cX11_listen 61 = .ok (.iconst 0, 1) := by decide +kernel
theorem dX11_listen_62 : decode cX11_listen 62 = .ok (.istore 4, 2) := by decide +kernel
theorem dX11_listen_64 : decode cX11_listen 64 = .ok (.ldc 152, 2) := by decide +kernel
theorem dX11_listen_66 : decode cX11_listen 66 = .ok (.istore 5, 2) := by decide +kernel
theorem dX11_listen_68 : decode cX11_listen 68 = .ok (.iconst 0, 1) := by decide +kernel
theorem dX11_listen_69 : decode cX11_listen 69 = .ok (.istore 6, 2) := by decide +kernel
theorem dX11_listen_71 : decode cX11_listen 71 = .ok (.iload 6, 2) := by decide +kernel
theorem dX11_listen_73 : decode cX11_listen 73 = .ok (.bipush 20, 2) := by decide +kernel
theorem dX11_listen_75 : decode cX11_listen 75 = .ok (.if_icmp .ge 33, 3) := by decide +kernel
theorem dX11_listen_78 : decode cX11_listen 78 = .ok (.aload_n 0, 1) := by decide +kernel
theorem dX11_listen_79 : decode cX11_listen 79 = .ok (.aload_n 3, 1) := by decide +kernel
theorem dX11_listen_80 : decode cX11_listen 80 = .ok (.iload 6, 2) := by decide +kernel
theorem dX11_listen_82 : decode cX11_listen 82 = .ok (.invokevirtual 153, 3) := by decide +kernel
theorem dX11_listen_85 : decode cX11_listen 85 = .ok (.istore 7, 2) := by decide +kernel
theorem dX11_listen_87 : decode cX11_listen 87 = .ok (.iload 7, 2) := by decide +kernel
theorem dX11_listen_89 : decode cX11_listen 89 = .ok (.iload 5, 2) := by decide +kernel
theorem dX11_listen_91 : decode cX11_listen 91 = .ok (.if_icmp .ge 11, 3) := by decide +kernel
theorem dX11_listen_94 : decode cX11_listen 94 = .ok (.iload 7, 2) := by decide +kernel
theorem dX11_listen_96 : decode cX11_listen 96 = .ok (.istore 5, 2) := by decide +kernel
theorem dX11_listen_98 : decode cX11_listen 98 = .ok (.iload 6, 2) := by decide +kernel
theorem dX11_listen_100 : decode cX11_listen 100 = .ok (.istore 4, 2) := by decide +kernel
theorem dX11_listen_102 : decode cX11_listen 102 = .ok (.iinc 6 1, 3) := by decide +kernel
theorem dX11_listen_105 : decode cX11_listen 105 = .ok (.goto (-34), 3) := by decide +kernel
theorem dX11_listen_108 : decode cX11_listen 108 = .ok (.iload_n 2, 1) := by decide +kernel
theorem dX11_listen_109 : decode cX11_listen 109 = .ok (.ifCond .ne 8, 3) := by decide +kernel
theorem dX11_listen_112 : decode cX11_listen 112 = .ok (.iload 4, 2) := by decide +kernel
theorem dX11_listen_114 : decode cX11_listen 114 = .ok (.goto 5, 3) := by decide +kernel
theorem dX11_listen_117 : decode cX11_listen 117 = .ok (.iload 5, 2) := by decide +kernel
theorem dX11_listen_119 : decode cX11_listen 119 = .ok (.ireturn, 1) := by decide +kernel
theorem dX11_rocks_0 : decode cX11_rocks 0 = .ok (.iload_n 1, 1) := by decide +kernel
theorem dX11_rocks_1 : decode cX11_rocks 1 = .ok (.bipush 20, 2) := by decide +kernel
theorem dX11_rocks_3 : decode cX11_rocks 3 = .ok (.invokestatic 69, 3) := by decide +kernel
theorem dX11_rocks_6 : decode cX11_rocks 6 = .ok (.ifCond .eq 12, 3) := by decide +kernel
theorem dX11_rocks_9 : decode cX11_rocks 9 = .ok (.iload_n 2, 1) := by decide +kernel
theorem dX11_rocks_10 : decode cX11_rocks 10 = .ok (.bipush 10, 2) := by decide +kernel
theorem dX11_rocks_12 : decode cX11_rocks 12 = .ok (.invokestatic 69, 3) := by decide +kernel
theorem dX11_rocks_15 : decode cX11_rocks 15 = .ok (.ifCond .ne 5, 3) := by decide +kernel
theorem dX11_rocks_18 : decode cX11_rocks 18 = .ok (.iconst (-1), 1) := by decide +kernel
theorem dX11_rocks_19 : decode cX11_rocks 19 = .ok (.ireturn, 1) := by decide +kernel
theorem dX11_rocks_20 : decode cX11_rocks 20 = .ok (.iload_n 3, 1) := by decide +kernel
theorem dX11_rocks_21 : decode cX11_rocks 21 = .ok (.bipush 20, 2) := by decide +kernel
theorem dX11_rocks_23 : decode cX11_rocks 23 = .ok (.invokestatic 69, 3) := by decide +kernel
theorem dX11_rocks_26 : decode cX11_rocks 26 = .ok (.ifCond .eq 13, 3) := by decide +kernel
theorem dX11_rocks_29 : decode cX11_rocks 29 = .ok (.iload 4, 2) := by decide +kernel
theorem dX11_rocks_31 : decode cX11_rocks 31 = .ok (.bipush 20, 2) := by decide +kernel
theorem dX11_rocks_33 : decode cX11_rocks 33 = .ok (.invokestatic 69, 3) := by decide +kernel
theorem dX11_rocks_36 : decode cX11_rocks 36 = .ok (.ifCond .ne 5, 3) := by decide +kernel
theorem dX11_rocks_39 : decode cX11_rocks 39 = .ok (.iconst (-1), 1) := by decide +kernel
theorem dX11_rocks_40 : decode cX11_rocks 40 = .ok (.ireturn, 1) := by decide +kernel
theorem dX11_rocks_41 : decode cX11_rocks 41 = .ok (.aload_n 0, 1) := by decide +kernel
theorem dX11_rocks_42 : decode cX11_rocks 42 = .ok (.getfield 16, 3) := by decide +kernel
theorem dX11_rocks_45 : decode cX11_rocks 45 = .ok (.aload_n 0, 1) := by decide +kernel
theorem dX11_rocks_46 : decode cX11_rocks 46 = .ok (.getfield 12, 3) := by decide +kernel
theorem dX11_rocks_49 : decode cX11_rocks 49 = .ok (.invokevirtual 62, 3) := by decide +kernel
theorem dX11_rocks_52 : decode cX11_rocks 52 = .ok (.iconst 0, 1) := by decide +kernel
theorem dX11_rocks_53 : decode cX11_rocks 53 = .ok (.istore 6, 2) := by decide +kernel
theorem dX11_rocks_55 : decode cX11_rocks 55 = .ok (.iconst 0, 1) := by decide +kernel
theorem dX11_rocks_56 : decode cX11_rocks 56 = .ok (.istore 7, 2) := by decide +kernel
theorem dX11_rocks_58 : decode cX11_rocks 58 = .ok (.iload 7, 2) := by decide +kernel
theorem dX11_rocks_60 : decode cX11_rocks 60 = .ok (.bipush 8, 2) := by decide +kernel
theorem dX11_rocks_62 : decode cX11_rocks 62 = .ok (.if_icmp .ge 67, 3) := by decide +kernel
theorem dX11_rocks_65 : decode cX11_rocks 65 = .ok (.aload_n 0, 1) := by decide +kernel
theorem dX11_rocks_66 : decode cX11_rocks 66 = .ok (.getfield 16, 3) := by decide +kernel
theorem dX11_rocks_69 : decode cX11_rocks 69 = .ok (.getfield 73, 3) := by decide +kernel
theorem dX11_rocks_72 : decode cX11_rocks 72 = .ok (.iload_n 1, 1) := by decide +kernel
theorem dX11_rocks_73 : decode cX11_rocks 73 = .ok (.iload 7, 2) := by decide +kernel
theorem dX11_rocks_75 : decode cX11_rocks 75 = .ok (.iload_n 2, 1) := by decide +kernel
theorem dX11_rocks_76 : decode cX11_rocks 76 = .ok (.invokestatic 157, 3) := by decide +kernel
theorem dX11_rocks_79 : decode cX11_rocks 79 = .ok (.aastore, 1) := by decide +kernel
theorem dX11_rocks_80 : decode cX11_rocks 80 = .ok (.aload_n 0, 1) := by decide +kernel
theorem dX11_rocks_81 : decode cX11_rocks 81 = .ok (.getfield 35, 3) := by decide +kernel
theorem dX11_rocks_84 : decode cX11_rocks 84 = .ok (.aload_n 0, 1) := by decide +kernel
theorem dX11_rocks_85 : decode cX11_rocks 85 = .ok (.getfield 16, 3) := by decide +kernel
theorem dX11_rocks_88 : decode cX11_rocks 88 = .ok (.invokevirtual 139, 3) := by decide +kernel
theorem dX11_rocks_91 : decode cX11_rocks 91 = .ok (.aload_n 0, 1) := by decide +kernel
theorem dX11_rocks_92 : decode cX11_rocks 92 = .ok (.getfield 35, 3) := by decide +kernel
theorem dX11_rocks_95 : decode cX11_rocks 95 = .ok (.iload_n 3, 1) := by decide +kernel
theorem dX11_rocks_96 : decode cX11_rocks 96 = .ok (.invokevirtual 142, 3) := by decide +kernel
theorem dX11_rocks_99 : decode cX11_rocks 99 = .ok (.aload_n 0, 1) := by decide +kernel
theorem dX11_rocks_100 : decode cX11_rocks 100 = .ok (.getfield 35, 3) := by decide +kernel
theorem dX11_rocks_103 : decode cX11_rocks 103 = .ok (.getfield 118, 3) := by decide +kernel
theorem dX11_rocks_106 : decode cX11_rocks 106 = .ok (.iload 4, 2) := by decide +kernel
theorem dX11_rocks_108 : decode cX11_rocks 108 = .ok (.iaload, 1) := by decide +kernel
theorem dX11_rocks_109 : decode cX11_rocks 109 = .ok (.iload 5, 2) := by decide +kernel
theorem dX11_rocks_111 : decode cX11_rocks 111 = .ok (.if_icmp .ne 12, 3) := by decide +kernel
theorem dX11_rocks_114 : decode cX11_rocks 114 = .ok (.iload 6, 2) := by decide +kernel
theorem dX11_rocks_116 : decode cX11_rocks 116 = .ok (.iconst 1, 1) := by decide +kernel
theorem dX11_rocks_117 : decode cX11_rocks 117 = .ok (.iload 7, 2) := by decide +kernel
theorem dX11_rocks_119 : decode cX11_rocks 119 = .ok (.ishl, 1) := by decide +kernel
theorem dX11_rocks_120 : decode cX11_rocks 120 = .ok (.ior, 1) := by decide +kernel
theorem dX11_rocks_121 : decode cX11_rocks 121 = .ok (.istore 6, 2) := by decide +kernel
theorem dX11_rocks_123 : decode cX11_rocks 123 = .ok (.iinc 7 1, 3) := by decide +kernel
theorem dX11_rocks_126 : decode cX11_rocks 126 = .ok (.goto (-68), 3) := by decide +kernel
theorem dX11_rocks_129 : decode cX11_rocks 129 = .ok (.iload 6, 2) := by decide +kernel
theorem dX11_rocks_131 : decode cX11_rocks 131 = .ok (.ireturn, 1) := by decide +kernel
theorem dX11_toils_0 : decode cX11_toils 0 = .ok (.aload_n 0, 1) := by decide +kernel
theorem dX11_toils_1 : decode cX11_toils 1 = .ok (.getfield 12, 3) := by decide +kernel
theorem dX11_toils_4 : decode cX11_toils 4 = .ok (.getfield 100, 3) := by decide +kernel
theorem dX11_toils_7 : decode cX11_toils 7 = .ok (.iconst 0, 1) := by decide +kernel
theorem dX11_toils_8 : decode cX11_toils 8 = .ok (.iaload, 1) := by decide +kernel
theorem dX11_toils_9 : decode cX11_toils 9 = .ok (.istore_n 1, 1) := by decide +kernel
theorem dX11_toils_10 : decode cX11_toils 10 = .ok (.aload_n 0, 1) := by decide +kernel
theorem dX11_toils_11 : decode cX11_toils 11 = .ok (.getfield 12, 3) := by decide +kernel
theorem dX11_toils_14 : decode cX11_toils 14 = .ok (.getfield 100, 3) := by decide +kernel
theorem dX11_toils_17 : decode cX11_toils 17 = .ok (.iconst 1, 1) := by decide +kernel
theorem dX11_toils_18 : decode cX11_toils 18 = .ok (.iaload, 1) := by decide +kernel
theorem dX11_toils_19 : decode cX11_toils 19 = .ok (.istore_n 2, 1) := by decide +kernel
theorem dX11_toils_20 : decode cX11_toils 20 = .ok (.iload_n 1, 1) := by decide +kernel
theorem dX11_toils_21 : decode cX11_toils 21 = .ok (.iload_n 2, 1) := by decide +kernel
theorem dX11_toils_22 : decode cX11_toils 22 = .ok (.if_icmp .ne 5, 3) := by decide +kernel
theorem dX11_toils_25 : decode cX11_toils 25 = .ok (.iconst 0, 1) := by decide +kernel
theorem dX11_toils_26 : decode cX11_toils 26 = .ok (.ireturn, 1) := by decide +kernel
theorem dX11_toils_27 : decode cX11_toils 27 = .ok (.aload_n 0, 1) := by decide +kernel
theorem dX11_toils_28 : decode cX11_toils 28 = .ok (.getfield 35, 3) := by decide +kernel
theorem dX11_toils_31 : decode cX11_toils 31 = .ok (.aload_n 0, 1) := by decide +kernel
theorem dX11_toils_32 : decode cX11_toils 32 = .ok (.getfield 12, 3) := by decide +kernel
theorem dX11_toils_35 : decode cX11_toils 35 = .ok (.invokevirtual 161, 3) := by decide +kernel
theorem dX11_toils_38 : decode cX11_toils 38 = .ok (.aload_n 0, 1) := by decide +kernel
theorem dX11_toils_39 : decode cX11_toils 39 = .ok (.getfield 35, 3) := by decide +kernel
theorem dX11_toils_42 : decode cX11_toils 42 = .ok (.iload_n 1, 1) := by decide +kernel
theorem dX11_toils_43 : decode cX11_toils 43 = .ok (.invokevirtual 142, 3) := by decide +kernel
theorem dX11_toils_46 : decode cX11_toils 46 = .ok (.aload_n 0, 1) := by decide +kernel
theorem dX11_toils_47 : decode cX11_toils 47 = .ok (.getfield 35, 3) := by decide +kernel
theorem dX11_toils_50 : decode cX11_toils 50 = .ok (.getfield 118, 3) := by decide +kernel
theorem dX11_toils_53 : decode cX11_toils 53 = .ok (.iload_n 2, 1) := by decide +kernel
theorem dX11_toils_54 : decode cX11_toils 54 = .ok (.iaload, 1) := by decide +kernel
theorem dX11_toils_55 : decode cX11_toils 55 = .ok (.aload_n 0, 1) := by decide +kernel
theorem dX11_toils_56 : decode cX11_toils 56 = .ok (.getfield 35, 3) := by decide +kernel
theorem dX11_toils_59 : decode cX11_toils 59 = .ok (.getfield 164, 3) := by decide +kernel
theorem dX11_toils_62 : decode cX11_toils 62 = .ok (.iload_n 2, 1) := by decide +kernel
theorem dX11_toils_63 : decode cX11_toils 63 = .ok (.iaload, 1) := by decide +kernel
theorem dX11_toils_64 : decode cX11_toils 64 = .ok (.isub, 1) := by decide +kernel
theorem dX11_toils_65 : decode cX11_toils 65 = .ok (.ireturn, 1) := by decide +kernel
theorem dX11_soon_0 : decode cX11_soon 0 = .ok (.aload_n 0, 1) := by decide +kernel
theorem dX11_soon_1 : decode cX11_soon 1 = .ok (.aload_n 0, 1) := by decide +kernel
theorem dX11_soon_2 : decode cX11_soon 2 = .ok (.getfield 12, 3) := by decide +kernel
theorem dX11_soon_5 : decode cX11_soon 5 = .ok (.invokevirtual 167, 3) := by decide +kernel
theorem dX11_soon_8 : decode cX11_soon 8 = .ok (.ireturn, 1) := by decide +kernel
theorem dX11_side_0 : decode cX11_side 0 = .ok (.iload_n 1, 1) := by decide +kernel
theorem dX11_side_1 : decode cX11_side 1 = .ok (.iconst 2, 1) := by decide +kernel
theorem dX11_side_2 : decode cX11_side 2 = .ok (.invokestatic 69, 3) := by decide +kernel
theorem dX11_side_5 : decode cX11_side 5 = .ok (.ifCond .eq 11, 3) := by decide +kernel
theorem dX11_side_8 : decode cX11_side 8 = .ok (.iload_n 2, 1) := by decide +kernel
theorem dX11_side_9 : decode cX11_side 9 = .ok (.iconst 2, 1) := by decide +kernel
theorem dX11_side_10 : decode cX11_side 10 = .ok (.invokestatic 69, 3) := by decide +kernel
theorem dX11_side_13 : decode cX11_side 13 = .ok (.ifCond .ne 5, 3) := by decide +kernel
theorem dX11_side_16 : decode cX11_side 16 = .ok (.iconst (-1), 1) := by decide +kernel
theorem dX11_side_17 : decode cX11_side 17 = .ok (.ireturn, 1) := by decide +kernel
theorem dX11_side_18 : decode cX11_side 18 = .ok (.iconst 0, 1) := by decide +kernel
theorem dX11_side_19 : decode cX11_side 19 = .ok (.istore_n 3, 1) := by decide +kernel
theorem dX11_side_20 : decode cX11_side 20 = .ok (.ldc 152, 2) := by decide +kernel
theorem dX11_side_22 : decode cX11_side 22 = .ok (.istore 4, 2) := by decide +kernel
theorem dX11_side_24 : decode cX11_side 24 = .ok (.iconst 0, 1) := by decide +kernel
theorem dX11_side_25 : decode cX11_side 25 = .ok (.istore 5, 2) := by decide +kernel
theorem dX11_side_27 : decode cX11_side 27 = .ok (.iload 5, 2) := by decide +kernel
theorem dX11_side_29 : decode cX11_side 29 = .ok (.iconst 4, 1) := by decide +kernel
theorem dX11_side_30 : decode cX11_side 30 = .ok (.if_icmp .ge 58, 3) := by decide +kernel
theorem dX11_side_33 : decode cX11_side 33 = .ok (.aload_n 0, 1) := by decide +kernel
theorem dX11_side_34 : decode cX11_side 34 = .ok (.getfield 16, 3) := by decide +kernel
theorem dX11_side_37 : decode cX11_side 37 = .ok (.aload_n 0, 1) := by decide +kernel
theorem dX11_side_38 : decode cX11_side 38 = .ok (.getfield 12, 3) := by decide +kernel
theorem dX11_side_41 : decode cX11_side 41 = .ok (.invokevirtual 62, 3) := by decide +kernel
theorem dX11_side_44 : decode cX11_side 44 = .ok (.aload_n 0, 1) := by decide +kernel
theorem dX11_side_45 : decode cX11_side 45 = .ok (.getfield 16, 3) := by decide +kernel
theorem dX11_side_48 : decode cX11_side 48 = .ok (.iload_n 1, 1) := by decide +kernel
theorem dX11_side_49 : decode cX11_side 49 = .ok (.iload 5, 2) := by decide +kernel
theorem dX11_side_51 : decode cX11_side 51 = .ok (.invokevirtual 106, 3) := by decide +kernel
theorem dX11_side_54 : decode cX11_side 54 = .ok (.iconst (-1), 1) := by decide +kernel
theorem dX11_side_55 : decode cX11_side 55 = .ok (.if_icmp .eq 27, 3) := by decide +kernel
theorem dX11_side_58 : decode cX11_side 58 = .ok (.aload_n 0, 1) := by decide +kernel
theorem dX11_side_59 : decode cX11_side 59 = .ok (.aload_n 0, 1) := by decide +kernel
theorem dX11_side_60 : decode cX11_side 60 = .ok (.getfield 16, 3) := by decide +kernel
theorem dX11_side_63 : decode cX11_side 63 = .ok (.invokevirtual 167, 3) := by decide +kernel
theorem dX11_side_66 : decode cX11_side 66 = .ok (.istore 6, 2) := by decide +kernel
theorem dX11_side_68 : decode cX11_side 68 = .ok (.iload 6, 2) := by decide +kernel
theorem dX11_side_70 : decode cX11_side 70 = .ok (.iload 4, 2) := by decide +kernel
theorem dX11_side_72 : decode cX11_side 72 = .ok (.if_icmp .ge 10, 3) := by decide +kernel
theorem dX11_side_75 : decode cX11_side 75 = .ok (.iload 6, 2) := by decide +kernel
theorem dX11_side_77 : decode cX11_side 77 = .ok (.istore 4, 2) := by decide +kernel
theorem dX11_side_79 : decode cX11_side 79 = .ok (.iload 5, 2) := by decide +kernel
theorem dX11_side_81 : decode cX11_side 81 = .ok (.istore_n 3, 1) := by decide +kernel
theorem dX11_side_82 : decode cX11_side 82 = .ok (.iinc 5 1, 3) := by decide +kernel
theorem dX11_side_85 : decode cX11_side 85 = .ok (.goto (-58), 3) := by decide +kernel
theorem dX11_side_88 : decode cX11_side 88 = .ok (.iload_n 2, 1) := by decide +kernel
theorem dX11_side_89 : decode cX11_side 89 = .ok (.ifCond .ne 7, 3) := by decide +kernel
theorem dX11_side_92 : decode cX11_side 92 = .ok (.iload_n 3, 1) := by decide +kernel
theorem dX11_side_93 : decode cX11_side 93 = .ok (.goto 5, 3) := by decide +kernel
theorem dX11_side_96 : decode cX11_side 96 = .ok (.iload 4, 2) := by decide +kernel
theorem dX11_side_98 : decode cX11_side 98 = .ok (.ireturn, 1) := by decide +kernel
theorem dX11_taken_0 : decode cX11_taken 0 = .ok (.iload_n 1, 1) := by decide +kernel
theorem dX11_taken_1 : decode cX11_taken 1 = .ok (.sipush 256, 3) := by decide +kernel
theorem dX11_taken_4 : decode cX11_taken 4 = .ok (.invokestatic 69, 3) := by decide +kernel
theorem dX11_taken_7 : decode cX11_taken 7 = .ok (.ifCond .eq 13, 3) := by decide +kernel
theorem dX11_taken_10 : decode cX11_taken 10 = .ok (.iload_n 2, 1) := by decide +kernel
theorem dX11_taken_11 : decode cX11_taken 11 = .ok (.sipush 256, 3) := by decide +kernel
theorem dX11_taken_14 : decode cX11_taken 14 = .ok (.invokestatic 69, 3) := by decide +kernel
theorem dX11_taken_17 : decode cX11_taken 17 = .ok (.ifCond .ne 5, 3) := by decide +kernel
theorem dX11_taken_20 : decode cX11_taken 20 = .ok (.iconst (-1), 1) := by decide +kernel
theorem dX11_taken_21 : decode cX11_taken 21 = .ok (.ireturn, 1) := by decide +kernel
theorem dX11_taken_22 : decode cX11_taken 22 = .ok (.iload_n 3, 1) := by decide +kernel
theorem dX11_taken_23 : decode cX11_taken 23 = .ok (.bipush 9, 2) := by decide +kernel
theorem dX11_taken_25 : decode cX11_taken 25 = .ok (.invokestatic 69, 3) := by decide +kernel
theorem dX11_taken_28 : decode cX11_taken 28 = .ok (.ifCond .ne 5, 3) := by decide +kernel
theorem dX11_taken_31 : decode cX11_taken 31 = .ok (.iconst (-1), 1) := by decide +kernel
theorem dX11_taken_32 : decode cX11_taken 32 = .ok (.ireturn, 1) := by decide +kernel
theorem dX11_taken_33 : decode cX11_taken 33 = .ok (.iload_n 1, 1) := by decide +kernel
theorem dX11_taken_34 : decode cX11_taken 34 = .ok (.iload_n 2, 1) := by decide +kernel
theorem dX11_taken_35 : decode cX11_taken 35 = .ok (.iload_n 3, 1) := by decide +kernel
theorem dX11_taken_36 : decode cX11_taken 36 = .ok (.invokestatic 171, 3) := by decide +kernel
theorem dX11_taken_39 : decode cX11_taken 39 = .ok (.ifCond .eq 7, 3) := by decide +kernel
theorem dX11_taken_42 : decode cX11_taken 42 = .ok (.iconst 1, 1) := by decide +kernel
theorem dX11_taken_43 : decode cX11_taken 43 = .ok (.goto 4, 3) := by decide +kernel
theorem dX11_taken_46 : decode cX11_taken 46 = .ok (.iconst 0, 1) := by decide +kernel
theorem dX11_taken_47 : decode cX11_taken 47 = .ok (.ireturn, 1) := by decide +kernel
theorem dX11_safe_0 : decode cX11_safe 0 = .ok (.iload_n 2, 1) := by decide +kernel
theorem dX11_safe_1 : decode cX11_safe 1 = .ok (.bipush 9, 2) := by decide +kernel
theorem dX11_safe_3 : decode cX11_safe 3 = .ok (.invokestatic 69, 3) := by decide +kernel
theorem dX11_safe_6 : decode cX11_safe 6 = .ok (.ifCond .eq 11, 3) := by decide +kernel
theorem dX11_safe_9 : decode cX11_safe 9 = .ok (.iload_n 3, 1) := by decide +kernel
theorem dX11_safe_10 : decode cX11_safe 10 = .ok (.iconst 2, 1) := by decide +kernel
theorem dX11_safe_11 : decode cX11_safe 11 = .ok (.invokestatic 69, 3) := by decide +kernel
theorem dX11_safe_14 : decode cX11_safe 14 = .ok (.ifCond .ne 5, 3) := by decide +kernel
theorem dX11_safe_17 : decode cX11_safe 17 = .ok (.iconst (-1), 1) := by decide +kernel
theorem dX11_safe_18 : decode cX11_safe 18 = .ok (.ireturn, 1) := by decide +kernel
theorem dX11_safe_19 : decode cX11_safe 19 = .ok (.aload_n 0, 1) := by decide +kernel
theorem dX11_safe_20 : decode cX11_safe 20 = .ok (.iload_n 1, 1) := by decide +kernel
theorem dX11_safe_21 : decode cX11_safe 21 = .ok (.iconst 0, 1) := by decide +kernel
theorem dX11_safe_22 : decode cX11_safe 22 = .ok (.invokevirtual 50, 3) := by decide +kernel
theorem dX11_safe_25 : decode cX11_safe 25 = .ok (.astore 4, 2) := by decide +kernel
theorem dX11_safe_27 : decode cX11_safe 27 = .ok (.aload 4, 2) := by decide +kernel
theorem dX11_safe_29 : decode cX11_safe 29 = .ok (.ifnonnull 9, 3) := by decide +kernel
theorem dX11_safe_32 : decode cX11_safe 32 = .ok (.aload_n 0, 1) := by decide +kernel
theorem dX11_safe_33 : decode cX11_safe 33 = .ok (.iload_n 1, 1) := by decide +kernel
theorem dX11_safe_34 : decode cX11_safe 34 = .ok (.invokevirtual 54, 3) := by decide +kernel
theorem dX11_safe_37 : decode cX11_safe 37 = .ok (.ireturn, 1) := by decide +kernel
theorem dX11_safe_38 : decode cX11_safe 38 = .ok (.aload 4, 2) := by decide +kernel
theorem dX11_safe_40 : decode cX11_safe 40 = .ok (.getfield 132, 3) := by decide +kernel
theorem dX11_safe_43 : decode cX11_safe 43 = .ok (.bipush 8, 2) := by decide +kernel
theorem dX11_safe_45 : decode cX11_safe 45 = .ok (.if_icmp .le 6, 3) := by decide +kernel
theorem dX11_safe_48 : decode cX11_safe 48 = .ok (.bipush (-13), 2) := by decide +kernel
theorem dX11_safe_50 : decode cX11_safe 50 = .ok (.ireturn, 1) := by decide +kernel
theorem dX11_safe_51 : decode cX11_safe 51 = .ok (.aload_n 0, 1) := by decide +kernel
theorem dX11_safe_52 : decode cX11_safe 52 = .ok (.aload 4, 2) := by decide +kernel
theorem dX11_safe_54 : decode cX11_safe 54 = .ok (.iload_n 2, 1) := by decide +kernel
theorem dX11_safe_55 : decode cX11_safe 55 = .ok (.invokevirtual 175, 3) := by decide +kernel
theorem dX11_safe_58 : decode cX11_safe 58 = .ok (.iconst 0, 1) := by decide +kernel
theorem dX11_safe_59 : decode cX11_safe 59 = .ok (.istore 5, 2) := by decide +kernel
theorem dX11_safe_61 : decode cX11_safe 61 = .ok (.iconst 0, 1) := by decide +kernel
theorem dX11_safe_62 : decode cX11_safe 62 = .ok (.istore 6, 2) := by decide +kernel
theorem dX11_safe_64 : decode cX11_safe 64 = .ok (.iconst 1, 1) := by decide +kernel
theorem dX11_safe_65 : decode cX11_safe 65 = .ok (.istore 7, 2) := by decide +kernel
theorem dX11_safe_67 : decode cX11_safe 67 = .ok (.iload 7, 2) := by decide +kernel
theorem dX11_safe_69 : decode cX11_safe 69 = .ok (.iconst 1, 1) := by decide +kernel
theorem dX11_safe_70 : decode cX11_safe 70 = .ok (.aload 4, 2) := by decide +kernel
theorem dX11_safe_72 : decode cX11_safe 72 = .ok (.getfield 132, 3) := by decide +kernel
theorem dX11_safe_75 : decode cX11_safe 75 = .ok (.ishl, 1) := by decide +kernel
theorem dX11_safe_76 : decode cX11_safe 76 = .ok (.if_icmp .ge 40, 3) := by decide +kernel
theorem dX11_safe_79 : decode cX11_safe 79 = .ok (.iload 7, 2) := by decide +kernel
theorem dX11_safe_81 : decode cX11_safe 81 = .ok (.invokestatic 179, 3) := by decide +kernel
theorem dX11_safe_84 : decode cX11_safe 84 = .ok (.istore 8, 2) := by decide +kernel
theorem dX11_safe_86 : decode cX11_safe 86 = .ok (.iload 8, 2) := by decide +kernel
theorem dX11_safe_88 : decode cX11_safe 88 = .ok (.iload 6, 2) := by decide +kernel
theorem dX11_safe_90 : decode cX11_safe 90 = .ok (.if_icmp .le 20, 3) := by decide +kernel
theorem dX11_safe_93 : decode cX11_safe 93 = .ok (.aload_n 0, 1) := by decide +kernel
theorem dX11_safe_94 : decode cX11_safe 94 = .ok (.iload 7, 2) := by decide +kernel
theorem dX11_safe_96 : decode cX11_safe 96 = .ok (.invokevirtual 184, 3) := by decide +kernel
theorem dX11_safe_99 : decode cX11_safe 99 = .ok (.ifCond .eq 11, 3) := by decide +kernel
theorem dX11_safe_102 : decode cX11_safe 102 = .ok (.iload 8, 2) := by decide +kernel
theorem dX11_safe_104 : decode cX11_safe 104 = .ok (.istore 6, 2) := by decide +kernel
theorem dX11_safe_106 : decode cX11_safe 106 = .ok (.iload 7, 2) := by decide +kernel
theorem dX11_safe_108 : decode cX11_safe 108 = .ok (.istore 5, 2) := by decide +kernel
theorem dX11_safe_110 : decode cX11_safe 110 = .ok (.iinc 7 1, 3) := by decide +kernel
theorem dX11_safe_113 : decode cX11_safe 113 = .ok (.goto (-46), 3) := by decide +kernel
theorem dX11_safe_116 : decode cX11_safe 116 = .ok (.iload_n 3, 1) := by decide +kernel
theorem dX11_safe_117 : decode cX11_safe 117 = .ok (.ifCond .ne 8, 3) := by decide +kernel
theorem dX11_safe_120 : decode cX11_safe 120 = .ok (.iload 5, 2) := by decide +kernel
theorem dX11_safe_122 : decode cX11_safe 122 = .ok (.goto 5, 3) := by decide +kernel
theorem dX11_safe_125 : decode cX11_safe 125 = .ok (.iload 6, 2) := by decide +kernel
theorem dX11_safe_127 : decode cX11_safe 127 = .ok (.ireturn, 1) := by decide +kernel
theorem dX11_seeded_0 : decode cX11_seeded 0 = .ok (.iload_n 1, 1) := by decide +kernel
theorem dX11_seeded_1 : decode cX11_seeded 1 = .ok (.iconst 1, 1) := by decide +kernel
theorem dX11_seeded_2 : decode cX11_seeded 2 = .ok (.if_icmp .lt 17, 3) := by decide +kernel
theorem dX11_seeded_5 : decode cX11_seeded 5 = .ok (.iload_n 1, 1) := by decide +kernel
theorem dX11_seeded_6 : decode cX11_seeded 6 = .ok (.bipush 40, 2) := by decide +kernel
theorem dX11_seeded_8 : decode cX11_seeded 8 = .ok (.if_icmp .gt 11, 3) := by decide +kernel
theorem dX11_seeded_11 : decode cX11_seeded 11 = .ok (.iload_n 3, 1) := by decide +kernel
theorem dX11_seeded_12 : decode cX11_seeded 12 = .ok (.iconst 2, 1) := by decide +kernel
theorem dX11_seeded_13 : decode cX11_seeded 13 = .ok (.invokestatic 69, 3) := by decide +kernel
theorem dX11_seeded_16 : decode cX11_seeded 16 = .ok (.ifCond .ne 5, 3) := by decide +kernel
theorem dX11_seeded_19 : decode cX11_seeded 19 = .ok (.iconst (-1), 1) := by decide +kernel
theorem dX11_seeded_20 : decode cX11_seeded 20 = .ok (.ireturn, 1) := by decide +kernel
theorem dX11_seeded_21 : decode cX11_seeded 21 = .ok (.aload_n 0, 1) := by decide +kernel
theorem dX11_seeded_22 : decode cX11_seeded 22 = .ok (.getfield 16, 3) := by decide +kernel
theorem dX11_seeded_25 : decode cX11_seeded 25 = .ok (.aload_n 0, 1) := by decide +kernel
theorem dX11_seeded_26 : decode cX11_seeded 26 = .ok (.getfield 12, 3) := by decide +kernel
theorem dX11_seeded_29 : decode cX11_seeded 29 = .ok (.invokevirtual 62, 3) := by decide +kernel
theorem dX11_seeded_32 : decode cX11_seeded 32 = .ok (.aload_n 0, 1) := by decide +kernel
theorem dX11_seeded_33 : decode cX11_seeded 33 = .ok (.getfield 16, 3) := by decide +kernel
theorem dX11_seeded_36 : decode cX11_seeded 36 = .ok (.invokevirtual 110, 3) := by decide +kernel
theorem dX11_seeded_39 : decode cX11_seeded 39 = .ok (.ifCond .eq 7, 3) := by decide +kernel
theorem dX11_seeded_42 : decode cX11_seeded 42 = .ok (.iconst 0, 1) := by decide +kernel
theorem dX11_seeded_43 : decode cX11_seeded 43 = .ok (.goto 5, 3) := by decide +kernel
theorem dX11_seeded_46 : decode cX11_seeded 46 = .ok (.bipush (-4), 2) := by decide +kernel
theorem dX11_seeded_48 : decode cX11_seeded 48 = .ok (.istore 4, 2) := by decide +kernel
theorem dX11_seeded_50 : decode cX11_seeded 50 = .ok (.iload_n 2, 1) := by decide +kernel
theorem dX11_seeded_51 : decode cX11_seeded 51 = .ok (.istore 5, 2) := by decide +kernel
theorem dX11_seeded_53 : decode cX11_seeded 53 = .ok (.iconst 1, 1) := by decide +kernel
theorem dX11_seeded_54 : decode cX11_seeded 54 = .ok (.istore 6, 2) := by decide +kernel
theorem dX11_seeded_56 : decode cX11_seeded 56 = .ok (.iload 6, 2) := by decide +kernel
theorem dX11_seeded_58 : decode cX11_seeded 58 = .ok (.iload_n 1, 1) := by decide +kernel
theorem dX11_seeded_59 : decode cX11_seeded 59 = .ok (.if_icmp .gt 68, 3) := by decide +kernel
theorem dX11_seeded_62 : decode cX11_seeded 62 = .ok (.iload 5, 2) := by decide +kernel
theorem dX11_seeded_64 : decode cX11_seeded 64 = .ok (.invokestatic 188, 3) := by decide +kernel
theorem dX11_seeded_67 : decode cX11_seeded 67 = .ok (.istore 5, 2) := by decide +kernel
theorem dX11_seeded_69 : decode cX11_seeded 69 = .ok (.iload 5, 2) := by decide +kernel
theorem dX11_seeded_71 : decode cX11_seeded 71 = .ok (.iconst 2, 1) := by decide +kernel
theorem dX11_seeded_72 : decode cX11_seeded 72 = .ok (.invokestatic 191, 3) := by decide +kernel
theorem dX11_seeded_75 : decode cX11_seeded 75 = .ok (.istore 7, 2) := by decide +kernel
theorem dX11_seeded_77 : decode cX11_seeded 77 = .ok (.iload 5, 2) := by decide +kernel
theorem dX11_seeded_79 : decode cX11_seeded 79 = .ok (.invokestatic 188, 3) := by decide +kernel
theorem dX11_seeded_82 : decode cX11_seeded 82 = .ok (.istore 5, 2) := by decide +kernel
theorem dX11_seeded_84 : decode cX11_seeded 84 = .ok (.aload_n 0, 1) := by decide +kernel
theorem dX11_seeded_85 : decode cX11_seeded 85 = .ok (.getfield 16, 3) := by decide +kernel
theorem dX11_seeded_88 : decode cX11_seeded 88 = .ok (.iload 7, 2) := by decide +kernel
theorem dX11_seeded_90 : decode cX11_seeded 90 = .ok (.iload 5, 2) := by decide +kernel
theorem dX11_seeded_92 : decode cX11_seeded 92 = .ok (.iconst 4, 1) := by decide +kernel
theorem dX11_seeded_93 : decode cX11_seeded 93 = .ok (.invokestatic 191, 3) := by decide +kernel
theorem dX11_seeded_96 : decode cX11_seeded 96 = .ok (.invokevirtual 106, 3) := by decide +kernel
theorem dX11_seeded_99 : decode cX11_seeded 99 = .ok (.pop, 1) := by decide +kernel
theorem dX11_seeded_100 : decode cX11_seeded 100 = .ok (.iload 4, 2) := by decide +kernel
theorem dX11_seeded_102 : decode cX11_seeded 102 = .ok (.bipush (-4), 2) := by decide +kernel
theorem dX11_seeded_104 : decode cX11_seeded 104 = .ok (.if_icmp .ne 17, 3) := by decide +kernel
theorem dX11_seeded_107 : decode cX11_seeded 107 = .ok (.aload_n 0, 1) := by decide +kernel
theorem dX11_seeded_108 : decode cX11_seeded 108 = .ok (.getfield 16, 3) := by decide +kernel
theorem dX11_seeded_111 : decode cX11_seeded 111 = .ok (.invokevirtual 110, 3) := by decide +kernel
theorem dX11_seeded_114 : decode cX11_seeded 114 = .ok (.ifCond .eq 7, 3) := by decide +kernel
theorem dX11_seeded_117 : decode cX11_seeded 117 = .ok (.iload 6, 2) := by decide +kernel
theorem dX11_seeded_119 : decode cX11_seeded 119 = .ok (.istore 4, 2) := by decide +kernel
theorem dX11_seeded_121 : decode cX11_seeded 121 = .ok (.iinc 6 1, 3) := by decide +kernel
theorem dX11_seeded_124 : decode cX11_seeded 124 = .ok (.goto (-68), 3) := by decide +kernel
theorem dX11_seeded_127 : decode cX11_seeded 127 = .ok (.iload_n 3, 1) := by decide +kernel
theorem dX11_seeded_128 : decode cX11_seeded 128 = .ok (.ifCond .ne 13, 3) := by decide +kernel
theorem dX11_seeded_131 : decode cX11_seeded 131 = .ok (.aload_n 0, 1) := by decide +kernel
theorem dX11_seeded_132 : decode cX11_seeded 132 = .ok (.getfield 16, 3) := by decide +kernel
theorem dX11_seeded_135 : decode cX11_seeded 135 = .ok (.invokevirtual 194, 3) := by decide +kernel
theorem dX11_seeded_138 : decode cX11_seeded 138 = .ok (.goto 5, 3) := by decide +kernel
theorem dX11_seeded_141 : decode cX11_seeded 141 = .ok (.iload 4, 2) := by decide +kernel
theorem dX11_seeded_143 : decode cX11_seeded 143 = .ok (.ireturn, 1) := by decide +kernel
theorem dX11_judge_0 : decode cX11_judge 0 = .ok (.aload_n 0, 1) := by decide +kernel
theorem dX11_judge_1 : decode cX11_judge 1 = .ok (.iload_n 1, 1) := by decide +kernel
theorem dX11_judge_2 : decode cX11_judge 2 = .ok (.invokevirtual 197, 3) := by decide +kernel
theorem dX11_judge_5 : decode cX11_judge 5 = .ok (.astore_n 2, 1) := by decide +kernel
theorem dX11_judge_6 : decode cX11_judge 6 = .ok (.aload_n 2, 1) := by decide +kernel
theorem dX11_judge_7 : decode cX11_judge 7 = .ok (.ifnonnull 9, 3) := by decide +kernel
theorem dX11_judge_10 : decode cX11_judge 10 = .ok (.aload_n 0, 1) := by decide +kernel
theorem dX11_judge_11 : decode cX11_judge 11 = .ok (.iload_n 1, 1) := by decide +kernel
theorem dX11_judge_12 : decode cX11_judge 12 = .ok (.invokevirtual 54, 3) := by decide +kernel
theorem dX11_judge_15 : decode cX11_judge 15 = .ok (.ireturn, 1) := by decide +kernel
theorem dX11_judge_16 : decode cX11_judge 16 = .ok (.aload_n 0, 1) := by decide +kernel
theorem dX11_judge_17 : decode cX11_judge 17 = .ok (.getfield 16, 3) := by decide +kernel
theorem dX11_judge_20 : decode cX11_judge 20 = .ok (.aload_n 0, 1) := by decide +kernel
theorem dX11_judge_21 : decode cX11_judge 21 = .ok (.getfield 12, 3) := by decide +kernel
theorem dX11_judge_24 : decode cX11_judge 24 = .ok (.invokevirtual 62, 3) := by decide +kernel
theorem dX11_judge_27 : decode cX11_judge 27 = .ok (.iconst 0, 1) := by decide +kernel
theorem dX11_judge_28 : decode cX11_judge 28 = .ok (.istore_n 3, 1) := by decide +kernel
theorem dX11_judge_29 : decode cX11_judge 29 = .ok (.iload_n 3, 1) := by decide +kernel
theorem dX11_judge_30 : decode cX11_judge 30 = .ok (.iconst 2, 1) := by decide +kernel
theorem dX11_judge_31 : decode cX11_judge 31 = .ok (.iadd, 1) := by decide +kernel
theorem dX11_judge_32 : decode cX11_judge 32 = .ok (.aload_n 2, 1) := by decide +kernel
theorem dX11_judge_33 : decode cX11_judge 33 = .ok (.getfield 132, 3) := by decide +kernel
theorem dX11_judge_36 : decode cX11_judge 36 = .ok (.if_icmp .ge 75, 3) := by decide +kernel
theorem dX11_judge_39 : decode cX11_judge 39 = .ok (.aload_n 2, 1) := by decide +kernel
theorem dX11_judge_40 : decode cX11_judge 40 = .ok (.iload_n 3, 1) := by decide +kernel
theorem dX11_judge_41 : decode cX11_judge 41 = .ok (.invokevirtual 200, 3) := by decide +kernel
theorem dX11_judge_44 : decode cX11_judge 44 = .ok (.istore 4, 2) := by decide +kernel
theorem dX11_judge_46 : decode cX11_judge 46 = .ok (.iload 4, 2) := by decide +kernel
theorem dX11_judge_48 : decode cX11_judge 48 = .ok (.iconst 2, 1) := by decide +kernel
theorem dX11_judge_49 : decode cX11_judge 49 = .ok (.invokestatic 69, 3) := by decide +kernel
theorem dX11_judge_52 : decode cX11_judge 52 = .ok (.ifCond .ne 5, 3) := by decide +kernel
theorem dX11_judge_55 : decode cX11_judge 55 = .ok (.iload_n 3, 1) := by decide +kernel
theorem dX11_judge_56 : decode cX11_judge 56 = .ok (.ireturn, 1) := by decide +kernel
theorem dX11_judge_57 : decode cX11_judge 57 = .ok (.aload_n 0, 1) := by decide +kernel
theorem dX11_judge_58 : decode cX11_judge 58 = .ok (.getfield 16, 3) := by decide +kernel
theorem dX11_judge_61 : decode cX11_judge 61 = .ok (.iload 4, 2) := by decide +kernel
theorem dX11_judge_63 : decode cX11_judge 63 = .ok (.aload_n 2, 1) := by decide +kernel
theorem dX11_judge_64 : decode cX11_judge 64 = .ok (.iload_n 3, 1) := by decide +kernel
theorem dX11_judge_65 : decode cX11_judge 65 = .ok (.iconst 1, 1) := by decide +kernel
theorem dX11_judge_66 : decode cX11_judge 66 = .ok (.iadd, 1) := by decide +kernel
theorem dX11_judge_67 : decode cX11_judge 67 = .ok (.invokevirtual 200, 3) := by decide +kernel
theorem dX11_judge_70 : decode cX11_judge 70 = .ok (.invokevirtual 106, 3) := by decide +kernel
theorem dX11_judge_73 : decode cX11_judge 73 = .ok (.iconst (-1), 1) := by decide +kernel
theorem dX11_judge_74 : decode cX11_judge 74 = .ok (.if_icmp .ne 7, 3) := by decide +kernel
theorem dX11_judge_77 : decode cX11_judge 77 = .ok (.iload_n 3, 1) := by decide +kernel
theorem dX11_judge_78 : decode cX11_judge 78 = .ok (.iconst 1, 1) := by decide +kernel
theorem dX11_judge_79 : decode cX11_judge 79 = .ok (.iadd, 1) := by decide +kernel
theorem dX11_judge_80 : decode cX11_judge 80 = .ok (.ireturn, 1) := by decide +kernel
theorem dX11_judge_81 : decode cX11_judge 81 = .ok (.aload_n 0, 1) := by decide +kernel
theorem dX11_judge_82 : decode cX11_judge 82 = .ok (.getfield 16, 3) := by decide +kernel
theorem dX11_judge_85 : decode cX11_judge 85 = .ok (.getfield 103, 3) := by decide +kernel
theorem dX11_judge_88 : decode cX11_judge 88 = .ok (.iload 4, 2) := by decide +kernel
theorem dX11_judge_90 : decode cX11_judge 90 = .ok (.iaload, 1) := by decide +kernel
theorem dX11_judge_91 : decode cX11_judge 91 = .ok (.aload_n 2, 1) := by decide +kernel
theorem dX11_judge_92 : decode cX11_judge 92 = .ok (.iload_n 3, 1) := by decide +kernel
theorem dX11_judge_93 : decode cX11_judge 93 = .ok (.iconst 2, 1) := by decide +kernel
theorem dX11_judge_94 : decode cX11_judge 94 = .ok (.iadd, 1) := by decide +kernel
theorem dX11_judge_95 : decode cX11_judge 95 = .ok (.invokevirtual 200, 3) := by decide +kernel
theorem dX11_judge_98 : decode cX11_judge 98 = .ok (.if_icmp .eq 7, 3) := by decide +kernel
theorem dX11_judge_101 : decode cX11_judge 101 = .ok (.iload_n 3, 1) := by decide +kernel
theorem dX11_judge_102 : decode cX11_judge 102 = .ok (.iconst 2, 1) := by decide +kernel
theorem dX11_judge_103 : decode cX11_judge 103 = .ok (.iadd, 1) := by decide +kernel
theorem dX11_judge_104 : decode cX11_judge 104 = .ok (.ireturn, 1) := by decide +kernel
theorem dX11_judge_105 : decode cX11_judge 105 = .ok (.iinc 3 3, 3) := by decide +kernel
theorem dX11_judge_108 : decode cX11_judge 108 = .ok (.goto (-79), 3) := by decide +kernel
theorem dX11_judge_111 : decode cX11_judge 111 = .ok (.iload_n 3, 1) := by decide +kernel
theorem dX11_judge_112 : decode cX11_judge 112 = .ok (.aload_n 2, 1) := by decide +kernel
theorem dX11_judge_113 : decode cX11_judge 113 = .ok (.getfield 132, 3) := by decide +kernel
theorem dX11_judge_116 : decode cX11_judge 116 = .ok (.if_icmp .ge 7, 3) := by decide +kernel
theorem dX11_judge_119 : decode cX11_judge 119 = .ok (.iload_n 3, 1) := by decide +kernel
theorem dX11_judge_120 : decode cX11_judge 120 = .ok (.goto 5, 3) := by decide +kernel
theorem dX11_judge_123 : decode cX11_judge 123 = .ok (.bipush (-4), 2) := by decide +kernel
theorem dX11_judge_125 : decode cX11_judge 125 = .ok (.ireturn, 1) := by decide +kernel
theorem dX11_image_0 : decode cX11_image 0 = .ok (.aload_n 0, 1) := by decide +kernel
theorem dX11_image_1 : decode cX11_image 1 = .ok (.getfield 19, 3) := by decide +kernel
theorem dX11_image_4 : decode cX11_image 4 = .ok (.aload_n 0, 1) := by decide +kernel
theorem dX11_image_5 : decode cX11_image 5 = .ok (.getfield 12, 3) := by decide +kernel
theorem dX11_image_8 : decode cX11_image 8 = .ok (.invokevirtual 62, 3) := by decide +kernel
theorem dX11_image_11 : decode cX11_image 11 = .ok (.aload_n 0, 1) := by decide +kernel
theorem dX11_image_12 : decode cX11_image 12 = .ok (.iconst 1, 1) := by decide +kernel
theorem dX11_image_13 : decode cX11_image 13 = .ok (.putfield 22, 3) := by decide +kernel
theorem dX11_image_16 : decode cX11_image 16 = .ok (.aload_n 0, 1) := by decide +kernel
theorem dX11_image_17 : decode cX11_image 17 = .ok (.getfield 19, 3) := by decide +kernel
end
section
theorem dX11_image_20 : decode cX11_image 20 = .ok (.invokevirtual 194, 3) := by decide +kernel
theorem dX11_image_23 : decode cX11_image 23 = .ok (.ireturn, 1) := by decide +kernel
theorem dX11_restore_0 : decode cX11_restore 0 = .ok (.aload_n 0, 1) := by decide +kernel
theorem dX11_restore_1 : decode cX11_restore 1 = .ok (.getfield 22, 3) := by decide +kernel
theorem dX11_restore_4 : decode cX11_restore 4 = .ok (.ifCond .ne 6, 3) := by decide +kernel
theorem dX11_restore_7 : decode cX11_restore 7 = .ok (.bipush (-3), 2) := by decide +kernel
theorem dX11_restore_9 : decode cX11_restore 9 = .ok (.ireturn, 1) := by decide +kernel
theorem dX11_restore_10 : decode cX11_restore 10 = .ok (.aload_n 0, 1) := by decide +kernel
theorem dX11_restore_11 : decode cX11_restore 11 = .ok (.getfield 12, 3) := by decide +kernel
theorem dX11_restore_14 : decode cX11_restore 14 = .ok (.aload_n 0, 1) := by decide +kernel
theorem dX11_restore_15 : decode cX11_restore 15 = .ok (.getfield 19, 3) := by decide +kernel
theorem dX11_restore_18 : decode cX11_restore 18 = .ok (.invokevirtual 62, 3) := by decide +kernel
theorem dX11_restore_21 : decode cX11_restore 21 = .ok (.aload_n 0, 1) := by decide +kernel
theorem dX11_restore_22 : decode cX11_restore 22 = .ok (.getfield 12, 3) := by decide +kernel
theorem dX11_restore_25 : decode cX11_restore 25 = .ok (.invokevirtual 194, 3) := by decide +kernel
theorem dX11_restore_28 : decode cX11_restore 28 = .ok (.ireturn, 1) := by decide +kernel
theorem dX11_count_0 : decode cX11_count 0 = .ok (.iload_n 1, 1) := by decide +kernel
theorem dX11_count_1 : decode cX11_count 1 = .ok (.bipush 10, 2) := by decide +kernel
theorem dX11_count_3 : decode cX11_count 3 = .ok (.invokestatic 69, 3) := by decide +kernel
theorem dX11_count_6 : decode cX11_count 6 = .ok (.ifCond .ne 5, 3) := by decide +kernel
theorem dX11_count_9 : decode cX11_count 9 = .ok (.iconst (-1), 1) := by decide +kernel
theorem dX11_count_10 : decode cX11_count 10 = .ok (.ireturn, 1) := by decide +kernel
theorem dX11_count_11 : decode cX11_count 11 = .ok (.iconst 0, 1) := by decide +kernel
theorem dX11_count_12 : decode cX11_count 12 = .ok (.istore_n 2, 1) := by decide +kernel
theorem dX11_count_13 : decode cX11_count 13 = .ok (.iconst 0, 1) := by decide +kernel
theorem dX11_count_14 : decode cX11_count 14 = .ok (.istore_n 3, 1) := by decide +kernel
theorem dX11_count_15 : decode cX11_count 15 = .ok (.iload_n 3, 1) := by decide +kernel
theorem dX11_count_16 : decode cX11_count 16 = .ok (.bipush 20, 2) := by decide +kernel
theorem dX11_count_18 : decode cX11_count 18 = .ok (.if_icmp .ge 66, 3) := by decide +kernel
theorem dX11_count_21 : decode cX11_count 21 = .ok (.aload_n 0, 1) := by decide +kernel
theorem dX11_count_22 : decode cX11_count 22 = .ok (.getfield 12, 3) := by decide +kernel
theorem dX11_count_25 : decode cX11_count 25 = .ok (.getfield 73, 3) := by decide +kernel
theorem dX11_count_28 : decode cX11_count 28 = .ok (.iload_n 3, 1) := by decide +kernel
theorem dX11_count_29 : decode cX11_count 29 = .ok (.aaload, 1) := by decide +kernel
theorem dX11_count_30 : decode cX11_count 30 = .ok (.astore 4, 2) := by decide +kernel
theorem dX11_count_32 : decode cX11_count 32 = .ok (.iload_n 1, 1) := by decide +kernel
theorem dX11_count_33 : decode cX11_count 33 = .ok (.bipush 8, 2) := by decide +kernel
theorem dX11_count_35 : decode cX11_count 35 = .ok (.if_icmp .ne 14, 3) := by decide +kernel
theorem dX11_count_38 : decode cX11_count 38 = .ok (.iload_n 2, 1) := by decide +kernel
theorem dX11_count_39 : decode cX11_count 39 = .ok (.aload 4, 2) := by decide +kernel
theorem dX11_count_41 : decode cX11_count 41 = .ok (.invokevirtual 87, 3) := by decide +kernel
theorem dX11_count_44 : decode cX11_count 44 = .ok (.iadd, 1) := by decide +kernel
theorem dX11_count_45 : decode cX11_count 45 = .ok (.istore_n 2, 1) := by decide +kernel
theorem dX11_count_46 : decode cX11_count 46 = .ok (.goto 32, 3) := by decide +kernel
theorem dX11_count_49 : decode cX11_count 49 = .ok (.iload_n 1, 1) := by decide +kernel
theorem dX11_count_50 : decode cX11_count 50 = .ok (.bipush 9, 2) := by decide +kernel
theorem dX11_count_52 : decode cX11_count 52 = .ok (.if_icmp .ne 14, 3) := by decide +kernel
theorem dX11_count_55 : decode cX11_count 55 = .ok (.iload_n 2, 1) := by decide +kernel
theorem dX11_count_56 : decode cX11_count 56 = .ok (.aload 4, 2) := by decide +kernel
theorem dX11_count_58 : decode cX11_count 58 = .ok (.invokevirtual 93, 3) := by decide +kernel
theorem dX11_count_61 : decode cX11_count 61 = .ok (.iadd, 1) := by decide +kernel
theorem dX11_count_62 : decode cX11_count 62 = .ok (.istore_n 2, 1) := by decide +kernel
theorem dX11_count_63 : decode cX11_count 63 = .ok (.goto 15, 3) := by decide +kernel
theorem dX11_count_66 : decode cX11_count 66 = .ok (.iload_n 1, 1) := by decide +kernel
theorem dX11_count_67 : decode cX11_count 67 = .ok (.aload 4, 2) := by decide +kernel
theorem dX11_count_69 : decode cX11_count 69 = .ok (.invokevirtual 77, 3) := by decide +kernel
theorem dX11_count_72 : decode cX11_count 72 = .ok (.if_icmp .ne 6, 3) := by decide +kernel
theorem dX11_count_75 : decode cX11_count 75 = .ok (.iinc 2 1, 3) := by decide +kernel
theorem dX11_count_78 : decode cX11_count 78 = .ok (.iinc 3 1, 3) := by decide +kernel
theorem dX11_count_81 : decode cX11_count 81 = .ok (.goto (-66), 3) := by decide +kernel
theorem dX11_count_84 : decode cX11_count 84 = .ok (.iload_n 2, 1) := by decide +kernel
theorem dX11_count_85 : decode cX11_count 85 = .ok (.ireturn, 1) := by decide +kernel
theorem dX11_keep_0 : decode cX11_keep 0 = .ok (.iload_n 1, 1) := by decide +kernel
theorem dX11_keep_1 : decode cX11_keep 1 = .ok (.bipush 8, 2) := by decide +kernel
theorem dX11_keep_3 : decode cX11_keep 3 = .ok (.invokestatic 69, 3) := by decide +kernel
theorem dX11_keep_6 : decode cX11_keep 6 = .ok (.ifCond .eq 11, 3) := by decide +kernel
theorem dX11_keep_9 : decode cX11_keep 9 = .ok (.iload_n 2, 1) := by decide +kernel
theorem dX11_keep_10 : decode cX11_keep 10 = .ok (.iconst 2, 1) := by decide +kernel
theorem dX11_keep_11 : decode cX11_keep 11 = .ok (.invokestatic 69, 3) := by decide +kernel
theorem dX11_keep_14 : decode cX11_keep 14 = .ok (.ifCond .ne 5, 3) := by decide +kernel
theorem dX11_keep_17 : decode cX11_keep 17 = .ok (.iconst (-1), 1) := by decide +kernel
theorem dX11_keep_18 : decode cX11_keep 18 = .ok (.ireturn, 1) := by decide +kernel
theorem dX11_keep_19 : decode cX11_keep 19 = .ok (.iload_n 2, 1) := by decide +kernel
theorem dX11_keep_20 : decode cX11_keep 20 = .ok (.ifCond .ne 14, 3) := by decide +kernel
theorem dX11_keep_23 : decode cX11_keep 23 = .ok (.aload_n 0, 1) := by decide +kernel
theorem dX11_keep_24 : decode cX11_keep 24 = .ok (.getfield 28, 3) := by decide +kernel
theorem dX11_keep_27 : decode cX11_keep 27 = .ok (.iload_n 1, 1) := by decide +kernel
theorem dX11_keep_28 : decode cX11_keep 28 = .ok (.aaload, 1) := by decide +kernel
theorem dX11_keep_29 : decode cX11_keep 29 = .ok (.invokevirtual 203, 3) := by decide +kernel
theorem dX11_keep_32 : decode cX11_keep 32 = .ok (.iconst 0, 1) := by decide +kernel
theorem dX11_keep_33 : decode cX11_keep 33 = .ok (.ireturn, 1) := by decide +kernel
theorem dX11_keep_34 : decode cX11_keep 34 = .ok (.iload_n 3, 1) := by decide +kernel
theorem dX11_keep_35 : decode cX11_keep 35 = .ok (.bipush 8, 2) := by decide +kernel
theorem dX11_keep_37 : decode cX11_keep 37 = .ok (.invokestatic 69, 3) := by decide +kernel
theorem dX11_keep_40 : decode cX11_keep 40 = .ok (.ifCond .eq 13, 3) := by decide +kernel
theorem dX11_keep_43 : decode cX11_keep 43 = .ok (.iload 4, 2) := by decide +kernel
theorem dX11_keep_45 : decode cX11_keep 45 = .ok (.bipush 10, 2) := by decide +kernel
theorem dX11_keep_47 : decode cX11_keep 47 = .ok (.invokestatic 69, 3) := by decide +kernel
theorem dX11_keep_50 : decode cX11_keep 50 = .ok (.ifCond .ne 5, 3) := by decide +kernel
theorem dX11_keep_53 : decode cX11_keep 53 = .ok (.iconst (-1), 1) := by decide +kernel
theorem dX11_keep_54 : decode cX11_keep 54 = .ok (.ireturn, 1) := by decide +kernel
theorem dX11_keep_55 : decode cX11_keep 55 = .ok (.aload_n 0, 1) := by decide +kernel
theorem dX11_keep_56 : decode cX11_keep 56 = .ok (.getfield 28, 3) := by decide +kernel
theorem dX11_keep_59 : decode cX11_keep 59 = .ok (.iload_n 1, 1) := by decide +kernel
theorem dX11_keep_60 : decode cX11_keep 60 = .ok (.aaload, 1) := by decide +kernel
theorem dX11_keep_61 : decode cX11_keep 61 = .ok (.iload_n 3, 1) := by decide +kernel
theorem dX11_keep_62 : decode cX11_keep 62 = .ok (.iload 4, 2) := by decide +kernel
theorem dX11_keep_64 : decode cX11_keep 64 = .ok (.invokestatic 157, 3) := by decide +kernel
theorem dX11_keep_67 : decode cX11_keep 67 = .ok (.invokevirtual 206, 3) := by decide +kernel
theorem dX11_keep_70 : decode cX11_keep 70 = .ok (.iconst 0, 1) := by decide +kernel
theorem dX11_keep_71 : decode cX11_keep 71 = .ok (.ireturn, 1) := by decide +kernel
theorem dX11_row_0 : decode cX11_row 0 = .ok (.iload_n 1, 1) := by decide +kernel
theorem dX11_row_1 : decode cX11_row 1 = .ok (.bipush 8, 2) := by decide +kernel
theorem dX11_row_3 : decode cX11_row 3 = .ok (.invokestatic 69, 3) := by decide +kernel
theorem dX11_row_6 : decode cX11_row 6 = .ok (.ifCond .eq 17, 3) := by decide +kernel
theorem dX11_row_9 : decode cX11_row 9 = .ok (.iload_n 2, 1) := by decide +kernel
theorem dX11_row_10 : decode cX11_row 10 = .ok (.iconst 3, 1) := by decide +kernel
theorem dX11_row_11 : decode cX11_row 11 = .ok (.invokestatic 69, 3) := by decide +kernel
theorem dX11_row_14 : decode cX11_row 14 = .ok (.ifCond .eq 9, 3) := by decide +kernel
theorem dX11_row_17 : decode cX11_row 17 = .ok (.iload_n 3, 1) := by decide +kernel
theorem dX11_row_18 : decode cX11_row 18 = .ok (.bipush 100, 2) := by decide +kernel
theorem dX11_row_20 : decode cX11_row 20 = .ok (.if_icmp .le 5, 3) := by decide +kernel
theorem dX11_row_23 : decode cX11_row 23 = .ok (.iconst (-1), 1) := by decide +kernel
theorem dX11_row_24 : decode cX11_row 24 = .ok (.ireturn, 1) := by decide +kernel
theorem dX11_row_25 : decode cX11_row 25 = .ok (.iload_n 3, 1) := by decide +kernel
theorem dX11_row_26 : decode cX11_row 26 = .ok (.ifCond .ge 6, 3) := by decide +kernel
theorem dX11_row_29 : decode cX11_row 29 = .ok (.bipush (-14), 2) := by decide +kernel
theorem dX11_row_31 : decode cX11_row 31 = .ok (.ireturn, 1) := by decide +kernel
theorem dX11_row_32 : decode cX11_row 32 = .ok (.aload_n 0, 1) := by decide +kernel
theorem dX11_row_33 : decode cX11_row 33 = .ok (.getfield 28, 3) := by decide +kernel
theorem dX11_row_36 : decode cX11_row 36 = .ok (.iload_n 1, 1) := by decide +kernel
theorem dX11_row_37 : decode cX11_row 37 = .ok (.aaload, 1) := by decide +kernel
theorem dX11_row_38 : decode cX11_row 38 = .ok (.iload_n 2, 1) := by decide +kernel
theorem dX11_row_39 : decode cX11_row 39 = .ok (.iload_n 3, 1) := by decide +kernel
theorem dX11_row_40 : decode cX11_row 40 = .ok (.invokevirtual 210, 3) := by decide +kernel
theorem dX11_row_43 : decode cX11_row 43 = .ok (.iconst 0, 1) := by decide +kernel
theorem dX11_row_44 : decode cX11_row 44 = .ok (.ireturn, 1) := by decide +kernel
theorem dX11_put_0 : decode cX11_put 0 = .ok (.aload_n 0, 1) := by decide +kernel
theorem dX11_put_1 : decode cX11_put 1 = .ok (.iload_n 1, 1) := by decide +kernel
theorem dX11_put_2 : decode cX11_put 2 = .ok (.invokevirtual 197, 3) := by decide +kernel
theorem dX11_put_5 : decode cX11_put 5 = .ok (.astore 4, 2) := by decide +kernel
theorem dX11_put_7 : decode cX11_put 7 = .ok (.aload 4, 2) := by decide +kernel
theorem dX11_put_9 : decode cX11_put 9 = .ok (.ifnonnull 9, 3) := by decide +kernel
theorem dX11_put_12 : decode cX11_put 12 = .ok (.aload_n 0, 1) := by decide +kernel
theorem dX11_put_13 : decode cX11_put 13 = .ok (.iload_n 1, 1) := by decide +kernel
theorem dX11_put_14 : decode cX11_put 14 = .ok (.invokevirtual 54, 3) := by decide +kernel
theorem dX11_put_17 : decode cX11_put 17 = .ok (.ireturn, 1) := by decide +kernel
theorem dX11_put_18 : decode cX11_put 18 = .ok (.iload_n 2, 1) := by decide +kernel
theorem dX11_put_19 : decode cX11_put 19 = .ok (.aload 4, 2) := by decide +kernel
theorem dX11_put_21 : decode cX11_put 21 = .ok (.getfield 132, 3) := by decide +kernel
theorem dX11_put_24 : decode cX11_put 24 = .ok (.invokestatic 69, 3) := by decide +kernel
theorem dX11_put_27 : decode cX11_put 27 = .ok (.ifCond .ne 6, 3) := by decide +kernel
theorem dX11_put_30 : decode cX11_put 30 = .ok (.bipush (-13), 2) := by decide +kernel
theorem dX11_put_32 : decode cX11_put 32 = .ok (.ireturn, 1) := by decide +kernel
theorem dX11_put_33 : decode cX11_put 33 = .ok (.aload 4, 2) := by decide +kernel
theorem dX11_put_35 : decode cX11_put 35 = .ok (.iload_n 2, 1) := by decide +kernel
theorem dX11_put_36 : decode cX11_put 36 = .ok (.iload_n 3, 1) := by decide +kernel
theorem dX11_put_37 : decode cX11_put 37 = .ok (.invokevirtual 214, 3) := by decide +kernel
theorem dX11_put_40 : decode cX11_put 40 = .ok (.iconst 0, 1) := by decide +kernel
theorem dX11_put_41 : decode cX11_put 41 = .ok (.ireturn, 1) := by decide +kernel
theorem dX11_element_0 : decode cX11_element 0 = .ok (.iload_n 1, 1) := by decide +kernel
theorem dX11_element_1 : decode cX11_element 1 = .ok (.bipush 8, 2) := by decide +kernel
theorem dX11_element_3 : decode cX11_element 3 = .ok (.invokestatic 69, 3) := by decide +kernel
theorem dX11_element_6 : decode cX11_element 6 = .ok (.ifCond .ne 13, 3) := by decide +kernel
theorem dX11_element_9 : decode cX11_element 9 = .ok (.new 217, 3) := by decide +kernel
theorem dX11_element_12 : decode cX11_element 12 = .ok (.dup, 1) := by decide +kernel
theorem dX11_element_13 : decode cX11_element 13 = .ok (.ldc 219, 2) := by decide +kernel
theorem dX11_element_15 : decode cX11_element 15 = .ok (.invokespecial 221, 3) := by decide +kernel
theorem dX11_element_18 : decode cX11_element 18 = .ok (.athrow, 1) := by decide +kernel
theorem dX11_element_19 : decode cX11_element 19 = .ok (.aload_n 0, 1) := by decide +kernel
theorem dX11_element_20 : decode cX11_element 20 = .ok (.iload_n 1, 1) := by decide +kernel
theorem dX11_element_21 : decode cX11_element 21 = .ok (.invokevirtual 197, 3) := by decide +kernel
theorem dX11_element_24 : decode cX11_element 24 = .ok (.astore_n 3, 1) := by decide +kernel
theorem dX11_element_25 : decode cX11_element 25 = .ok (.aload_n 3, 1) := by decide +kernel
theorem dX11_element_26 : decode cX11_element 26 = .ok (.ifnonnull 13, 3) := by decide +kernel
theorem dX11_element_29 : decode cX11_element 29 = .ok (.new 224, 3) := by decide +kernel
theorem dX11_element_32 : decode cX11_element 32 = .ok (.dup, 1) := by decide +kernel
theorem dX11_element_33 : decode cX11_element 33 = .ok (.ldc 226, 2) := by decide +kernel
theorem dX11_element_35 : decode cX11_element 35 = .ok (.invokespecial 228, 3) := by decide +kernel
theorem dX11_element_38 : decode cX11_element 38 = .ok (.athrow, 1) := by decide +kernel
theorem dX11_element_39 : decode cX11_element 39 = .ok (.iload_n 2, 1) := by decide +kernel
theorem dX11_element_40 : decode cX11_element 40 = .ok (.aload_n 3, 1) := by decide +kernel
theorem dX11_element_41 : decode cX11_element 41 = .ok (.getfield 132, 3) := by decide +kernel
theorem dX11_element_44 : decode cX11_element 44 = .ok (.invokestatic 69, 3) := by decide +kernel
theorem dX11_element_47 : decode cX11_element 47 = .ok (.ifCond .ne 13, 3) := by decide +kernel
theorem dX11_element_50 : decode cX11_element 50 = .ok (.new 224, 3) := by decide +kernel
theorem dX11_element_53 : decode cX11_element 53 = .ok (.dup, 1) := by decide +kernel
theorem dX11_element_54 : decode cX11_element 54 = .ok (.ldc 229, 2) := by decide +kernel
theorem dX11_element_56 : decode cX11_element 56 = .ok (.invokespecial 228, 3) := by decide +kernel
theorem dX11_element_59 : decode cX11_element 59 = .ok (.athrow, 1) := by decide +kernel
theorem dX11_element_60 : decode cX11_element 60 = .ok (.aload_n 3, 1) := by decide +kernel
theorem dX11_element_61 : decode cX11_element 61 = .ok (.iload_n 2, 1) := by decide +kernel
theorem dX11_element_62 : decode cX11_element 62 = .ok (.invokevirtual 200, 3) := by decide +kernel
theorem dX11_element_65 : decode cX11_element 65 = .ok (.i2l, 1) := by decide +kernel
theorem dX11_element_66 : decode cX11_element 66 = .ok (.lreturn, 1) := by decide +kernel
theorem dX11_copy_0 : decode cX11_copy 0 = .ok (.iload_n 1, 1) := by decide +kernel
theorem dX11_copy_1 : decode cX11_copy 1 = .ok (.bipush 8, 2) := by decide +kernel
theorem dX11_copy_3 : decode cX11_copy 3 = .ok (.invokestatic 69, 3) := by decide +kernel
theorem dX11_copy_6 : decode cX11_copy 6 = .ok (.ifCond .eq 12, 3) := by decide +kernel
theorem dX11_copy_9 : decode cX11_copy 9 = .ok (.iload_n 3, 1) := by decide +kernel
theorem dX11_copy_10 : decode cX11_copy 10 = .ok (.bipush 8, 2) := by decide +kernel
theorem dX11_copy_12 : decode cX11_copy 12 = .ok (.invokestatic 69, 3) := by decide +kernel
theorem dX11_copy_15 : decode cX11_copy 15 = .ok (.ifCond .ne 5, 3) := by decide +kernel
theorem dX11_copy_18 : decode cX11_copy 18 = .ok (.iconst (-1), 1) := by decide +kernel
theorem dX11_copy_19 : decode cX11_copy 19 = .ok (.ireturn, 1) := by decide +kernel
theorem dX11_copy_20 : decode cX11_copy 20 = .ok (.aload_n 0, 1) := by decide +kernel
theorem dX11_copy_21 : decode cX11_copy 21 = .ok (.getfield 28, 3) := by decide +kernel
theorem dX11_copy_24 : decode cX11_copy 24 = .ok (.iload_n 1, 1) := by decide +kernel
theorem dX11_copy_25 : decode cX11_copy 25 = .ok (.aaload, 1) := by decide +kernel
theorem dX11_copy_26 : decode cX11_copy 26 = .ok (.invokevirtual 231, 3) := by decide +kernel
theorem dX11_copy_29 : decode cX11_copy 29 = .ok (.ifCond .ne 15, 3) := by decide +kernel
theorem dX11_copy_32 : decode cX11_copy 32 = .ok (.aload_n 0, 1) := by decide +kernel
theorem dX11_copy_33 : decode cX11_copy 33 = .ok (.getfield 28, 3) := by decide +kernel
theorem dX11_copy_36 : decode cX11_copy 36 = .ok (.iload_n 3, 1) := by decide +kernel
theorem dX11_copy_37 : decode cX11_copy 37 = .ok (.aaload, 1) := by decide +kernel
theorem dX11_copy_38 : decode cX11_copy 38 = .ok (.invokevirtual 231, 3) := by decide +kernel
theorem dX11_copy_41 : decode cX11_copy 41 = .ok (.ifCond .eq 6, 3) := by decide +kernel
theorem dX11_copy_44 : decode cX11_copy 44 = .ok (.bipush (-11), 2) := by decide +kernel
theorem dX11_copy_46 : decode cX11_copy 46 = .ok (.ireturn, 1) := by decide +kernel
theorem dX11_copy_47 : decode cX11_copy 47 = .ok (.aload_n 0, 1) := by decide +kernel
theorem dX11_copy_48 : decode cX11_copy 48 = .ok (.iload_n 1, 1) := by decide +kernel
theorem dX11_copy_49 : decode cX11_copy 49 = .ok (.invokevirtual 197, 3) := by decide +kernel
theorem dX11_copy_52 : decode cX11_copy 52 = .ok (.astore 6, 2) := by decide +kernel
theorem dX11_copy_54 : decode cX11_copy 54 = .ok (.aload_n 0, 1) := by decide +kernel
theorem dX11_copy_55 : decode cX11_copy 55 = .ok (.iload_n 3, 1) := by decide +kernel
theorem dX11_copy_56 : decode cX11_copy 56 = .ok (.invokevirtual 197, 3) := by decide +kernel
theorem dX11_copy_59 : decode cX11_copy 59 = .ok (.astore 7, 2) := by decide +kernel
theorem dX11_copy_61 : decode cX11_copy 61 = .ok (.aload 6, 2) := by decide +kernel
theorem dX11_copy_63 : decode cX11_copy 63 = .ok (.ifnull 21, 3) := by decide +kernel
theorem dX11_copy_66 : decode cX11_copy 66 = .ok (.aload 7, 2) := by decide +kernel
theorem dX11_copy_68 : decode cX11_copy 68 = .ok (.ifnull 16, 3) := by decide +kernel
theorem dX11_copy_71 : decode cX11_copy 71 = .ok (.aload 6, 2) := by decide +kernel
theorem dX11_copy_73 : decode cX11_copy 73 = .ok (.getfield 234, 3) := by decide +kernel
theorem dX11_copy_76 : decode cX11_copy 76 = .ok (.aload 7, 2) := by decide +kernel
theorem dX11_copy_78 : decode cX11_copy 78 = .ok (.getfield 234, 3) := by decide +kernel
theorem dX11_copy_81 : decode cX11_copy 81 = .ok (.if_icmp .eq 6, 3) := by decide +kernel
theorem dX11_copy_84 : decode cX11_copy 84 = .ok (.bipush (-12), 2) := by decide +kernel
theorem dX11_copy_86 : decode cX11_copy 86 = .ok (.ireturn, 1) := by decide +kernel
theorem dX11_copy_87 : decode cX11_copy 87 = .ok (.aload 6, 2) := by decide +kernel
theorem dX11_copy_89 : decode cX11_copy 89 = .ok (.iload_n 2, 1) := by decide +kernel
theorem dX11_copy_90 : decode cX11_copy 90 = .ok (.iload 5, 2) := by decide +kernel
theorem dX11_copy_92 : decode cX11_copy 92 = .ok (.invokevirtual 237, 3) := by decide +kernel
theorem dX11_copy_95 : decode cX11_copy 95 = .ok (.ifCond .eq 15, 3) := by decide +kernel
theorem dX11_copy_98 : decode cX11_copy 98 = .ok (.aload 7, 2) := by decide +kernel
theorem dX11_copy_100 : decode cX11_copy 100 = .ok (.iload 4, 2) := by decide +kernel
theorem dX11_copy_102 : decode cX11_copy 102 = .ok (.iload 5, 2) := by decide +kernel
theorem dX11_copy_104 : decode cX11_copy 104 = .ok (.invokevirtual 237, 3) := by decide +kernel
theorem dX11_copy_107 : decode cX11_copy 107 = .ok (.ifCond .ne 6, 3) := by decide +kernel
theorem dX11_copy_110 : decode cX11_copy 110 = .ok (.bipush (-13), 2) := by decide +kernel
theorem dX11_copy_112 : decode cX11_copy 112 = .ok (.ireturn, 1) := by decide +kernel
theorem dX11_copy_113 : decode cX11_copy 113 = .ok (.aload 6, 2) := by decide +kernel
theorem dX11_copy_115 : decode cX11_copy 115 = .ok (.getfield 240, 3) := by decide +kernel
theorem dX11_copy_118 : decode cX11_copy 118 = .ok (.iload_n 2, 1) := by decide +kernel
theorem dX11_copy_119 : decode cX11_copy 119 = .ok (.aload 7, 2) := by decide +kernel
theorem dX11_copy_121 : decode cX11_copy 121 = .ok (.getfield 240, 3) := by decide +kernel
theorem dX11_copy_124 : decode cX11_copy 124 = .ok (.iload 4, 2) := by decide +kernel
theorem dX11_copy_126 : decode cX11_copy 126 = .ok (.iload 5, 2) := by decide +kernel
theorem dX11_copy_128 : decode cX11_copy 128 = .ok (.invokestatic 243, 3) := by decide +kernel
theorem dX11_copy_131 : decode cX11_copy 131 = .ok (.iload 5, 2) := by decide +kernel
theorem dX11_copy_133 : decode cX11_copy 133 = .ok (.ireturn, 1) := by decide +kernel
theorem dX11_pay_0 : decode cX11_pay 0 = .ok (.aload_n 0, 1) := by decide +kernel
theorem dX11_pay_1 : decode cX11_pay 1 = .ok (.iload_n 1, 1) := by decide +kernel
theorem dX11_pay_2 : decode cX11_pay 2 = .ok (.invokevirtual 96, 3) := by decide +kernel
theorem dX11_pay_5 : decode cX11_pay 5 = .ok (.astore_n 2, 1) := by decide +kernel
theorem dX11_pay_6 : decode cX11_pay 6 = .ok (.aload_n 2, 1) := by decide +kernel
theorem dX11_pay_7 : decode cX11_pay 7 = .ok (.ifnonnull 9, 3) := by decide +kernel
theorem dX11_pay_10 : decode cX11_pay 10 = .ok (.aload_n 0, 1) := by decide +kernel
theorem dX11_pay_11 : decode cX11_pay 11 = .ok (.iload_n 1, 1) := by decide +kernel
theorem dX11_pay_12 : decode cX11_pay 12 = .ok (.invokevirtual 54, 3) := by decide +kernel
theorem dX11_pay_15 : decode cX11_pay 15 = .ok (.ireturn, 1) := by decide +kernel
theorem dX11_pay_16 : decode cX11_pay 16 = .ok (.aload_n 2, 1) := by decide +kernel
theorem dX11_pay_17 : decode cX11_pay 17 = .ok (.invokevirtual 249, 3) := by decide +kernel
theorem dX11_pay_20 : decode cX11_pay 20 = .ok (.ireturn, 1) := by decide +kernel
theorem dX11_toss_0 : decode cX11_toss 0 = .ok (.aload_n 0, 1) := by decide +kernel
theorem dX11_toss_1 : decode cX11_toss 1 = .ok (.iload_n 1, 1) := by decide +kernel
theorem dX11_toss_2 : decode cX11_toss 2 = .ok (.invokevirtual 96, 3) := by decide +kernel
theorem dX11_toss_5 : decode cX11_toss 5 = .ok (.astore_n 2, 1) := by decide +kernel
theorem dX11_toss_6 : decode cX11_toss 6 = .ok (.aload_n 2, 1) := by decide +kernel
theorem dX11_toss_7 : decode cX11_toss 7 = .ok (.ifnonnull 9, 3) := by decide +kernel
theorem dX11_toss_10 : decode cX11_toss 10 = .ok (.aload_n 0, 1) := by decide +kernel
theorem dX11_toss_11 : decode cX11_toss 11 = .ok (.iload_n 1, 1) := by decide +kernel
theorem dX11_toss_12 : decode cX11_toss 12 = .ok (.invokevirtual 54, 3) := by decide +kernel
theorem dX11_toss_15 : decode cX11_toss 15 = .ok (.ireturn, 1) := by decide +kernel
theorem dX11_toss_16 : decode cX11_toss 16 = .ok (.aload_n 2, 1) := by decide +kernel
theorem dX11_toss_17 : decode cX11_toss 17 = .ok (.invokevirtual 252, 3) := by decide +kernel
theorem dX11_toss_20 : decode cX11_toss 20 = .ok (.goto 28, 3) := by decide +kernel
theorem dX11_toss_23 : decode cX11_toss 23 = .ok (.astore_n 3, 1) := by decide +kernel
theorem dX11_toss_24 : decode cX11_toss 24 = .ok (.aload_n 2, 1) := by decide +kernel
theorem dX11_toss_25 : decode cX11_toss 25 = .ok (.getfield 83, 3) := by decide +kernel
theorem dX11_toss_28 : decode cX11_toss 28 = .ok (.ireturn, 1) := by decide +kernel
theorem dX11_toss_29 : decode cX11_toss 29 = .ok (.astore_n 3, 1) := by decide +kernel
theorem dX11_toss_30 : decode cX11_toss 30 = .ok (.aload_n 2, 1) := by decide +kernel
theorem dX11_toss_31 : decode cX11_toss 31 = .ok (.getfield 83, 3) := by decide +kernel
theorem dX11_toss_34 : decode cX11_toss 34 = .ok (.bipush 100, 2) := by decide +kernel
theorem dX11_toss_36 : decode cX11_toss 36 = .ok (.iadd, 1) := by decide +kernel
theorem dX11_toss_37 : decode cX11_toss 37 = .ok (.ireturn, 1) := by decide +kernel
theorem dX11_toss_38 : decode cX11_toss 38 = .ok (.astore_n 3, 1) := by decide +kernel
theorem dX11_toss_39 : decode cX11_toss 39 = .ok (.sipush 200, 3) := by decide +kernel
theorem dX11_toss_42 : decode cX11_toss 42 = .ok (.aload_n 2, 1) := by decide +kernel
theorem dX11_toss_43 : decode cX11_toss 43 = .ok (.invokevirtual 249, 3) := by decide +kernel
theorem dX11_toss_46 : decode cX11_toss 46 = .ok (.iadd, 1) := by decide +kernel
theorem dX11_toss_47 : decode cX11_toss 47 = .ok (.ireturn, 1) := by decide +kernel
theorem dX11_toss_48 : decode cX11_toss 48 = .ok (.bipush (-15), 2) := by decide +kernel
theorem dX11_toss_50 : decode cX11_toss 50 = .ok (.ireturn, 1) := by decide +kernel
theorem dX11_isBelow_0 : decode cX11_isBelow 0 = .ok (.iload_n 0, 1) := by decide +kernel
theorem dX11_isBelow_1 : decode cX11_isBelow 1 = .ok (.ifCond .lt 12, 3) := by decide +kernel
theorem dX11_isBelow_4 : decode cX11_isBelow 4 = .ok (.iload_n 0, 1) := by decide +kernel
theorem dX11_isBelow_5 : decode cX11_isBelow 5 = .ok (.iload_n 1, 1) := by decide +kernel
theorem dX11_isBelow_6 : decode cX11_isBelow 6 = .ok (.if_icmp .ge 7, 3) := by decide +kernel
theorem dX11_isBelow_9 : decode cX11_isBelow 9 = .ok (.iconst 1, 1) := by decide +kernel
theorem dX11_isBelow_10 : decode cX11_isBelow 10 = .ok (.goto 4, 3) := by decide +kernel
theorem dX11_isBelow_13 : decode cX11_isBelow 13 = .ok (.iconst 0, 1) := by decide +kernel
theorem dX11_isBelow_14 : decode cX11_isBelow 14 = .ok (.ireturn, 1) := by decide +kernel
theorem dX11_neighbour_0 : decode cX11_neighbour 0 = .ok (.iload_n 0, 1) := by decide +kernel
theorem dX11_neighbour_1 : decode cX11_neighbour 1 = .ok (.iconst 5, 1) := by decide +kernel
theorem dX11_neighbour_2 : decode cX11_neighbour 2 = .ok (.irem, 1) := by decide +kernel
theorem dX11_neighbour_3 : decode cX11_neighbour 3 = .ok (.istore_n 2, 1) := by decide +kernel
theorem dX11_neighbour_4 : decode cX11_neighbour 4 = .ok (.iload_n 0, 1) := by decide +kernel
theorem dX11_neighbour_5 : decode cX11_neighbour 5 = .ok (.iconst 5, 1) := by decide +kernel
theorem dX11_neighbour_6 : decode cX11_neighbour 6 = .ok (.idiv, 1) := by decide +kernel
theorem dX11_neighbour_7 : decode cX11_neighbour 7 = .ok (.istore_n 3, 1) := by decide +kernel
theorem dX11_neighbour_8 : decode cX11_neighbour 8 = .ok (.iload_n 1, 1) := by decide +kernel
theorem dX11_neighbour_9 : decode cX11_neighbour 9 = .ok (.tableswitch 81 0 3 #[31, 43, 56, 69], 31) := by decide +kernel
theorem dX11_neighbour_40 : decode cX11_neighbour 40 = .ok (.iload_n 3, 1) := by decide +kernel
theorem dX11_neighbour_41 : decode cX11_neighbour 41 = .ok (.ifCond .le 9, 3) := by decide +kernel
theorem dX11_neighbour_44 : decode cX11_neighbour 44 = .ok (.iload_n 0, 1) := by decide +kernel
theorem dX11_neighbour_45 : decode cX11_neighbour 45 = .ok (.iconst 5, 1) := by decide +kernel
theorem dX11_neighbour_46 : decode cX11_neighbour 46 = .ok (.isub, 1) := by decide +kernel
theorem dX11_neighbour_47 : decode cX11_neighbour 47 = .ok (.goto 4, 3) := by decide +kernel
theorem dX11_neighbour_50 : decode cX11_neighbour 50 = .ok (.iconst (-1), 1) := by decide +kernel
theorem dX11_neighbour_51 : decode cX11_neighbour 51 = .ok (.ireturn, 1) := by decide +kernel
theorem dX11_neighbour_52 : decode cX11_neighbour 52 = .ok (.iload_n 2, 1) := by decide +kernel
theorem dX11_neighbour_53 : decode cX11_neighbour 53 = .ok (.iconst 4, 1) := by decide +kernel
theorem dX11_neighbour_54 : decode cX11_neighbour 54 = .ok (.if_icmp .ge 9, 3) := by decide +kernel
theorem dX11_neighbour_57 : decode cX11_neighbour 57 = .ok (.iload_n 0, 1) := by decide +kernel
theorem dX11_neighbour_58 : decode cX11_neighbour 58 = .ok (.iconst 1, 1) := by decide +kernel
theorem dX11_neighbour_59 : decode cX11_neighbour 59 = .ok (.iadd, 1) := by decide +kernel
theorem dX11_neighbour_60 : decode cX11_neighbour 60 = .ok (.goto 4, 3) := by decide +kernel
theorem dX11_neighbour_63 : decode cX11_neighbour 63 = .ok (.iconst (-1), 1) := by decide +kernel
theorem dX11_neighbour_64 : decode cX11_neighbour 64 = .ok (.ireturn, 1) := by decide +kernel
theorem dX11_neighbour_65 : decode cX11_neighbour 65 = .ok (.iload_n 3, 1) := by decide +kernel
theorem dX11_neighbour_66 : decode cX11_neighbour 66 = .ok (.iconst 3, 1) := by decide +kernel
theorem dX11_neighbour_67 : decode cX11_neighbour 67 = .ok (.if_icmp .ge 9, 3) := by decide +kernel
theorem dX11_neighbour_70 : decode cX11_neighbour 70 = .ok (.iload_n 0, 1) := by decide +kernel
theorem dX11_neighbour_71 : decode cX11_neighbour 71 = .ok (.iconst 5, 1) := by decide +kernel
theorem dX11_neighbour_72 : decode cX11_neighbour 72 = .ok (.iadd, 1) := by decide +kernel
theorem dX11_neighbour_73 : decode cX11_neighbour 73 = .ok (.goto 4, 3) := by decide +kernel
theorem dX11_neighbour_76 : decode cX11_neighbour 76 = .ok (.iconst (-1), 1) := by decide +kernel
theorem dX11_neighbour_77 : decode cX11_neighbour 77 = .ok (.ireturn, 1) := by decide +kernel
theorem dX11_neighbour_78 : decode cX11_neighbour 78 = .ok (.iload_n 2, 1) := by decide +kernel
theorem dX11_neighbour_79 : decode cX11_neighbour 79 = .ok (.ifCond .le 9, 3) := by decide +kernel
theorem dX11_neighbour_82 : decode cX11_neighbour 82 = .ok (.iload_n 0, 1) := by decide +kernel
theorem dX11_neighbour_83 : decode cX11_neighbour 83 = .ok (.iconst 1, 1) := by decide +kernel
theorem dX11_neighbour_84 : decode cX11_neighbour 84 = .ok (.isub, 1) := by decide +kernel
theorem dX11_neighbour_85 : decode cX11_neighbour 85 = .ok (.goto 4, 3) := by decide +kernel
theorem dX11_neighbour_88 : decode cX11_neighbour 88 = .ok (.iconst (-1), 1) := by decide +kernel
theorem dX11_neighbour_89 : decode cX11_neighbour 89 = .ok (.ireturn, 1) := by decide +kernel
theorem dX11_neighbour_90 : decode cX11_neighbour 90 = .ok (.iconst (-1), 1) := by decide +kernel
theorem dX11_neighbour_91 : decode cX11_neighbour 91 = .ok (.ireturn, 1) := by decide +kernel
theorem dX11_rockOf_0 : decode cX11_rockOf 0 = .ok (.iload_n 0, 1) := by decide +kernel
theorem dX11_rockOf_1 : decode cX11_rockOf 1 = .ok (.tableswitch 106 1 7 #[43, 52, 61, 70, 79, 88, 97], 43) := by decide +kernel
theorem dX11_rockOf_44 : decode cX11_rockOf 44 = .ok (.new 257, 3) := by decide +kernel
theorem dX11_rockOf_47 : decode cX11_rockOf 47 = .ok (.dup, 1) := by decide +kernel
theorem dX11_rockOf_48 : decode cX11_rockOf 48 = .ok (.iload_n 1, 1) := by decide +kernel
theorem dX11_rockOf_49 : decode cX11_rockOf 49 = .ok (.invokespecial 259, 3) := by decide +kernel
theorem dX11_rockOf_52 : decode cX11_rockOf 52 = .ok (.areturn, 1) := by decide +kernel
theorem dX11_rockOf_53 : decode cX11_rockOf 53 = .ok (.new 261, 3) := by decide +kernel
theorem dX11_rockOf_56 : decode cX11_rockOf 56 = .ok (.dup, 1) := by decide +kernel
theorem dX11_rockOf_57 : decode cX11_rockOf 57 = .ok (.iload_n 1, 1) := by decide +kernel
theorem dX11_rockOf_58 : decode cX11_rockOf 58 = .ok (.invokespecial 263, 3) := by decide +kernel
theorem dX11_rockOf_61 : decode cX11_rockOf 61 = .ok (.areturn, 1) := by decide +kernel
theorem dX11_rockOf_62 : decode cX11_rockOf 62 = .ok (.new 264, 3) := by decide +kernel
theorem dX11_rockOf_65 : decode cX11_rockOf 65 = .ok (.dup, 1) := by decide +kernel
theorem dX11_rockOf_66 : decode cX11_rockOf 66 = .ok (.iload_n 1, 1) := by decide +kernel
theorem dX11_rockOf_67 : decode cX11_rockOf 67 = .ok (.invokespecial 266, 3) := by decide +kernel
theorem dX11_rockOf_70 : decode cX11_rockOf 70 = .ok (.areturn, 1) := by decide +kernel
theorem dX11_rockOf_71 : decode cX11_rockOf 71 = .ok (.new 267, 3) := by decide +kernel
theorem dX11_rockOf_74 : decode cX11_rockOf 74 = .ok (.dup, 1) := by decide +kernel
theorem dX11_rockOf_75 : decode cX11_rockOf 75 = .ok (.iload_n 1, 1) := by decide +kernel
theorem dX11_rockOf_76 : decode cX11_rockOf 76 = .ok (.invokespecial 269, 3) := by decide +kernel
theorem dX11_rockOf_79 : decode cX11_rockOf 79 = .ok (.areturn, 1) := by decide +kernel
theorem dX11_rockOf_80 : decode cX11_rockOf 80 = .ok (.new 270, 3) := by decide +kernel
theorem dX11_rockOf_83 : decode cX11_rockOf 83 = .ok (.dup, 1) := by decide +kernel
theorem dX11_rockOf_84 : decode cX11_rockOf 84 = .ok (.iload_n 1, 1) := by decide +kernel
theorem dX11_rockOf_85 : decode cX11_rockOf 85 = .ok (.invokespecial 272, 3) := by decide +kernel
theorem dX11_rockOf_88 : decode cX11_rockOf 88 = .ok (.areturn, 1) := by decide +kernel
theorem dX11_rockOf_89 : decode cX11_rockOf 89 = .ok (.new 273, 3) := by decide +kernel
theorem dX11_rockOf_92 : decode cX11_rockOf 92 = .ok (.dup, 1) := by decide +kernel
theorem dX11_rockOf_93 : decode cX11_rockOf 93 = .ok (.iload_n 1, 1) := by decide +kernel
theorem dX11_rockOf_94 : decode cX11_rockOf 94 = .ok (.invokespecial 275, 3) := by decide +kernel
theorem dX11_rockOf_97 : decode cX11_rockOf 97 = .ok (.areturn, 1) := by decide +kernel
theorem dX11_rockOf_98 : decode cX11_rockOf 98 = .ok (.new 276, 3) := by decide +kernel
theorem dX11_rockOf_101 : decode cX11_rockOf 101 = .ok (.dup, 1) := by decide +kernel
theorem dX11_rockOf_102 : decode cX11_rockOf 102 = .ok (.iload_n 1, 1) := by decide +kernel
theorem dX11_rockOf_103 : decode cX11_rockOf 103 = .ok (.invokespecial 278, 3) := by decide +kernel
theorem dX11_rockOf_106 : decode cX11_rockOf 106 = .ok (.areturn, 1) := by decide +kernel
theorem dX11_rockOf_107 : decode cX11_rockOf 107 = .ok (.new 78, 3) := by decide +kernel
theorem dX11_rockOf_110 : decode cX11_rockOf 110 = .ok (.dup, 1) := by decide +kernel
theorem dX11_rockOf_111 : decode cX11_rockOf 111 = .ok (.iload_n 1, 1) := by decide +kernel
theorem dX11_rockOf_112 : decode cX11_rockOf 112 = .ok (.invokespecial 279, 3) := by decide +kernel
theorem dX11_rockOf_115 : decode cX11_rockOf 115 = .ok (.areturn, 1) := by decide +kernel
theorem dX11_rockOn_0 : decode cX11_rockOn 0 = .ok (.iload_n 1, 1) := by decide +kernel
theorem dX11_rockOn_1 : decode cX11_rockOn 1 = .ok (.bipush 8, 2) := by decide +kernel
theorem dX11_rockOn_3 : decode cX11_rockOn 3 = .ok (.invokestatic 69, 3) := by decide +kernel
theorem dX11_rockOn_6 : decode cX11_rockOn 6 = .ok (.ifCond .eq 15, 3) := by decide +kernel
theorem dX11_rockOn_9 : decode cX11_rockOn 9 = .ok (.aload_n 0, 1) := by decide +kernel
theorem dX11_rockOn_10 : decode cX11_rockOn 10 = .ok (.getfield 28, 3) := by decide +kernel
theorem dX11_rockOn_13 : decode cX11_rockOn 13 = .ok (.iload_n 1, 1) := by decide +kernel
theorem dX11_rockOn_14 : decode cX11_rockOn 14 = .ok (.aaload, 1) := by decide +kernel
theorem dX11_rockOn_15 : decode cX11_rockOn 15 = .ok (.getfield 280, 3) := by decide +kernel
theorem dX11_rockOn_18 : decode cX11_rockOn 18 = .ok (.goto 4, 3) := by decide +kernel
theorem dX11_rockOn_21 : decode cX11_rockOn 21 = .ok (.aconst_null, 1) := by decide +kernel
theorem dX11_rockOn_22 : decode cX11_rockOn 22 = .ok (.areturn, 1) := by decide +kernel
theorem dX11_rowOn_0 : decode cX11_rowOn 0 = .ok (.iload_n 1, 1) := by decide +kernel
theorem dX11_rowOn_1 : decode cX11_rowOn 1 = .ok (.bipush 8, 2) := by decide +kernel
theorem dX11_rowOn_3 : decode cX11_rowOn 3 = .ok (.invokestatic 69, 3) := by decide +kernel
theorem dX11_rowOn_6 : decode cX11_rowOn 6 = .ok (.ifCond .eq 25, 3) := by decide +kernel
theorem dX11_rowOn_9 : decode cX11_rowOn 9 = .ok (.aload_n 0, 1) := by decide +kernel
theorem dX11_rowOn_10 : decode cX11_rowOn 10 = .ok (.getfield 28, 3) := by decide +kernel
theorem dX11_rowOn_13 : decode cX11_rowOn 13 = .ok (.iload_n 1, 1) := by decide +kernel
theorem dX11_rowOn_14 : decode cX11_rowOn 14 = .ok (.aaload, 1) := by decide +kernel
theorem dX11_rowOn_15 : decode cX11_rowOn 15 = .ok (.getfield 234, 3) := by decide +kernel
theorem dX11_rowOn_18 : decode cX11_rowOn 18 = .ok (.iconst (-1), 1) := by decide +kernel
theorem dX11_rowOn_19 : decode cX11_rowOn 19 = .ok (.if_icmp .eq 12, 3) := by decide +kernel
theorem dX11_rowOn_22 : decode cX11_rowOn 22 = .ok (.aload_n 0, 1) := by decide +kernel
theorem dX11_rowOn_23 : decode cX11_rowOn 23 = .ok (.getfield 28, 3) := by decide +kernel
theorem dX11_rowOn_26 : decode cX11_rowOn 26 = .ok (.iload_n 1, 1) := by decide +kernel
theorem dX11_rowOn_27 : decode cX11_rowOn 27 = .ok (.aaload, 1) := by decide +kernel
theorem dX11_rowOn_28 : decode cX11_rowOn 28 = .ok (.goto 4, 3) := by decide +kernel
theorem dX11_rowOn_31 : decode cX11_rowOn 31 = .ok (.aconst_null, 1) := by decide +kernel
theorem dX11_rowOn_32 : decode cX11_rowOn 32 = .ok (.areturn, 1) := by decide +kernel
theorem dX11_rowOn__0 : decode cX11_rowOn_ 0 = .ok (.aload_n 0, 1) := by decide +kernel
theorem dX11_rowOn__1 : decode cX11_rowOn_ 1 = .ok (.iload_n 1, 1) := by decide +kernel
theorem dX11_rowOn__2 : decode cX11_rowOn_ 2 = .ok (.invokevirtual 197, 3) := by decide +kernel
theorem dX11_rowOn__5 : decode cX11_rowOn_ 5 = .ok (.astore_n 3, 1) := by decide +kernel
theorem dX11_rowOn__6 : decode cX11_rowOn_ 6 = .ok (.aload_n 3, 1) := by decide +kernel
theorem dX11_rowOn__7 : decode cX11_rowOn_ 7 = .ok (.ifnull 15, 3) := by decide +kernel
theorem dX11_rowOn__10 : decode cX11_rowOn_ 10 = .ok (.aload_n 3, 1) := by decide +kernel
theorem dX11_rowOn__11 : decode cX11_rowOn_ 11 = .ok (.getfield 234, 3) := by decide +kernel
theorem dX11_rowOn__14 : decode cX11_rowOn_ 14 = .ok (.iload_n 2, 1) := by decide +kernel
theorem dX11_rowOn__15 : decode cX11_rowOn_ 15 = .ok (.if_icmp .ne 7, 3) := by decide +kernel
theorem dX11_rowOn__18 : decode cX11_rowOn_ 18 = .ok (.aload_n 3, 1) := by decide +kernel
theorem dX11_rowOn__19 : decode cX11_rowOn_ 19 = .ok (.goto 4, 3) := by decide +kernel
theorem dX11_rowOn__22 : decode cX11_rowOn_ 22 = .ok (.aconst_null, 1) := by decide +kernel
theorem dX11_rowOn__23 : decode cX11_rowOn_ 23 = .ok (.areturn, 1) := by decide +kernel
theorem dX11_whyNot_0 : decode cX11_whyNot 0 = .ok (.iload_n 1, 1) := by decide +kernel
theorem dX11_whyNot_1 : decode cX11_whyNot 1 = .ok (.bipush 8, 2) := by decide +kernel
theorem dX11_whyNot_3 : decode cX11_whyNot 3 = .ok (.invokestatic 69, 3) := by decide +kernel
theorem dX11_whyNot_6 : decode cX11_whyNot 6 = .ok (.ifCond .ne 5, 3) := by decide +kernel
theorem dX11_whyNot_9 : decode cX11_whyNot 9 = .ok (.iconst (-1), 1) := by decide +kernel
theorem dX11_whyNot_10 : decode cX11_whyNot 10 = .ok (.ireturn, 1) := by decide +kernel
theorem dX11_whyNot_11 : decode cX11_whyNot 11 = .ok (.aload_n 0, 1) := by decide +kernel
theorem dX11_whyNot_12 : decode cX11_whyNot 12 = .ok (.getfield 28, 3) := by decide +kernel
theorem dX11_whyNot_15 : decode cX11_whyNot 15 = .ok (.iload_n 1, 1) := by decide +kernel
theorem dX11_whyNot_16 : decode cX11_whyNot 16 = .ok (.aaload, 1) := by decide +kernel
theorem dX11_whyNot_17 : decode cX11_whyNot 17 = .ok (.invokevirtual 231, 3) := by decide +kernel
theorem dX11_whyNot_20 : decode cX11_whyNot 20 = .ok (.ifCond .eq 8, 3) := by decide +kernel
theorem dX11_whyNot_23 : decode cX11_whyNot 23 = .ok (.bipush (-11), 2) := by decide +kernel
theorem dX11_whyNot_25 : decode cX11_whyNot 25 = .ok (.goto 5, 3) := by decide +kernel
theorem dX11_whyNot_28 : decode cX11_whyNot 28 = .ok (.bipush (-12), 2) := by decide +kernel
theorem dX11_whyNot_30 : decode cX11_whyNot 30 = .ok (.ireturn, 1) := by decide +kernel
theorem dX11_digitsBehind_0 : decode cX11_digitsBehind 0 = .ok (.iload_n 0, 1) := by decide +kernel
theorem dX11_digitsBehind_1 : decode cX11_digitsBehind 1 = .ok (.lookupswitch 41 #[(100, 39), (103, 37), (107, 35)], 35) := by decide +kernel
theorem dX11_digitsBehind_36 : decode cX11_digitsBehind 36 = .ok (.iconst 4, 1) := by decide +kernel
theorem dX11_digitsBehind_37 : decode cX11_digitsBehind 37 = .ok (.ireturn, 1) := by decide +kernel
theorem dX11_digitsBehind_38 : decode cX11_digitsBehind 38 = .ok (.iconst 3, 1) := by decide +kernel
theorem dX11_digitsBehind_39 : decode cX11_digitsBehind 39 = .ok (.ireturn, 1) := by decide +kernel
theorem dX11_digitsBehind_40 : decode cX11_digitsBehind 40 = .ok (.iconst 2, 1) := by decide +kernel
theorem dX11_digitsBehind_41 : decode cX11_digitsBehind 41 = .ok (.ireturn, 1) := by decide +kernel
theorem dX11_digitsBehind_42 : decode cX11_digitsBehind 42 = .ok (.iconst (-1), 1) := by decide +kernel
theorem dX11_digitsBehind_43 : decode cX11_digitsBehind 43 = .ok (.ireturn, 1) := by decide +kernel
theorem dX11_strayByte_0 : decode cX11_strayByte 0 = .ok (.iconst (-1), 1) := by decide +kernel
theorem dX11_strayByte_1 : decode cX11_strayByte 1 = .ok (.istore_n 1, 1) := by decide +kernel
theorem dX11_strayByte_2 : decode cX11_strayByte 2 = .ok (.iconst 0, 1) := by decide +kernel
theorem dX11_strayByte_3 : decode cX11_strayByte 3 = .ok (.istore_n 2, 1) := by decide +kernel
theorem dX11_strayByte_4 : decode cX11_strayByte 4 = .ok (.iload_n 2, 1) := by decide +kernel
theorem dX11_strayByte_5 : decode cX11_strayByte 5 = .ok (.aload_n 0, 1) := by decide +kernel
theorem dX11_strayByte_6 : decode cX11_strayByte 6 = .ok (.getfield 132, 3) := by decide +kernel
theorem dX11_strayByte_9 : decode cX11_strayByte 9 = .ok (.if_icmp .ge 69, 3) := by decide +kernel
theorem dX11_strayByte_12 : decode cX11_strayByte 12 = .ok (.iload_n 1, 1) := by decide +kernel
theorem dX11_strayByte_13 : decode cX11_strayByte 13 = .ok (.iconst (-1), 1) := by decide +kernel
theorem dX11_strayByte_14 : decode cX11_strayByte 14 = .ok (.if_icmp .ne 19, 3) := by decide +kernel
theorem dX11_strayByte_17 : decode cX11_strayByte 17 = .ok (.aload_n 0, 1) := by decide +kernel
theorem dX11_strayByte_18 : decode cX11_strayByte 18 = .ok (.iload_n 2, 1) := by decide +kernel
theorem dX11_strayByte_19 : decode cX11_strayByte 19 = .ok (.invokevirtual 200, 3) := by decide +kernel
theorem dX11_strayByte_22 : decode cX11_strayByte 22 = .ok (.invokestatic 284, 3) := by decide +kernel
theorem dX11_strayByte_25 : decode cX11_strayByte 25 = .ok (.istore_n 1, 1) := by decide +kernel
theorem dX11_strayByte_26 : decode cX11_strayByte 26 = .ok (.iload_n 1, 1) := by decide +kernel
theorem dX11_strayByte_27 : decode cX11_strayByte 27 = .ok (.iconst (-1), 1) := by decide +kernel
theorem dX11_strayByte_28 : decode cX11_strayByte 28 = .ok (.if_icmp .ne 44, 3) := by decide +kernel
theorem dX11_strayByte_31 : decode cX11_strayByte 31 = .ok (.iload_n 2, 1) := by decide +kernel
theorem dX11_strayByte_32 : decode cX11_strayByte 32 = .ok (.ireturn, 1) := by decide +kernel
theorem dX11_strayByte_33 : decode cX11_strayByte 33 = .ok (.iload_n 1, 1) := by decide +kernel
theorem dX11_strayByte_34 : decode cX11_strayByte 34 = .ok (.ifCond .le 24, 3) := by decide +kernel
theorem dX11_strayByte_37 : decode cX11_strayByte 37 = .ok (.aload_n 0, 1) := by decide +kernel
theorem dX11_strayByte_38 : decode cX11_strayByte 38 = .ok (.iload_n 2, 1) := by decide +kernel
theorem dX11_strayByte_39 : decode cX11_strayByte 39 = .ok (.invokevirtual 287, 3) := by decide +kernel
theorem dX11_strayByte_42 : decode cX11_strayByte 42 = .ok (.bipush 10, 2) := by decide +kernel
theorem dX11_strayByte_44 : decode cX11_strayByte 44 = .ok (.invokestatic 69, 3) := by decide +kernel
theorem dX11_strayByte_47 : decode cX11_strayByte 47 = .ok (.ifCond .ne 5, 3) := by decide +kernel
theorem dX11_strayByte_50 : decode cX11_strayByte 50 = .ok (.iload_n 2, 1) := by decide +kernel
theorem dX11_strayByte_51 : decode cX11_strayByte 51 = .ok (.ireturn, 1) := by decide +kernel
theorem dX11_strayByte_52 : decode cX11_strayByte 52 = .ok (.iinc 1 (-1), 3) := by decide +kernel
theorem dX11_strayByte_55 : decode cX11_strayByte 55 = .ok (.goto 17, 3) := by decide +kernel
theorem dX11_strayByte_58 : decode cX11_strayByte 58 = .ok (.aload_n 0, 1) := by decide +kernel
theorem dX11_strayByte_59 : decode cX11_strayByte 59 = .ok (.iload_n 2, 1) := by decide +kernel
theorem dX11_strayByte_60 : decode cX11_strayByte 60 = .ok (.invokevirtual 200, 3) := by decide +kernel
theorem dX11_strayByte_63 : decode cX11_strayByte 63 = .ok (.bipush 59, 2) := by decide +kernel
theorem dX11_strayByte_65 : decode cX11_strayByte 65 = .ok (.if_icmp .eq 5, 3) := by decide +kernel
theorem dX11_strayByte_68 : decode cX11_strayByte 68 = .ok (.iload_n 2, 1) := by decide +kernel
theorem dX11_strayByte_69 : decode cX11_strayByte 69 = .ok (.ireturn, 1) := by decide +kernel
theorem dX11_strayByte_70 : decode cX11_strayByte 70 = .ok (.iconst (-1), 1) := by decide +kernel
theorem dX11_strayByte_71 : decode cX11_strayByte 71 = .ok (.istore_n 1, 1) := by decide +kernel
theorem dX11_strayByte_72 : decode cX11_strayByte 72 = .ok (.iinc 2 1, 3) := by decide +kernel
theorem dX11_strayByte_75 : decode cX11_strayByte 75 = .ok (.goto (-71), 3) := by decide +kernel
theorem dX11_strayByte_78 : decode cX11_strayByte 78 = .ok (.aload_n 0, 1) := by decide +kernel
theorem dX11_strayByte_79 : decode cX11_strayByte 79 = .ok (.getfield 132, 3) := by decide +kernel
theorem dX11_strayByte_82 : decode cX11_strayByte 82 = .ok (.ifCond .le 12, 3) := by decide +kernel
theorem dX11_strayByte_85 : decode cX11_strayByte 85 = .ok (.iload_n 1, 1) := by decide +kernel
theorem dX11_strayByte_86 : decode cX11_strayByte 86 = .ok (.iconst (-1), 1) := by decide +kernel
theorem dX11_strayByte_87 : decode cX11_strayByte 87 = .ok (.if_icmp .ne 7, 3) := by decide +kernel
theorem dX11_strayByte_90 : decode cX11_strayByte 90 = .ok (.iconst 1, 1) := by decide +kernel
theorem dX11_strayByte_91 : decode cX11_strayByte 91 = .ok (.goto 4, 3) := by decide +kernel
theorem dX11_strayByte_94 : decode cX11_strayByte 94 = .ok (.iconst 0, 1) := by decide +kernel
theorem dX11_strayByte_95 : decode cX11_strayByte 95 = .ok (.istore_n 2, 1) := by decide +kernel
theorem dX11_strayByte_96 : decode cX11_strayByte 96 = .ok (.iload_n 2, 1) := by decide +kernel
theorem dX11_strayByte_97 : decode cX11_strayByte 97 = .ok (.ifCond .eq 7, 3) := by decide +kernel
theorem dX11_strayByte_100 : decode cX11_strayByte 100 = .ok (.iconst (-1), 1) := by decide +kernel
theorem dX11_strayByte_101 : decode cX11_strayByte 101 = .ok (.goto 7, 3) := by decide +kernel
theorem dX11_strayByte_104 : decode cX11_strayByte 104 = .ok (.aload_n 0, 1) := by decide +kernel
theorem dX11_strayByte_105 : decode cX11_strayByte 105 = .ok (.getfield 132, 3) := by decide +kernel
theorem dX11_strayByte_108 : decode cX11_strayByte 108 = .ok (.ireturn, 1) := by decide +kernel
theorem dX11_obeyAll_0 : decode cX11_obeyAll 0 = .ok (.iconst 0, 1) := by decide +kernel
theorem dX11_obeyAll_1 : decode cX11_obeyAll 1 = .ok (.istore_n 2, 1) := by decide +kernel
theorem dX11_obeyAll_2 : decode cX11_obeyAll 2 = .ok (.iconst 0, 1) := by decide +kernel
theorem dX11_obeyAll_3 : decode cX11_obeyAll 3 = .ok (.istore_n 3, 1) := by decide +kernel
theorem dX11_obeyAll_4 : decode cX11_obeyAll 4 = .ok (.iload_n 3, 1) := by decide +kernel
theorem dX11_obeyAll_5 : decode cX11_obeyAll 5 = .ok (.aload_n 1, 1) := by decide +kernel
theorem dX11_obeyAll_6 : decode cX11_obeyAll 6 = .ok (.getfield 132, 3) := by decide +kernel
theorem dX11_obeyAll_9 : decode cX11_obeyAll 9 = .ok (.if_icmp .ge 39, 3) := by decide +kernel
theorem dX11_obeyAll_12 : decode cX11_obeyAll 12 = .ok (.aload_n 1, 1) := by decide +kernel
theorem dX11_obeyAll_13 : decode cX11_obeyAll 13 = .ok (.iload_n 3, 1) := by decide +kernel
theorem dX11_obeyAll_14 : decode cX11_obeyAll 14 = .ok (.invokevirtual 200, 3) := by decide +kernel
theorem dX11_obeyAll_17 : decode cX11_obeyAll 17 = .ok (.invokestatic 284, 3) := by decide +kernel
theorem dX11_obeyAll_20 : decode cX11_obeyAll 20 = .ok (.iconst (-1), 1) := by decide +kernel
theorem dX11_obeyAll_21 : decode cX11_obeyAll 21 = .ok (.if_icmp .eq 21, 3) := by decide +kernel
theorem dX11_obeyAll_24 : decode cX11_obeyAll 24 = .ok (.aload_n 0, 1) := by decide +kernel
theorem dX11_obeyAll_25 : decode cX11_obeyAll 25 = .ok (.aload_n 1, 1) := by decide +kernel
theorem dX11_obeyAll_26 : decode cX11_obeyAll 26 = .ok (.iload_n 3, 1) := by decide +kernel
theorem dX11_obeyAll_27 : decode cX11_obeyAll 27 = .ok (.invokevirtual 290, 3) := by decide +kernel
theorem dX11_obeyAll_30 : decode cX11_obeyAll 30 = .ok (.ifCond .ne 9, 3) := by decide +kernel
theorem dX11_obeyAll_33 : decode cX11_obeyAll 33 = .ok (.sipush (-2000), 3) := by decide +kernel
theorem dX11_obeyAll_36 : decode cX11_obeyAll 36 = .ok (.iload_n 3, 1) := by decide +kernel
theorem dX11_obeyAll_37 : decode cX11_obeyAll 37 = .ok (.isub, 1) := by decide +kernel
theorem dX11_obeyAll_38 : decode cX11_obeyAll 38 = .ok (.ireturn, 1) := by decide +kernel
theorem dX11_obeyAll_39 : decode cX11_obeyAll 39 = .ok (.iinc 2 1, 3) := by decide +kernel
theorem dX11_obeyAll_42 : decode cX11_obeyAll 42 = .ok (.iinc 3 1, 3) := by decide +kernel
theorem dX11_obeyAll_45 : decode cX11_obeyAll 45 = .ok (.goto (-41), 3) := by decide +kernel
theorem dX11_obeyAll_48 : decode cX11_obeyAll 48 = .ok (.iload_n 2, 1) := by decide +kernel
theorem dX11_obeyAll_49 : decode cX11_obeyAll 49 = .ok (.ireturn, 1) := by decide +kernel
theorem dX11_obey_0 : decode cX11_obey 0 = .ok (.aload_n 1, 1) := by decide +kernel
theorem dX11_obey_1 : decode cX11_obey 1 = .ok (.iload_n 2, 1) := by decide +kernel
theorem dX11_obey_2 : decode cX11_obey 2 = .ok (.iconst 1, 1) := by decide +kernel
theorem dX11_obey_3 : decode cX11_obey 3 = .ok (.iadd, 1) := by decide +kernel
theorem dX11_obey_4 : decode cX11_obey 4 = .ok (.invokevirtual 287, 3) := by decide +kernel
theorem dX11_obey_7 : decode cX11_obey 7 = .ok (.istore_n 3, 1) := by decide +kernel
theorem dX11_obey_8 : decode cX11_obey 8 = .ok (.aload_n 1, 1) := by decide +kernel
theorem dX11_obey_9 : decode cX11_obey 9 = .ok (.iload_n 2, 1) := by decide +kernel
theorem dX11_obey_10 : decode cX11_obey 10 = .ok (.iconst 2, 1) := by decide +kernel
theorem dX11_obey_11 : decode cX11_obey 11 = .ok (.iadd, 1) := by decide +kernel
theorem dX11_obey_12 : decode cX11_obey 12 = .ok (.invokevirtual 287, 3) := by decide +kernel
theorem dX11_obey_15 : decode cX11_obey 15 = .ok (.istore 4, 2) := by decide +kernel
theorem dX11_obey_17 : decode cX11_obey 17 = .ok (.aload_n 1, 1) := by decide +kernel
theorem dX11_obey_18 : decode cX11_obey 18 = .ok (.iload_n 2, 1) := by decide +kernel
theorem dX11_obey_19 : decode cX11_obey 19 = .ok (.iconst 3, 1) := by decide +kernel
theorem dX11_obey_20 : decode cX11_obey 20 = .ok (.iadd, 1) := by decide +kernel
theorem dX11_obey_21 : decode cX11_obey 21 = .ok (.invokevirtual 287, 3) := by decide +kernel
theorem dX11_obey_24 : decode cX11_obey 24 = .ok (.istore 5, 2) := by decide +kernel
theorem dX11_obey_26 : decode cX11_obey 26 = .ok (.aload_n 1, 1) := by decide +kernel
theorem dX11_obey_27 : decode cX11_obey 27 = .ok (.iload_n 2, 1) := by decide +kernel
theorem dX11_obey_28 : decode cX11_obey 28 = .ok (.invokevirtual 200, 3) := by decide +kernel
theorem dX11_obey_31 : decode cX11_obey 31 = .ok (.lookupswitch 96 #[(100, 68), (103, 54), (107, 33)], 33) := by decide +kernel
theorem dX11_obey_64 : decode cX11_obey 64 = .ok (.aload_n 0, 1) := by decide +kernel
theorem dX11_obey_65 : decode cX11_obey 65 = .ok (.bipush 10, 2) := by decide +kernel
theorem dX11_obey_67 : decode cX11_obey 67 = .ok (.iload_n 3, 1) := by decide +kernel
theorem dX11_obey_68 : decode cX11_obey 68 = .ok (.imul, 1) := by decide +kernel
theorem dX11_obey_69 : decode cX11_obey 69 = .ok (.iload 4, 2) := by decide +kernel
theorem dX11_obey_71 : decode cX11_obey 71 = .ok (.iadd, 1) := by decide +kernel
theorem dX11_obey_72 : decode cX11_obey 72 = .ok (.iload 5, 2) := by decide +kernel
theorem dX11_obey_74 : decode cX11_obey 74 = .ok (.aload_n 1, 1) := by decide +kernel
theorem dX11_obey_75 : decode cX11_obey 75 = .ok (.iload_n 2, 1) := by decide +kernel
theorem dX11_obey_76 : decode cX11_obey 76 = .ok (.iconst 4, 1) := by decide +kernel
theorem dX11_obey_77 : decode cX11_obey 77 = .ok (.iadd, 1) := by decide +kernel
theorem dX11_obey_78 : decode cX11_obey 78 = .ok (.invokevirtual 287, 3) := by decide +kernel
theorem dX11_obey_81 : decode cX11_obey 81 = .ok (.invokevirtual 293, 3) := by decide +kernel
theorem dX11_obey_84 : decode cX11_obey 84 = .ok (.ireturn, 1) := by decide +kernel
theorem dX11_obey_85 : decode cX11_obey 85 = .ok (.aload_n 0, 1) := by decide +kernel
theorem dX11_obey_86 : decode cX11_obey 86 = .ok (.iload_n 3, 1) := by decide +kernel
theorem dX11_obey_87 : decode cX11_obey 87 = .ok (.bipush 10, 2) := by decide +kernel
theorem dX11_obey_89 : decode cX11_obey 89 = .ok (.iload 4, 2) := by decide +kernel
theorem dX11_obey_91 : decode cX11_obey 91 = .ok (.imul, 1) := by decide +kernel
theorem dX11_obey_92 : decode cX11_obey 92 = .ok (.iload 5, 2) := by decide +kernel
theorem dX11_obey_94 : decode cX11_obey 94 = .ok (.iadd, 1) := by decide +kernel
theorem dX11_obey_95 : decode cX11_obey 95 = .ok (.invokevirtual 296, 3) := by decide +kernel
theorem dX11_obey_98 : decode cX11_obey 98 = .ok (.ireturn, 1) := by decide +kernel
theorem dX11_obey_99 : decode cX11_obey 99 = .ok (.iload_n 3, 1) := by decide +kernel
theorem dX11_obey_100 : decode cX11_obey 100 = .ok (.iconst 2, 1) := by decide +kernel
theorem dX11_obey_101 : decode cX11_obey 101 = .ok (.invokestatic 69, 3) := by decide +kernel
theorem dX11_obey_104 : decode cX11_obey 104 = .ok (.ifCond .eq 21, 3) := by decide +kernel
theorem dX11_obey_107 : decode cX11_obey 107 = .ok (.aload_n 0, 1) := by decide +kernel
theorem dX11_obey_108 : decode cX11_obey 108 = .ok (.getfield 16, 3) := by decide +kernel
theorem dX11_obey_111 : decode cX11_obey 111 = .ok (.iload_n 3, 1) := by decide +kernel
theorem dX11_obey_112 : decode cX11_obey 112 = .ok (.iload 4, 2) := by decide +kernel
theorem dX11_obey_114 : decode cX11_obey 114 = .ok (.invokevirtual 106, 3) := by decide +kernel
theorem dX11_obey_117 : decode cX11_obey 117 = .ok (.iconst (-1), 1) := by decide +kernel
theorem dX11_obey_118 : decode cX11_obey 118 = .ok (.if_icmp .eq 7, 3) := by decide +kernel
theorem dX11_obey_121 : decode cX11_obey 121 = .ok (.iconst 1, 1) := by decide +kernel
theorem dX11_obey_122 : decode cX11_obey 122 = .ok (.goto 4, 3) := by decide +kernel
theorem dX11_obey_125 : decode cX11_obey 125 = .ok (.iconst 0, 1) := by decide +kernel
theorem dX11_obey_126 : decode cX11_obey 126 = .ok (.ireturn, 1) := by decide +kernel
theorem dX11_obey_127 : decode cX11_obey 127 = .ok (.iconst 0, 1) := by decide +kernel
theorem dX11_obey_128 : decode cX11_obey 128 = .ok (.ireturn, 1) := by decide +kernel
theorem dX11_obeyKind_0 : decode cX11_obeyKind 0 = .ok (.iload_n 1, 1) := by decide +kernel
theorem dX11_obeyKind_1 : decode cX11_obeyKind 1 = .ok (.bipush 20, 2) := by decide +kernel
theorem dX11_obeyKind_3 : decode cX11_obeyKind 3 = .ok (.invokestatic 69, 3) := by decide +kernel
theorem dX11_obeyKind_6 : decode cX11_obeyKind 6 = .ok (.ifCond .eq 12, 3) := by decide +kernel
theorem dX11_obeyKind_9 : decode cX11_obeyKind 9 = .ok (.iload_n 2, 1) := by decide +kernel
theorem dX11_obeyKind_10 : decode cX11_obeyKind 10 = .ok (.bipush 8, 2) := by decide +kernel
theorem dX11_obeyKind_12 : decode cX11_obeyKind 12 = .ok (.invokestatic 69, 3) := by decide +kernel
theorem dX11_obeyKind_15 : decode cX11_obeyKind 15 = .ok (.ifCond .ne 5, 3) := by decide +kernel
theorem dX11_obeyKind_18 : decode cX11_obeyKind 18 = .ok (.iconst 0, 1) := by decide +kernel
theorem dX11_obeyKind_19 : decode cX11_obeyKind 19 = .ok (.ireturn, 1) := by decide +kernel
theorem dX11_obeyKind_20 : decode cX11_obeyKind 20 = .ok (.aload_n 0, 1) := by decide +kernel
theorem dX11_obeyKind_21 : decode cX11_obeyKind 21 = .ok (.getfield 16, 3) := by decide +kernel
theorem dX11_obeyKind_24 : decode cX11_obeyKind 24 = .ok (.getfield 73, 3) := by decide +kernel
theorem dX11_obeyKind_27 : decode cX11_obeyKind 27 = .ok (.iload_n 1, 1) := by decide +kernel
theorem dX11_obeyKind_28 : decode cX11_obeyKind 28 = .ok (.iload_n 2, 1) := by decide +kernel
theorem dX11_obeyKind_29 : decode cX11_obeyKind 29 = .ok (.iload_n 3, 1) := by decide +kernel
theorem dX11_obeyKind_30 : decode cX11_obeyKind 30 = .ok (.invokestatic 157, 3) := by decide +kernel
theorem dX11_obeyKind_33 : decode cX11_obeyKind 33 = .ok (.aastore, 1) := by decide +kernel
theorem dX11_obeyKind_34 : decode cX11_obeyKind 34 = .ok (.iconst 1, 1) := by decide +kernel
theorem dX11_obeyKind_35 : decode cX11_obeyKind 35 = .ok (.ireturn, 1) := by decide +kernel
theorem dX11_obeyGang_0 : decode cX11_obeyGang 0 = .ok (.iload_n 1, 1) := by decide +kernel
theorem dX11_obeyGang_1 : decode cX11_obeyGang 1 = .ok (.iconst 2, 1) := by decide +kernel
theorem dX11_obeyGang_2 : decode cX11_obeyGang 2 = .ok (.invokestatic 69, 3) := by decide +kernel
theorem dX11_obeyGang_5 : decode cX11_obeyGang 5 = .ok (.ifCond .eq 12, 3) := by decide +kernel
theorem dX11_obeyGang_8 : decode cX11_obeyGang 8 = .ok (.iload_n 2, 1) := by decide +kernel
theorem dX11_obeyGang_9 : decode cX11_obeyGang 9 = .ok (.bipush 20, 2) := by decide +kernel
theorem dX11_obeyGang_11 : decode cX11_obeyGang 11 = .ok (.invokestatic 69, 3) := by decide +kernel
theorem dX11_obeyGang_14 : decode cX11_obeyGang 14 = .ok (.ifCond .ne 5, 3) := by decide +kernel
theorem dX11_obeyGang_17 : decode cX11_obeyGang 17 = .ok (.iconst 0, 1) := by decide +kernel
theorem dX11_obeyGang_18 : decode cX11_obeyGang 18 = .ok (.ireturn, 1) := by decide +kernel
theorem dX11_obeyGang_19 : decode cX11_obeyGang 19 = .ok (.aload_n 0, 1) := by decide +kernel
theorem dX11_obeyGang_20 : decode cX11_obeyGang 20 = .ok (.getfield 16, 3) := by decide +kernel
theorem dX11_obeyGang_23 : decode cX11_obeyGang 23 = .ok (.getfield 100, 3) := by decide +kernel
theorem dX11_obeyGang_26 : decode cX11_obeyGang 26 = .ok (.iload_n 1, 1) := by decide +kernel
theorem dX11_obeyGang_27 : decode cX11_obeyGang 27 = .ok (.iload_n 2, 1) := by decide +kernel
theorem dX11_obeyGang_28 : decode cX11_obeyGang 28 = .ok (.iastore, 1) := by decide +kernel
theorem dX11_obeyGang_29 : decode cX11_obeyGang 29 = .ok (.iconst 1, 1) := by decide +kernel
theorem dX11_obeyGang_30 : decode cX11_obeyGang 30 = .ok (.ireturn, 1) := by decide +kernel
theorem dX11_knockFrom_0 : decode cX11_knockFrom 0 = .ok (.aload_n 0, 1) := by decide +kernel
theorem dX11_knockFrom_1 : decode cX11_knockFrom 1 = .ok (.getfield 35, 3) := by decide +kernel
theorem dX11_knockFrom_4 : decode cX11_knockFrom 4 = .ok (.aload_n 0, 1) := by decide +kernel
theorem dX11_knockFrom_5 : decode cX11_knockFrom 5 = .ok (.getfield 12, 3) := by decide +kernel
theorem dX11_knockFrom_8 : decode cX11_knockFrom 8 = .ok (.invokevirtual 139, 3) := by decide +kernel
theorem dX11_knockFrom_11 : decode cX11_knockFrom 11 = .ok (.aload_n 0, 1) := by decide +kernel
theorem dX11_knockFrom_12 : decode cX11_knockFrom 12 = .ok (.getfield 35, 3) := by decide +kernel
theorem dX11_knockFrom_15 : decode cX11_knockFrom 15 = .ok (.iload_n 1, 1) := by decide +kernel
theorem dX11_knockFrom_16 : decode cX11_knockFrom 16 = .ok (.invokevirtual 142, 3) := by decide +kernel
theorem dX11_knockFrom_19 : decode cX11_knockFrom 19 = .ok (.return_, 1) := by decide +kernel
theorem dX11_tellsCells_0 : decode cX11_tellsCells 0 = .ok (.iconst 0, 1) := by decide +kernel
theorem dX11_tellsCells_1 : decode cX11_tellsCells 1 = .ok (.istore_n 2, 1) := by decide +kernel
theorem dX11_tellsCells_2 : decode cX11_tellsCells 2 = .ok (.iload_n 2, 1) := by decide +kernel
theorem dX11_tellsCells_3 : decode cX11_tellsCells 3 = .ok (.aload_n 0, 1) := by decide +kernel
theorem dX11_tellsCells_4 : decode cX11_tellsCells 4 = .ok (.getfield 132, 3) := by decide +kernel
theorem dX11_tellsCells_7 : decode cX11_tellsCells 7 = .ok (.if_icmp .ge 25, 3) := by decide +kernel
theorem dX11_tellsCells_10 : decode cX11_tellsCells 10 = .ok (.aload_n 0, 1) := by decide +kernel
theorem dX11_tellsCells_11 : decode cX11_tellsCells 11 = .ok (.iload_n 2, 1) := by decide +kernel
theorem dX11_tellsCells_12 : decode cX11_tellsCells 12 = .ok (.invokevirtual 200, 3) := by decide +kernel
theorem dX11_tellsCells_15 : decode cX11_tellsCells 15 = .ok (.bipush 20, 2) := by decide +kernel
theorem dX11_tellsCells_17 : decode cX11_tellsCells 17 = .ok (.invokestatic 69, 3) := by decide +kernel
theorem dX11_tellsCells_20 : decode cX11_tellsCells 20 = .ok (.ifCond .ne 5, 3) := by decide +kernel
theorem dX11_tellsCells_23 : decode cX11_tellsCells 23 = .ok (.iconst 0, 1) := by decide +kernel
theorem dX11_tellsCells_24 : decode cX11_tellsCells 24 = .ok (.ireturn, 1) := by decide +kernel
theorem dX11_tellsCells_25 : decode cX11_tellsCells 25 = .ok (.iload_n 2, 1) := by decide +kernel
theorem dX11_tellsCells_26 : decode cX11_tellsCells 26 = .ok (.iload_n 1, 1) := by decide +kernel
theorem dX11_tellsCells_27 : decode cX11_tellsCells 27 = .ok (.iadd, 1) := by decide +kernel
theorem dX11_tellsCells_28 : decode cX11_tellsCells 28 = .ok (.istore_n 2, 1) := by decide +kernel
theorem dX11_tellsCells_29 : decode cX11_tellsCells 29 = .ok (.goto (-27), 3) := by decide +kernel
theorem dX11_tellsCells_32 : decode cX11_tellsCells 32 = .ok (.iconst 1, 1) := by decide +kernel
theorem dX11_tellsCells_33 : decode cX11_tellsCells 33 = .ok (.ireturn, 1) := by decide +kernel
theorem dX11_mayHaveKnocked_0 : decode cX11_mayHaveKnocked 0 = .ok (.iconst 2, 1) := by decide +kernel
theorem dX11_mayHaveKnocked_1 : decode cX11_mayHaveKnocked 1 = .ok (.istore_n 2, 1) := by decide +kernel
theorem dX11_mayHaveKnocked_2 : decode cX11_mayHaveKnocked 2 = .ok (.iload_n 2, 1) := by decide +kernel
theorem dX11_mayHaveKnocked_3 : decode cX11_mayHaveKnocked 3 = .ok (.iconst 1, 1) := by decide +kernel
theorem dX11_mayHaveKnocked_4 : decode cX11_mayHaveKnocked 4 = .ok (.iadd, 1) := by decide +kernel
theorem dX11_mayHaveKnocked_5 : decode cX11_mayHaveKnocked 5 = .ok (.aload_n 1, 1) := by decide +kernel
theorem dX11_mayHaveKnocked_6 : decode cX11_mayHaveKnocked 6 = .ok (.getfield 132, 3) := by decide +kernel
theorem dX11_mayHaveKnocked_9 : decode cX11_mayHaveKnocked 9 = .ok (.if_icmp .ge 27, 3) := by decide +kernel
theorem dX11_mayHaveKnocked_12 : decode cX11_mayHaveKnocked 12 = .ok (.aload_n 0, 1) := by decide +kernel
theorem dX11_mayHaveKnocked_13 : decode cX11_mayHaveKnocked 13 = .ok (.aload_n 1, 1) := by decide +kernel
theorem dX11_mayHaveKnocked_14 : decode cX11_mayHaveKnocked 14 = .ok (.iload_n 2, 1) := by decide +kernel
theorem dX11_mayHaveKnocked_15 : decode cX11_mayHaveKnocked 15 = .ok (.invokevirtual 299, 3) := by decide +kernel
theorem dX11_mayHaveKnocked_18 : decode cX11_mayHaveKnocked 18 = .ok (.aload_n 0, 1) := by decide +kernel
theorem dX11_mayHaveKnocked_19 : decode cX11_mayHaveKnocked 19 = .ok (.aload_n 1, 1) := by decide +kernel
theorem dX11_mayHaveKnocked_20 : decode cX11_mayHaveKnocked 20 = .ok (.iconst 0, 1) := by decide +kernel
theorem dX11_mayHaveKnocked_21 : decode cX11_mayHaveKnocked 21 = .ok (.invokevirtual 299, 3) := by decide +kernel
theorem dX11_mayHaveKnocked_24 : decode cX11_mayHaveKnocked 24 = .ok (.lcmp, 1) := by decide +kernel
theorem dX11_mayHaveKnocked_25 : decode cX11_mayHaveKnocked 25 = .ok (.ifCond .eq 5, 3) := by decide +kernel
theorem dX11_mayHaveKnocked_28 : decode cX11_mayHaveKnocked 28 = .ok (.iconst 0, 1) := by decide +kernel
theorem dX11_mayHaveKnocked_29 : decode cX11_mayHaveKnocked 29 = .ok (.ireturn, 1) := by decide +kernel
theorem dX11_mayHaveKnocked_30 : decode cX11_mayHaveKnocked 30 = .ok (.iinc 2 2, 3) := by decide +kernel
theorem dX11_mayHaveKnocked_33 : decode cX11_mayHaveKnocked 33 = .ok (.goto (-31), 3) := by decide +kernel
theorem dX11_mayHaveKnocked_36 : decode cX11_mayHaveKnocked 36 = .ok (.iconst 1, 1) := by decide +kernel
theorem dX11_mayHaveKnocked_37 : decode cX11_mayHaveKnocked 37 = .ok (.ireturn, 1) := by decide +kernel
theorem dX11_hourOfKnock_0 : decode cX11_hourOfKnock 0 = .ok (.aload_n 1, 1) := by decide +kernel
theorem dX11_hourOfKnock_1 : decode cX11_hourOfKnock 1 = .ok (.iload_n 2, 1) := by decide +kernel
theorem dX11_hourOfKnock_2 : decode cX11_hourOfKnock 2 = .ok (.iconst 1, 1) := by decide +kernel
theorem dX11_hourOfKnock_3 : decode cX11_hourOfKnock 3 = .ok (.iadd, 1) := by decide +kernel
theorem dX11_hourOfKnock_4 : decode cX11_hourOfKnock 4 = .ok (.invokevirtual 200, 3) := by decide +kernel
theorem dX11_hourOfKnock_7 : decode cX11_hourOfKnock 7 = .ok (.i2l, 1) := by decide +kernel
theorem dX11_hourOfKnock_8 : decode cX11_hourOfKnock 8 = .ok (.aload_n 0, 1) := by decide +kernel
theorem dX11_hourOfKnock_9 : decode cX11_hourOfKnock 9 = .ok (.getfield 35, 3) := by decide +kernel
theorem dX11_hourOfKnock_12 : decode cX11_hourOfKnock 12 = .ok (.getfield 118, 3) := by decide +kernel
theorem dX11_hourOfKnock_15 : decode cX11_hourOfKnock 15 = .ok (.aload_n 1, 1) := by decide +kernel
theorem dX11_hourOfKnock_16 : decode cX11_hourOfKnock 16 = .ok (.iload_n 2, 1) := by decide +kernel
theorem dX11_hourOfKnock_17 : decode cX11_hourOfKnock 17 = .ok (.invokevirtual 200, 3) := by decide +kernel
theorem dX11_hourOfKnock_20 : decode cX11_hourOfKnock 20 = .ok (.iaload, 1) := by decide +kernel
theorem dX11_hourOfKnock_21 : decode cX11_hourOfKnock 21 = .ok (.i2l, 1) := by decide +kernel
theorem dX11_hourOfKnock_22 : decode cX11_hourOfKnock 22 = .ok (.lsub, 1) := by decide +kernel
theorem dX11_hourOfKnock_23 : decode cX11_hourOfKnock 23 = .ok (.lreturn, 1) := by decide +kernel
theorem dX11_takeTimes_0 : decode cX11_takeTimes 0 = .ok (.aload_n 0, 1) := by decide +kernel
theorem dX11_takeTimes_1 : decode cX11_takeTimes 1 = .ok (.getfield 35, 3) := by decide +kernel
theorem dX11_takeTimes_4 : decode cX11_takeTimes 4 = .ok (.aload_n 0, 1) := by decide +kernel
theorem dX11_takeTimes_5 : decode cX11_takeTimes 5 = .ok (.getfield 12, 3) := by decide +kernel
theorem dX11_takeTimes_8 : decode cX11_takeTimes 8 = .ok (.invokevirtual 139, 3) := by decide +kernel
theorem dX11_takeTimes_11 : decode cX11_takeTimes 11 = .ok (.iconst 0, 1) := by decide +kernel
theorem dX11_takeTimes_12 : decode cX11_takeTimes 12 = .ok (.istore_n 1, 1) := by decide +kernel
theorem dX11_takeTimes_13 : decode cX11_takeTimes 13 = .ok (.iload_n 1, 1) := by decide +kernel
theorem dX11_takeTimes_14 : decode cX11_takeTimes 14 = .ok (.bipush 20, 2) := by decide +kernel
theorem dX11_takeTimes_16 : decode cX11_takeTimes 16 = .ok (.if_icmp .ge 38, 3) := by decide +kernel
theorem dX11_takeTimes_19 : decode cX11_takeTimes 19 = .ok (.aload_n 0, 1) := by decide +kernel
theorem dX11_takeTimes_20 : decode cX11_takeTimes 20 = .ok (.getfield 35, 3) := by decide +kernel
theorem dX11_takeTimes_23 : decode cX11_takeTimes 23 = .ok (.iload_n 1, 1) := by decide +kernel
theorem dX11_takeTimes_24 : decode cX11_takeTimes 24 = .ok (.invokevirtual 142, 3) := by decide +kernel
theorem dX11_takeTimes_27 : decode cX11_takeTimes 27 = .ok (.aload_n 0, 1) := by decide +kernel
theorem dX11_takeTimes_28 : decode cX11_takeTimes 28 = .ok (.getfield 35, 3) := by decide +kernel
theorem dX11_takeTimes_31 : decode cX11_takeTimes 31 = .ok (.getfield 118, 3) := by decide +kernel
theorem dX11_takeTimes_34 : decode cX11_takeTimes 34 = .ok (.iconst 0, 1) := by decide +kernel
theorem dX11_takeTimes_35 : decode cX11_takeTimes 35 = .ok (.aload_n 0, 1) := by decide +kernel
theorem dX11_takeTimes_36 : decode cX11_takeTimes 36 = .ok (.getfield 42, 3) := by decide +kernel
theorem dX11_takeTimes_39 : decode cX11_takeTimes 39 = .ok (.iload_n 1, 1) := by decide +kernel
theorem dX11_takeTimes_40 : decode cX11_takeTimes 40 = .ok (.bipush 20, 2) := by decide +kernel
theorem dX11_takeTimes_42 : decode cX11_takeTimes 42 = .ok (.imul, 1) := by decide +kernel
theorem dX11_takeTimes_43 : decode cX11_takeTimes 43 = .ok (.bipush 20, 2) := by decide +kernel
theorem dX11_takeTimes_45 : decode cX11_takeTimes 45 = .ok (.invokestatic 243, 3) := by decide +kernel
theorem dX11_takeTimes_48 : decode cX11_takeTimes 48 = .ok (.iinc 1 1, 3) := by decide +kernel
theorem dX11_takeTimes_51 : decode cX11_takeTimes 51 = .ok (.goto (-38), 3) := by decide +kernel
theorem dX11_takeTimes_54 : decode cX11_takeTimes 54 = .ok (.return_, 1) := by decide +kernel
theorem dX11_mostAlike_0 : decode cX11_mostAlike 0 = .ok (.iconst 0, 1) := by decide +kernel
theorem dX11_mostAlike_1 : decode cX11_mostAlike 1 = .ok (.istore_n 3, 1) := by decide +kernel
theorem dX11_mostAlike_2 : decode cX11_mostAlike 2 = .ok (.iconst 0, 1) := by decide +kernel
theorem dX11_mostAlike_3 : decode cX11_mostAlike 3 = .ok (.istore 4, 2) := by decide +kernel
theorem dX11_mostAlike_5 : decode cX11_mostAlike 5 = .ok (.iload 4, 2) := by decide +kernel
theorem dX11_mostAlike_7 : decode cX11_mostAlike 7 = .ok (.aload_n 1, 1) := by decide +kernel
theorem dX11_mostAlike_8 : decode cX11_mostAlike 8 = .ok (.getfield 132, 3) := by decide +kernel
theorem dX11_mostAlike_11 : decode cX11_mostAlike 11 = .ok (.if_icmp .ge 80, 3) := by decide +kernel
theorem dX11_mostAlike_14 : decode cX11_mostAlike 14 = .ok (.aload_n 0, 1) := by decide +kernel
theorem dX11_mostAlike_15 : decode cX11_mostAlike 15 = .ok (.getfield 42, 3) := by decide +kernel
theorem dX11_mostAlike_18 : decode cX11_mostAlike 18 = .ok (.aload_n 1, 1) := by decide +kernel
theorem dX11_mostAlike_19 : decode cX11_mostAlike 19 = .ok (.iload 4, 2) := by decide +kernel
theorem dX11_mostAlike_21 : decode cX11_mostAlike 21 = .ok (.invokevirtual 200, 3) := by decide +kernel
theorem dX11_mostAlike_24 : decode cX11_mostAlike 24 = .ok (.bipush 20, 2) := by decide +kernel
theorem dX11_mostAlike_26 : decode cX11_mostAlike 26 = .ok (.imul, 1) := by decide +kernel
theorem dX11_mostAlike_27 : decode cX11_mostAlike 27 = .ok (.iload_n 2, 1) := by decide +kernel
theorem dX11_mostAlike_28 : decode cX11_mostAlike 28 = .ok (.iadd, 1) := by decide +kernel
theorem dX11_mostAlike_29 : decode cX11_mostAlike 29 = .ok (.iaload, 1) := by decide +kernel
theorem dX11_mostAlike_30 : decode cX11_mostAlike 30 = .ok (.istore 5, 2) := by decide +kernel
theorem dX11_mostAlike_32 : decode cX11_mostAlike 32 = .ok (.iconst 0, 1) := by decide +kernel
theorem dX11_mostAlike_33 : decode cX11_mostAlike 33 = .ok (.istore 6, 2) := by decide +kernel
theorem dX11_mostAlike_35 : decode cX11_mostAlike 35 = .ok (.iload 4, 2) := by decide +kernel
theorem dX11_mostAlike_37 : decode cX11_mostAlike 37 = .ok (.istore 7, 2) := by decide +kernel
theorem dX11_mostAlike_39 : decode cX11_mostAlike 39 = .ok (.iload 7, 2) := by decide +kernel
theorem dX11_mostAlike_41 : decode cX11_mostAlike 41 = .ok (.aload_n 1, 1) := by decide +kernel
theorem dX11_mostAlike_42 : decode cX11_mostAlike 42 = .ok (.getfield 132, 3) := by decide +kernel
theorem dX11_mostAlike_45 : decode cX11_mostAlike 45 = .ok (.if_icmp .ge 33, 3) := by decide +kernel
theorem dX11_mostAlike_48 : decode cX11_mostAlike 48 = .ok (.aload_n 0, 1) := by decide +kernel
theorem dX11_mostAlike_49 : decode cX11_mostAlike 49 = .ok (.getfield 42, 3) := by decide +kernel
theorem dX11_mostAlike_52 : decode cX11_mostAlike 52 = .ok (.aload_n 1, 1) := by decide +kernel
theorem dX11_mostAlike_53 : decode cX11_mostAlike 53 = .ok (.iload 7, 2) := by decide +kernel
theorem dX11_mostAlike_55 : decode cX11_mostAlike 55 = .ok (.invokevirtual 200, 3) := by decide +kernel
theorem dX11_mostAlike_58 : decode cX11_mostAlike 58 = .ok (.bipush 20, 2) := by decide +kernel
theorem dX11_mostAlike_60 : decode cX11_mostAlike 60 = .ok (.imul, 1) := by decide +kernel
theorem dX11_mostAlike_61 : decode cX11_mostAlike 61 = .ok (.iload_n 2, 1) := by decide +kernel
theorem dX11_mostAlike_62 : decode cX11_mostAlike 62 = .ok (.iadd, 1) := by decide +kernel
theorem dX11_mostAlike_63 : decode cX11_mostAlike 63 = .ok (.iaload, 1) := by decide +kernel
theorem dX11_mostAlike_64 : decode cX11_mostAlike 64 = .ok (.iload 5, 2) := by decide +kernel
theorem dX11_mostAlike_66 : decode cX11_mostAlike 66 = .ok (.if_icmp .ne 6, 3) := by decide +kernel
theorem dX11_mostAlike_69 : decode cX11_mostAlike 69 = .ok (.iinc 6 1, 3) := by decide +kernel
theorem dX11_mostAlike_72 : decode cX11_mostAlike 72 = .ok (.iinc 7 1, 3) := by decide +kernel
theorem dX11_mostAlike_75 : decode cX11_mostAlike 75 = .ok (.goto (-36), 3) := by decide +kernel
theorem dX11_mostAlike_78 : decode cX11_mostAlike 78 = .ok (.iload_n 3, 1) := by decide +kernel
theorem dX11_mostAlike_79 : decode cX11_mostAlike 79 = .ok (.iload 6, 2) := by decide +kernel
theorem dX11_mostAlike_81 : decode cX11_mostAlike 81 = .ok (.invokestatic 124, 3) := by decide +kernel
theorem dX11_mostAlike_84 : decode cX11_mostAlike 84 = .ok (.istore_n 3, 1) := by decide +kernel
theorem dX11_mostAlike_85 : decode cX11_mostAlike 85 = .ok (.iinc 4 1, 3) := by decide +kernel
theorem dX11_mostAlike_88 : decode cX11_mostAlike 88 = .ok (.goto (-83), 3) := by decide +kernel
theorem dX11_mostAlike_91 : decode cX11_mostAlike 91 = .ok (.iload_n 3, 1) := by decide +kernel
theorem dX11_mostAlike_92 : decode cX11_mostAlike 92 = .ok (.ireturn, 1) := by decide +kernel
theorem dX11_soonIn_0 : decode cX11_soonIn 0 = .ok (.aload_n 1, 1) := by decide +kernel
theorem dX11_soonIn_1 : decode cX11_soonIn 1 = .ok (.invokevirtual 110, 3) := by decide +kernel
theorem dX11_soonIn_4 : decode cX11_soonIn 4 = .ok (.ifCond .eq 5, 3) := by decide +kernel
theorem dX11_soonIn_7 : decode cX11_soonIn 7 = .ok (.iconst 0, 1) := by decide +kernel
theorem dX11_soonIn_8 : decode cX11_soonIn 8 = .ok (.ireturn, 1) := by decide +kernel
theorem dX11_soonIn_9 : decode cX11_soonIn 9 = .ok (.aload_n 0, 1) := by decide +kernel
theorem dX11_soonIn_10 : decode cX11_soonIn 10 = .ok (.getfield 35, 3) := by decide +kernel
theorem dX11_soonIn_13 : decode cX11_soonIn 13 = .ok (.aload_n 1, 1) := by decide +kernel
theorem dX11_soonIn_14 : decode cX11_soonIn 14 = .ok (.invokevirtual 161, 3) := by decide +kernel
theorem dX11_soonIn_17 : decode cX11_soonIn 17 = .ok (.aload_n 0, 1) := by decide +kernel
theorem dX11_soonIn_18 : decode cX11_soonIn 18 = .ok (.getfield 35, 3) := by decide +kernel
theorem dX11_soonIn_21 : decode cX11_soonIn 21 = .ok (.aload_n 1, 1) := by decide +kernel
theorem dX11_soonIn_22 : decode cX11_soonIn 22 = .ok (.getfield 100, 3) := by decide +kernel
theorem dX11_soonIn_25 : decode cX11_soonIn 25 = .ok (.iconst 0, 1) := by decide +kernel
theorem dX11_soonIn_26 : decode cX11_soonIn 26 = .ok (.iaload, 1) := by decide +kernel
theorem dX11_soonIn_27 : decode cX11_soonIn 27 = .ok (.invokevirtual 142, 3) := by decide +kernel
theorem dX11_soonIn_30 : decode cX11_soonIn 30 = .ok (.aload_n 0, 1) := by decide +kernel
theorem dX11_soonIn_31 : decode cX11_soonIn 31 = .ok (.getfield 39, 3) := by decide +kernel
theorem dX11_soonIn_34 : decode cX11_soonIn 34 = .ok (.aload_n 1, 1) := by decide +kernel
theorem dX11_soonIn_35 : decode cX11_soonIn 35 = .ok (.invokevirtual 161, 3) := by decide +kernel
theorem dX11_soonIn_38 : decode cX11_soonIn 38 = .ok (.aload_n 0, 1) := by decide +kernel
theorem dX11_soonIn_39 : decode cX11_soonIn 39 = .ok (.getfield 39, 3) := by decide +kernel
theorem dX11_soonIn_42 : decode cX11_soonIn 42 = .ok (.aload_n 1, 1) := by decide +kernel
theorem dX11_soonIn_43 : decode cX11_soonIn 43 = .ok (.getfield 100, 3) := by decide +kernel
theorem dX11_soonIn_46 : decode cX11_soonIn 46 = .ok (.iconst 1, 1) := by decide +kernel
theorem dX11_soonIn_47 : decode cX11_soonIn 47 = .ok (.iaload, 1) := by decide +kernel
theorem dX11_soonIn_48 : decode cX11_soonIn 48 = .ok (.invokevirtual 142, 3) := by decide +kernel
theorem dX11_soonIn_51 : decode cX11_soonIn 51 = .ok (.ldc 152, 2) := by decide +kernel
theorem dX11_soonIn_53 : decode cX11_soonIn 53 = .ok (.istore_n 2, 1) := by decide +kernel
theorem dX11_soonIn_54 : decode cX11_soonIn 54 = .ok (.iconst 0, 1) := by decide +kernel
theorem dX11_soonIn_55 : decode cX11_soonIn 55 = .ok (.istore_n 3, 1) := by decide +kernel
theorem dX11_soonIn_56 : decode cX11_soonIn 56 = .ok (.iload_n 3, 1) := by decide +kernel
theorem dX11_soonIn_57 : decode cX11_soonIn 57 = .ok (.bipush 20, 2) := by decide +kernel
theorem dX11_soonIn_59 : decode cX11_soonIn 59 = .ok (.if_icmp .ge 65, 3) := by decide +kernel
theorem dX11_soonIn_62 : decode cX11_soonIn 62 = .ok (.iconst 0, 1) := by decide +kernel
theorem dX11_soonIn_63 : decode cX11_soonIn 63 = .ok (.istore 4, 2) := by decide +kernel
theorem dX11_soonIn_65 : decode cX11_soonIn 65 = .ok (.iload 4, 2) := by decide +kernel
theorem dX11_soonIn_67 : decode cX11_soonIn 67 = .ok (.iconst 4, 1) := by decide +kernel
theorem dX11_soonIn_68 : decode cX11_soonIn 68 = .ok (.if_icmp .ge 50, 3) := by decide +kernel
theorem dX11_soonIn_71 : decode cX11_soonIn 71 = .ok (.iload_n 3, 1) := by decide +kernel
theorem dX11_soonIn_72 : decode cX11_soonIn 72 = .ok (.iload 4, 2) := by decide +kernel
theorem dX11_soonIn_74 : decode cX11_soonIn 74 = .ok (.invokestatic 303, 3) := by decide +kernel
theorem dX11_soonIn_77 : decode cX11_soonIn 77 = .ok (.istore 5, 2) := by decide +kernel
theorem dX11_soonIn_79 : decode cX11_soonIn 79 = .ok (.iload 5, 2) := by decide +kernel
theorem dX11_soonIn_81 : decode cX11_soonIn 81 = .ok (.iconst (-1), 1) := by decide +kernel
theorem dX11_soonIn_82 : decode cX11_soonIn 82 = .ok (.if_icmp .eq 30, 3) := by decide +kernel
theorem dX11_soonIn_85 : decode cX11_soonIn 85 = .ok (.iload_n 2, 1) := by decide +kernel
theorem dX11_soonIn_86 : decode cX11_soonIn 86 = .ok (.aload_n 0, 1) := by decide +kernel
theorem dX11_soonIn_87 : decode cX11_soonIn 87 = .ok (.getfield 35, 3) := by decide +kernel
theorem dX11_soonIn_90 : decode cX11_soonIn 90 = .ok (.getfield 118, 3) := by decide +kernel
theorem dX11_soonIn_93 : decode cX11_soonIn 93 = .ok (.iload_n 3, 1) := by decide +kernel
theorem dX11_soonIn_94 : decode cX11_soonIn 94 = .ok (.iaload, 1) := by decide +kernel
theorem dX11_soonIn_95 : decode cX11_soonIn 95 = .ok (.aload_n 0, 1) := by decide +kernel
theorem dX11_soonIn_96 : decode cX11_soonIn 96 = .ok (.getfield 39, 3) := by decide +kernel
theorem dX11_soonIn_99 : decode cX11_soonIn 99 = .ok (.getfield 118, 3) := by decide +kernel
theorem dX11_soonIn_102 : decode cX11_soonIn 102 = .ok (.iload 5, 2) := by decide +kernel
theorem dX11_soonIn_104 : decode cX11_soonIn 104 = .ok (.iaload, 1) := by decide +kernel
theorem dX11_soonIn_105 : decode cX11_soonIn 105 = .ok (.invokestatic 124, 3) := by decide +kernel
theorem dX11_soonIn_108 : decode cX11_soonIn 108 = .ok (.invokestatic 306, 3) := by decide +kernel
theorem dX11_soonIn_111 : decode cX11_soonIn 111 = .ok (.istore_n 2, 1) := by decide +kernel
theorem dX11_soonIn_112 : decode cX11_soonIn 112 = .ok (.iinc 4 1, 3) := by decide +kernel
theorem dX11_soonIn_115 : decode cX11_soonIn 115 = .ok (.goto (-50), 3) := by decide +kernel
theorem dX11_soonIn_118 : decode cX11_soonIn 118 = .ok (.iinc 3 1, 3) := by decide +kernel
theorem dX11_soonIn_121 : decode cX11_soonIn 121 = .ok (.goto (-65), 3) := by decide +kernel
theorem dX11_soonIn_124 : decode cX11_soonIn 124 = .ok (.iload_n 2, 1) := by decide +kernel
theorem dX11_soonIn_125 : decode cX11_soonIn 125 = .ok (.ireturn, 1) := by decide +kernel
theorem dX11_areAlike_0 : decode cX11_areAlike 0 = .ok (.iload_n 0, 1) := by decide +kernel
theorem dX11_areAlike_1 : decode cX11_areAlike 1 = .ok (.iload_n 1, 1) := by decide +kernel
theorem dX11_areAlike_2 : decode cX11_areAlike 2 = .ok (.iconst (-1), 1) := by decide +kernel
theorem dX11_areAlike_3 : decode cX11_areAlike 3 = .ok (.ixor, 1) := by decide +kernel
theorem dX11_areAlike_4 : decode cX11_areAlike 4 = .ok (.iand, 1) := by decide +kernel
theorem dX11_areAlike_5 : decode cX11_areAlike 5 = .ok (.invokestatic 179, 3) := by decide +kernel
theorem dX11_areAlike_8 : decode cX11_areAlike 8 = .ok (.iload_n 2, 1) := by decide +kernel
theorem dX11_areAlike_9 : decode cX11_areAlike 9 = .ok (.if_icmp .gt 19, 3) := by decide +kernel
theorem dX11_areAlike_12 : decode cX11_areAlike 12 = .ok (.iload_n 1, 1) := by decide +kernel
theorem dX11_areAlike_13 : decode cX11_areAlike 13 = .ok (.iload_n 0, 1) := by decide +kernel
theorem dX11_areAlike_14 : decode cX11_areAlike 14 = .ok (.iconst (-1), 1) := by decide +kernel
theorem dX11_areAlike_15 : decode cX11_areAlike 15 = .ok (.ixor, 1) := by decide +kernel
theorem dX11_areAlike_16 : decode cX11_areAlike 16 = .ok (.iand, 1) := by decide +kernel
theorem dX11_areAlike_17 : decode cX11_areAlike 17 = .ok (.invokestatic 179, 3) := by decide +kernel
theorem dX11_areAlike_20 : decode cX11_areAlike 20 = .ok (.iload_n 2, 1) := by decide +kernel
theorem dX11_areAlike_21 : decode cX11_areAlike 21 = .ok (.if_icmp .gt 7, 3) := by decide +kernel
theorem dX11_areAlike_24 : decode cX11_areAlike 24 = .ok (.iconst 1, 1) := by decide +kernel
theorem dX11_areAlike_25 : decode cX11_areAlike 25 = .ok (.goto 4, 3) := by decide +kernel
theorem dX11_areAlike_28 : decode cX11_areAlike 28 = .ok (.iconst 0, 1) := by decide +kernel
theorem dX11_areAlike_29 : decode cX11_areAlike 29 = .ok (.ireturn, 1) := by decide +kernel
theorem dX11_findClashes_0 : decode cX11_findClashes 0 = .ok (.iconst 0, 1) := by decide +kernel
theorem dX11_findClashes_1 : decode cX11_findClashes 1 = .ok (.istore_n 3, 1) := by decide +kernel
theorem dX11_findClashes_2 : decode cX11_findClashes 2 = .ok (.iload_n 3, 1) := by decide +kernel
theorem dX11_findClashes_3 : decode cX11_findClashes 3 = .ok (.bipush 8, 2) := by decide +kernel
theorem dX11_findClashes_5 : decode cX11_findClashes 5 = .ok (.if_icmp .ge 75, 3) := by decide +kernel
theorem dX11_findClashes_8 : decode cX11_findClashes 8 = .ok (.aload_n 0, 1) := by decide +kernel
theorem dX11_findClashes_9 : decode cX11_findClashes 9 = .ok (.getfield 46, 3) := by decide +kernel
theorem dX11_findClashes_12 : decode cX11_findClashes 12 = .ok (.iload_n 3, 1) := by decide +kernel
theorem dX11_findClashes_13 : decode cX11_findClashes 13 = .ok (.iconst 0, 1) := by decide +kernel
theorem dX11_findClashes_14 : decode cX11_findClashes 14 = .ok (.iastore, 1) := by decide +kernel
theorem dX11_findClashes_15 : decode cX11_findClashes 15 = .ok (.iload_n 3, 1) := by decide +kernel
theorem dX11_findClashes_16 : decode cX11_findClashes 16 = .ok (.iconst 1, 1) := by decide +kernel
theorem dX11_findClashes_17 : decode cX11_findClashes 17 = .ok (.iadd, 1) := by decide +kernel
theorem dX11_findClashes_18 : decode cX11_findClashes 18 = .ok (.istore 4, 2) := by decide +kernel
theorem dX11_findClashes_20 : decode cX11_findClashes 20 = .ok (.iload 4, 2) := by decide +kernel
theorem dX11_findClashes_22 : decode cX11_findClashes 22 = .ok (.aload_n 1, 1) := by decide +kernel
theorem dX11_findClashes_23 : decode cX11_findClashes 23 = .ok (.getfield 132, 3) := by decide +kernel
theorem dX11_findClashes_26 : decode cX11_findClashes 26 = .ok (.if_icmp .ge 48, 3) := by decide +kernel
theorem dX11_findClashes_29 : decode cX11_findClashes 29 = .ok (.aload_n 1, 1) := by decide +kernel
theorem dX11_findClashes_30 : decode cX11_findClashes 30 = .ok (.iload_n 3, 1) := by decide +kernel
theorem dX11_findClashes_31 : decode cX11_findClashes 31 = .ok (.invokevirtual 200, 3) := by decide +kernel
theorem dX11_findClashes_34 : decode cX11_findClashes 34 = .ok (.sipush 255, 3) := by decide +kernel
theorem dX11_findClashes_37 : decode cX11_findClashes 37 = .ok (.iand, 1) := by decide +kernel
theorem dX11_findClashes_38 : decode cX11_findClashes 38 = .ok (.aload_n 1, 1) := by decide +kernel
theorem dX11_findClashes_39 : decode cX11_findClashes 39 = .ok (.iload 4, 2) := by decide +kernel
theorem dX11_findClashes_41 : decode cX11_findClashes 41 = .ok (.invokevirtual 200, 3) := by decide +kernel
theorem dX11_findClashes_44 : decode cX11_findClashes 44 = .ok (.sipush 255, 3) := by decide +kernel
theorem dX11_findClashes_47 : decode cX11_findClashes 47 = .ok (.iand, 1) := by decide +kernel
theorem dX11_findClashes_48 : decode cX11_findClashes 48 = .ok (.iload_n 2, 1) := by decide +kernel
theorem dX11_findClashes_49 : decode cX11_findClashes 49 = .ok (.invokestatic 171, 3) := by decide +kernel
theorem dX11_findClashes_52 : decode cX11_findClashes 52 = .ok (.ifCond .eq 16, 3) := by decide +kernel
theorem dX11_findClashes_55 : decode cX11_findClashes 55 = .ok (.aload_n 0, 1) := by decide +kernel
theorem dX11_findClashes_56 : decode cX11_findClashes 56 = .ok (.getfield 46, 3) := by decide +kernel
theorem dX11_findClashes_59 : decode cX11_findClashes 59 = .ok (.iload_n 3, 1) := by decide +kernel
theorem dX11_findClashes_60 : decode cX11_findClashes 60 = .ok (.dup2, 1) := by decide +kernel
theorem dX11_findClashes_61 : decode cX11_findClashes 61 = .ok (.iaload, 1) := by decide +kernel
theorem dX11_findClashes_62 : decode cX11_findClashes 62 = .ok (.iconst 1, 1) := by decide +kernel
theorem dX11_findClashes_63 : decode cX11_findClashes 63 = .ok (.iload 4, 2) := by decide +kernel
theorem dX11_findClashes_65 : decode cX11_findClashes 65 = .ok (.ishl, 1) := by decide +kernel
theorem dX11_findClashes_66 : decode cX11_findClashes 66 = .ok (.ior, 1) := by decide +kernel
theorem dX11_findClashes_67 : decode cX11_findClashes 67 = .ok (.iastore, 1) := by decide +kernel
theorem dX11_findClashes_68 : decode cX11_findClashes 68 = .ok (.iinc 4 1, 3) := by decide +kernel
theorem dX11_findClashes_71 : decode cX11_findClashes 71 = .ok (.goto (-51), 3) := by decide +kernel
theorem dX11_findClashes_74 : decode cX11_findClashes 74 = .ok (.iinc 3 1, 3) := by decide +kernel
theorem dX11_findClashes_77 : decode cX11_findClashes 77 = .ok (.goto (-75), 3) := by decide +kernel
theorem dX11_findClashes_80 : decode cX11_findClashes 80 = .ok (.return_, 1) := by decide +kernel
theorem dX11_isWithoutClash_0 : decode cX11_isWithoutClash 0 = .ok (.iconst 0, 1) := by decide +kernel
theorem dX11_isWithoutClash_1 : decode cX11_isWithoutClash 1 = .ok (.istore_n 2, 1) := by decide +kernel
theorem dX11_isWithoutClash_2 : decode cX11_isWithoutClash 2 = .ok (.iload_n 2, 1) := by decide +kernel
theorem dX11_isWithoutClash_3 : decode cX11_isWithoutClash 3 = .ok (.bipush 8, 2) := by decide +kernel
theorem dX11_isWithoutClash_5 : decode cX11_isWithoutClash 5 = .ok (.if_icmp .ge 31, 3) := by decide +kernel
theorem dX11_isWithoutClash_8 : decode cX11_isWithoutClash 8 = .ok (.iload_n 1, 1) := by decide +kernel
theorem dX11_isWithoutClash_9 : decode cX11_isWithoutClash 9 = .ok (.iload_n 2, 1) := by decide +kernel
theorem dX11_isWithoutClash_10 : decode cX11_isWithoutClash 10 = .ok (.ishr, 1) := by decide +kernel
theorem dX11_isWithoutClash_11 : decode cX11_isWithoutClash 11 = .ok (.iconst 1, 1) := by decide +kernel
theorem dX11_isWithoutClash_12 : decode cX11_isWithoutClash 12 = .ok (.iand, 1) := by decide +kernel
theorem dX11_isWithoutClash_13 : decode cX11_isWithoutClash 13 = .ok (.iconst 1, 1) := by decide +kernel
theorem dX11_isWithoutClash_14 : decode cX11_isWithoutClash 14 = .ok (.if_icmp .ne 16, 3) := by decide +kernel
theorem dX11_isWithoutClash_17 : decode cX11_isWithoutClash 17 = .ok (.iload_n 1, 1) := by decide +kernel
theorem dX11_isWithoutClash_18 : decode cX11_isWithoutClash 18 = .ok (.aload_n 0, 1) := by decide +kernel
theorem dX11_isWithoutClash_19 : decode cX11_isWithoutClash 19 = .ok (.getfield 46, 3) := by decide +kernel
theorem dX11_isWithoutClash_22 : decode cX11_isWithoutClash 22 = .ok (.iload_n 2, 1) := by decide +kernel
theorem dX11_isWithoutClash_23 : decode cX11_isWithoutClash 23 = .ok (.iaload, 1) := by decide +kernel
theorem dX11_isWithoutClash_24 : decode cX11_isWithoutClash 24 = .ok (.iand, 1) := by decide +kernel
theorem dX11_isWithoutClash_25 : decode cX11_isWithoutClash 25 = .ok (.ifCond .eq 5, 3) := by decide +kernel
theorem dX11_isWithoutClash_28 : decode cX11_isWithoutClash 28 = .ok (.iconst 0, 1) := by decide +kernel
theorem dX11_isWithoutClash_29 : decode cX11_isWithoutClash 29 = .ok (.ireturn, 1) := by decide +kernel
theorem dX11_isWithoutClash_30 : decode cX11_isWithoutClash 30 = .ok (.iinc 2 1, 3) := by decide +kernel
theorem dX11_isWithoutClash_33 : decode cX11_isWithoutClash 33 = .ok (.goto (-31), 3) := by decide +kernel
theorem dX11_isWithoutClash_36 : decode cX11_isWithoutClash 36 = .ok (.iconst 1, 1) := by decide +kernel
theorem dX11_isWithoutClash_37 : decode cX11_isWithoutClash 37 = .ok (.ireturn, 1) := by decide +kernel
theorem dX11_nextSeed_0 : decode cX11_nextSeed 0 = .ok (.iload_n 0, 1) := by decide +kernel
theorem dX11_nextSeed_1 : decode cX11_nextSeed 1 = .ok (.ldc_w 309, 3) := by decide +kernel
theorem dX11_nextSeed_4 : decode cX11_nextSeed 4 = .ok (.imul, 1) := by decide +kernel
theorem dX11_nextSeed_5 : decode cX11_nextSeed 5 = .ok (.sipush 12345, 3) := by decide +kernel
theorem dX11_nextSeed_8 : decode cX11_nextSeed 8 = .ok (.iadd, 1) := by decide +kernel
theorem dX11_nextSeed_9 : decode cX11_nextSeed 9 = .ok (.ireturn, 1) := by decide +kernel
theorem dX11_draw_0 : decode cX11_draw 0 = .ok (.iload_n 0, 1) := by decide +kernel
theorem dX11_draw_1 : decode cX11_draw 1 = .ok (.ldc_w 310, 3) := by decide +kernel
theorem dX11_draw_4 : decode cX11_draw 4 = .ok (.iand, 1) := by decide +kernel
theorem dX11_draw_5 : decode cX11_draw 5 = .ok (.ldc_w 311, 3) := by decide +kernel
theorem dX11_draw_8 : decode cX11_draw 8 = .ok (.idiv, 1) := by decide +kernel
theorem dX11_draw_9 : decode cX11_draw 9 = .ok (.istore_n 2, 1) := by decide +kernel
theorem dX11_draw_10 : decode cX11_draw 10 = .ok (.iload_n 1, 1) := by decide +kernel
theorem dX11_draw_11 : decode cX11_draw 11 = .ok (.ifCond .le 9, 3) := by decide +kernel
theorem dX11_draw_14 : decode cX11_draw 14 = .ok (.iload_n 2, 1) := by decide +kernel
theorem dX11_draw_15 : decode cX11_draw 15 = .ok (.iload_n 1, 1) := by decide +kernel
theorem dX11_draw_16 : decode cX11_draw 16 = .ok (.irem, 1) := by decide +kernel
theorem dX11_draw_17 : decode cX11_draw 17 = .ok (.goto 4, 3) := by decide +kernel
theorem dX11_draw_20 : decode cX11_draw 20 = .ok (.iconst 0, 1) := by decide +kernel
theorem dX11_draw_21 : decode cX11_draw 21 = .ok (.ireturn, 1) := by decide +kernel
theorem dX12_init_0 : decode cX12_init 0 = .ok (.aload_n 0, 1) := by decide +kernel
theorem dX12_init_1 : decode cX12_init 1 = .ok (.invokespecial 1, 3) := by decide +kernel
theorem dX12_init_4 : decode cX12_init 4 = .ok (.aload_n 0, 1) := by decide +kernel
theorem dX12_init_5 : decode cX12_init 5 = .ok (.bipush 44, 2) := by decide +kernel
theorem dX12_init_7 : decode cX12_init 7 = .ok (.newarray .int, 2) := by decide +kernel
theorem dX12_init_9 : decode cX12_init 9 = .ok (.putfield 9, 3) := by decide +kernel
theorem dX12_init_12 : decode cX12_init 12 = .ok (.aload_n 0, 1) := by decide +kernel
theorem dX12_init_13 : decode cX12_init 13 = .ok (.bipush 44, 2) := by decide +kernel
theorem dX12_init_15 : decode cX12_init 15 = .ok (.newarray .int, 2) := by decide +kernel
theorem dX12_init_17 : decode cX12_init 17 = .ok (.putfield 13, 3) := by decide +kernel
theorem dX12_init_20 : decode cX12_init 20 = .ok (.aload_n 0, 1) := by decide +kernel
theorem dX12_init_21 : decode cX12_init 21 = .ok (.bipush 44, 2) := by decide +kernel
theorem dX12_init_23 : decode cX12_init 23 = .ok (.newarray .int, 2) := by decide +kernel
theorem dX12_init_25 : decode cX12_init 25 = .ok (.putfield 16, 3) := by decide +kernel
theorem dX12_init_28 : decode cX12_init 28 = .ok (.aload_n 0, 1) := by decide +kernel
theorem dX12_init_29 : decode cX12_init 29 = .ok (.bipush 44, 2) := by decide +kernel
theorem dX12_init_31 : decode cX12_init 31 = .ok (.newarray .int, 2) := by decide +kernel
theorem dX12_init_33 : decode cX12_init 33 = .ok (.putfield 19, 3) := by decide +kernel
theorem dX12_init_36 : decode cX12_init 36 = .ok (.aload_n 0, 1) := by decide +kernel
theorem dX12_init_37 : decode cX12_init 37 = .ok (.bipush 8, 2) := by decide +kernel
theorem dX12_init_39 : decode cX12_init 39 = .ok (.newarray .int, 2) := by decide +kernel
theorem dX12_init_41 : decode cX12_init 41 = .ok (.putfield 22, 3) := by decide +kernel
theorem dX12_init_44 : decode cX12_init 44 = .ok (.aload_n 0, 1) := by decide +kernel
theorem dX12_init_45 : decode cX12_init 45 = .ok (.bipush 8, 2) := by decide +kernel
theorem dX12_init_47 : decode cX12_init 47 = .ok (.newarray .int, 2) := by decide +kernel
theorem dX12_init_49 : decode cX12_init 49 = .ok (.putfield 25, 3) := by decide +kernel
theorem dX12_init_52 : decode cX12_init 52 = .ok (.aload_n 0, 1) := by decide +kernel
theorem dX12_init_53 : decode cX12_init 53 = .ok (.bipush 8, 2) := by decide +kernel
theorem dX12_init_55 : decode cX12_init 55 = .ok (.newarray .int, 2) := by decide +kernel
theorem dX12_init_57 : decode cX12_init 57 = .ok (.putfield 28, 3) := by decide +kernel
theorem dX12_init_60 : decode cX12_init 60 = .ok (.aload_n 0, 1) := by decide +kernel
theorem dX12_init_61 : decode cX12_init 61 = .ok (.sipush 800, 3) := by decide +kernel
theorem dX12_init_64 : decode cX12_init 64 = .ok (.newarray .int, 2) := by decide +kernel
theorem dX12_init_66 : decode cX12_init 66 = .ok (.putfield 31, 3) := by decide +kernel
theorem dX12_init_69 : decode cX12_init 69 = .ok (.aload_n 0, 1) := by decide +kernel
theorem dX12_init_70 : decode cX12_init 70 = .ok (.bipush 8, 2) := by decide +kernel
theorem dX12_init_72 : decode cX12_init 72 = .ok (.newarray .int, 2) := by decide +kernel
theorem dX12_init_74 : decode cX12_init 74 = .ok (.putfield 34, 3) := by decide +kernel
theorem dX12_init_77 : decode cX12_init 77 = .ok (.aload_n 0, 1) := by decide +kernel
theorem dX12_init_78 : decode cX12_init 78 = .ok (.bipush 8, 2) := by decide +kernel
theorem dX12_init_80 : decode cX12_init 80 = .ok (.newarray .int, 2) := by decide +kernel
theorem dX12_init_82 : decode cX12_init 82 = .ok (.putfield 37, 3) := by decide +kernel
theorem dX12_init_85 : decode cX12_init 85 = .ok (.aload_n 0, 1) := by decide +kernel
theorem dX12_init_86 : decode cX12_init 86 = .ok (.bipush 20, 2) := by decide +kernel
theorem dX12_init_88 : decode cX12_init 88 = .ok (.newarray .int, 2) := by decide +kernel
theorem dX12_init_90 : decode cX12_init 90 = .ok (.putfield 40, 3) := by decide +kernel
theorem dX12_init_93 : decode cX12_init 93 = .ok (.aload_n 0, 1) := by decide +kernel
theorem dX12_init_94 : decode cX12_init 94 = .ok (.bipush 20, 2) := by decide +kernel
theorem dX12_init_96 : decode cX12_init 96 = .ok (.newarray .int, 2) := by decide +kernel
theorem dX12_init_98 : decode cX12_init 98 = .ok (.putfield 43, 3) := by decide +kernel
theorem dX12_init_101 : decode cX12_init 101 = .ok (.aload_n 0, 1) := by decide +kernel
theorem dX12_init_102 : decode cX12_init 102 = .ok (.bipush 20, 2) := by decide +kernel
theorem dX12_init_104 : decode cX12_init 104 = .ok (.newarray .int, 2) := by decide +kernel
theorem dX12_init_106 : decode cX12_init 106 = .ok (.putfield 46, 3) := by decide +kernel
theorem dX12_init_109 : decode cX12_init 109 = .ok (.aload_n 0, 1) := by decide +kernel
theorem dX12_init_110 : decode cX12_init 110 = .ok (.iconst 4, 1) := by decide +kernel
theorem dX12_init_111 : decode cX12_init 111 = .ok (.newarray .int, 2) := by decide +kernel
theorem dX12_init_113 : decode cX12_init 113 = .ok (.putfield 49, 3) := by decide +kernel
theorem dX12_init_116 : decode cX12_init 116 = .ok (.aload_n 0, 1) := by decide +kernel
theorem dX12_init_117 : decode cX12_init 117 = .ok (.sipush 400, 3) := by decide +kernel
theorem dX12_init_120 : decode cX12_init 120 = .ok (.newarray .int, 2) := by decide +kernel
theorem dX12_init_122 : decode cX12_init 122 = .ok (.putfield 52, 3) := by decide +kernel
theorem dX12_init_125 : decode cX12_init 125 = .ok (.aload_n 0, 1) := by decide +kernel
theorem dX12_init_126 : decode cX12_init 126 = .ok (.bipush 20, 2) := by decide +kernel
theorem dX12_init_128 : decode cX12_init 128 = .ok (.newarray .int, 2) := by decide +kernel
theorem dX12_init_130 : decode cX12_init 130 = .ok (.putfield 55, 3) := by decide +kernel
theorem dX12_init_133 : decode cX12_init 133 = .ok (.aload_n 0, 1) := by decide +kernel
theorem dX12_init_134 : decode cX12_init 134 = .ok (.bipush 20, 2) := by decide +kernel
theorem dX12_init_136 : decode cX12_init 136 = .ok (.newarray .int, 2) := by decide +kernel
theorem dX12_init_138 : decode cX12_init 138 = .ok (.putfield 58, 3) := by decide +kernel
theorem dX12_init_141 : decode cX12_init 141 = .ok (.aload_n 0, 1) := by decide +kernel
theorem dX12_init_142 : decode cX12_init 142 = .ok (.getfield 9, 3) := by decide +kernel
theorem dX12_init_145 : decode cX12_init 145 = .ok (.bipush 42, 2) := by decide +kernel
theorem dX12_init_147 : decode cX12_init 147 = .ok (.bipush 19, 2) := by decide +kernel
theorem dX12_init_149 : decode cX12_init 149 = .ok (.iastore, 1) := by decide +kernel
theorem dX12_init_150 : decode cX12_init 150 = .ok (.return_, 1) := by decide +kernel
theorem dX12_thrown_0 : decode cX12_thrown 0 = .ok (.aload_n 0, 1) := by decide +kernel
theorem dX12_thrown_1 : decode cX12_thrown 1 = .ok (.getfield 61, 3) := by decide +kernel
theorem dX12_thrown_4 : decode cX12_thrown 4 = .ok (.ireturn, 1) := by decide +kernel
theorem dX12_isIn_0 : decode cX12_isIn 0 = .ok (.lload_n 0, 1) := by decide +kernel
theorem dX12_isIn_1 : decode cX12_isIn 1 = .ok (.lload_n 2, 1) := by decide +kernel
theorem dX12_isIn_2 : decode cX12_isIn 2 = .ok (.lcmp, 1) := by decide +kernel
theorem dX12_isIn_3 : decode cX12_isIn 3 = .ok (.ifCond .lt 14, 3) := by decide +kernel
theorem dX12_isIn_6 : decode cX12_isIn 6 = .ok (.lload_n 0, 1) := by decide +kernel
theorem dX12_isIn_7 : decode cX12_isIn 7 = .ok (.lload 4, 2) := by decide +kernel
theorem dX12_isIn_9 : decode cX12_isIn 9 = .ok (.lcmp, 1) := by decide +kernel
theorem dX12_isIn_10 : decode cX12_isIn 10 = .ok (.ifCond .gt 7, 3) := by decide +kernel
theorem dX12_isIn_13 : decode cX12_isIn 13 = .ok (.iconst 1, 1) := by decide +kernel
theorem dX12_isIn_14 : decode cX12_isIn 14 = .ok (.goto 4, 3) := by decide +kernel
theorem dX12_isIn_17 : decode cX12_isIn 17 = .ok (.iconst 0, 1) := by decide +kernel
theorem dX12_isIn_18 : decode cX12_isIn 18 = .ok (.ireturn, 1) := by decide +kernel
theorem dX12_isShelf_0 : decode cX12_isShelf 0 = .ok (.iload_n 0, 1) := by decide +kernel
theorem dX12_isShelf_1 : decode cX12_isShelf 1 = .ok (.i2l, 1) := by decide +kernel
theorem dX12_isShelf_2 : decode cX12_isShelf 2 = .ok (.lconst 0, 1) := by decide +kernel
theorem dX12_isShelf_3 : decode cX12_isShelf 3 = .ok (.ldc2_w 65, 3) := by decide +kernel
theorem dX12_isShelf_6 : decode cX12_isShelf 6 = .ok (.invokestatic 67, 3) := by decide +kernel
theorem dX12_isShelf_9 : decode cX12_isShelf 9 = .ok (.ireturn, 1) := by decide +kernel
theorem dX12_isCell_0 : decode cX12_isCell 0 = .ok (.iload_n 0, 1) := by decide +kernel
theorem dX12_isCell_1 : decode cX12_isCell 1 = .ok (.i2l, 1) := by decide +kernel
theorem dX12_isCell_2 : decode cX12_isCell 2 = .ok (.lconst 0, 1) := by decide +kernel
theorem dX12_isCell_3 : decode cX12_isCell 3 = .ok (.ldc2_w 71, 3) := by decide +kernel
theorem dX12_isCell_6 : decode cX12_isCell 6 = .ok (.invokestatic 67, 3) := by decide +kernel
theorem dX12_isCell_9 : decode cX12_isCell 9 = .ok (.ireturn, 1) := by decide +kernel
theorem dX12_isGang_0 : decode cX12_isGang 0 = .ok (.iload_n 0, 1) := by decide +kernel
theorem dX12_isGang_1 : decode cX12_isGang 1 = .ok (.i2l, 1) := by decide +kernel
theorem dX12_isGang_2 : decode cX12_isGang 2 = .ok (.lconst 0, 1) := by decide +kernel
theorem dX12_isGang_3 : decode cX12_isGang 3 = .ok (.lconst 1, 1) := by decide +kernel
theorem dX12_isGang_4 : decode cX12_isGang 4 = .ok (.invokestatic 67, 3) := by decide +kernel
theorem dX12_isGang_7 : decode cX12_isGang 7 = .ok (.ireturn, 1) := by decide +kernel
theorem dX12_lays_0 : decode cX12_lays 0 = .ok (.iconst 0, 1) := by decide +kernel
theorem dX12_lays_1 : decode cX12_lays 1 = .ok (.istore_n 2, 1) := by decide +kernel
theorem dX12_lays_2 : decode cX12_lays 2 = .ok (.iload_n 2, 1) := by decide +kernel
theorem dX12_lays_3 : decode cX12_lays 3 = .ok (.bipush 44, 2) := by decide +kernel
theorem dX12_lays_5 : decode cX12_lays 5 = .ok (.if_icmp .ge 15, 3) := by decide +kernel
theorem dX12_lays_8 : decode cX12_lays 8 = .ok (.aload_n 1, 1) := by decide +kernel
theorem dX12_lays_9 : decode cX12_lays 9 = .ok (.iload_n 2, 1) := by decide +kernel
theorem dX12_lays_10 : decode cX12_lays 10 = .ok (.aload_n 0, 1) := by decide +kernel
theorem dX12_lays_11 : decode cX12_lays 11 = .ok (.iload_n 2, 1) := by decide +kernel
theorem dX12_lays_12 : decode cX12_lays 12 = .ok (.iaload, 1) := by decide +kernel
theorem dX12_lays_13 : decode cX12_lays 13 = .ok (.iastore, 1) := by decide +kernel
theorem dX12_lays_14 : decode cX12_lays 14 = .ok (.iinc 2 1, 3) := by decide +kernel
theorem dX12_lays_17 : decode cX12_lays 17 = .ok (.goto (-15), 3) := by decide +kernel
theorem dX12_lays_20 : decode cX12_lays 20 = .ok (.return_, 1) := by decide +kernel
theorem dX12_begins_0 : decode cX12_begins 0 = .ok (.aload_n 0, 1) := by decide +kernel
theorem dX12_begins_1 : decode cX12_begins 1 = .ok (.getfield 9, 3) := by decide +kernel
theorem dX12_begins_4 : decode cX12_begins 4 = .ok (.aload_n 0, 1) := by decide +kernel
theorem dX12_begins_5 : decode cX12_begins 5 = .ok (.getfield 19, 3) := by decide +kernel
theorem dX12_begins_8 : decode cX12_begins 8 = .ok (.invokestatic 73, 3) := by decide +kernel
theorem dX12_begins_11 : decode cX12_begins 11 = .ok (.return_, 1) := by decide +kernel
theorem dX12_ends_0 : decode cX12_ends 0 = .ok (.aload_n 0, 1) := by decide +kernel
theorem dX12_ends_1 : decode cX12_ends 1 = .ok (.getfield 19, 3) := by decide +kernel
theorem dX12_ends_4 : decode cX12_ends 4 = .ok (.aload_n 0, 1) := by decide +kernel
theorem dX12_ends_5 : decode cX12_ends 5 = .ok (.getfield 9, 3) := by decide +kernel
theorem dX12_ends_8 : decode cX12_ends 8 = .ok (.invokestatic 73, 3) := by decide +kernel
theorem dX12_ends_11 : decode cX12_ends 11 = .ok (.return_, 1) := by decide +kernel
theorem dX12_kind_0 : decode cX12_kind 0 = .ok (.aload_n 0, 1) := by decide +kernel
theorem dX12_kind_1 : decode cX12_kind 1 = .ok (.getfield 9, 3) := by decide +kernel
theorem dX12_kind_4 : decode cX12_kind 4 = .ok (.iconst 2, 1) := by decide +kernel
theorem dX12_kind_5 : decode cX12_kind 5 = .ok (.iload_n 1, 1) := by decide +kernel
theorem dX12_kind_6 : decode cX12_kind 6 = .ok (.imul, 1) := by decide +kernel
theorem dX12_kind_7 : decode cX12_kind 7 = .ok (.iaload, 1) := by decide +kernel
theorem dX12_kind_8 : decode cX12_kind 8 = .ok (.ireturn, 1) := by decide +kernel
theorem dX12_figure_0 : decode cX12_figure 0 = .ok (.aload_n 0, 1) := by decide +kernel
theorem dX12_figure_1 : decode cX12_figure 1 = .ok (.getfield 9, 3) := by decide +kernel
theorem dX12_figure_4 : decode cX12_figure 4 = .ok (.iconst 2, 1) := by decide +kernel
theorem dX12_figure_5 : decode cX12_figure 5 = .ok (.iload_n 1, 1) := by decide +kernel
theorem dX12_figure_6 : decode cX12_figure 6 = .ok (.imul, 1) := by decide +kernel
theorem dX12_figure_7 : decode cX12_figure 7 = .ok (.iconst 1, 1) := by decide +kernel
theorem dX12_figure_8 : decode cX12_figure 8 = .ok (.iadd, 1) := by decide +kernel
theorem dX12_figure_9 : decode cX12_figure 9 = .ok (.iaload, 1) := by decide +kernel
theorem dX12_figure_10 : decode cX12_figure 10 = .ok (.ireturn, 1) := by decide +kernel
theorem dX12_setCell_0 : decode cX12_setCell 0 = .ok (.aload_n 0, 1) := by decide +kernel
theorem dX12_setCell_1 : decode cX12_setCell 1 = .ok (.getfield 9, 3) := by decide +kernel
theorem dX12_setCell_4 : decode cX12_setCell 4 = .ok (.iconst 2, 1) := by decide +kernel
theorem dX12_setCell_5 : decode cX12_setCell 5 = .ok (.iload_n 1, 1) := by decide +kernel
theorem dX12_setCell_6 : decode cX12_setCell 6 = .ok (.imul, 1) := by decide +kernel
theorem dX12_setCell_7 : decode cX12_setCell 7 = .ok (.iload_n 2, 1) := by decide +kernel
theorem dX12_setCell_8 : decode cX12_setCell 8 = .ok (.iastore, 1) := by decide +kernel
theorem dX12_setCell_9 : decode cX12_setCell 9 = .ok (.aload_n 0, 1) := by decide +kernel
theorem dX12_setCell_10 : decode cX12_setCell 10 = .ok (.getfield 9, 3) := by decide +kernel
theorem dX12_setCell_13 : decode cX12_setCell 13 = .ok (.iconst 2, 1) := by decide +kernel
theorem dX12_setCell_14 : decode cX12_setCell 14 = .ok (.iload_n 1, 1) := by decide +kernel
theorem dX12_setCell_15 : decode cX12_setCell 15 = .ok (.imul, 1) := by decide +kernel
theorem dX12_setCell_16 : decode cX12_setCell 16 = .ok (.iconst 1, 1) := by decide +kernel
theorem dX12_setCell_17 : decode cX12_setCell 17 = .ok (.iadd, 1) := by decide +kernel
theorem dX12_setCell_18 : decode cX12_setCell 18 = .ok (.iload_n 3, 1) := by decide +kernel
theorem dX12_setCell_19 : decode cX12_setCell 19 = .ok (.iastore, 1) := by decide +kernel
theorem dX12_setCell_20 : decode cX12_setCell 20 = .ok (.return_, 1) := by decide +kernel
theorem dX12_gangCell_0 : decode cX12_gangCell 0 = .ok (.aload_n 0, 1) := by decide +kernel
theorem dX12_gangCell_1 : decode cX12_gangCell 1 = .ok (.getfield 9, 3) := by decide +kernel
theorem dX12_gangCell_4 : decode cX12_gangCell 4 = .ok (.bipush 40, 2) := by decide +kernel
theorem dX12_gangCell_6 : decode cX12_gangCell 6 = .ok (.iconst 2, 1) := by decide +kernel
theorem dX12_gangCell_7 : decode cX12_gangCell 7 = .ok (.iload_n 1, 1) := by decide +kernel
theorem dX12_gangCell_8 : decode cX12_gangCell 8 = .ok (.imul, 1) := by decide +kernel
theorem dX12_gangCell_9 : decode cX12_gangCell 9 = .ok (.iadd, 1) := by decide +kernel
theorem dX12_gangCell_10 : decode cX12_gangCell 10 = .ok (.iaload, 1) := by decide +kernel
theorem dX12_gangCell_11 : decode cX12_gangCell 11 = .ok (.ireturn, 1) := by decide +kernel
theorem dX12_slowBy_0 : decode cX12_slowBy 0 = .ok (.iload_n 0, 1) := by decide +kernel
theorem dX12_slowBy_1 : decode cX12_slowBy 1 = .ok (.tableswitch 66 1 7 #[43, 45, 49, 55, 57, 59, 57], 43) := by decide +kernel
theorem dX12_slowBy_44 : decode cX12_slowBy 44 = .ok (.iconst 2, 1) := by decide +kernel
theorem dX12_slowBy_45 : decode cX12_slowBy 45 = .ok (.ireturn, 1) := by decide +kernel
theorem dX12_slowBy_46 : decode cX12_slowBy 46 = .ok (.iconst 4, 1) := by decide +kernel
theorem dX12_slowBy_47 : decode cX12_slowBy 47 = .ok (.iload_n 1, 1) := by decide +kernel
theorem dX12_slowBy_48 : decode cX12_slowBy 48 = .ok (.iadd, 1) := by decide +kernel
theorem dX12_slowBy_49 : decode cX12_slowBy 49 = .ok (.ireturn, 1) := by decide +kernel
theorem dX12_slowBy_50 : decode cX12_slowBy 50 = .ok (.iconst 4, 1) := by decide +kernel
theorem dX12_slowBy_51 : decode cX12_slowBy 51 = .ok (.iload_n 1, 1) := by decide +kernel
theorem dX12_slowBy_52 : decode cX12_slowBy 52 = .ok (.iadd, 1) := by decide +kernel
theorem dX12_slowBy_53 : decode cX12_slowBy 53 = .ok (.iconst 2, 1) := by decide +kernel
theorem dX12_slowBy_54 : decode cX12_slowBy 54 = .ok (.idiv, 1) := by decide +kernel
theorem dX12_slowBy_55 : decode cX12_slowBy 55 = .ok (.ireturn, 1) := by decide +kernel
theorem dX12_slowBy_56 : decode cX12_slowBy 56 = .ok (.iconst 3, 1) := by decide +kernel
theorem dX12_slowBy_57 : decode cX12_slowBy 57 = .ok (.ireturn, 1) := by decide +kernel
theorem dX12_slowBy_58 : decode cX12_slowBy 58 = .ok (.iconst 1, 1) := by decide +kernel
theorem dX12_slowBy_59 : decode cX12_slowBy 59 = .ok (.ireturn, 1) := by decide +kernel
theorem dX12_slowBy_60 : decode cX12_slowBy 60 = .ok (.bipush 8, 2) := by decide +kernel
theorem dX12_slowBy_62 : decode cX12_slowBy 62 = .ok (.iconst 2, 1) := by decide +kernel
theorem dX12_slowBy_63 : decode cX12_slowBy 63 = .ok (.iload_n 1, 1) := by decide +kernel
theorem dX12_slowBy_64 : decode cX12_slowBy 64 = .ok (.imul, 1) := by decide +kernel
theorem dX12_slowBy_65 : decode cX12_slowBy 65 = .ok (.iadd, 1) := by decide +kernel
theorem dX12_slowBy_66 : decode cX12_slowBy 66 = .ok (.ireturn, 1) := by decide +kernel
theorem dX12_slowBy_67 : decode cX12_slowBy 67 = .ok (.iconst 4, 1) := by decide +kernel
theorem dX12_slowBy_68 : decode cX12_slowBy 68 = .ok (.ireturn, 1) := by decide +kernel
theorem dX12_lossBy_0 : decode cX12_lossBy 0 = .ok (.iload_n 0, 1) := by decide +kernel
theorem dX12_lossBy_1 : decode cX12_lossBy 1 = .ok (.tableswitch 66 1 7 #[43, 45, 47, 60, 66, 62, 43], 43) := by decide +kernel
theorem dX12_lossBy_44 : decode cX12_lossBy 44 = .ok (.iconst 1, 1) := by decide +kernel
theorem dX12_lossBy_45 : decode cX12_lossBy 45 = .ok (.ireturn, 1) := by decide +kernel
theorem dX12_lossBy_46 : decode cX12_lossBy 46 = .ok (.iconst 5, 1) := by decide +kernel
theorem dX12_lossBy_47 : decode cX12_lossBy 47 = .ok (.ireturn, 1) := by decide +kernel
theorem dX12_lossBy_48 : decode cX12_lossBy 48 = .ok (.iload_n 1, 1) := by decide +kernel
theorem dX12_lossBy_49 : decode cX12_lossBy 49 = .ok (.iconst 5, 1) := by decide +kernel
theorem dX12_lossBy_50 : decode cX12_lossBy 50 = .ok (.if_icmp .le 7, 3) := by decide +kernel
theorem dX12_lossBy_53 : decode cX12_lossBy 53 = .ok (.iconst 0, 1) := by decide +kernel
theorem dX12_lossBy_54 : decode cX12_lossBy 54 = .ok (.goto 6, 3) := by decide +kernel
theorem dX12_lossBy_57 : decode cX12_lossBy 57 = .ok (.iconst 5, 1) := by decide +kernel
theorem dX12_lossBy_58 : decode cX12_lossBy 58 = .ok (.iload_n 1, 1) := by decide +kernel
theorem dX12_lossBy_59 : decode cX12_lossBy 59 = .ok (.isub, 1) := by decide +kernel
theorem dX12_lossBy_60 : decode cX12_lossBy 60 = .ok (.ireturn, 1) := by decide +kernel
theorem dX12_lossBy_61 : decode cX12_lossBy 61 = .ok (.iconst 0, 1) := by decide +kernel
theorem dX12_lossBy_62 : decode cX12_lossBy 62 = .ok (.ireturn, 1) := by decide +kernel
theorem dX12_lossBy_63 : decode cX12_lossBy 63 = .ok (.iconst 5, 1) := by decide +kernel
theorem dX12_lossBy_64 : decode cX12_lossBy 64 = .ok (.iload_n 1, 1) := by decide +kernel
theorem dX12_lossBy_65 : decode cX12_lossBy 65 = .ok (.iadd, 1) := by decide +kernel
theorem dX12_lossBy_66 : decode cX12_lossBy 66 = .ok (.ireturn, 1) := by decide +kernel
theorem dX12_lossBy_67 : decode cX12_lossBy 67 = .ok (.iconst 2, 1) := by decide +kernel
theorem dX12_lossBy_68 : decode cX12_lossBy 68 = .ok (.ireturn, 1) := by decide +kernel
theorem dX12_toilBy_0 : decode cX12_toilBy 0 = .ok (.iload_n 0, 1) := by decide +kernel
theorem dX12_toilBy_1 : decode cX12_toilBy 1 = .ok (.tableswitch 66 1 7 #[43, 46, 48, 54, 59, 61, 64], 43) := by decide +kernel
theorem dX12_toilBy_44 : decode cX12_toilBy 44 = .ok (.bipush 10, 2) := by decide +kernel
theorem dX12_toilBy_46 : decode cX12_toilBy 46 = .ok (.ireturn, 1) := by decide +kernel
theorem dX12_toilBy_47 : decode cX12_toilBy 47 = .ok (.iconst 3, 1) := by decide +kernel
theorem dX12_toilBy_48 : decode cX12_toilBy 48 = .ok (.ireturn, 1) := by decide +kernel
theorem dX12_toilBy_49 : decode cX12_toilBy 49 = .ok (.iconst 3, 1) := by decide +kernel
theorem dX12_toilBy_50 : decode cX12_toilBy 50 = .ok (.iload_n 1, 1) := by decide +kernel
theorem dX12_toilBy_51 : decode cX12_toilBy 51 = .ok (.iconst 1, 1) := by decide +kernel
theorem dX12_toilBy_52 : decode cX12_toilBy 52 = .ok (.iadd, 1) := by decide +kernel
theorem dX12_toilBy_53 : decode cX12_toilBy 53 = .ok (.imul, 1) := by decide +kernel
theorem dX12_toilBy_54 : decode cX12_toilBy 54 = .ok (.ireturn, 1) := by decide +kernel
theorem dX12_toilBy_55 : decode cX12_toilBy 55 = .ok (.bipush 10, 2) := by decide +kernel
theorem dX12_toilBy_57 : decode cX12_toilBy 57 = .ok (.iload_n 1, 1) := by decide +kernel
theorem dX12_toilBy_58 : decode cX12_toilBy 58 = .ok (.iadd, 1) := by decide +kernel
theorem dX12_toilBy_59 : decode cX12_toilBy 59 = .ok (.ireturn, 1) := by decide +kernel
theorem dX12_toilBy_60 : decode cX12_toilBy 60 = .ok (.iconst 1, 1) := by decide +kernel
theorem dX12_toilBy_61 : decode cX12_toilBy 61 = .ok (.ireturn, 1) := by decide +kernel
theorem dX12_toilBy_62 : decode cX12_toilBy 62 = .ok (.bipush 7, 2) := by decide +kernel
theorem dX12_toilBy_64 : decode cX12_toilBy 64 = .ok (.ireturn, 1) := by decide +kernel
theorem dX12_toilBy_65 : decode cX12_toilBy 65 = .ok (.iconst 0, 1) := by decide +kernel
theorem dX12_toilBy_66 : decode cX12_toilBy 66 = .ok (.ireturn, 1) := by decide +kernel
theorem dX12_toilBy_67 : decode cX12_toilBy 67 = .ok (.iconst 5, 1) := by decide +kernel
theorem dX12_toilBy_68 : decode cX12_toilBy 68 = .ok (.ireturn, 1) := by decide +kernel
theorem dX12_slow_0 : decode cX12_slow 0 = .ok (.aload_n 0, 1) := by decide +kernel
theorem dX12_slow_1 : decode cX12_slow 1 = .ok (.iload_n 1, 1) := by decide +kernel
theorem dX12_slow_2 : decode cX12_slow 2 = .ok (.invokevirtual 77, 3) := by decide +kernel
theorem dX12_slow_5 : decode cX12_slow 5 = .ok (.aload_n 0, 1) := by decide +kernel
theorem dX12_slow_6 : decode cX12_slow 6 = .ok (.iload_n 1, 1) := by decide +kernel
theorem dX12_slow_7 : decode cX12_slow 7 = .ok (.invokevirtual 81, 3) := by decide +kernel
theorem dX12_slow_10 : decode cX12_slow 10 = .ok (.invokestatic 84, 3) := by decide +kernel
theorem dX12_slow_13 : decode cX12_slow 13 = .ok (.ireturn, 1) := by decide +kernel
theorem dX12_loss_0 : decode cX12_loss 0 = .ok (.aload_n 0, 1) := by decide +kernel
theorem dX12_loss_1 : decode cX12_loss 1 = .ok (.iload_n 1, 1) := by decide +kernel
theorem dX12_loss_2 : decode cX12_loss 2 = .ok (.invokevirtual 77, 3) := by decide +kernel
theorem dX12_loss_5 : decode cX12_loss 5 = .ok (.aload_n 0, 1) := by decide +kernel
theorem dX12_loss_6 : decode cX12_loss 6 = .ok (.iload_n 1, 1) := by decide +kernel
theorem dX12_loss_7 : decode cX12_loss 7 = .ok (.invokevirtual 81, 3) := by decide +kernel
theorem dX12_loss_10 : decode cX12_loss 10 = .ok (.invokestatic 88, 3) := by decide +kernel
theorem dX12_loss_13 : decode cX12_loss 13 = .ok (.ireturn, 1) := by decide +kernel
theorem dX12_toil_0 : decode cX12_toil 0 = .ok (.aload_n 0, 1) := by decide +kernel
theorem dX12_toil_1 : decode cX12_toil 1 = .ok (.iload_n 1, 1) := by decide +kernel
theorem dX12_toil_2 : decode cX12_toil 2 = .ok (.invokevirtual 77, 3) := by decide +kernel
theorem dX12_toil_5 : decode cX12_toil 5 = .ok (.aload_n 0, 1) := by decide +kernel
theorem dX12_toil_6 : decode cX12_toil 6 = .ok (.iload_n 1, 1) := by decide +kernel
theorem dX12_toil_7 : decode cX12_toil 7 = .ok (.invokevirtual 81, 3) := by decide +kernel
theorem dX12_toil_10 : decode cX12_toil 10 = .ok (.invokestatic 91, 3) := by decide +kernel
theorem dX12_toil_13 : decode cX12_toil 13 = .ok (.ireturn, 1) := by decide +kernel
theorem dX12_beside_0 : decode cX12_beside 0 = .ok (.iload_n 1, 1) := by decide +kernel
theorem dX12_beside_1 : decode cX12_beside 1 = .ok (.tableswitch 72 0 2 #[27, 41, 57], 27) := by decide +kernel
theorem dX12_beside_28 : decode cX12_beside 28 = .ok (.iload_n 0, 1) := by decide +kernel
theorem dX12_beside_29 : decode cX12_beside 29 = .ok (.iconst 5, 1) := by decide +kernel
theorem dX12_beside_30 : decode cX12_beside 30 = .ok (.if_icmp .lt 9, 3) := by decide +kernel
theorem dX12_beside_33 : decode cX12_beside 33 = .ok (.iload_n 0, 1) := by decide +kernel
theorem dX12_beside_34 : decode cX12_beside 34 = .ok (.iconst 5, 1) := by decide +kernel
theorem dX12_beside_35 : decode cX12_beside 35 = .ok (.isub, 1) := by decide +kernel
theorem dX12_beside_36 : decode cX12_beside 36 = .ok (.goto 5, 3) := by decide +kernel
theorem dX12_beside_39 : decode cX12_beside 39 = .ok (.bipush (-4), 2) := by decide +kernel
theorem dX12_beside_41 : decode cX12_beside 41 = .ok (.ireturn, 1) := by decide +kernel
theorem dX12_beside_42 : decode cX12_beside 42 = .ok (.iload_n 0, 1) := by decide +kernel
theorem dX12_beside_43 : decode cX12_beside 43 = .ok (.iconst 5, 1) := by decide +kernel
theorem dX12_beside_44 : decode cX12_beside 44 = .ok (.irem, 1) := by decide +kernel
theorem dX12_beside_45 : decode cX12_beside 45 = .ok (.iconst 4, 1) := by decide +kernel
theorem dX12_beside_46 : decode cX12_beside 46 = .ok (.if_icmp .ge 9, 3) := by decide +kernel
theorem dX12_beside_49 : decode cX12_beside 49 = .ok (.iload_n 0, 1) := by decide +kernel
theorem dX12_beside_50 : decode cX12_beside 50 = .ok (.iconst 1, 1) := by decide +kernel
theorem dX12_beside_51 : decode cX12_beside 51 = .ok (.iadd, 1) := by decide +kernel
theorem dX12_beside_52 : decode cX12_beside 52 = .ok (.goto 5, 3) := by decide +kernel
theorem dX12_beside_55 : decode cX12_beside 55 = .ok (.bipush (-4), 2) := by decide +kernel
theorem dX12_beside_57 : decode cX12_beside 57 = .ok (.ireturn, 1) := by decide +kernel
theorem dX12_beside_58 : decode cX12_beside 58 = .ok (.iload_n 0, 1) := by decide +kernel
theorem dX12_beside_59 : decode cX12_beside 59 = .ok (.bipush 15, 2) := by decide +kernel
theorem dX12_beside_61 : decode cX12_beside 61 = .ok (.if_icmp .ge 9, 3) := by decide +kernel
theorem dX12_beside_64 : decode cX12_beside 64 = .ok (.iload_n 0, 1) := by decide +kernel
theorem dX12_beside_65 : decode cX12_beside 65 = .ok (.iconst 5, 1) := by decide +kernel
theorem dX12_beside_66 : decode cX12_beside 66 = .ok (.iadd, 1) := by decide +kernel
theorem dX12_beside_67 : decode cX12_beside 67 = .ok (.goto 5, 3) := by decide +kernel
theorem dX12_beside_70 : decode cX12_beside 70 = .ok (.bipush (-4), 2) := by decide +kernel
theorem dX12_beside_72 : decode cX12_beside 72 = .ok (.ireturn, 1) := by decide +kernel
theorem dX12_beside_73 : decode cX12_beside 73 = .ok (.iload_n 0, 1) := by decide +kernel
theorem dX12_beside_74 : decode cX12_beside 74 = .ok (.iconst 5, 1) := by decide +kernel
theorem dX12_beside_75 : decode cX12_beside 75 = .ok (.irem, 1) := by decide +kernel
theorem dX12_beside_76 : decode cX12_beside 76 = .ok (.ifCond .le 9, 3) := by decide +kernel
theorem dX12_beside_79 : decode cX12_beside 79 = .ok (.iload_n 0, 1) := by decide +kernel
theorem dX12_beside_80 : decode cX12_beside 80 = .ok (.iconst 1, 1) := by decide +kernel
theorem dX12_beside_81 : decode cX12_beside 81 = .ok (.isub, 1) := by decide +kernel
theorem dX12_beside_82 : decode cX12_beside 82 = .ok (.goto 5, 3) := by decide +kernel
theorem dX12_beside_85 : decode cX12_beside 85 = .ok (.bipush (-4), 2) := by decide +kernel
theorem dX12_beside_87 : decode cX12_beside 87 = .ok (.ireturn, 1) := by decide +kernel
theorem dX12_digs_0 : decode cX12_digs 0 = .ok (.aload_n 0, 1) := by decide +kernel
theorem dX12_digs_1 : decode cX12_digs 1 = .ok (.iload_n 1, 1) := by decide +kernel
theorem dX12_digs_2 : decode cX12_digs 2 = .ok (.invokevirtual 94, 3) := by decide +kernel
theorem dX12_digs_5 : decode cX12_digs 5 = .ok (.iload_n 2, 1) := by decide +kernel
theorem dX12_digs_6 : decode cX12_digs 6 = .ok (.invokestatic 97, 3) := by decide +kernel
theorem dX12_digs_9 : decode cX12_digs 9 = .ok (.istore_n 3, 1) := by decide +kernel
theorem dX12_digs_10 : decode cX12_digs 10 = .ok (.iload_n 3, 1) := by decide +kernel
theorem dX12_digs_11 : decode cX12_digs 11 = .ok (.ifCond .ge 5, 3) := by decide +kernel
theorem dX12_digs_14 : decode cX12_digs 14 = .ok (.iconst 0, 1) := by decide +kernel
theorem dX12_digs_15 : decode cX12_digs 15 = .ok (.ireturn, 1) := by decide +kernel
theorem dX12_digs_16 : decode cX12_digs 16 = .ok (.aload_n 0, 1) := by decide +kernel
theorem dX12_digs_17 : decode cX12_digs 17 = .ok (.getfield 9, 3) := by decide +kernel
theorem dX12_digs_20 : decode cX12_digs 20 = .ok (.bipush 40, 2) := by decide +kernel
theorem dX12_digs_22 : decode cX12_digs 22 = .ok (.iconst 2, 1) := by decide +kernel
theorem dX12_digs_23 : decode cX12_digs 23 = .ok (.iload_n 1, 1) := by decide +kernel
theorem dX12_digs_24 : decode cX12_digs 24 = .ok (.imul, 1) := by decide +kernel
theorem dX12_digs_25 : decode cX12_digs 25 = .ok (.iadd, 1) := by decide +kernel
theorem dX12_digs_26 : decode cX12_digs 26 = .ok (.iload_n 3, 1) := by decide +kernel
theorem dX12_digs_27 : decode cX12_digs 27 = .ok (.iastore, 1) := by decide +kernel
theorem dX12_digs_28 : decode cX12_digs 28 = .ok (.aload_n 0, 1) := by decide +kernel
theorem dX12_digs_29 : decode cX12_digs 29 = .ok (.getfield 9, 3) := by decide +kernel
theorem dX12_digs_32 : decode cX12_digs 32 = .ok (.bipush 40, 2) := by decide +kernel
theorem dX12_digs_34 : decode cX12_digs 34 = .ok (.iconst 2, 1) := by decide +kernel
theorem dX12_digs_35 : decode cX12_digs 35 = .ok (.iload_n 1, 1) := by decide +kernel
theorem dX12_digs_36 : decode cX12_digs 36 = .ok (.imul, 1) := by decide +kernel
theorem dX12_digs_37 : decode cX12_digs 37 = .ok (.iadd, 1) := by decide +kernel
theorem dX12_digs_38 : decode cX12_digs 38 = .ok (.iconst 1, 1) := by decide +kernel
theorem dX12_digs_39 : decode cX12_digs 39 = .ok (.iadd, 1) := by decide +kernel
theorem dX12_digs_40 : decode cX12_digs 40 = .ok (.dup2, 1) := by decide +kernel
theorem dX12_digs_41 : decode cX12_digs 41 = .ok (.iaload, 1) := by decide +kernel
theorem dX12_digs_42 : decode cX12_digs 42 = .ok (.aload_n 0, 1) := by decide +kernel
theorem dX12_digs_43 : decode cX12_digs 43 = .ok (.iload_n 3, 1) := by decide +kernel
theorem dX12_digs_44 : decode cX12_digs 44 = .ok (.invokevirtual 100, 3) := by decide +kernel
theorem dX12_digs_47 : decode cX12_digs 47 = .ok (.iadd, 1) := by decide +kernel
theorem dX12_digs_48 : decode cX12_digs 48 = .ok (.iastore, 1) := by decide +kernel
theorem dX12_digs_49 : decode cX12_digs 49 = .ok (.aload_n 0, 1) := by decide +kernel
theorem dX12_digs_50 : decode cX12_digs 50 = .ok (.iload_n 3, 1) := by decide +kernel
theorem dX12_digs_51 : decode cX12_digs 51 = .ok (.bipush 7, 2) := by decide +kernel
theorem dX12_digs_53 : decode cX12_digs 53 = .ok (.iconst 0, 1) := by decide +kernel
theorem dX12_digs_54 : decode cX12_digs 54 = .ok (.invokevirtual 103, 3) := by decide +kernel
theorem dX12_digs_57 : decode cX12_digs 57 = .ok (.iconst 1, 1) := by decide +kernel
theorem dX12_digs_58 : decode cX12_digs 58 = .ok (.ireturn, 1) := by decide +kernel
theorem dX12_haveMet_0 : decode cX12_haveMet 0 = .ok (.aload_n 0, 1) := by decide +kernel
theorem dX12_haveMet_1 : decode cX12_haveMet 1 = .ok (.iconst 0, 1) := by decide +kernel
theorem dX12_haveMet_2 : decode cX12_haveMet 2 = .ok (.invokevirtual 94, 3) := by decide +kernel
theorem dX12_haveMet_5 : decode cX12_haveMet 5 = .ok (.istore_n 1, 1) := by decide +kernel
theorem dX12_haveMet_6 : decode cX12_haveMet 6 = .ok (.aload_n 0, 1) := by decide +kernel
theorem dX12_haveMet_7 : decode cX12_haveMet 7 = .ok (.iconst 1, 1) := by decide +kernel
theorem dX12_haveMet_8 : decode cX12_haveMet 8 = .ok (.invokevirtual 94, 3) := by decide +kernel
theorem dX12_haveMet_11 : decode cX12_haveMet 11 = .ok (.istore_n 2, 1) := by decide +kernel
theorem dX12_haveMet_12 : decode cX12_haveMet 12 = .ok (.iload_n 1, 1) := by decide +kernel
theorem dX12_haveMet_13 : decode cX12_haveMet 13 = .ok (.iload_n 2, 1) := by decide +kernel
theorem dX12_haveMet_14 : decode cX12_haveMet 14 = .ok (.if_icmp .ne 7, 3) := by decide +kernel
theorem dX12_haveMet_17 : decode cX12_haveMet 17 = .ok (.iconst 1, 1) := by decide +kernel
theorem dX12_haveMet_18 : decode cX12_haveMet 18 = .ok (.goto 4, 3) := by decide +kernel
theorem dX12_haveMet_21 : decode cX12_haveMet 21 = .ok (.iconst 0, 1) := by decide +kernel
theorem dX12_haveMet_22 : decode cX12_haveMet 22 = .ok (.istore_n 3, 1) := by decide +kernel
theorem dX12_haveMet_23 : decode cX12_haveMet 23 = .ok (.iconst 0, 1) := by decide +kernel
theorem dX12_haveMet_24 : decode cX12_haveMet 24 = .ok (.istore 4, 2) := by decide +kernel
theorem dX12_haveMet_26 : decode cX12_haveMet 26 = .ok (.iload 4, 2) := by decide +kernel
theorem dX12_haveMet_28 : decode cX12_haveMet 28 = .ok (.iconst 4, 1) := by decide +kernel
theorem dX12_haveMet_29 : decode cX12_haveMet 29 = .ok (.if_icmp .ge 29, 3) := by decide +kernel
theorem dX12_haveMet_32 : decode cX12_haveMet 32 = .ok (.iload_n 3, 1) := by decide +kernel
theorem dX12_haveMet_33 : decode cX12_haveMet 33 = .ok (.ifCond .ne 13, 3) := by decide +kernel
theorem dX12_haveMet_36 : decode cX12_haveMet 36 = .ok (.iload_n 1, 1) := by decide +kernel
theorem dX12_haveMet_37 : decode cX12_haveMet 37 = .ok (.iload 4, 2) := by decide +kernel
theorem dX12_haveMet_39 : decode cX12_haveMet 39 = .ok (.invokestatic 97, 3) := by decide +kernel
theorem dX12_haveMet_42 : decode cX12_haveMet 42 = .ok (.iload_n 2, 1) := by decide +kernel
theorem dX12_haveMet_43 : decode cX12_haveMet 43 = .ok (.if_icmp .ne 7, 3) := by decide +kernel
theorem dX12_haveMet_46 : decode cX12_haveMet 46 = .ok (.iconst 1, 1) := by decide +kernel
theorem dX12_haveMet_47 : decode cX12_haveMet 47 = .ok (.goto 4, 3) := by decide +kernel
theorem dX12_haveMet_50 : decode cX12_haveMet 50 = .ok (.iconst 0, 1) := by decide +kernel
theorem dX12_haveMet_51 : decode cX12_haveMet 51 = .ok (.istore_n 3, 1) := by decide +kernel
theorem dX12_haveMet_52 : decode cX12_haveMet 52 = .ok (.iinc 4 1, 3) := by decide +kernel
theorem dX12_haveMet_55 : decode cX12_haveMet 55 = .ok (.goto (-29), 3) := by decide +kernel
theorem dX12_haveMet_58 : decode cX12_haveMet 58 = .ok (.iload_n 3, 1) := by decide +kernel
theorem dX12_haveMet_59 : decode cX12_haveMet 59 = .ok (.ireturn, 1) := by decide +kernel
theorem dX12_isBetter_0 : decode cX12_isBetter 0 = .ok (.aload_n 0, 1) := by decide +kernel
theorem dX12_isBetter_1 : decode cX12_isBetter 1 = .ok (.getfield 40, 3) := by decide +kernel
theorem dX12_isBetter_4 : decode cX12_isBetter 4 = .ok (.iload_n 1, 1) := by decide +kernel
theorem dX12_isBetter_5 : decode cX12_isBetter 5 = .ok (.iaload, 1) := by decide +kernel
theorem dX12_isBetter_6 : decode cX12_isBetter 6 = .ok (.aload_n 0, 1) := by decide +kernel
theorem dX12_isBetter_7 : decode cX12_isBetter 7 = .ok (.iload_n 2, 1) := by decide +kernel
theorem dX12_isBetter_8 : decode cX12_isBetter 8 = .ok (.invokevirtual 107, 3) := by decide +kernel
theorem dX12_isBetter_11 : decode cX12_isBetter 11 = .ok (.iadd, 1) := by decide +kernel
theorem dX12_isBetter_12 : decode cX12_isBetter 12 = .ok (.istore_n 3, 1) := by decide +kernel
theorem dX12_isBetter_13 : decode cX12_isBetter 13 = .ok (.aload_n 0, 1) := by decide +kernel
theorem dX12_isBetter_14 : decode cX12_isBetter 14 = .ok (.getfield 43, 3) := by decide +kernel
theorem dX12_isBetter_17 : decode cX12_isBetter 17 = .ok (.iload_n 1, 1) := by decide +kernel
theorem dX12_isBetter_18 : decode cX12_isBetter 18 = .ok (.iaload, 1) := by decide +kernel
theorem dX12_isBetter_19 : decode cX12_isBetter 19 = .ok (.aload_n 0, 1) := by decide +kernel
theorem dX12_isBetter_20 : decode cX12_isBetter 20 = .ok (.iload_n 2, 1) := by decide +kernel
theorem dX12_isBetter_21 : decode cX12_isBetter 21 = .ok (.invokevirtual 110, 3) := by decide +kernel
theorem dX12_isBetter_24 : decode cX12_isBetter 24 = .ok (.iadd, 1) := by decide +kernel
theorem dX12_isBetter_25 : decode cX12_isBetter 25 = .ok (.istore 4, 2) := by decide +kernel
theorem dX12_isBetter_27 : decode cX12_isBetter 27 = .ok (.iload_n 3, 1) := by decide +kernel
theorem dX12_isBetter_28 : decode cX12_isBetter 28 = .ok (.aload_n 0, 1) := by decide +kernel
theorem dX12_isBetter_29 : decode cX12_isBetter 29 = .ok (.getfield 40, 3) := by decide +kernel
theorem dX12_isBetter_32 : decode cX12_isBetter 32 = .ok (.iload_n 2, 1) := by decide +kernel
theorem dX12_isBetter_33 : decode cX12_isBetter 33 = .ok (.iaload, 1) := by decide +kernel
theorem dX12_isBetter_34 : decode cX12_isBetter 34 = .ok (.if_icmp .gt 24, 3) := by decide +kernel
theorem dX12_isBetter_37 : decode cX12_isBetter 37 = .ok (.iload_n 3, 1) := by decide +kernel
theorem dX12_isBetter_38 : decode cX12_isBetter 38 = .ok (.aload_n 0, 1) := by decide +kernel
theorem dX12_isBetter_39 : decode cX12_isBetter 39 = .ok (.getfield 40, 3) := by decide +kernel
theorem dX12_isBetter_42 : decode cX12_isBetter 42 = .ok (.iload_n 2, 1) := by decide +kernel
theorem dX12_isBetter_43 : decode cX12_isBetter 43 = .ok (.iaload, 1) := by decide +kernel
theorem dX12_isBetter_44 : decode cX12_isBetter 44 = .ok (.if_icmp .ne 16, 3) := by decide +kernel
theorem dX12_isBetter_47 : decode cX12_isBetter 47 = .ok (.iload 4, 2) := by decide +kernel
theorem dX12_isBetter_49 : decode cX12_isBetter 49 = .ok (.aload_n 0, 1) := by decide +kernel
theorem dX12_isBetter_50 : decode cX12_isBetter 50 = .ok (.getfield 43, 3) := by decide +kernel
theorem dX12_isBetter_53 : decode cX12_isBetter 53 = .ok (.iload_n 2, 1) := by decide +kernel
theorem dX12_isBetter_54 : decode cX12_isBetter 54 = .ok (.iaload, 1) := by decide +kernel
theorem dX12_isBetter_55 : decode cX12_isBetter 55 = .ok (.if_icmp .lt 5, 3) := by decide +kernel
theorem dX12_isBetter_58 : decode cX12_isBetter 58 = .ok (.iconst 0, 1) := by decide +kernel
theorem dX12_isBetter_59 : decode cX12_isBetter 59 = .ok (.ireturn, 1) := by decide +kernel
theorem dX12_isBetter_60 : decode cX12_isBetter 60 = .ok (.aload_n 0, 1) := by decide +kernel
theorem dX12_isBetter_61 : decode cX12_isBetter 61 = .ok (.getfield 40, 3) := by decide +kernel
theorem dX12_isBetter_64 : decode cX12_isBetter 64 = .ok (.iload_n 2, 1) := by decide +kernel
theorem dX12_isBetter_65 : decode cX12_isBetter 65 = .ok (.iload_n 3, 1) := by decide +kernel
theorem dX12_isBetter_66 : decode cX12_isBetter 66 = .ok (.iastore, 1) := by decide +kernel
theorem dX12_isBetter_67 : decode cX12_isBetter 67 = .ok (.aload_n 0, 1) := by decide +kernel
theorem dX12_isBetter_68 : decode cX12_isBetter 68 = .ok (.getfield 43, 3) := by decide +kernel
theorem dX12_isBetter_71 : decode cX12_isBetter 71 = .ok (.iload_n 2, 1) := by decide +kernel
theorem dX12_isBetter_72 : decode cX12_isBetter 72 = .ok (.iload 4, 2) := by decide +kernel
theorem dX12_isBetter_74 : decode cX12_isBetter 74 = .ok (.iastore, 1) := by decide +kernel
theorem dX12_isBetter_75 : decode cX12_isBetter 75 = .ok (.iconst 1, 1) := by decide +kernel
theorem dX12_isBetter_76 : decode cX12_isBetter 76 = .ok (.ireturn, 1) := by decide +kernel
theorem dX12_finds_0 : decode cX12_finds 0 = .ok (.iconst 0, 1) := by decide +kernel
theorem dX12_finds_1 : decode cX12_finds 1 = .ok (.istore_n 2, 1) := by decide +kernel
theorem dX12_finds_2 : decode cX12_finds 2 = .ok (.iload_n 2, 1) := by decide +kernel
theorem dX12_finds_3 : decode cX12_finds 3 = .ok (.bipush 20, 2) := by decide +kernel
theorem dX12_finds_5 : decode cX12_finds 5 = .ok (.if_icmp .ge 43, 3) := by decide +kernel
theorem dX12_finds_8 : decode cX12_finds 8 = .ok (.aload_n 0, 1) := by decide +kernel
theorem dX12_finds_9 : decode cX12_finds 9 = .ok (.getfield 40, 3) := by decide +kernel
theorem dX12_finds_12 : decode cX12_finds 12 = .ok (.iload_n 2, 1) := by decide +kernel
theorem dX12_finds_13 : decode cX12_finds 13 = .ok (.iload_n 2, 1) := by decide +kernel
theorem dX12_finds_14 : decode cX12_finds 14 = .ok (.iload_n 1, 1) := by decide +kernel
theorem dX12_finds_15 : decode cX12_finds 15 = .ok (.if_icmp .ne 7, 3) := by decide +kernel
theorem dX12_finds_18 : decode cX12_finds 18 = .ok (.iconst 0, 1) := by decide +kernel
theorem dX12_finds_19 : decode cX12_finds 19 = .ok (.goto 5, 3) := by decide +kernel
theorem dX12_finds_22 : decode cX12_finds 22 = .ok (.ldc 113, 2) := by decide +kernel
theorem dX12_finds_24 : decode cX12_finds 24 = .ok (.iastore, 1) := by decide +kernel
theorem dX12_finds_25 : decode cX12_finds 25 = .ok (.aload_n 0, 1) := by decide +kernel
theorem dX12_finds_26 : decode cX12_finds 26 = .ok (.getfield 43, 3) := by decide +kernel
theorem dX12_finds_29 : decode cX12_finds 29 = .ok (.iload_n 2, 1) := by decide +kernel
theorem dX12_finds_30 : decode cX12_finds 30 = .ok (.iload_n 2, 1) := by decide +kernel
theorem dX12_finds_31 : decode cX12_finds 31 = .ok (.iload_n 1, 1) := by decide +kernel
theorem dX12_finds_32 : decode cX12_finds 32 = .ok (.if_icmp .ne 7, 3) := by decide +kernel
theorem dX12_finds_35 : decode cX12_finds 35 = .ok (.iconst 0, 1) := by decide +kernel
theorem dX12_finds_36 : decode cX12_finds 36 = .ok (.goto 5, 3) := by decide +kernel
theorem dX12_finds_39 : decode cX12_finds 39 = .ok (.ldc 113, 2) := by decide +kernel
theorem dX12_finds_41 : decode cX12_finds 41 = .ok (.iastore, 1) := by decide +kernel
theorem dX12_finds_42 : decode cX12_finds 42 = .ok (.iinc 2 1, 3) := by decide +kernel
theorem dX12_finds_45 : decode cX12_finds 45 = .ok (.goto (-43), 3) := by decide +kernel
theorem dX12_finds_48 : decode cX12_finds 48 = .ok (.iconst 1, 1) := by decide +kernel
theorem dX12_finds_49 : decode cX12_finds 49 = .ok (.istore_n 2, 1) := by decide +kernel
theorem dX12_finds_50 : decode cX12_finds 50 = .ok (.iload_n 2, 1) := by decide +kernel
theorem dX12_finds_51 : decode cX12_finds 51 = .ok (.ifCond .eq 73, 3) := by decide +kernel
theorem dX12_finds_54 : decode cX12_finds 54 = .ok (.iconst 0, 1) := by decide +kernel
theorem dX12_finds_55 : decode cX12_finds 55 = .ok (.istore_n 2, 1) := by decide +kernel
theorem dX12_finds_56 : decode cX12_finds 56 = .ok (.iconst 0, 1) := by decide +kernel
theorem dX12_finds_57 : decode cX12_finds 57 = .ok (.istore_n 3, 1) := by decide +kernel
theorem dX12_finds_58 : decode cX12_finds 58 = .ok (.iload_n 3, 1) := by decide +kernel
theorem dX12_finds_59 : decode cX12_finds 59 = .ok (.bipush 20, 2) := by decide +kernel
theorem dX12_finds_61 : decode cX12_finds 61 = .ok (.if_icmp .ge 60, 3) := by decide +kernel
theorem dX12_finds_64 : decode cX12_finds 64 = .ok (.iconst 0, 1) := by decide +kernel
theorem dX12_finds_65 : decode cX12_finds 65 = .ok (.istore 4, 2) := by decide +kernel
theorem dX12_finds_67 : decode cX12_finds 67 = .ok (.iload 4, 2) := by decide +kernel
theorem dX12_finds_69 : decode cX12_finds 69 = .ok (.iconst 4, 1) := by decide +kernel
theorem dX12_finds_70 : decode cX12_finds 70 = .ok (.if_icmp .ge 45, 3) := by decide +kernel
theorem dX12_finds_73 : decode cX12_finds 73 = .ok (.iload_n 3, 1) := by decide +kernel
theorem dX12_finds_74 : decode cX12_finds 74 = .ok (.iload 4, 2) := by decide +kernel
theorem dX12_finds_76 : decode cX12_finds 76 = .ok (.invokestatic 97, 3) := by decide +kernel
theorem dX12_finds_79 : decode cX12_finds 79 = .ok (.istore 5, 2) := by decide +kernel
theorem dX12_finds_81 : decode cX12_finds 81 = .ok (.iload 5, 2) := by decide +kernel
theorem dX12_finds_83 : decode cX12_finds 83 = .ok (.ifCond .lt 26, 3) := by decide +kernel
theorem dX12_finds_86 : decode cX12_finds 86 = .ok (.aload_n 0, 1) := by decide +kernel
theorem dX12_finds_87 : decode cX12_finds 87 = .ok (.getfield 40, 3) := by decide +kernel
theorem dX12_finds_90 : decode cX12_finds 90 = .ok (.iload_n 3, 1) := by decide +kernel
theorem dX12_finds_91 : decode cX12_finds 91 = .ok (.iaload, 1) := by decide +kernel
theorem dX12_finds_92 : decode cX12_finds 92 = .ok (.ldc 113, 2) := by decide +kernel
theorem dX12_finds_94 : decode cX12_finds 94 = .ok (.if_icmp .ge 15, 3) := by decide +kernel
theorem dX12_finds_97 : decode cX12_finds 97 = .ok (.aload_n 0, 1) := by decide +kernel
theorem dX12_finds_98 : decode cX12_finds 98 = .ok (.iload_n 3, 1) := by decide +kernel
theorem dX12_finds_99 : decode cX12_finds 99 = .ok (.iload 5, 2) := by decide +kernel
theorem dX12_finds_101 : decode cX12_finds 101 = .ok (.invokevirtual 114, 3) := by decide +kernel
theorem dX12_finds_104 : decode cX12_finds 104 = .ok (.ifCond .eq 5, 3) := by decide +kernel
theorem dX12_finds_107 : decode cX12_finds 107 = .ok (.iconst 1, 1) := by decide +kernel
theorem dX12_finds_108 : decode cX12_finds 108 = .ok (.istore_n 2, 1) := by decide +kernel
theorem dX12_finds_109 : decode cX12_finds 109 = .ok (.iinc 4 1, 3) := by decide +kernel
theorem dX12_finds_112 : decode cX12_finds 112 = .ok (.goto (-45), 3) := by decide +kernel
theorem dX12_finds_115 : decode cX12_finds 115 = .ok (.iinc 3 1, 3) := by decide +kernel
theorem dX12_finds_118 : decode cX12_finds 118 = .ok (.goto (-60), 3) := by decide +kernel
theorem dX12_finds_121 : decode cX12_finds 121 = .ok (.goto (-71), 3) := by decide +kernel
theorem dX12_finds_124 : decode cX12_finds 124 = .ok (.return_, 1) := by decide +kernel
theorem dX12_countsWays_0 : decode cX12_countsWays 0 = .ok (.aload_n 0, 1) := by decide +kernel
theorem dX12_countsWays_1 : decode cX12_countsWays 1 = .ok (.iload_n 1, 1) := by decide +kernel
theorem dX12_countsWays_2 : decode cX12_countsWays 2 = .ok (.invokevirtual 118, 3) := by decide +kernel
theorem dX12_countsWays_5 : decode cX12_countsWays 5 = .ok (.iconst 0, 1) := by decide +kernel
theorem dX12_countsWays_6 : decode cX12_countsWays 6 = .ok (.istore_n 2, 1) := by decide +kernel
theorem dX12_countsWays_7 : decode cX12_countsWays 7 = .ok (.iload_n 2, 1) := by decide +kernel
theorem dX12_countsWays_8 : decode cX12_countsWays 8 = .ok (.bipush 20, 2) := by decide +kernel
theorem dX12_countsWays_10 : decode cX12_countsWays 10 = .ok (.if_icmp .ge 25, 3) := by decide +kernel
theorem dX12_countsWays_13 : decode cX12_countsWays 13 = .ok (.aload_n 0, 1) := by decide +kernel
theorem dX12_countsWays_14 : decode cX12_countsWays 14 = .ok (.getfield 46, 3) := by decide +kernel
theorem dX12_countsWays_17 : decode cX12_countsWays 17 = .ok (.iload_n 2, 1) := by decide +kernel
theorem dX12_countsWays_18 : decode cX12_countsWays 18 = .ok (.iload_n 2, 1) := by decide +kernel
theorem dX12_countsWays_19 : decode cX12_countsWays 19 = .ok (.iload_n 1, 1) := by decide +kernel
theorem dX12_countsWays_20 : decode cX12_countsWays 20 = .ok (.if_icmp .ne 7, 3) := by decide +kernel
theorem dX12_countsWays_23 : decode cX12_countsWays 23 = .ok (.iconst 1, 1) := by decide +kernel
theorem dX12_countsWays_24 : decode cX12_countsWays 24 = .ok (.goto 4, 3) := by decide +kernel
theorem dX12_countsWays_27 : decode cX12_countsWays 27 = .ok (.iconst 0, 1) := by decide +kernel
theorem dX12_countsWays_28 : decode cX12_countsWays 28 = .ok (.iastore, 1) := by decide +kernel
theorem dX12_countsWays_29 : decode cX12_countsWays 29 = .ok (.iinc 2 1, 3) := by decide +kernel
theorem dX12_countsWays_32 : decode cX12_countsWays 32 = .ok (.goto (-25), 3) := by decide +kernel
theorem dX12_countsWays_35 : decode cX12_countsWays 35 = .ok (.iconst 0, 1) := by decide +kernel
theorem dX12_countsWays_36 : decode cX12_countsWays 36 = .ok (.istore_n 2, 1) := by decide +kernel
theorem dX12_countsWays_37 : decode cX12_countsWays 37 = .ok (.iconst 0, 1) := by decide +kernel
theorem dX12_countsWays_38 : decode cX12_countsWays 38 = .ok (.istore_n 3, 1) := by decide +kernel
theorem dX12_countsWays_39 : decode cX12_countsWays 39 = .ok (.iload_n 3, 1) := by decide +kernel
theorem dX12_countsWays_40 : decode cX12_countsWays 40 = .ok (.bipush 20, 2) := by decide +kernel
theorem dX12_countsWays_42 : decode cX12_countsWays 42 = .ok (.if_icmp .ge 30, 3) := by decide +kernel
theorem dX12_countsWays_45 : decode cX12_countsWays 45 = .ok (.aload_n 0, 1) := by decide +kernel
theorem dX12_countsWays_46 : decode cX12_countsWays 46 = .ok (.getfield 40, 3) := by decide +kernel
theorem dX12_countsWays_49 : decode cX12_countsWays 49 = .ok (.iload_n 3, 1) := by decide +kernel
theorem dX12_countsWays_50 : decode cX12_countsWays 50 = .ok (.iaload, 1) := by decide +kernel
theorem dX12_countsWays_51 : decode cX12_countsWays 51 = .ok (.iload_n 2, 1) := by decide +kernel
theorem dX12_countsWays_52 : decode cX12_countsWays 52 = .ok (.if_icmp .le 12, 3) := by decide +kernel
theorem dX12_countsWays_55 : decode cX12_countsWays 55 = .ok (.aload_n 0, 1) := by decide +kernel
theorem dX12_countsWays_56 : decode cX12_countsWays 56 = .ok (.getfield 40, 3) := by decide +kernel
theorem dX12_countsWays_59 : decode cX12_countsWays 59 = .ok (.iload_n 3, 1) := by decide +kernel
theorem dX12_countsWays_60 : decode cX12_countsWays 60 = .ok (.iaload, 1) := by decide +kernel
theorem dX12_countsWays_61 : decode cX12_countsWays 61 = .ok (.goto 4, 3) := by decide +kernel
theorem dX12_countsWays_64 : decode cX12_countsWays 64 = .ok (.iload_n 2, 1) := by decide +kernel
theorem dX12_countsWays_65 : decode cX12_countsWays 65 = .ok (.istore_n 2, 1) := by decide +kernel
theorem dX12_countsWays_66 : decode cX12_countsWays 66 = .ok (.iinc 3 1, 3) := by decide +kernel
theorem dX12_countsWays_69 : decode cX12_countsWays 69 = .ok (.goto (-30), 3) := by decide +kernel
theorem dX12_countsWays_72 : decode cX12_countsWays 72 = .ok (.iconst 1, 1) := by decide +kernel
theorem dX12_countsWays_73 : decode cX12_countsWays 73 = .ok (.istore_n 3, 1) := by decide +kernel
theorem dX12_countsWays_74 : decode cX12_countsWays 74 = .ok (.iload_n 3, 1) := by decide +kernel
theorem dX12_countsWays_75 : decode cX12_countsWays 75 = .ok (.iload_n 2, 1) := by decide +kernel
theorem dX12_countsWays_76 : decode cX12_countsWays 76 = .ok (.if_icmp .gt 103, 3) := by decide +kernel
theorem dX12_countsWays_79 : decode cX12_countsWays 79 = .ok (.iconst 0, 1) := by decide +kernel
theorem dX12_countsWays_80 : decode cX12_countsWays 80 = .ok (.istore 4, 2) := by decide +kernel
theorem dX12_countsWays_82 : decode cX12_countsWays 82 = .ok (.iload 4, 2) := by decide +kernel
theorem dX12_countsWays_84 : decode cX12_countsWays 84 = .ok (.bipush 20, 2) := by decide +kernel
theorem dX12_countsWays_86 : decode cX12_countsWays 86 = .ok (.if_icmp .ge 87, 3) := by decide +kernel
theorem dX12_countsWays_89 : decode cX12_countsWays 89 = .ok (.aload_n 0, 1) := by decide +kernel
theorem dX12_countsWays_90 : decode cX12_countsWays 90 = .ok (.getfield 40, 3) := by decide +kernel
theorem dX12_countsWays_93 : decode cX12_countsWays 93 = .ok (.iload 4, 2) := by decide +kernel
theorem dX12_countsWays_95 : decode cX12_countsWays 95 = .ok (.iaload, 1) := by decide +kernel
theorem dX12_countsWays_96 : decode cX12_countsWays 96 = .ok (.iload_n 3, 1) := by decide +kernel
theorem dX12_countsWays_97 : decode cX12_countsWays 97 = .ok (.if_icmp .eq 6, 3) := by decide +kernel
theorem dX12_countsWays_100 : decode cX12_countsWays 100 = .ok (.goto 67, 3) := by decide +kernel
theorem dX12_countsWays_103 : decode cX12_countsWays 103 = .ok (.iconst 0, 1) := by decide +kernel
theorem dX12_countsWays_104 : decode cX12_countsWays 104 = .ok (.istore 5, 2) := by decide +kernel
theorem dX12_countsWays_106 : decode cX12_countsWays 106 = .ok (.iload 5, 2) := by decide +kernel
theorem dX12_countsWays_108 : decode cX12_countsWays 108 = .ok (.iconst 4, 1) := by decide +kernel
theorem dX12_countsWays_109 : decode cX12_countsWays 109 = .ok (.if_icmp .ge 58, 3) := by decide +kernel
theorem dX12_countsWays_112 : decode cX12_countsWays 112 = .ok (.iload 4, 2) := by decide +kernel
theorem dX12_countsWays_114 : decode cX12_countsWays 114 = .ok (.iload 5, 2) := by decide +kernel
theorem dX12_countsWays_116 : decode cX12_countsWays 116 = .ok (.invokestatic 97, 3) := by decide +kernel
theorem dX12_countsWays_119 : decode cX12_countsWays 119 = .ok (.istore 6, 2) := by decide +kernel
theorem dX12_countsWays_121 : decode cX12_countsWays 121 = .ok (.iload 6, 2) := by decide +kernel
theorem dX12_countsWays_123 : decode cX12_countsWays 123 = .ok (.ifCond .lt 38, 3) := by decide +kernel
theorem dX12_countsWays_126 : decode cX12_countsWays 126 = .ok (.aload_n 0, 1) := by decide +kernel
theorem dX12_countsWays_127 : decode cX12_countsWays 127 = .ok (.getfield 40, 3) := by decide +kernel
theorem dX12_countsWays_130 : decode cX12_countsWays 130 = .ok (.iload 6, 2) := by decide +kernel
theorem dX12_countsWays_132 : decode cX12_countsWays 132 = .ok (.iaload, 1) := by decide +kernel
theorem dX12_countsWays_133 : decode cX12_countsWays 133 = .ok (.aload_n 0, 1) := by decide +kernel
theorem dX12_countsWays_134 : decode cX12_countsWays 134 = .ok (.iload 4, 2) := by decide +kernel
theorem dX12_countsWays_136 : decode cX12_countsWays 136 = .ok (.invokevirtual 107, 3) := by decide +kernel
theorem dX12_countsWays_139 : decode cX12_countsWays 139 = .ok (.iadd, 1) := by decide +kernel
theorem dX12_countsWays_140 : decode cX12_countsWays 140 = .ok (.iload_n 3, 1) := by decide +kernel
theorem dX12_countsWays_141 : decode cX12_countsWays 141 = .ok (.if_icmp .ne 20, 3) := by decide +kernel
theorem dX12_countsWays_144 : decode cX12_countsWays 144 = .ok (.aload_n 0, 1) := by decide +kernel
theorem dX12_countsWays_145 : decode cX12_countsWays 145 = .ok (.getfield 46, 3) := by decide +kernel
theorem dX12_countsWays_148 : decode cX12_countsWays 148 = .ok (.iload 4, 2) := by decide +kernel
theorem dX12_countsWays_150 : decode cX12_countsWays 150 = .ok (.dup2, 1) := by decide +kernel
theorem dX12_countsWays_151 : decode cX12_countsWays 151 = .ok (.iaload, 1) := by decide +kernel
theorem dX12_countsWays_152 : decode cX12_countsWays 152 = .ok (.aload_n 0, 1) := by decide +kernel
theorem dX12_countsWays_153 : decode cX12_countsWays 153 = .ok (.getfield 46, 3) := by decide +kernel
theorem dX12_countsWays_156 : decode cX12_countsWays 156 = .ok (.iload 6, 2) := by decide +kernel
theorem dX12_countsWays_158 : decode cX12_countsWays 158 = .ok (.iaload, 1) := by decide +kernel
theorem dX12_countsWays_159 : decode cX12_countsWays 159 = .ok (.iadd, 1) := by decide +kernel
theorem dX12_countsWays_160 : decode cX12_countsWays 160 = .ok (.iastore, 1) := by decide +kernel
theorem dX12_countsWays_161 : decode cX12_countsWays 161 = .ok (.iinc 5 1, 3) := by decide +kernel
theorem dX12_countsWays_164 : decode cX12_countsWays 164 = .ok (.goto (-58), 3) := by decide +kernel
theorem dX12_countsWays_167 : decode cX12_countsWays 167 = .ok (.iinc 4 1, 3) := by decide +kernel
theorem dX12_countsWays_170 : decode cX12_countsWays 170 = .ok (.goto (-88), 3) := by decide +kernel
theorem dX12_countsWays_173 : decode cX12_countsWays 173 = .ok (.iinc 3 1, 3) := by decide +kernel
theorem dX12_countsWays_176 : decode cX12_countsWays 176 = .ok (.goto (-102), 3) := by decide +kernel
theorem dX12_countsWays_179 : decode cX12_countsWays 179 = .ok (.return_, 1) := by decide +kernel
theorem dX12_timeOf_0 : decode cX12_timeOf 0 = .ok (.aload_n 0, 1) := by decide +kernel
theorem dX12_timeOf_1 : decode cX12_timeOf 1 = .ok (.iload_n 1, 1) := by decide +kernel
theorem dX12_timeOf_2 : decode cX12_timeOf 2 = .ok (.invokevirtual 118, 3) := by decide +kernel
theorem dX12_timeOf_5 : decode cX12_timeOf 5 = .ok (.aload_n 0, 1) := by decide +kernel
theorem dX12_timeOf_6 : decode cX12_timeOf 6 = .ok (.getfield 40, 3) := by decide +kernel
theorem dX12_timeOf_9 : decode cX12_timeOf 9 = .ok (.iload_n 2, 1) := by decide +kernel
theorem dX12_timeOf_10 : decode cX12_timeOf 10 = .ok (.iaload, 1) := by decide +kernel
theorem dX12_timeOf_11 : decode cX12_timeOf 11 = .ok (.ireturn, 1) := by decide +kernel
theorem dX12_here_0 : decode cX12_here 0 = .ok (.aload_n 0, 1) := by decide +kernel
theorem dX12_here_1 : decode cX12_here 1 = .ok (.getfield 122, 3) := by decide +kernel
theorem dX12_here_4 : decode cX12_here 4 = .ok (.aload_n 0, 1) := by decide +kernel
theorem dX12_here_5 : decode cX12_here 5 = .ok (.getfield 125, 3) := by decide +kernel
theorem dX12_here_8 : decode cX12_here 8 = .ok (.if_icmp .ge 20, 3) := by decide +kernel
theorem dX12_here_11 : decode cX12_here 11 = .ok (.aload_n 0, 1) := by decide +kernel
theorem dX12_here_12 : decode cX12_here 12 = .ok (.getfield 31, 3) := by decide +kernel
theorem dX12_here_15 : decode cX12_here 15 = .ok (.aload_n 0, 1) := by decide +kernel
end
section
theorem dX12_here_16 : decode cX12_here 16 = .ok (.getfield 128, 3) := by decide +kernel
theorem dX12_here_19 : decode cX12_here 19 = .ok (.aload_n 0, 1) := by decide +kernel
theorem dX12_here_20 : decode cX12_here 20 = .ok (.getfield 122, 3) := by decide +kernel
theorem dX12_here_23 : decode cX12_here 23 = .ok (.iadd, 1) := by decide +kernel
theorem dX12_here_24 : decode cX12_here 24 = .ok (.iaload, 1) := by decide +kernel
theorem dX12_here_25 : decode cX12_here 25 = .ok (.goto 6, 3) := by decide +kernel
theorem dX12_here_28 : decode cX12_here 28 = .ok (.sipush (-1000), 3) := by decide +kernel
theorem dX12_here_31 : decode cX12_here 31 = .ok (.ireturn, 1) := by decide +kernel
theorem dX12_readsDigits_0 : decode cX12_readsDigits 0 = .ok (.iconst 0, 1) := by decide +kernel
theorem dX12_readsDigits_1 : decode cX12_readsDigits 1 = .ok (.istore_n 2, 1) := by decide +kernel
theorem dX12_readsDigits_2 : decode cX12_readsDigits 2 = .ok (.iload_n 2, 1) := by decide +kernel
theorem dX12_readsDigits_3 : decode cX12_readsDigits 3 = .ok (.iload_n 1, 1) := by decide +kernel
theorem dX12_readsDigits_4 : decode cX12_readsDigits 4 = .ok (.if_icmp .ge 51, 3) := by decide +kernel
theorem dX12_readsDigits_7 : decode cX12_readsDigits 7 = .ok (.aload_n 0, 1) := by decide +kernel
theorem dX12_readsDigits_8 : decode cX12_readsDigits 8 = .ok (.invokevirtual 131, 3) := by decide +kernel
theorem dX12_readsDigits_11 : decode cX12_readsDigits 11 = .ok (.i2l, 1) := by decide +kernel
theorem dX12_readsDigits_12 : decode cX12_readsDigits 12 = .ok (.ldc2_w 135, 3) := by decide +kernel
theorem dX12_readsDigits_15 : decode cX12_readsDigits 15 = .ok (.ldc2_w 137, 3) := by decide +kernel
theorem dX12_readsDigits_18 : decode cX12_readsDigits 18 = .ok (.invokestatic 67, 3) := by decide +kernel
theorem dX12_readsDigits_21 : decode cX12_readsDigits 21 = .ok (.ifCond .ne 5, 3) := by decide +kernel
theorem dX12_readsDigits_24 : decode cX12_readsDigits 24 = .ok (.iconst 0, 1) := by decide +kernel
theorem dX12_readsDigits_25 : decode cX12_readsDigits 25 = .ok (.ireturn, 1) := by decide +kernel
theorem dX12_readsDigits_26 : decode cX12_readsDigits 26 = .ok (.aload_n 0, 1) := by decide +kernel
theorem dX12_readsDigits_27 : decode cX12_readsDigits 27 = .ok (.getfield 49, 3) := by decide +kernel
theorem dX12_readsDigits_30 : decode cX12_readsDigits 30 = .ok (.iload_n 2, 1) := by decide +kernel
theorem dX12_readsDigits_31 : decode cX12_readsDigits 31 = .ok (.aload_n 0, 1) := by decide +kernel
theorem dX12_readsDigits_32 : decode cX12_readsDigits 32 = .ok (.invokevirtual 131, 3) := by decide +kernel
theorem dX12_readsDigits_35 : decode cX12_readsDigits 35 = .ok (.bipush 48, 2) := by decide +kernel
theorem dX12_readsDigits_37 : decode cX12_readsDigits 37 = .ok (.isub, 1) := by decide +kernel
theorem dX12_readsDigits_38 : decode cX12_readsDigits 38 = .ok (.iastore, 1) := by decide +kernel
theorem dX12_readsDigits_39 : decode cX12_readsDigits 39 = .ok (.aload_n 0, 1) := by decide +kernel
theorem dX12_readsDigits_40 : decode cX12_readsDigits 40 = .ok (.dup, 1) := by decide +kernel
theorem dX12_readsDigits_41 : decode cX12_readsDigits 41 = .ok (.getfield 122, 3) := by decide +kernel
theorem dX12_readsDigits_44 : decode cX12_readsDigits 44 = .ok (.iconst 1, 1) := by decide +kernel
theorem dX12_readsDigits_45 : decode cX12_readsDigits 45 = .ok (.iadd, 1) := by decide +kernel
theorem dX12_readsDigits_46 : decode cX12_readsDigits 46 = .ok (.putfield 122, 3) := by decide +kernel
theorem dX12_readsDigits_49 : decode cX12_readsDigits 49 = .ok (.iinc 2 1, 3) := by decide +kernel
theorem dX12_readsDigits_52 : decode cX12_readsDigits 52 = .ok (.goto (-50), 3) := by decide +kernel
theorem dX12_readsDigits_55 : decode cX12_readsDigits 55 = .ok (.iconst 1, 1) := by decide +kernel
theorem dX12_readsDigits_56 : decode cX12_readsDigits 56 = .ok (.ireturn, 1) := by decide +kernel
theorem dX12_readsStatement_0 : decode cX12_readsStatement 0 = .ok (.aload_n 0, 1) := by decide +kernel
theorem dX12_readsStatement_1 : decode cX12_readsStatement 1 = .ok (.invokevirtual 131, 3) := by decide +kernel
theorem dX12_readsStatement_4 : decode cX12_readsStatement 4 = .ok (.istore_n 1, 1) := by decide +kernel
theorem dX12_readsStatement_5 : decode cX12_readsStatement 5 = .ok (.iload_n 1, 1) := by decide +kernel
theorem dX12_readsStatement_6 : decode cX12_readsStatement 6 = .ok (.bipush 107, 2) := by decide +kernel
theorem dX12_readsStatement_8 : decode cX12_readsStatement 8 = .ok (.if_icmp .ne 7, 3) := by decide +kernel
theorem dX12_readsStatement_11 : decode cX12_readsStatement 11 = .ok (.iconst 4, 1) := by decide +kernel
theorem dX12_readsStatement_12 : decode cX12_readsStatement 12 = .ok (.goto 24, 3) := by decide +kernel
theorem dX12_readsStatement_15 : decode cX12_readsStatement 15 = .ok (.iload_n 1, 1) := by decide +kernel
theorem dX12_readsStatement_16 : decode cX12_readsStatement 16 = .ok (.bipush 103, 2) := by decide +kernel
theorem dX12_readsStatement_18 : decode cX12_readsStatement 18 = .ok (.if_icmp .ne 7, 3) := by decide +kernel
theorem dX12_readsStatement_21 : decode cX12_readsStatement 21 = .ok (.iconst 3, 1) := by decide +kernel
theorem dX12_readsStatement_22 : decode cX12_readsStatement 22 = .ok (.goto 14, 3) := by decide +kernel
theorem dX12_readsStatement_25 : decode cX12_readsStatement 25 = .ok (.iload_n 1, 1) := by decide +kernel
theorem dX12_readsStatement_26 : decode cX12_readsStatement 26 = .ok (.bipush 100, 2) := by decide +kernel
theorem dX12_readsStatement_28 : decode cX12_readsStatement 28 = .ok (.if_icmp .ne 7, 3) := by decide +kernel
theorem dX12_readsStatement_31 : decode cX12_readsStatement 31 = .ok (.iconst 2, 1) := by decide +kernel
theorem dX12_readsStatement_32 : decode cX12_readsStatement 32 = .ok (.goto 4, 3) := by decide +kernel
theorem dX12_readsStatement_35 : decode cX12_readsStatement 35 = .ok (.iconst 0, 1) := by decide +kernel
theorem dX12_readsStatement_36 : decode cX12_readsStatement 36 = .ok (.istore_n 2, 1) := by decide +kernel
theorem dX12_readsStatement_37 : decode cX12_readsStatement 37 = .ok (.iload_n 2, 1) := by decide +kernel
theorem dX12_readsStatement_38 : decode cX12_readsStatement 38 = .ok (.ifCond .ne 5, 3) := by decide +kernel
theorem dX12_readsStatement_41 : decode cX12_readsStatement 41 = .ok (.iconst 0, 1) := by decide +kernel
theorem dX12_readsStatement_42 : decode cX12_readsStatement 42 = .ok (.ireturn, 1) := by decide +kernel
theorem dX12_readsStatement_43 : decode cX12_readsStatement 43 = .ok (.aload_n 0, 1) := by decide +kernel
theorem dX12_readsStatement_44 : decode cX12_readsStatement 44 = .ok (.dup, 1) := by decide +kernel
theorem dX12_readsStatement_45 : decode cX12_readsStatement 45 = .ok (.getfield 122, 3) := by decide +kernel
theorem dX12_readsStatement_48 : decode cX12_readsStatement 48 = .ok (.iconst 1, 1) := by decide +kernel
theorem dX12_readsStatement_49 : decode cX12_readsStatement 49 = .ok (.iadd, 1) := by decide +kernel
theorem dX12_readsStatement_50 : decode cX12_readsStatement 50 = .ok (.putfield 122, 3) := by decide +kernel
theorem dX12_readsStatement_53 : decode cX12_readsStatement 53 = .ok (.aload_n 0, 1) := by decide +kernel
theorem dX12_readsStatement_54 : decode cX12_readsStatement 54 = .ok (.iload_n 2, 1) := by decide +kernel
theorem dX12_readsStatement_55 : decode cX12_readsStatement 55 = .ok (.invokevirtual 139, 3) := by decide +kernel
theorem dX12_readsStatement_58 : decode cX12_readsStatement 58 = .ok (.ifCond .eq 12, 3) := by decide +kernel
theorem dX12_readsStatement_61 : decode cX12_readsStatement 61 = .ok (.aload_n 0, 1) := by decide +kernel
theorem dX12_readsStatement_62 : decode cX12_readsStatement 62 = .ok (.invokevirtual 131, 3) := by decide +kernel
theorem dX12_readsStatement_65 : decode cX12_readsStatement 65 = .ok (.bipush 59, 2) := by decide +kernel
theorem dX12_readsStatement_67 : decode cX12_readsStatement 67 = .ok (.if_icmp .eq 5, 3) := by decide +kernel
theorem dX12_readsStatement_70 : decode cX12_readsStatement 70 = .ok (.iconst 0, 1) := by decide +kernel
theorem dX12_readsStatement_71 : decode cX12_readsStatement 71 = .ok (.ireturn, 1) := by decide +kernel
theorem dX12_readsStatement_72 : decode cX12_readsStatement 72 = .ok (.aload_n 0, 1) := by decide +kernel
theorem dX12_readsStatement_73 : decode cX12_readsStatement 73 = .ok (.dup, 1) := by decide +kernel
theorem dX12_readsStatement_74 : decode cX12_readsStatement 74 = .ok (.getfield 122, 3) := by decide +kernel
theorem dX12_readsStatement_77 : decode cX12_readsStatement 77 = .ok (.iconst 1, 1) := by decide +kernel
theorem dX12_readsStatement_78 : decode cX12_readsStatement 78 = .ok (.iadd, 1) := by decide +kernel
theorem dX12_readsStatement_79 : decode cX12_readsStatement 79 = .ok (.putfield 122, 3) := by decide +kernel
theorem dX12_readsStatement_82 : decode cX12_readsStatement 82 = .ok (.iconst 1, 1) := by decide +kernel
theorem dX12_readsStatement_83 : decode cX12_readsStatement 83 = .ok (.ireturn, 1) := by decide +kernel
theorem dX12_comesTold_0 : decode cX12_comesTold 0 = .ok (.iload_n 1, 1) := by decide +kernel
theorem dX12_comesTold_1 : decode cX12_comesTold 1 = .ok (.lookupswitch 140 #[(103, 83), (107, 27)], 27) := by decide +kernel
theorem dX12_comesTold_28 : decode cX12_comesTold 28 = .ok (.bipush 10, 2) := by decide +kernel
theorem dX12_comesTold_30 : decode cX12_comesTold 30 = .ok (.aload_n 0, 1) := by decide +kernel
theorem dX12_comesTold_31 : decode cX12_comesTold 31 = .ok (.getfield 49, 3) := by decide +kernel
theorem dX12_comesTold_34 : decode cX12_comesTold 34 = .ok (.iconst 0, 1) := by decide +kernel
theorem dX12_comesTold_35 : decode cX12_comesTold 35 = .ok (.iaload, 1) := by decide +kernel
theorem dX12_comesTold_36 : decode cX12_comesTold 36 = .ok (.imul, 1) := by decide +kernel
theorem dX12_comesTold_37 : decode cX12_comesTold 37 = .ok (.aload_n 0, 1) := by decide +kernel
theorem dX12_comesTold_38 : decode cX12_comesTold 38 = .ok (.getfield 49, 3) := by decide +kernel
theorem dX12_comesTold_41 : decode cX12_comesTold 41 = .ok (.iconst 1, 1) := by decide +kernel
theorem dX12_comesTold_42 : decode cX12_comesTold 42 = .ok (.iaload, 1) := by decide +kernel
theorem dX12_comesTold_43 : decode cX12_comesTold 43 = .ok (.iadd, 1) := by decide +kernel
theorem dX12_comesTold_44 : decode cX12_comesTold 44 = .ok (.istore_n 2, 1) := by decide +kernel
theorem dX12_comesTold_45 : decode cX12_comesTold 45 = .ok (.iload_n 2, 1) := by decide +kernel
theorem dX12_comesTold_46 : decode cX12_comesTold 46 = .ok (.invokestatic 143, 3) := by decide +kernel
theorem dX12_comesTold_49 : decode cX12_comesTold 49 = .ok (.ifCond .eq 14, 3) := by decide +kernel
theorem dX12_comesTold_52 : decode cX12_comesTold 52 = .ok (.aload_n 0, 1) := by decide +kernel
theorem dX12_comesTold_53 : decode cX12_comesTold 53 = .ok (.getfield 49, 3) := by decide +kernel
theorem dX12_comesTold_56 : decode cX12_comesTold 56 = .ok (.iconst 2, 1) := by decide +kernel
theorem dX12_comesTold_57 : decode cX12_comesTold 57 = .ok (.iaload, 1) := by decide +kernel
theorem dX12_comesTold_58 : decode cX12_comesTold 58 = .ok (.bipush 7, 2) := by decide +kernel
theorem dX12_comesTold_60 : decode cX12_comesTold 60 = .ok (.if_icmp .le 5, 3) := by decide +kernel
theorem dX12_comesTold_63 : decode cX12_comesTold 63 = .ok (.iconst 0, 1) := by decide +kernel
theorem dX12_comesTold_64 : decode cX12_comesTold 64 = .ok (.ireturn, 1) := by decide +kernel
theorem dX12_comesTold_65 : decode cX12_comesTold 65 = .ok (.aload_n 0, 1) := by decide +kernel
theorem dX12_comesTold_66 : decode cX12_comesTold 66 = .ok (.iload_n 2, 1) := by decide +kernel
theorem dX12_comesTold_67 : decode cX12_comesTold 67 = .ok (.aload_n 0, 1) := by decide +kernel
theorem dX12_comesTold_68 : decode cX12_comesTold 68 = .ok (.getfield 49, 3) := by decide +kernel
theorem dX12_comesTold_71 : decode cX12_comesTold 71 = .ok (.iconst 2, 1) := by decide +kernel
theorem dX12_comesTold_72 : decode cX12_comesTold 72 = .ok (.iaload, 1) := by decide +kernel
theorem dX12_comesTold_73 : decode cX12_comesTold 73 = .ok (.aload_n 0, 1) := by decide +kernel
theorem dX12_comesTold_74 : decode cX12_comesTold 74 = .ok (.getfield 49, 3) := by decide +kernel
theorem dX12_comesTold_77 : decode cX12_comesTold 77 = .ok (.iconst 3, 1) := by decide +kernel
theorem dX12_comesTold_78 : decode cX12_comesTold 78 = .ok (.iaload, 1) := by decide +kernel
theorem dX12_comesTold_79 : decode cX12_comesTold 79 = .ok (.invokevirtual 103, 3) := by decide +kernel
theorem dX12_comesTold_82 : decode cX12_comesTold 82 = .ok (.iconst 1, 1) := by decide +kernel
theorem dX12_comesTold_83 : decode cX12_comesTold 83 = .ok (.ireturn, 1) := by decide +kernel
theorem dX12_comesTold_84 : decode cX12_comesTold 84 = .ok (.bipush 10, 2) := by decide +kernel
theorem dX12_comesTold_86 : decode cX12_comesTold 86 = .ok (.aload_n 0, 1) := by decide +kernel
theorem dX12_comesTold_87 : decode cX12_comesTold 87 = .ok (.getfield 49, 3) := by decide +kernel
theorem dX12_comesTold_90 : decode cX12_comesTold 90 = .ok (.iconst 1, 1) := by decide +kernel
theorem dX12_comesTold_91 : decode cX12_comesTold 91 = .ok (.iaload, 1) := by decide +kernel
theorem dX12_comesTold_92 : decode cX12_comesTold 92 = .ok (.imul, 1) := by decide +kernel
theorem dX12_comesTold_93 : decode cX12_comesTold 93 = .ok (.aload_n 0, 1) := by decide +kernel
theorem dX12_comesTold_94 : decode cX12_comesTold 94 = .ok (.getfield 49, 3) := by decide +kernel
theorem dX12_comesTold_97 : decode cX12_comesTold 97 = .ok (.iconst 2, 1) := by decide +kernel
theorem dX12_comesTold_98 : decode cX12_comesTold 98 = .ok (.iaload, 1) := by decide +kernel
theorem dX12_comesTold_99 : decode cX12_comesTold 99 = .ok (.iadd, 1) := by decide +kernel
theorem dX12_comesTold_100 : decode cX12_comesTold 100 = .ok (.istore_n 2, 1) := by decide +kernel
theorem dX12_comesTold_101 : decode cX12_comesTold 101 = .ok (.aload_n 0, 1) := by decide +kernel
theorem dX12_comesTold_102 : decode cX12_comesTold 102 = .ok (.getfield 49, 3) := by decide +kernel
theorem dX12_comesTold_105 : decode cX12_comesTold 105 = .ok (.iconst 0, 1) := by decide +kernel
theorem dX12_comesTold_106 : decode cX12_comesTold 106 = .ok (.iaload, 1) := by decide +kernel
theorem dX12_comesTold_107 : decode cX12_comesTold 107 = .ok (.invokestatic 146, 3) := by decide +kernel
theorem dX12_comesTold_110 : decode cX12_comesTold 110 = .ok (.ifCond .eq 10, 3) := by decide +kernel
theorem dX12_comesTold_113 : decode cX12_comesTold 113 = .ok (.iload_n 2, 1) := by decide +kernel
theorem dX12_comesTold_114 : decode cX12_comesTold 114 = .ok (.invokestatic 143, 3) := by decide +kernel
theorem dX12_comesTold_117 : decode cX12_comesTold 117 = .ok (.ifCond .ne 5, 3) := by decide +kernel
theorem dX12_comesTold_120 : decode cX12_comesTold 120 = .ok (.iconst 0, 1) := by decide +kernel
theorem dX12_comesTold_121 : decode cX12_comesTold 121 = .ok (.ireturn, 1) := by decide +kernel
theorem dX12_comesTold_122 : decode cX12_comesTold 122 = .ok (.aload_n 0, 1) := by decide +kernel
theorem dX12_comesTold_123 : decode cX12_comesTold 123 = .ok (.getfield 9, 3) := by decide +kernel
theorem dX12_comesTold_126 : decode cX12_comesTold 126 = .ok (.bipush 40, 2) := by decide +kernel
theorem dX12_comesTold_128 : decode cX12_comesTold 128 = .ok (.iconst 2, 1) := by decide +kernel
theorem dX12_comesTold_129 : decode cX12_comesTold 129 = .ok (.aload_n 0, 1) := by decide +kernel
theorem dX12_comesTold_130 : decode cX12_comesTold 130 = .ok (.getfield 49, 3) := by decide +kernel
theorem dX12_comesTold_133 : decode cX12_comesTold 133 = .ok (.iconst 0, 1) := by decide +kernel
theorem dX12_comesTold_134 : decode cX12_comesTold 134 = .ok (.iaload, 1) := by decide +kernel
theorem dX12_comesTold_135 : decode cX12_comesTold 135 = .ok (.imul, 1) := by decide +kernel
theorem dX12_comesTold_136 : decode cX12_comesTold 136 = .ok (.iadd, 1) := by decide +kernel
theorem dX12_comesTold_137 : decode cX12_comesTold 137 = .ok (.iload_n 2, 1) := by decide +kernel
theorem dX12_comesTold_138 : decode cX12_comesTold 138 = .ok (.iastore, 1) := by decide +kernel
theorem dX12_comesTold_139 : decode cX12_comesTold 139 = .ok (.iconst 1, 1) := by decide +kernel
theorem dX12_comesTold_140 : decode cX12_comesTold 140 = .ok (.ireturn, 1) := by decide +kernel
theorem dX12_comesTold_141 : decode cX12_comesTold 141 = .ok (.aload_n 0, 1) := by decide +kernel
theorem dX12_comesTold_142 : decode cX12_comesTold 142 = .ok (.getfield 49, 3) := by decide +kernel
theorem dX12_comesTold_145 : decode cX12_comesTold 145 = .ok (.iconst 0, 1) := by decide +kernel
theorem dX12_comesTold_146 : decode cX12_comesTold 146 = .ok (.iaload, 1) := by decide +kernel
theorem dX12_comesTold_147 : decode cX12_comesTold 147 = .ok (.invokestatic 146, 3) := by decide +kernel
theorem dX12_comesTold_150 : decode cX12_comesTold 150 = .ok (.ifCond .eq 36, 3) := by decide +kernel
theorem dX12_comesTold_153 : decode cX12_comesTold 153 = .ok (.aload_n 0, 1) := by decide +kernel
theorem dX12_comesTold_154 : decode cX12_comesTold 154 = .ok (.getfield 49, 3) := by decide +kernel
theorem dX12_comesTold_157 : decode cX12_comesTold 157 = .ok (.iconst 1, 1) := by decide +kernel
theorem dX12_comesTold_158 : decode cX12_comesTold 158 = .ok (.iaload, 1) := by decide +kernel
theorem dX12_comesTold_159 : decode cX12_comesTold 159 = .ok (.iconst 4, 1) := by decide +kernel
theorem dX12_comesTold_160 : decode cX12_comesTold 160 = .ok (.if_icmp .ge 26, 3) := by decide +kernel
theorem dX12_comesTold_163 : decode cX12_comesTold 163 = .ok (.aload_n 0, 1) := by decide +kernel
theorem dX12_comesTold_164 : decode cX12_comesTold 164 = .ok (.aload_n 0, 1) := by decide +kernel
theorem dX12_comesTold_165 : decode cX12_comesTold 165 = .ok (.getfield 49, 3) := by decide +kernel
theorem dX12_comesTold_168 : decode cX12_comesTold 168 = .ok (.iconst 0, 1) := by decide +kernel
theorem dX12_comesTold_169 : decode cX12_comesTold 169 = .ok (.iaload, 1) := by decide +kernel
theorem dX12_comesTold_170 : decode cX12_comesTold 170 = .ok (.aload_n 0, 1) := by decide +kernel
theorem dX12_comesTold_171 : decode cX12_comesTold 171 = .ok (.getfield 49, 3) := by decide +kernel
theorem dX12_comesTold_174 : decode cX12_comesTold 174 = .ok (.iconst 1, 1) := by decide +kernel
theorem dX12_comesTold_175 : decode cX12_comesTold 175 = .ok (.iaload, 1) := by decide +kernel
theorem dX12_comesTold_176 : decode cX12_comesTold 176 = .ok (.invokevirtual 149, 3) := by decide +kernel
theorem dX12_comesTold_179 : decode cX12_comesTold 179 = .ok (.ifCond .eq 7, 3) := by decide +kernel
theorem dX12_comesTold_182 : decode cX12_comesTold 182 = .ok (.iconst 1, 1) := by decide +kernel
theorem dX12_comesTold_183 : decode cX12_comesTold 183 = .ok (.goto 4, 3) := by decide +kernel
theorem dX12_comesTold_186 : decode cX12_comesTold 186 = .ok (.iconst 0, 1) := by decide +kernel
theorem dX12_comesTold_187 : decode cX12_comesTold 187 = .ok (.ireturn, 1) := by decide +kernel
theorem dX12_wrongRow_0 : decode cX12_wrongRow 0 = .ok (.iload_n 1, 1) := by decide +kernel
theorem dX12_wrongRow_1 : decode cX12_wrongRow 1 = .ok (.invokestatic 152, 3) := by decide +kernel
theorem dX12_wrongRow_4 : decode cX12_wrongRow 4 = .ok (.ifCond .ne 7, 3) := by decide +kernel
theorem dX12_wrongRow_7 : decode cX12_wrongRow 7 = .ok (.iconst (-1), 1) := by decide +kernel
theorem dX12_wrongRow_8 : decode cX12_wrongRow 8 = .ok (.goto 47, 3) := by decide +kernel
theorem dX12_wrongRow_11 : decode cX12_wrongRow 11 = .ok (.aload_n 0, 1) := by decide +kernel
theorem dX12_wrongRow_12 : decode cX12_wrongRow 12 = .ok (.getfield 22, 3) := by decide +kernel
theorem dX12_wrongRow_15 : decode cX12_wrongRow 15 = .ok (.iload_n 1, 1) := by decide +kernel
theorem dX12_wrongRow_16 : decode cX12_wrongRow 16 = .ok (.iaload, 1) := by decide +kernel
theorem dX12_wrongRow_17 : decode cX12_wrongRow 17 = .ok (.ifCond .ne 8, 3) := by decide +kernel
theorem dX12_wrongRow_20 : decode cX12_wrongRow 20 = .ok (.bipush (-11), 2) := by decide +kernel
theorem dX12_wrongRow_22 : decode cX12_wrongRow 22 = .ok (.goto 33, 3) := by decide +kernel
theorem dX12_wrongRow_25 : decode cX12_wrongRow 25 = .ok (.aload_n 0, 1) := by decide +kernel
theorem dX12_wrongRow_26 : decode cX12_wrongRow 26 = .ok (.getfield 22, 3) := by decide +kernel
theorem dX12_wrongRow_29 : decode cX12_wrongRow 29 = .ok (.iload_n 1, 1) := by decide +kernel
theorem dX12_wrongRow_30 : decode cX12_wrongRow 30 = .ok (.iaload, 1) := by decide +kernel
theorem dX12_wrongRow_31 : decode cX12_wrongRow 31 = .ok (.iconst 2, 1) := by decide +kernel
theorem dX12_wrongRow_32 : decode cX12_wrongRow 32 = .ok (.if_icmp .ne 17, 3) := by decide +kernel
theorem dX12_wrongRow_35 : decode cX12_wrongRow 35 = .ok (.iload_n 2, 1) := by decide +kernel
theorem dX12_wrongRow_36 : decode cX12_wrongRow 36 = .ok (.ifCond .lt 18, 3) := by decide +kernel
theorem dX12_wrongRow_39 : decode cX12_wrongRow 39 = .ok (.aload_n 0, 1) := by decide +kernel
theorem dX12_wrongRow_40 : decode cX12_wrongRow 40 = .ok (.getfield 25, 3) := by decide +kernel
theorem dX12_wrongRow_43 : decode cX12_wrongRow 43 = .ok (.iload_n 1, 1) := by decide +kernel
theorem dX12_wrongRow_44 : decode cX12_wrongRow 44 = .ok (.iaload, 1) := by decide +kernel
theorem dX12_wrongRow_45 : decode cX12_wrongRow 45 = .ok (.iload_n 2, 1) := by decide +kernel
theorem dX12_wrongRow_46 : decode cX12_wrongRow 46 = .ok (.if_icmp .eq 8, 3) := by decide +kernel
theorem dX12_wrongRow_49 : decode cX12_wrongRow 49 = .ok (.bipush (-12), 2) := by decide +kernel
theorem dX12_wrongRow_51 : decode cX12_wrongRow 51 = .ok (.goto 4, 3) := by decide +kernel
theorem dX12_wrongRow_54 : decode cX12_wrongRow 54 = .ok (.iconst 0, 1) := by decide +kernel
theorem dX12_wrongRow_55 : decode cX12_wrongRow 55 = .ok (.ireturn, 1) := by decide +kernel
theorem dX12_mountain_0 : decode cX12_mountain 0 = .ok (.aload_n 0, 1) := by decide +kernel
theorem dX12_mountain_1 : decode cX12_mountain 1 = .ok (.iload_n 1, 1) := by decide +kernel
theorem dX12_mountain_2 : decode cX12_mountain 2 = .ok (.iconst 0, 1) := by decide +kernel
theorem dX12_mountain_3 : decode cX12_mountain 3 = .ok (.invokevirtual 155, 3) := by decide +kernel
theorem dX12_mountain_6 : decode cX12_mountain 6 = .ok (.istore_n 2, 1) := by decide +kernel
theorem dX12_mountain_7 : decode cX12_mountain 7 = .ok (.iload_n 2, 1) := by decide +kernel
theorem dX12_mountain_8 : decode cX12_mountain 8 = .ok (.ifCond .eq 5, 3) := by decide +kernel
theorem dX12_mountain_11 : decode cX12_mountain 11 = .ok (.iload_n 2, 1) := by decide +kernel
theorem dX12_mountain_12 : decode cX12_mountain 12 = .ok (.ireturn, 1) := by decide +kernel
theorem dX12_mountain_13 : decode cX12_mountain 13 = .ok (.aload_n 0, 1) := by decide +kernel
theorem dX12_mountain_14 : decode cX12_mountain 14 = .ok (.bipush 100, 2) := by decide +kernel
theorem dX12_mountain_16 : decode cX12_mountain 16 = .ok (.iload_n 1, 1) := by decide +kernel
theorem dX12_mountain_17 : decode cX12_mountain 17 = .ok (.imul, 1) := by decide +kernel
theorem dX12_mountain_18 : decode cX12_mountain 18 = .ok (.putfield 128, 3) := by decide +kernel
theorem dX12_mountain_21 : decode cX12_mountain 21 = .ok (.aload_n 0, 1) := by decide +kernel
theorem dX12_mountain_22 : decode cX12_mountain 22 = .ok (.aload_n 0, 1) := by decide +kernel
theorem dX12_mountain_23 : decode cX12_mountain 23 = .ok (.getfield 28, 3) := by decide +kernel
theorem dX12_mountain_26 : decode cX12_mountain 26 = .ok (.iload_n 1, 1) := by decide +kernel
theorem dX12_mountain_27 : decode cX12_mountain 27 = .ok (.iaload, 1) := by decide +kernel
theorem dX12_mountain_28 : decode cX12_mountain 28 = .ok (.putfield 125, 3) := by decide +kernel
theorem dX12_mountain_31 : decode cX12_mountain 31 = .ok (.aload_n 0, 1) := by decide +kernel
theorem dX12_mountain_32 : decode cX12_mountain 32 = .ok (.iconst 0, 1) := by decide +kernel
theorem dX12_mountain_33 : decode cX12_mountain 33 = .ok (.putfield 122, 3) := by decide +kernel
theorem dX12_mountain_36 : decode cX12_mountain 36 = .ok (.iconst 0, 1) := by decide +kernel
theorem dX12_mountain_37 : decode cX12_mountain 37 = .ok (.istore_n 3, 1) := by decide +kernel
theorem dX12_mountain_38 : decode cX12_mountain 38 = .ok (.aload_n 0, 1) := by decide +kernel
theorem dX12_mountain_39 : decode cX12_mountain 39 = .ok (.invokevirtual 158, 3) := by decide +kernel
theorem dX12_mountain_42 : decode cX12_mountain 42 = .ok (.ifCond .ne 12, 3) := by decide +kernel
theorem dX12_mountain_45 : decode cX12_mountain 45 = .ok (.sipush (-1000), 3) := by decide +kernel
theorem dX12_mountain_48 : decode cX12_mountain 48 = .ok (.aload_n 0, 1) := by decide +kernel
theorem dX12_mountain_49 : decode cX12_mountain 49 = .ok (.getfield 122, 3) := by decide +kernel
theorem dX12_mountain_52 : decode cX12_mountain 52 = .ok (.isub, 1) := by decide +kernel
theorem dX12_mountain_53 : decode cX12_mountain 53 = .ok (.ireturn, 1) := by decide +kernel
theorem dX12_mountain_54 : decode cX12_mountain 54 = .ok (.iinc 3 1, 3) := by decide +kernel
theorem dX12_mountain_57 : decode cX12_mountain 57 = .ok (.aload_n 0, 1) := by decide +kernel
theorem dX12_mountain_58 : decode cX12_mountain 58 = .ok (.getfield 122, 3) := by decide +kernel
theorem dX12_mountain_61 : decode cX12_mountain 61 = .ok (.aload_n 0, 1) := by decide +kernel
theorem dX12_mountain_62 : decode cX12_mountain 62 = .ok (.getfield 125, 3) := by decide +kernel
theorem dX12_mountain_65 : decode cX12_mountain 65 = .ok (.if_icmp .lt (-27), 3) := by decide +kernel
theorem dX12_mountain_68 : decode cX12_mountain 68 = .ok (.aload_n 0, 1) := by decide +kernel
theorem dX12_mountain_69 : decode cX12_mountain 69 = .ok (.getfield 9, 3) := by decide +kernel
theorem dX12_mountain_72 : decode cX12_mountain 72 = .ok (.aload_n 0, 1) := by decide +kernel
theorem dX12_mountain_73 : decode cX12_mountain 73 = .ok (.getfield 16, 3) := by decide +kernel
theorem dX12_mountain_76 : decode cX12_mountain 76 = .ok (.invokestatic 73, 3) := by decide +kernel
theorem dX12_mountain_79 : decode cX12_mountain 79 = .ok (.aload_n 0, 1) := by decide +kernel
theorem dX12_mountain_80 : decode cX12_mountain 80 = .ok (.iconst 0, 1) := by decide +kernel
theorem dX12_mountain_81 : decode cX12_mountain 81 = .ok (.putfield 122, 3) := by decide +kernel
theorem dX12_mountain_84 : decode cX12_mountain 84 = .ok (.aload_n 0, 1) := by decide +kernel
theorem dX12_mountain_85 : decode cX12_mountain 85 = .ok (.getfield 122, 3) := by decide +kernel
theorem dX12_mountain_88 : decode cX12_mountain 88 = .ok (.aload_n 0, 1) := by decide +kernel
theorem dX12_mountain_89 : decode cX12_mountain 89 = .ok (.getfield 125, 3) := by decide +kernel
theorem dX12_mountain_92 : decode cX12_mountain 92 = .ok (.if_icmp .ge 51, 3) := by decide +kernel
theorem dX12_mountain_95 : decode cX12_mountain 95 = .ok (.aload_n 0, 1) := by decide +kernel
theorem dX12_mountain_96 : decode cX12_mountain 96 = .ok (.getfield 122, 3) := by decide +kernel
theorem dX12_mountain_99 : decode cX12_mountain 99 = .ok (.istore 4, 2) := by decide +kernel
theorem dX12_mountain_101 : decode cX12_mountain 101 = .ok (.aload_n 0, 1) := by decide +kernel
theorem dX12_mountain_102 : decode cX12_mountain 102 = .ok (.invokevirtual 131, 3) := by decide +kernel
theorem dX12_mountain_105 : decode cX12_mountain 105 = .ok (.istore 5, 2) := by decide +kernel
theorem dX12_mountain_107 : decode cX12_mountain 107 = .ok (.aload_n 0, 1) := by decide +kernel
theorem dX12_mountain_108 : decode cX12_mountain 108 = .ok (.invokevirtual 158, 3) := by decide +kernel
theorem dX12_mountain_111 : decode cX12_mountain 111 = .ok (.istore 6, 2) := by decide +kernel
theorem dX12_mountain_113 : decode cX12_mountain 113 = .ok (.aload_n 0, 1) := by decide +kernel
theorem dX12_mountain_114 : decode cX12_mountain 114 = .ok (.iload 5, 2) := by decide +kernel
theorem dX12_mountain_116 : decode cX12_mountain 116 = .ok (.invokevirtual 162, 3) := by decide +kernel
theorem dX12_mountain_119 : decode cX12_mountain 119 = .ok (.ifCond .ne 21, 3) := by decide +kernel
theorem dX12_mountain_122 : decode cX12_mountain 122 = .ok (.aload_n 0, 1) := by decide +kernel
theorem dX12_mountain_123 : decode cX12_mountain 123 = .ok (.getfield 16, 3) := by decide +kernel
theorem dX12_mountain_126 : decode cX12_mountain 126 = .ok (.aload_n 0, 1) := by decide +kernel
theorem dX12_mountain_127 : decode cX12_mountain 127 = .ok (.getfield 9, 3) := by decide +kernel
theorem dX12_mountain_130 : decode cX12_mountain 130 = .ok (.invokestatic 73, 3) := by decide +kernel
theorem dX12_mountain_133 : decode cX12_mountain 133 = .ok (.sipush (-2000), 3) := by decide +kernel
theorem dX12_mountain_136 : decode cX12_mountain 136 = .ok (.iload 4, 2) := by decide +kernel
theorem dX12_mountain_138 : decode cX12_mountain 138 = .ok (.isub, 1) := by decide +kernel
theorem dX12_mountain_139 : decode cX12_mountain 139 = .ok (.ireturn, 1) := by decide +kernel
theorem dX12_mountain_140 : decode cX12_mountain 140 = .ok (.goto (-56), 3) := by decide +kernel
theorem dX12_mountain_143 : decode cX12_mountain 143 = .ok (.iload_n 3, 1) := by decide +kernel
theorem dX12_mountain_144 : decode cX12_mountain 144 = .ok (.ireturn, 1) := by decide +kernel
theorem dX12_cell_0 : decode cX12_cell 0 = .ok (.iload_n 1, 1) := by decide +kernel
theorem dX12_cell_1 : decode cX12_cell 1 = .ok (.invokestatic 143, 3) := by decide +kernel
theorem dX12_cell_4 : decode cX12_cell 4 = .ok (.ifCond .ne 5, 3) := by decide +kernel
theorem dX12_cell_7 : decode cX12_cell 7 = .ok (.iconst (-1), 1) := by decide +kernel
theorem dX12_cell_8 : decode cX12_cell 8 = .ok (.ireturn, 1) := by decide +kernel
theorem dX12_cell_9 : decode cX12_cell 9 = .ok (.iload_n 2, 1) := by decide +kernel
theorem dX12_cell_10 : decode cX12_cell 10 = .ok (.tableswitch 64 0 4 #[34, 40, 46, 52, 58], 34) := by decide +kernel
theorem dX12_cell_44 : decode cX12_cell 44 = .ok (.aload_n 0, 1) := by decide +kernel
theorem dX12_cell_45 : decode cX12_cell 45 = .ok (.iload_n 1, 1) := by decide +kernel
theorem dX12_cell_46 : decode cX12_cell 46 = .ok (.invokevirtual 77, 3) := by decide +kernel
theorem dX12_cell_49 : decode cX12_cell 49 = .ok (.ireturn, 1) := by decide +kernel
theorem dX12_cell_50 : decode cX12_cell 50 = .ok (.aload_n 0, 1) := by decide +kernel
theorem dX12_cell_51 : decode cX12_cell 51 = .ok (.iload_n 1, 1) := by decide +kernel
theorem dX12_cell_52 : decode cX12_cell 52 = .ok (.invokevirtual 81, 3) := by decide +kernel
theorem dX12_cell_55 : decode cX12_cell 55 = .ok (.ireturn, 1) := by decide +kernel
theorem dX12_cell_56 : decode cX12_cell 56 = .ok (.aload_n 0, 1) := by decide +kernel
theorem dX12_cell_57 : decode cX12_cell 57 = .ok (.iload_n 1, 1) := by decide +kernel
theorem dX12_cell_58 : decode cX12_cell 58 = .ok (.invokevirtual 107, 3) := by decide +kernel
theorem dX12_cell_61 : decode cX12_cell 61 = .ok (.ireturn, 1) := by decide +kernel
theorem dX12_cell_62 : decode cX12_cell 62 = .ok (.aload_n 0, 1) := by decide +kernel
theorem dX12_cell_63 : decode cX12_cell 63 = .ok (.iload_n 1, 1) := by decide +kernel
theorem dX12_cell_64 : decode cX12_cell 64 = .ok (.invokevirtual 110, 3) := by decide +kernel
theorem dX12_cell_67 : decode cX12_cell 67 = .ok (.ireturn, 1) := by decide +kernel
theorem dX12_cell_68 : decode cX12_cell 68 = .ok (.aload_n 0, 1) := by decide +kernel
theorem dX12_cell_69 : decode cX12_cell 69 = .ok (.iload_n 1, 1) := by decide +kernel
theorem dX12_cell_70 : decode cX12_cell 70 = .ok (.invokevirtual 100, 3) := by decide +kernel
theorem dX12_cell_73 : decode cX12_cell 73 = .ok (.ireturn, 1) := by decide +kernel
theorem dX12_cell_74 : decode cX12_cell 74 = .ok (.iconst (-1), 1) := by decide +kernel
theorem dX12_cell_75 : decode cX12_cell 75 = .ok (.ireturn, 1) := by decide +kernel
theorem dX12_wrongKept_0 : decode cX12_wrongKept 0 = .ok (.iload_n 1, 1) := by decide +kernel
theorem dX12_wrongKept_1 : decode cX12_wrongKept 1 = .ok (.invokestatic 152, 3) := by decide +kernel
theorem dX12_wrongKept_4 : decode cX12_wrongKept 4 = .ok (.ifCond .ne 7, 3) := by decide +kernel
theorem dX12_wrongKept_7 : decode cX12_wrongKept 7 = .ok (.iconst (-1), 1) := by decide +kernel
theorem dX12_wrongKept_8 : decode cX12_wrongKept 8 = .ok (.goto 33, 3) := by decide +kernel
theorem dX12_wrongKept_11 : decode cX12_wrongKept 11 = .ok (.aload_n 0, 1) := by decide +kernel
theorem dX12_wrongKept_12 : decode cX12_wrongKept 12 = .ok (.getfield 22, 3) := by decide +kernel
theorem dX12_wrongKept_15 : decode cX12_wrongKept 15 = .ok (.iload_n 1, 1) := by decide +kernel
theorem dX12_wrongKept_16 : decode cX12_wrongKept 16 = .ok (.iaload, 1) := by decide +kernel
theorem dX12_wrongKept_17 : decode cX12_wrongKept 17 = .ok (.ifCond .ne 8, 3) := by decide +kernel
theorem dX12_wrongKept_20 : decode cX12_wrongKept 20 = .ok (.bipush (-11), 2) := by decide +kernel
theorem dX12_wrongKept_22 : decode cX12_wrongKept 22 = .ok (.goto 19, 3) := by decide +kernel
theorem dX12_wrongKept_25 : decode cX12_wrongKept 25 = .ok (.aload_n 0, 1) := by decide +kernel
theorem dX12_wrongKept_26 : decode cX12_wrongKept 26 = .ok (.getfield 22, 3) := by decide +kernel
theorem dX12_wrongKept_29 : decode cX12_wrongKept 29 = .ok (.iload_n 1, 1) := by decide +kernel
theorem dX12_wrongKept_30 : decode cX12_wrongKept 30 = .ok (.iaload, 1) := by decide +kernel
theorem dX12_wrongKept_31 : decode cX12_wrongKept 31 = .ok (.iconst 1, 1) := by decide +kernel
theorem dX12_wrongKept_32 : decode cX12_wrongKept 32 = .ok (.if_icmp .ne 7, 3) := by decide +kernel
theorem dX12_wrongKept_35 : decode cX12_wrongKept 35 = .ok (.iconst 0, 1) := by decide +kernel
theorem dX12_wrongKept_36 : decode cX12_wrongKept 36 = .ok (.goto 5, 3) := by decide +kernel
theorem dX12_wrongKept_39 : decode cX12_wrongKept 39 = .ok (.bipush (-12), 2) := by decide +kernel
theorem dX12_wrongKept_41 : decode cX12_wrongKept 41 = .ok (.ireturn, 1) := by decide +kernel
theorem dX12_lay_0 : decode cX12_lay 0 = .ok (.iload_n 2, 1) := by decide +kernel
theorem dX12_lay_1 : decode cX12_lay 1 = .ok (.invokestatic 143, 3) := by decide +kernel
theorem dX12_lay_4 : decode cX12_lay 4 = .ok (.ifCond .ne 7, 3) := by decide +kernel
theorem dX12_lay_7 : decode cX12_lay 7 = .ok (.iconst (-1), 1) := by decide +kernel
theorem dX12_lay_8 : decode cX12_lay 8 = .ok (.goto 8, 3) := by decide +kernel
theorem dX12_lay_11 : decode cX12_lay 11 = .ok (.aload_n 0, 1) := by decide +kernel
theorem dX12_lay_12 : decode cX12_lay 12 = .ok (.iload_n 1, 1) := by decide +kernel
theorem dX12_lay_13 : decode cX12_lay 13 = .ok (.invokevirtual 165, 3) := by decide +kernel
theorem dX12_lay_16 : decode cX12_lay 16 = .ok (.istore_n 3, 1) := by decide +kernel
theorem dX12_lay_17 : decode cX12_lay 17 = .ok (.iload_n 3, 1) := by decide +kernel
theorem dX12_lay_18 : decode cX12_lay 18 = .ok (.ifCond .eq 5, 3) := by decide +kernel
theorem dX12_lay_21 : decode cX12_lay 21 = .ok (.iload_n 3, 1) := by decide +kernel
theorem dX12_lay_22 : decode cX12_lay 22 = .ok (.ireturn, 1) := by decide +kernel
theorem dX12_lay_23 : decode cX12_lay 23 = .ok (.aload_n 0, 1) := by decide +kernel
theorem dX12_lay_24 : decode cX12_lay 24 = .ok (.iload_n 2, 1) := by decide +kernel
theorem dX12_lay_25 : decode cX12_lay 25 = .ok (.invokevirtual 77, 3) := by decide +kernel
theorem dX12_lay_28 : decode cX12_lay 28 = .ok (.istore 4, 2) := by decide +kernel
theorem dX12_lay_30 : decode cX12_lay 30 = .ok (.aload_n 0, 1) := by decide +kernel
theorem dX12_lay_31 : decode cX12_lay 31 = .ok (.iload_n 2, 1) := by decide +kernel
theorem dX12_lay_32 : decode cX12_lay 32 = .ok (.aload_n 0, 1) := by decide +kernel
theorem dX12_lay_33 : decode cX12_lay 33 = .ok (.getfield 34, 3) := by decide +kernel
theorem dX12_lay_36 : decode cX12_lay 36 = .ok (.iload_n 1, 1) := by decide +kernel
theorem dX12_lay_37 : decode cX12_lay 37 = .ok (.iaload, 1) := by decide +kernel
theorem dX12_lay_38 : decode cX12_lay 38 = .ok (.aload_n 0, 1) := by decide +kernel
theorem dX12_lay_39 : decode cX12_lay 39 = .ok (.getfield 37, 3) := by decide +kernel
theorem dX12_lay_42 : decode cX12_lay 42 = .ok (.iload_n 1, 1) := by decide +kernel
theorem dX12_lay_43 : decode cX12_lay 43 = .ok (.iaload, 1) := by decide +kernel
theorem dX12_lay_44 : decode cX12_lay 44 = .ok (.invokevirtual 103, 3) := by decide +kernel
theorem dX12_lay_47 : decode cX12_lay 47 = .ok (.iload 4, 2) := by decide +kernel
theorem dX12_lay_49 : decode cX12_lay 49 = .ok (.ireturn, 1) := by decide +kernel
theorem dX12_gang_0 : decode cX12_gang 0 = .ok (.iload_n 1, 1) := by decide +kernel
theorem dX12_gang_1 : decode cX12_gang 1 = .ok (.invokestatic 146, 3) := by decide +kernel
theorem dX12_gang_4 : decode cX12_gang 4 = .ok (.ifCond .eq 29, 3) := by decide +kernel
theorem dX12_gang_7 : decode cX12_gang 7 = .ok (.iload_n 2, 1) := by decide +kernel
theorem dX12_gang_8 : decode cX12_gang 8 = .ok (.i2l, 1) := by decide +kernel
theorem dX12_gang_9 : decode cX12_gang 9 = .ok (.lconst 0, 1) := by decide +kernel
theorem dX12_gang_10 : decode cX12_gang 10 = .ok (.lconst 1, 1) := by decide +kernel
theorem dX12_gang_11 : decode cX12_gang 11 = .ok (.invokestatic 67, 3) := by decide +kernel
theorem dX12_gang_14 : decode cX12_gang 14 = .ok (.ifCond .eq 19, 3) := by decide +kernel
theorem dX12_gang_17 : decode cX12_gang 17 = .ok (.aload_n 0, 1) := by decide +kernel
theorem dX12_gang_18 : decode cX12_gang 18 = .ok (.getfield 9, 3) := by decide +kernel
theorem dX12_gang_21 : decode cX12_gang 21 = .ok (.bipush 40, 2) := by decide +kernel
theorem dX12_gang_23 : decode cX12_gang 23 = .ok (.iconst 2, 1) := by decide +kernel
theorem dX12_gang_24 : decode cX12_gang 24 = .ok (.iload_n 1, 1) := by decide +kernel
theorem dX12_gang_25 : decode cX12_gang 25 = .ok (.imul, 1) := by decide +kernel
theorem dX12_gang_26 : decode cX12_gang 26 = .ok (.iadd, 1) := by decide +kernel
theorem dX12_gang_27 : decode cX12_gang 27 = .ok (.iload_n 2, 1) := by decide +kernel
theorem dX12_gang_28 : decode cX12_gang 28 = .ok (.iadd, 1) := by decide +kernel
theorem dX12_gang_29 : decode cX12_gang 29 = .ok (.iaload, 1) := by decide +kernel
theorem dX12_gang_30 : decode cX12_gang 30 = .ok (.goto 4, 3) := by decide +kernel
theorem dX12_gang_33 : decode cX12_gang 33 = .ok (.iconst (-1), 1) := by decide +kernel
theorem dX12_gang_34 : decode cX12_gang 34 = .ok (.ireturn, 1) := by decide +kernel
theorem dX12_dig_0 : decode cX12_dig 0 = .ok (.iload_n 1, 1) := by decide +kernel
theorem dX12_dig_1 : decode cX12_dig 1 = .ok (.invokestatic 146, 3) := by decide +kernel
theorem dX12_dig_4 : decode cX12_dig 4 = .ok (.ifCond .eq 15, 3) := by decide +kernel
theorem dX12_dig_7 : decode cX12_dig 7 = .ok (.iload_n 2, 1) := by decide +kernel
theorem dX12_dig_8 : decode cX12_dig 8 = .ok (.i2l, 1) := by decide +kernel
theorem dX12_dig_9 : decode cX12_dig 9 = .ok (.lconst 0, 1) := by decide +kernel
theorem dX12_dig_10 : decode cX12_dig 10 = .ok (.ldc2_w 168, 3) := by decide +kernel
theorem dX12_dig_13 : decode cX12_dig 13 = .ok (.invokestatic 67, 3) := by decide +kernel
theorem dX12_dig_16 : decode cX12_dig 16 = .ok (.ifCond .ne 5, 3) := by decide +kernel
theorem dX12_dig_19 : decode cX12_dig 19 = .ok (.iconst (-1), 1) := by decide +kernel
theorem dX12_dig_20 : decode cX12_dig 20 = .ok (.ireturn, 1) := by decide +kernel
theorem dX12_dig_21 : decode cX12_dig 21 = .ok (.aload_n 0, 1) := by decide +kernel
theorem dX12_dig_22 : decode cX12_dig 22 = .ok (.getfield 9, 3) := by decide +kernel
theorem dX12_dig_25 : decode cX12_dig 25 = .ok (.bipush 40, 2) := by decide +kernel
theorem dX12_dig_27 : decode cX12_dig 27 = .ok (.iconst 2, 1) := by decide +kernel
theorem dX12_dig_28 : decode cX12_dig 28 = .ok (.iload_n 1, 1) := by decide +kernel
theorem dX12_dig_29 : decode cX12_dig 29 = .ok (.imul, 1) := by decide +kernel
theorem dX12_dig_30 : decode cX12_dig 30 = .ok (.iadd, 1) := by decide +kernel
theorem dX12_dig_31 : decode cX12_dig 31 = .ok (.iconst 1, 1) := by decide +kernel
theorem dX12_dig_32 : decode cX12_dig 32 = .ok (.iadd, 1) := by decide +kernel
theorem dX12_dig_33 : decode cX12_dig 33 = .ok (.iaload, 1) := by decide +kernel
theorem dX12_dig_34 : decode cX12_dig 34 = .ok (.istore_n 3, 1) := by decide +kernel
theorem dX12_dig_35 : decode cX12_dig 35 = .ok (.aload_n 0, 1) := by decide +kernel
theorem dX12_dig_36 : decode cX12_dig 36 = .ok (.iload_n 1, 1) := by decide +kernel
theorem dX12_dig_37 : decode cX12_dig 37 = .ok (.iload_n 2, 1) := by decide +kernel
theorem dX12_dig_38 : decode cX12_dig 38 = .ok (.invokevirtual 149, 3) := by decide +kernel
theorem dX12_dig_41 : decode cX12_dig 41 = .ok (.ifCond .eq 21, 3) := by decide +kernel
theorem dX12_dig_44 : decode cX12_dig 44 = .ok (.aload_n 0, 1) := by decide +kernel
theorem dX12_dig_45 : decode cX12_dig 45 = .ok (.getfield 9, 3) := by decide +kernel
theorem dX12_dig_48 : decode cX12_dig 48 = .ok (.bipush 40, 2) := by decide +kernel
theorem dX12_dig_50 : decode cX12_dig 50 = .ok (.iconst 2, 1) := by decide +kernel
theorem dX12_dig_51 : decode cX12_dig 51 = .ok (.iload_n 1, 1) := by decide +kernel
theorem dX12_dig_52 : decode cX12_dig 52 = .ok (.imul, 1) := by decide +kernel
theorem dX12_dig_53 : decode cX12_dig 53 = .ok (.iadd, 1) := by decide +kernel
theorem dX12_dig_54 : decode cX12_dig 54 = .ok (.iconst 1, 1) := by decide +kernel
theorem dX12_dig_55 : decode cX12_dig 55 = .ok (.iadd, 1) := by decide +kernel
theorem dX12_dig_56 : decode cX12_dig 56 = .ok (.iaload, 1) := by decide +kernel
theorem dX12_dig_57 : decode cX12_dig 57 = .ok (.iload_n 3, 1) := by decide +kernel
theorem dX12_dig_58 : decode cX12_dig 58 = .ok (.isub, 1) := by decide +kernel
theorem dX12_dig_59 : decode cX12_dig 59 = .ok (.goto 5, 3) := by decide +kernel
theorem dX12_dig_62 : decode cX12_dig 62 = .ok (.bipush (-3), 2) := by decide +kernel
theorem dX12_dig_64 : decode cX12_dig 64 = .ok (.ireturn, 1) := by decide +kernel
theorem dX12_met_0 : decode cX12_met 0 = .ok (.aload_n 0, 1) := by decide +kernel
theorem dX12_met_1 : decode cX12_met 1 = .ok (.invokevirtual 170, 3) := by decide +kernel
theorem dX12_met_4 : decode cX12_met 4 = .ok (.ifCond .eq 7, 3) := by decide +kernel
theorem dX12_met_7 : decode cX12_met 7 = .ok (.iconst 1, 1) := by decide +kernel
theorem dX12_met_8 : decode cX12_met 8 = .ok (.goto 4, 3) := by decide +kernel
theorem dX12_met_11 : decode cX12_met 11 = .ok (.iconst 0, 1) := by decide +kernel
theorem dX12_met_12 : decode cX12_met 12 = .ok (.ireturn, 1) := by decide +kernel
theorem dX12_time_0 : decode cX12_time 0 = .ok (.iload_n 1, 1) := by decide +kernel
theorem dX12_time_1 : decode cX12_time 1 = .ok (.invokestatic 143, 3) := by decide +kernel
theorem dX12_time_4 : decode cX12_time 4 = .ok (.ifCond .eq 19, 3) := by decide +kernel
theorem dX12_time_7 : decode cX12_time 7 = .ok (.iload_n 2, 1) := by decide +kernel
theorem dX12_time_8 : decode cX12_time 8 = .ok (.invokestatic 143, 3) := by decide +kernel
theorem dX12_time_11 : decode cX12_time 11 = .ok (.ifCond .eq 12, 3) := by decide +kernel
theorem dX12_time_14 : decode cX12_time 14 = .ok (.aload_n 0, 1) := by decide +kernel
theorem dX12_time_15 : decode cX12_time 15 = .ok (.iload_n 1, 1) := by decide +kernel
theorem dX12_time_16 : decode cX12_time 16 = .ok (.iload_n 2, 1) := by decide +kernel
theorem dX12_time_17 : decode cX12_time 17 = .ok (.invokevirtual 173, 3) := by decide +kernel
theorem dX12_time_20 : decode cX12_time 20 = .ok (.goto 4, 3) := by decide +kernel
theorem dX12_time_23 : decode cX12_time 23 = .ok (.iconst (-1), 1) := by decide +kernel
theorem dX12_time_24 : decode cX12_time 24 = .ok (.ireturn, 1) := by decide +kernel
theorem dX12_loud_0 : decode cX12_loud 0 = .ok (.iload_n 1, 1) := by decide +kernel
theorem dX12_loud_1 : decode cX12_loud 1 = .ok (.invokestatic 143, 3) := by decide +kernel
theorem dX12_loud_4 : decode cX12_loud 4 = .ok (.ifCond .eq 22, 3) := by decide +kernel
theorem dX12_loud_7 : decode cX12_loud 7 = .ok (.iload_n 2, 1) := by decide +kernel
theorem dX12_loud_8 : decode cX12_loud 8 = .ok (.invokestatic 143, 3) := by decide +kernel
theorem dX12_loud_11 : decode cX12_loud 11 = .ok (.ifCond .eq 15, 3) := by decide +kernel
theorem dX12_loud_14 : decode cX12_loud 14 = .ok (.iload_n 3, 1) := by decide +kernel
theorem dX12_loud_15 : decode cX12_loud 15 = .ok (.i2l, 1) := by decide +kernel
theorem dX12_loud_16 : decode cX12_loud 16 = .ok (.lconst 0, 1) := by decide +kernel
theorem dX12_loud_17 : decode cX12_loud 17 = .ok (.ldc2_w 176, 3) := by decide +kernel
theorem dX12_loud_20 : decode cX12_loud 20 = .ok (.invokestatic 67, 3) := by decide +kernel
theorem dX12_loud_23 : decode cX12_loud 23 = .ok (.ifCond .ne 5, 3) := by decide +kernel
theorem dX12_loud_26 : decode cX12_loud 26 = .ok (.iconst (-1), 1) := by decide +kernel
theorem dX12_loud_27 : decode cX12_loud 27 = .ok (.ireturn, 1) := by decide +kernel
theorem dX12_loud_28 : decode cX12_loud 28 = .ok (.aload_n 0, 1) := by decide +kernel
theorem dX12_loud_29 : decode cX12_loud 29 = .ok (.iload_n 1, 1) := by decide +kernel
theorem dX12_loud_30 : decode cX12_loud 30 = .ok (.invokevirtual 118, 3) := by decide +kernel
theorem dX12_loud_33 : decode cX12_loud 33 = .ok (.iload_n 3, 1) := by decide +kernel
theorem dX12_loud_34 : decode cX12_loud 34 = .ok (.aload_n 0, 1) := by decide +kernel
theorem dX12_loud_35 : decode cX12_loud 35 = .ok (.getfield 43, 3) := by decide +kernel
theorem dX12_loud_38 : decode cX12_loud 38 = .ok (.iload_n 2, 1) := by decide +kernel
theorem dX12_loud_39 : decode cX12_loud 39 = .ok (.iaload, 1) := by decide +kernel
theorem dX12_loud_40 : decode cX12_loud 40 = .ok (.if_icmp .le 14, 3) := by decide +kernel
theorem dX12_loud_43 : decode cX12_loud 43 = .ok (.iload_n 3, 1) := by decide +kernel
theorem dX12_loud_44 : decode cX12_loud 44 = .ok (.aload_n 0, 1) := by decide +kernel
theorem dX12_loud_45 : decode cX12_loud 45 = .ok (.getfield 43, 3) := by decide +kernel
theorem dX12_loud_48 : decode cX12_loud 48 = .ok (.iload_n 2, 1) := by decide +kernel
theorem dX12_loud_49 : decode cX12_loud 49 = .ok (.iaload, 1) := by decide +kernel
theorem dX12_loud_50 : decode cX12_loud 50 = .ok (.isub, 1) := by decide +kernel
theorem dX12_loud_51 : decode cX12_loud 51 = .ok (.goto 4, 3) := by decide +kernel
theorem dX12_loud_54 : decode cX12_loud 54 = .ok (.iconst 0, 1) := by decide +kernel
theorem dX12_loud_55 : decode cX12_loud 55 = .ok (.ireturn, 1) := by decide +kernel
theorem dX12_paths_0 : decode cX12_paths 0 = .ok (.iload_n 1, 1) := by decide +kernel
theorem dX12_paths_1 : decode cX12_paths 1 = .ok (.invokestatic 143, 3) := by decide +kernel
theorem dX12_paths_4 : decode cX12_paths 4 = .ok (.ifCond .eq 10, 3) := by decide +kernel
theorem dX12_paths_7 : decode cX12_paths 7 = .ok (.iload_n 2, 1) := by decide +kernel
theorem dX12_paths_8 : decode cX12_paths 8 = .ok (.invokestatic 143, 3) := by decide +kernel
theorem dX12_paths_11 : decode cX12_paths 11 = .ok (.ifCond .ne 5, 3) := by decide +kernel
theorem dX12_paths_14 : decode cX12_paths 14 = .ok (.iconst (-1), 1) := by decide +kernel
theorem dX12_paths_15 : decode cX12_paths 15 = .ok (.ireturn, 1) := by decide +kernel
theorem dX12_paths_16 : decode cX12_paths 16 = .ok (.aload_n 0, 1) := by decide +kernel
theorem dX12_paths_17 : decode cX12_paths 17 = .ok (.iload_n 1, 1) := by decide +kernel
theorem dX12_paths_18 : decode cX12_paths 18 = .ok (.invokevirtual 178, 3) := by decide +kernel
theorem dX12_paths_21 : decode cX12_paths 21 = .ok (.aload_n 0, 1) := by decide +kernel
theorem dX12_paths_22 : decode cX12_paths 22 = .ok (.getfield 46, 3) := by decide +kernel
theorem dX12_paths_25 : decode cX12_paths 25 = .ok (.iload_n 2, 1) := by decide +kernel
theorem dX12_paths_26 : decode cX12_paths 26 = .ok (.iaload, 1) := by decide +kernel
theorem dX12_paths_27 : decode cX12_paths 27 = .ok (.ireturn, 1) := by decide +kernel
theorem dX12_reaches_0 : decode cX12_reaches 0 = .ok (.iload_n 1, 1) := by decide +kernel
theorem dX12_reaches_1 : decode cX12_reaches 1 = .ok (.invokestatic 143, 3) := by decide +kernel
theorem dX12_reaches_4 : decode cX12_reaches 4 = .ok (.ifCond .eq 15, 3) := by decide +kernel
theorem dX12_reaches_7 : decode cX12_reaches 7 = .ok (.iload_n 2, 1) := by decide +kernel
theorem dX12_reaches_8 : decode cX12_reaches 8 = .ok (.i2l, 1) := by decide +kernel
theorem dX12_reaches_9 : decode cX12_reaches 9 = .ok (.lconst 1, 1) := by decide +kernel
theorem dX12_reaches_10 : decode cX12_reaches 10 = .ok (.ldc2_w 176, 3) := by decide +kernel
theorem dX12_reaches_13 : decode cX12_reaches 13 = .ok (.invokestatic 67, 3) := by decide +kernel
theorem dX12_reaches_16 : decode cX12_reaches 16 = .ok (.ifCond .ne 5, 3) := by decide +kernel
theorem dX12_reaches_19 : decode cX12_reaches 19 = .ok (.iconst (-1), 1) := by decide +kernel
theorem dX12_reaches_20 : decode cX12_reaches 20 = .ok (.ireturn, 1) := by decide +kernel
theorem dX12_reaches_21 : decode cX12_reaches 21 = .ok (.aload_n 0, 1) := by decide +kernel
theorem dX12_reaches_22 : decode cX12_reaches 22 = .ok (.iload_n 1, 1) := by decide +kernel
theorem dX12_reaches_23 : decode cX12_reaches 23 = .ok (.invokevirtual 118, 3) := by decide +kernel
theorem dX12_reaches_26 : decode cX12_reaches 26 = .ok (.iconst 0, 1) := by decide +kernel
theorem dX12_reaches_27 : decode cX12_reaches 27 = .ok (.istore_n 3, 1) := by decide +kernel
theorem dX12_reaches_28 : decode cX12_reaches 28 = .ok (.iconst 0, 1) := by decide +kernel
theorem dX12_reaches_29 : decode cX12_reaches 29 = .ok (.istore 4, 2) := by decide +kernel
theorem dX12_reaches_31 : decode cX12_reaches 31 = .ok (.iload 4, 2) := by decide +kernel
theorem dX12_reaches_33 : decode cX12_reaches 33 = .ok (.bipush 20, 2) := by decide +kernel
theorem dX12_reaches_35 : decode cX12_reaches 35 = .ok (.if_icmp .ge 31, 3) := by decide +kernel
theorem dX12_reaches_38 : decode cX12_reaches 38 = .ok (.iload_n 3, 1) := by decide +kernel
theorem dX12_reaches_39 : decode cX12_reaches 39 = .ok (.iload_n 2, 1) := by decide +kernel
theorem dX12_reaches_40 : decode cX12_reaches 40 = .ok (.aload_n 0, 1) := by decide +kernel
theorem dX12_reaches_41 : decode cX12_reaches 41 = .ok (.getfield 43, 3) := by decide +kernel
theorem dX12_reaches_44 : decode cX12_reaches 44 = .ok (.iload 4, 2) := by decide +kernel
theorem dX12_reaches_46 : decode cX12_reaches 46 = .ok (.iaload, 1) := by decide +kernel
theorem dX12_reaches_47 : decode cX12_reaches 47 = .ok (.if_icmp .le 10, 3) := by decide +kernel
theorem dX12_reaches_50 : decode cX12_reaches 50 = .ok (.iconst 1, 1) := by decide +kernel
theorem dX12_reaches_51 : decode cX12_reaches 51 = .ok (.iload 4, 2) := by decide +kernel
theorem dX12_reaches_53 : decode cX12_reaches 53 = .ok (.ishl, 1) := by decide +kernel
theorem dX12_reaches_54 : decode cX12_reaches 54 = .ok (.goto 4, 3) := by decide +kernel
theorem dX12_reaches_57 : decode cX12_reaches 57 = .ok (.iconst 0, 1) := by decide +kernel
theorem dX12_reaches_58 : decode cX12_reaches 58 = .ok (.ior, 1) := by decide +kernel
theorem dX12_reaches_59 : decode cX12_reaches 59 = .ok (.istore_n 3, 1) := by decide +kernel
theorem dX12_reaches_60 : decode cX12_reaches 60 = .ok (.iinc 4 1, 3) := by decide +kernel
theorem dX12_reaches_63 : decode cX12_reaches 63 = .ok (.goto (-32), 3) := by decide +kernel
theorem dX12_reaches_66 : decode cX12_reaches 66 = .ok (.iload_n 3, 1) := by decide +kernel
theorem dX12_reaches_67 : decode cX12_reaches 67 = .ok (.ireturn, 1) := by decide +kernel
theorem dX12_told_0 : decode cX12_told 0 = .ok (.aload_n 0, 1) := by decide +kernel
theorem dX12_told_1 : decode cX12_told 1 = .ok (.getfield 31, 3) := by decide +kernel
theorem dX12_told_4 : decode cX12_told 4 = .ok (.bipush 100, 2) := by decide +kernel
theorem dX12_told_6 : decode cX12_told 6 = .ok (.iload_n 1, 1) := by decide +kernel
theorem dX12_told_7 : decode cX12_told 7 = .ok (.imul, 1) := by decide +kernel
theorem dX12_told_8 : decode cX12_told 8 = .ok (.iload_n 2, 1) := by decide +kernel
theorem dX12_told_9 : decode cX12_told 9 = .ok (.iadd, 1) := by decide +kernel
theorem dX12_told_10 : decode cX12_told 10 = .ok (.iaload, 1) := by decide +kernel
theorem dX12_told_11 : decode cX12_told 11 = .ok (.ireturn, 1) := by decide +kernel
theorem dX12_isFrom_0 : decode cX12_isFrom 0 = .ok (.aload_n 0, 1) := by decide +kernel
theorem dX12_isFrom_1 : decode cX12_isFrom 1 = .ok (.iload_n 2, 1) := by decide +kernel
theorem dX12_isFrom_2 : decode cX12_isFrom 2 = .ok (.invokevirtual 118, 3) := by decide +kernel
theorem dX12_isFrom_5 : decode cX12_isFrom 5 = .ok (.iconst 2, 1) := by decide +kernel
theorem dX12_isFrom_6 : decode cX12_isFrom 6 = .ok (.istore_n 3, 1) := by decide +kernel
theorem dX12_isFrom_7 : decode cX12_isFrom 7 = .ok (.iload_n 3, 1) := by decide +kernel
theorem dX12_isFrom_8 : decode cX12_isFrom 8 = .ok (.aload_n 0, 1) := by decide +kernel
theorem dX12_isFrom_9 : decode cX12_isFrom 9 = .ok (.getfield 28, 3) := by decide +kernel
theorem dX12_isFrom_12 : decode cX12_isFrom 12 = .ok (.iload_n 1, 1) := by decide +kernel
theorem dX12_isFrom_13 : decode cX12_isFrom 13 = .ok (.iaload, 1) := by decide +kernel
theorem dX12_isFrom_14 : decode cX12_isFrom 14 = .ok (.if_icmp .ge 57, 3) := by decide +kernel
theorem dX12_isFrom_17 : decode cX12_isFrom 17 = .ok (.aload_n 0, 1) := by decide +kernel
theorem dX12_isFrom_18 : decode cX12_isFrom 18 = .ok (.iload_n 1, 1) := by decide +kernel
theorem dX12_isFrom_19 : decode cX12_isFrom 19 = .ok (.iload_n 3, 1) := by decide +kernel
theorem dX12_isFrom_20 : decode cX12_isFrom 20 = .ok (.iconst 1, 1) := by decide +kernel
theorem dX12_isFrom_21 : decode cX12_isFrom 21 = .ok (.iadd, 1) := by decide +kernel
theorem dX12_isFrom_22 : decode cX12_isFrom 22 = .ok (.invokevirtual 181, 3) := by decide +kernel
theorem dX12_isFrom_25 : decode cX12_isFrom 25 = .ok (.i2l, 1) := by decide +kernel
theorem dX12_isFrom_26 : decode cX12_isFrom 26 = .ok (.aload_n 0, 1) := by decide +kernel
theorem dX12_isFrom_27 : decode cX12_isFrom 27 = .ok (.getfield 40, 3) := by decide +kernel
theorem dX12_isFrom_30 : decode cX12_isFrom 30 = .ok (.aload_n 0, 1) := by decide +kernel
theorem dX12_isFrom_31 : decode cX12_isFrom 31 = .ok (.iload_n 1, 1) := by decide +kernel
theorem dX12_isFrom_32 : decode cX12_isFrom 32 = .ok (.iload_n 3, 1) := by decide +kernel
theorem dX12_isFrom_33 : decode cX12_isFrom 33 = .ok (.invokevirtual 181, 3) := by decide +kernel
theorem dX12_isFrom_36 : decode cX12_isFrom 36 = .ok (.iaload, 1) := by decide +kernel
theorem dX12_isFrom_37 : decode cX12_isFrom 37 = .ok (.i2l, 1) := by decide +kernel
theorem dX12_isFrom_38 : decode cX12_isFrom 38 = .ok (.lsub, 1) := by decide +kernel
theorem dX12_isFrom_39 : decode cX12_isFrom 39 = .ok (.aload_n 0, 1) := by decide +kernel
theorem dX12_isFrom_40 : decode cX12_isFrom 40 = .ok (.iload_n 1, 1) := by decide +kernel
theorem dX12_isFrom_41 : decode cX12_isFrom 41 = .ok (.iconst 1, 1) := by decide +kernel
theorem dX12_isFrom_42 : decode cX12_isFrom 42 = .ok (.invokevirtual 181, 3) := by decide +kernel
theorem dX12_isFrom_45 : decode cX12_isFrom 45 = .ok (.i2l, 1) := by decide +kernel
theorem dX12_isFrom_46 : decode cX12_isFrom 46 = .ok (.aload_n 0, 1) := by decide +kernel
theorem dX12_isFrom_47 : decode cX12_isFrom 47 = .ok (.getfield 40, 3) := by decide +kernel
theorem dX12_isFrom_50 : decode cX12_isFrom 50 = .ok (.aload_n 0, 1) := by decide +kernel
theorem dX12_isFrom_51 : decode cX12_isFrom 51 = .ok (.iload_n 1, 1) := by decide +kernel
theorem dX12_isFrom_52 : decode cX12_isFrom 52 = .ok (.iconst 0, 1) := by decide +kernel
theorem dX12_isFrom_53 : decode cX12_isFrom 53 = .ok (.invokevirtual 181, 3) := by decide +kernel
theorem dX12_isFrom_56 : decode cX12_isFrom 56 = .ok (.iaload, 1) := by decide +kernel
theorem dX12_isFrom_57 : decode cX12_isFrom 57 = .ok (.i2l, 1) := by decide +kernel
theorem dX12_isFrom_58 : decode cX12_isFrom 58 = .ok (.lsub, 1) := by decide +kernel
theorem dX12_isFrom_59 : decode cX12_isFrom 59 = .ok (.lcmp, 1) := by decide +kernel
theorem dX12_isFrom_60 : decode cX12_isFrom 60 = .ok (.ifCond .eq 5, 3) := by decide +kernel
theorem dX12_isFrom_63 : decode cX12_isFrom 63 = .ok (.iconst 0, 1) := by decide +kernel
theorem dX12_isFrom_64 : decode cX12_isFrom 64 = .ok (.ireturn, 1) := by decide +kernel
theorem dX12_isFrom_65 : decode cX12_isFrom 65 = .ok (.iinc 3 2, 3) := by decide +kernel
theorem dX12_isFrom_68 : decode cX12_isFrom 68 = .ok (.goto (-61), 3) := by decide +kernel
theorem dX12_isFrom_71 : decode cX12_isFrom 71 = .ok (.iconst 1, 1) := by decide +kernel
theorem dX12_isFrom_72 : decode cX12_isFrom 72 = .ok (.ireturn, 1) := by decide +kernel
theorem dX12_from_0 : decode cX12_from 0 = .ok (.iload_n 1, 1) := by decide +kernel
theorem dX12_from_1 : decode cX12_from 1 = .ok (.invokestatic 152, 3) := by decide +kernel
theorem dX12_from_4 : decode cX12_from 4 = .ok (.ifCond .eq 13, 3) := by decide +kernel
theorem dX12_from_7 : decode cX12_from 7 = .ok (.iload_n 2, 1) := by decide +kernel
theorem dX12_from_8 : decode cX12_from 8 = .ok (.i2l, 1) := by decide +kernel
theorem dX12_from_9 : decode cX12_from 9 = .ok (.lconst 0, 1) := by decide +kernel
theorem dX12_from_10 : decode cX12_from 10 = .ok (.lconst 1, 1) := by decide +kernel
theorem dX12_from_11 : decode cX12_from 11 = .ok (.invokestatic 67, 3) := by decide +kernel
theorem dX12_from_14 : decode cX12_from 14 = .ok (.ifCond .ne 7, 3) := by decide +kernel
theorem dX12_from_17 : decode cX12_from 17 = .ok (.iconst (-1), 1) := by decide +kernel
theorem dX12_from_18 : decode cX12_from 18 = .ok (.goto 9, 3) := by decide +kernel
theorem dX12_from_21 : decode cX12_from 21 = .ok (.aload_n 0, 1) := by decide +kernel
theorem dX12_from_22 : decode cX12_from 22 = .ok (.iload_n 1, 1) := by decide +kernel
theorem dX12_from_23 : decode cX12_from 23 = .ok (.iconst 2, 1) := by decide +kernel
theorem dX12_from_24 : decode cX12_from 24 = .ok (.invokevirtual 155, 3) := by decide +kernel
theorem dX12_from_27 : decode cX12_from 27 = .ok (.istore_n 3, 1) := by decide +kernel
theorem dX12_from_28 : decode cX12_from 28 = .ok (.iload_n 3, 1) := by decide +kernel
theorem dX12_from_29 : decode cX12_from 29 = .ok (.ifCond .ne 17, 3) := by decide +kernel
theorem dX12_from_32 : decode cX12_from 32 = .ok (.aload_n 0, 1) := by decide +kernel
theorem dX12_from_33 : decode cX12_from 33 = .ok (.getfield 28, 3) := by decide +kernel
theorem dX12_from_36 : decode cX12_from 36 = .ok (.iload_n 1, 1) := by decide +kernel
theorem dX12_from_37 : decode cX12_from 37 = .ok (.iaload, 1) := by decide +kernel
theorem dX12_from_38 : decode cX12_from 38 = .ok (.iconst 2, 1) := by decide +kernel
theorem dX12_from_39 : decode cX12_from 39 = .ok (.irem, 1) := by decide +kernel
theorem dX12_from_40 : decode cX12_from 40 = .ok (.ifCond .eq 6, 3) := by decide +kernel
theorem dX12_from_43 : decode cX12_from 43 = .ok (.bipush (-13), 2) := by decide +kernel
theorem dX12_from_45 : decode cX12_from 45 = .ok (.istore_n 3, 1) := by decide +kernel
theorem dX12_from_46 : decode cX12_from 46 = .ok (.iconst 0, 1) := by decide +kernel
theorem dX12_from_47 : decode cX12_from 47 = .ok (.istore 4, 2) := by decide +kernel
theorem dX12_from_49 : decode cX12_from 49 = .ok (.iload_n 3, 1) := by decide +kernel
theorem dX12_from_50 : decode cX12_from 50 = .ok (.ifCond .ne 40, 3) := by decide +kernel
theorem dX12_from_53 : decode cX12_from 53 = .ok (.iload 4, 2) := by decide +kernel
theorem dX12_from_55 : decode cX12_from 55 = .ok (.aload_n 0, 1) := by decide +kernel
theorem dX12_from_56 : decode cX12_from 56 = .ok (.getfield 28, 3) := by decide +kernel
theorem dX12_from_59 : decode cX12_from 59 = .ok (.iload_n 1, 1) := by decide +kernel
theorem dX12_from_60 : decode cX12_from 60 = .ok (.iaload, 1) := by decide +kernel
theorem dX12_from_61 : decode cX12_from 61 = .ok (.if_icmp .ge 29, 3) := by decide +kernel
theorem dX12_from_64 : decode cX12_from 64 = .ok (.aload_n 0, 1) := by decide +kernel
theorem dX12_from_65 : decode cX12_from 65 = .ok (.iload_n 1, 1) := by decide +kernel
theorem dX12_from_66 : decode cX12_from 66 = .ok (.iload 4, 2) := by decide +kernel
theorem dX12_from_68 : decode cX12_from 68 = .ok (.invokevirtual 181, 3) := by decide +kernel
theorem dX12_from_71 : decode cX12_from 71 = .ok (.invokestatic 143, 3) := by decide +kernel
theorem dX12_from_74 : decode cX12_from 74 = .ok (.ifCond .eq 7, 3) := by decide +kernel
theorem dX12_from_77 : decode cX12_from 77 = .ok (.iconst 0, 1) := by decide +kernel
theorem dX12_from_78 : decode cX12_from 78 = .ok (.goto 5, 3) := by decide +kernel
theorem dX12_from_81 : decode cX12_from 81 = .ok (.bipush (-13), 2) := by decide +kernel
theorem dX12_from_83 : decode cX12_from 83 = .ok (.istore_n 3, 1) := by decide +kernel
theorem dX12_from_84 : decode cX12_from 84 = .ok (.iinc 4 2, 3) := by decide +kernel
theorem dX12_from_87 : decode cX12_from 87 = .ok (.goto (-38), 3) := by decide +kernel
theorem dX12_from_90 : decode cX12_from 90 = .ok (.iload_n 3, 1) := by decide +kernel
theorem dX12_from_91 : decode cX12_from 91 = .ok (.ifCond .eq 5, 3) := by decide +kernel
theorem dX12_from_94 : decode cX12_from 94 = .ok (.iload_n 3, 1) := by decide +kernel
theorem dX12_from_95 : decode cX12_from 95 = .ok (.ireturn, 1) := by decide +kernel
theorem dX12_from_96 : decode cX12_from 96 = .ok (.iconst 0, 1) := by decide +kernel
theorem dX12_from_97 : decode cX12_from 97 = .ok (.istore 4, 2) := by decide +kernel
theorem dX12_from_99 : decode cX12_from 99 = .ok (.bipush (-4), 2) := by decide +kernel
theorem dX12_from_101 : decode cX12_from 101 = .ok (.istore 5, 2) := by decide +kernel
theorem dX12_from_103 : decode cX12_from 103 = .ok (.iconst 0, 1) := by decide +kernel
theorem dX12_from_104 : decode cX12_from 104 = .ok (.istore 6, 2) := by decide +kernel
theorem dX12_from_106 : decode cX12_from 106 = .ok (.iload 6, 2) := by decide +kernel
theorem dX12_from_108 : decode cX12_from 108 = .ok (.bipush 20, 2) := by decide +kernel
theorem dX12_from_110 : decode cX12_from 110 = .ok (.if_icmp .ge 39, 3) := by decide +kernel
theorem dX12_from_113 : decode cX12_from 113 = .ok (.aload_n 0, 1) := by decide +kernel
theorem dX12_from_114 : decode cX12_from 114 = .ok (.iload_n 1, 1) := by decide +kernel
theorem dX12_from_115 : decode cX12_from 115 = .ok (.iload 6, 2) := by decide +kernel
theorem dX12_from_117 : decode cX12_from 117 = .ok (.invokevirtual 184, 3) := by decide +kernel
theorem dX12_from_120 : decode cX12_from 120 = .ok (.ifCond .ne 6, 3) := by decide +kernel
theorem dX12_from_123 : decode cX12_from 123 = .ok (.goto 20, 3) := by decide +kernel
theorem dX12_from_126 : decode cX12_from 126 = .ok (.iinc 4 1, 3) := by decide +kernel
theorem dX12_from_129 : decode cX12_from 129 = .ok (.iload 5, 2) := by decide +kernel
theorem dX12_from_131 : decode cX12_from 131 = .ok (.ifCond .ge 8, 3) := by decide +kernel
theorem dX12_from_134 : decode cX12_from 134 = .ok (.iload 6, 2) := by decide +kernel
theorem dX12_from_136 : decode cX12_from 136 = .ok (.goto 5, 3) := by decide +kernel
theorem dX12_from_139 : decode cX12_from 139 = .ok (.iload 5, 2) := by decide +kernel
theorem dX12_from_141 : decode cX12_from 141 = .ok (.istore 5, 2) := by decide +kernel
theorem dX12_from_143 : decode cX12_from 143 = .ok (.iinc 6 1, 3) := by decide +kernel
theorem dX12_from_146 : decode cX12_from 146 = .ok (.goto (-40), 3) := by decide +kernel
theorem dX12_from_149 : decode cX12_from 149 = .ok (.iload_n 2, 1) := by decide +kernel
theorem dX12_from_150 : decode cX12_from 150 = .ok (.ifCond .ne 8, 3) := by decide +kernel
theorem dX12_from_153 : decode cX12_from 153 = .ok (.iload 4, 2) := by decide +kernel
theorem dX12_from_155 : decode cX12_from 155 = .ok (.goto 5, 3) := by decide +kernel
theorem dX12_from_158 : decode cX12_from 158 = .ok (.iload 5, 2) := by decide +kernel
theorem dX12_from_160 : decode cX12_from 160 = .ok (.ireturn, 1) := by decide +kernel
theorem dX12_alikeAt_0 : decode cX12_alikeAt 0 = .ok (.iconst 0, 1) := by decide +kernel
theorem dX12_alikeAt_1 : decode cX12_alikeAt 1 = .ok (.istore_n 3, 1) := by decide +kernel
theorem dX12_alikeAt_2 : decode cX12_alikeAt 2 = .ok (.iconst 0, 1) := by decide +kernel
theorem dX12_alikeAt_3 : decode cX12_alikeAt 3 = .ok (.istore 4, 2) := by decide +kernel
theorem dX12_alikeAt_5 : decode cX12_alikeAt 5 = .ok (.iload 4, 2) := by decide +kernel
theorem dX12_alikeAt_7 : decode cX12_alikeAt 7 = .ok (.aload_n 0, 1) := by decide +kernel
theorem dX12_alikeAt_8 : decode cX12_alikeAt 8 = .ok (.getfield 28, 3) := by decide +kernel
theorem dX12_alikeAt_11 : decode cX12_alikeAt 11 = .ok (.iload_n 1, 1) := by decide +kernel
theorem dX12_alikeAt_12 : decode cX12_alikeAt 12 = .ok (.iaload, 1) := by decide +kernel
theorem dX12_alikeAt_13 : decode cX12_alikeAt 13 = .ok (.if_icmp .ge 92, 3) := by decide +kernel
theorem dX12_alikeAt_16 : decode cX12_alikeAt 16 = .ok (.iconst 0, 1) := by decide +kernel
theorem dX12_alikeAt_17 : decode cX12_alikeAt 17 = .ok (.istore 5, 2) := by decide +kernel
theorem dX12_alikeAt_19 : decode cX12_alikeAt 19 = .ok (.iconst 0, 1) := by decide +kernel
theorem dX12_alikeAt_20 : decode cX12_alikeAt 20 = .ok (.istore 6, 2) := by decide +kernel
theorem dX12_alikeAt_22 : decode cX12_alikeAt 22 = .ok (.iload 6, 2) := by decide +kernel
theorem dX12_alikeAt_24 : decode cX12_alikeAt 24 = .ok (.aload_n 0, 1) := by decide +kernel
theorem dX12_alikeAt_25 : decode cX12_alikeAt 25 = .ok (.getfield 28, 3) := by decide +kernel
theorem dX12_alikeAt_28 : decode cX12_alikeAt 28 = .ok (.iload_n 1, 1) := by decide +kernel
theorem dX12_alikeAt_29 : decode cX12_alikeAt 29 = .ok (.iaload, 1) := by decide +kernel
theorem dX12_alikeAt_30 : decode cX12_alikeAt 30 = .ok (.if_icmp .ge 56, 3) := by decide +kernel
theorem dX12_alikeAt_33 : decode cX12_alikeAt 33 = .ok (.iload 5, 2) := by decide +kernel
theorem dX12_alikeAt_35 : decode cX12_alikeAt 35 = .ok (.aload_n 0, 1) := by decide +kernel
theorem dX12_alikeAt_36 : decode cX12_alikeAt 36 = .ok (.getfield 52, 3) := by decide +kernel
theorem dX12_alikeAt_39 : decode cX12_alikeAt 39 = .ok (.bipush 20, 2) := by decide +kernel
theorem dX12_alikeAt_41 : decode cX12_alikeAt 41 = .ok (.aload_n 0, 1) := by decide +kernel
theorem dX12_alikeAt_42 : decode cX12_alikeAt 42 = .ok (.iload_n 1, 1) := by decide +kernel
theorem dX12_alikeAt_43 : decode cX12_alikeAt 43 = .ok (.iload 6, 2) := by decide +kernel
theorem dX12_alikeAt_45 : decode cX12_alikeAt 45 = .ok (.invokevirtual 181, 3) := by decide +kernel
theorem dX12_alikeAt_48 : decode cX12_alikeAt 48 = .ok (.imul, 1) := by decide +kernel
theorem dX12_alikeAt_49 : decode cX12_alikeAt 49 = .ok (.iload_n 2, 1) := by decide +kernel
theorem dX12_alikeAt_50 : decode cX12_alikeAt 50 = .ok (.iadd, 1) := by decide +kernel
theorem dX12_alikeAt_51 : decode cX12_alikeAt 51 = .ok (.iaload, 1) := by decide +kernel
theorem dX12_alikeAt_52 : decode cX12_alikeAt 52 = .ok (.aload_n 0, 1) := by decide +kernel
theorem dX12_alikeAt_53 : decode cX12_alikeAt 53 = .ok (.getfield 52, 3) := by decide +kernel
theorem dX12_alikeAt_56 : decode cX12_alikeAt 56 = .ok (.bipush 20, 2) := by decide +kernel
theorem dX12_alikeAt_58 : decode cX12_alikeAt 58 = .ok (.aload_n 0, 1) := by decide +kernel
theorem dX12_alikeAt_59 : decode cX12_alikeAt 59 = .ok (.iload_n 1, 1) := by decide +kernel
theorem dX12_alikeAt_60 : decode cX12_alikeAt 60 = .ok (.iload 4, 2) := by decide +kernel
theorem dX12_alikeAt_62 : decode cX12_alikeAt 62 = .ok (.invokevirtual 181, 3) := by decide +kernel
theorem dX12_alikeAt_65 : decode cX12_alikeAt 65 = .ok (.imul, 1) := by decide +kernel
theorem dX12_alikeAt_66 : decode cX12_alikeAt 66 = .ok (.iload_n 2, 1) := by decide +kernel
theorem dX12_alikeAt_67 : decode cX12_alikeAt 67 = .ok (.iadd, 1) := by decide +kernel
theorem dX12_alikeAt_68 : decode cX12_alikeAt 68 = .ok (.iaload, 1) := by decide +kernel
theorem dX12_alikeAt_69 : decode cX12_alikeAt 69 = .ok (.if_icmp .ne 7, 3) := by decide +kernel
theorem dX12_alikeAt_72 : decode cX12_alikeAt 72 = .ok (.iconst 1, 1) := by decide +kernel
theorem dX12_alikeAt_73 : decode cX12_alikeAt 73 = .ok (.goto 4, 3) := by decide +kernel
theorem dX12_alikeAt_76 : decode cX12_alikeAt 76 = .ok (.iconst 0, 1) := by decide +kernel
theorem dX12_alikeAt_77 : decode cX12_alikeAt 77 = .ok (.iadd, 1) := by decide +kernel
theorem dX12_alikeAt_78 : decode cX12_alikeAt 78 = .ok (.istore 5, 2) := by decide +kernel
theorem dX12_alikeAt_80 : decode cX12_alikeAt 80 = .ok (.iinc 6 1, 3) := by decide +kernel
theorem dX12_alikeAt_83 : decode cX12_alikeAt 83 = .ok (.goto (-61), 3) := by decide +kernel
theorem dX12_alikeAt_86 : decode cX12_alikeAt 86 = .ok (.iload 5, 2) := by decide +kernel
theorem dX12_alikeAt_88 : decode cX12_alikeAt 88 = .ok (.iload_n 3, 1) := by decide +kernel
theorem dX12_alikeAt_89 : decode cX12_alikeAt 89 = .ok (.if_icmp .le 8, 3) := by decide +kernel
theorem dX12_alikeAt_92 : decode cX12_alikeAt 92 = .ok (.iload 5, 2) := by decide +kernel
theorem dX12_alikeAt_94 : decode cX12_alikeAt 94 = .ok (.goto 4, 3) := by decide +kernel
theorem dX12_alikeAt_97 : decode cX12_alikeAt 97 = .ok (.iload_n 3, 1) := by decide +kernel
theorem dX12_alikeAt_98 : decode cX12_alikeAt 98 = .ok (.istore_n 3, 1) := by decide +kernel
theorem dX12_alikeAt_99 : decode cX12_alikeAt 99 = .ok (.iinc 4 1, 3) := by decide +kernel
theorem dX12_alikeAt_102 : decode cX12_alikeAt 102 = .ok (.goto (-97), 3) := by decide +kernel
theorem dX12_alikeAt_105 : decode cX12_alikeAt 105 = .ok (.iload_n 3, 1) := by decide +kernel
theorem dX12_alikeAt_106 : decode cX12_alikeAt 106 = .ok (.ireturn, 1) := by decide +kernel
theorem dX12_listen_0 : decode cX12_listen 0 = .ok (.iload_n 1, 1) := by decide +kernel
theorem dX12_listen_1 : decode cX12_listen 1 = .ok (.invokestatic 152, 3) := by decide +kernel
theorem dX12_listen_4 : decode cX12_listen 4 = .ok (.ifCond .eq 13, 3) := by decide +kernel
theorem dX12_listen_7 : decode cX12_listen 7 = .ok (.iload_n 2, 1) := by decide +kernel
theorem dX12_listen_8 : decode cX12_listen 8 = .ok (.i2l, 1) := by decide +kernel
theorem dX12_listen_9 : decode cX12_listen 9 = .ok (.lconst 0, 1) := by decide +kernel
theorem dX12_listen_10 : decode cX12_listen 10 = .ok (.lconst 1, 1) := by decide +kernel
theorem dX12_listen_11 : decode cX12_listen 11 = .ok (.invokestatic 67, 3) := by decide +kernel
theorem dX12_listen_14 : decode cX12_listen 14 = .ok (.ifCond .ne 7, 3) := by decide +kernel
theorem dX12_listen_17 : decode cX12_listen 17 = .ok (.iconst (-1), 1) := by decide +kernel
theorem dX12_listen_18 : decode cX12_listen 18 = .ok (.goto 9, 3) := by decide +kernel
theorem dX12_listen_21 : decode cX12_listen 21 = .ok (.aload_n 0, 1) := by decide +kernel
theorem dX12_listen_22 : decode cX12_listen 22 = .ok (.iload_n 1, 1) := by decide +kernel
theorem dX12_listen_23 : decode cX12_listen 23 = .ok (.iconst 0, 1) := by decide +kernel
theorem dX12_listen_24 : decode cX12_listen 24 = .ok (.invokevirtual 155, 3) := by decide +kernel
theorem dX12_listen_27 : decode cX12_listen 27 = .ok (.istore_n 3, 1) := by decide +kernel
theorem dX12_listen_28 : decode cX12_listen 28 = .ok (.iload_n 3, 1) := by decide +kernel
theorem dX12_listen_29 : decode cX12_listen 29 = .ok (.ifCond .ne 17, 3) := by decide +kernel
theorem dX12_listen_32 : decode cX12_listen 32 = .ok (.aload_n 0, 1) := by decide +kernel
theorem dX12_listen_33 : decode cX12_listen 33 = .ok (.getfield 28, 3) := by decide +kernel
theorem dX12_listen_36 : decode cX12_listen 36 = .ok (.iload_n 1, 1) := by decide +kernel
theorem dX12_listen_37 : decode cX12_listen 37 = .ok (.iaload, 1) := by decide +kernel
theorem dX12_listen_38 : decode cX12_listen 38 = .ok (.bipush 20, 2) := by decide +kernel
theorem dX12_listen_40 : decode cX12_listen 40 = .ok (.if_icmp .le 6, 3) := by decide +kernel
theorem dX12_listen_43 : decode cX12_listen 43 = .ok (.bipush (-13), 2) := by decide +kernel
theorem dX12_listen_45 : decode cX12_listen 45 = .ok (.istore_n 3, 1) := by decide +kernel
theorem dX12_listen_46 : decode cX12_listen 46 = .ok (.iconst 0, 1) := by decide +kernel
theorem dX12_listen_47 : decode cX12_listen 47 = .ok (.istore 4, 2) := by decide +kernel
theorem dX12_listen_49 : decode cX12_listen 49 = .ok (.iload_n 3, 1) := by decide +kernel
theorem dX12_listen_50 : decode cX12_listen 50 = .ok (.ifCond .ne 40, 3) := by decide +kernel
theorem dX12_listen_53 : decode cX12_listen 53 = .ok (.iload 4, 2) := by decide +kernel
theorem dX12_listen_55 : decode cX12_listen 55 = .ok (.aload_n 0, 1) := by decide +kernel
theorem dX12_listen_56 : decode cX12_listen 56 = .ok (.getfield 28, 3) := by decide +kernel
theorem dX12_listen_59 : decode cX12_listen 59 = .ok (.iload_n 1, 1) := by decide +kernel
theorem dX12_listen_60 : decode cX12_listen 60 = .ok (.iaload, 1) := by decide +kernel
theorem dX12_listen_61 : decode cX12_listen 61 = .ok (.if_icmp .ge 29, 3) := by decide +kernel
theorem dX12_listen_64 : decode cX12_listen 64 = .ok (.aload_n 0, 1) := by decide +kernel
theorem dX12_listen_65 : decode cX12_listen 65 = .ok (.iload_n 1, 1) := by decide +kernel
theorem dX12_listen_66 : decode cX12_listen 66 = .ok (.iload 4, 2) := by decide +kernel
theorem dX12_listen_68 : decode cX12_listen 68 = .ok (.invokevirtual 181, 3) := by decide +kernel
theorem dX12_listen_71 : decode cX12_listen 71 = .ok (.invokestatic 143, 3) := by decide +kernel
theorem dX12_listen_74 : decode cX12_listen 74 = .ok (.ifCond .eq 7, 3) := by decide +kernel
theorem dX12_listen_77 : decode cX12_listen 77 = .ok (.iconst 0, 1) := by decide +kernel
theorem dX12_listen_78 : decode cX12_listen 78 = .ok (.goto 5, 3) := by decide +kernel
theorem dX12_listen_81 : decode cX12_listen 81 = .ok (.bipush (-13), 2) := by decide +kernel
theorem dX12_listen_83 : decode cX12_listen 83 = .ok (.istore_n 3, 1) := by decide +kernel
theorem dX12_listen_84 : decode cX12_listen 84 = .ok (.iinc 4 1, 3) := by decide +kernel
theorem dX12_listen_87 : decode cX12_listen 87 = .ok (.goto (-38), 3) := by decide +kernel
theorem dX12_listen_90 : decode cX12_listen 90 = .ok (.iload_n 3, 1) := by decide +kernel
theorem dX12_listen_91 : decode cX12_listen 91 = .ok (.ifCond .eq 5, 3) := by decide +kernel
theorem dX12_listen_94 : decode cX12_listen 94 = .ok (.iload_n 3, 1) := by decide +kernel
theorem dX12_listen_95 : decode cX12_listen 95 = .ok (.ireturn, 1) := by decide +kernel
theorem dX12_listen_96 : decode cX12_listen 96 = .ok (.aload_n 0, 1) := by decide +kernel
theorem dX12_listen_97 : decode cX12_listen 97 = .ok (.getfield 28, 3) := by decide +kernel
theorem dX12_listen_100 : decode cX12_listen 100 = .ok (.iload_n 1, 1) := by decide +kernel
theorem dX12_listen_101 : decode cX12_listen 101 = .ok (.iaload, 1) := by decide +kernel
theorem dX12_listen_102 : decode cX12_listen 102 = .ok (.ifCond .ne 6, 3) := by decide +kernel
theorem dX12_listen_105 : decode cX12_listen 105 = .ok (.bipush (-4), 2) := by decide +kernel
theorem dX12_listen_107 : decode cX12_listen 107 = .ok (.ireturn, 1) := by decide +kernel
theorem dX12_listen_108 : decode cX12_listen 108 = .ok (.iconst 0, 1) := by decide +kernel
theorem dX12_listen_109 : decode cX12_listen 109 = .ok (.istore 4, 2) := by decide +kernel
theorem dX12_listen_111 : decode cX12_listen 111 = .ok (.iload 4, 2) := by decide +kernel
theorem dX12_listen_113 : decode cX12_listen 113 = .ok (.bipush 20, 2) := by decide +kernel
theorem dX12_listen_115 : decode cX12_listen 115 = .ok (.if_icmp .ge 51, 3) := by decide +kernel
theorem dX12_listen_118 : decode cX12_listen 118 = .ok (.aload_n 0, 1) := by decide +kernel
theorem dX12_listen_119 : decode cX12_listen 119 = .ok (.iload 4, 2) := by decide +kernel
theorem dX12_listen_121 : decode cX12_listen 121 = .ok (.invokevirtual 118, 3) := by decide +kernel
theorem dX12_listen_124 : decode cX12_listen 124 = .ok (.iconst 0, 1) := by decide +kernel
theorem dX12_listen_125 : decode cX12_listen 125 = .ok (.istore 5, 2) := by decide +kernel
theorem dX12_listen_127 : decode cX12_listen 127 = .ok (.iload 5, 2) := by decide +kernel
theorem dX12_listen_129 : decode cX12_listen 129 = .ok (.bipush 20, 2) := by decide +kernel
theorem dX12_listen_131 : decode cX12_listen 131 = .ok (.if_icmp .ge 29, 3) := by decide +kernel
theorem dX12_listen_134 : decode cX12_listen 134 = .ok (.aload_n 0, 1) := by decide +kernel
theorem dX12_listen_135 : decode cX12_listen 135 = .ok (.getfield 52, 3) := by decide +kernel
theorem dX12_listen_138 : decode cX12_listen 138 = .ok (.bipush 20, 2) := by decide +kernel
theorem dX12_listen_140 : decode cX12_listen 140 = .ok (.iload 4, 2) := by decide +kernel
theorem dX12_listen_142 : decode cX12_listen 142 = .ok (.imul, 1) := by decide +kernel
theorem dX12_listen_143 : decode cX12_listen 143 = .ok (.iload 5, 2) := by decide +kernel
theorem dX12_listen_145 : decode cX12_listen 145 = .ok (.iadd, 1) := by decide +kernel
theorem dX12_listen_146 : decode cX12_listen 146 = .ok (.aload_n 0, 1) := by decide +kernel
theorem dX12_listen_147 : decode cX12_listen 147 = .ok (.getfield 40, 3) := by decide +kernel
theorem dX12_listen_150 : decode cX12_listen 150 = .ok (.iload 5, 2) := by decide +kernel
theorem dX12_listen_152 : decode cX12_listen 152 = .ok (.iaload, 1) := by decide +kernel
theorem dX12_listen_153 : decode cX12_listen 153 = .ok (.iastore, 1) := by decide +kernel
theorem dX12_listen_154 : decode cX12_listen 154 = .ok (.iinc 5 1, 3) := by decide +kernel
theorem dX12_listen_157 : decode cX12_listen 157 = .ok (.goto (-30), 3) := by decide +kernel
theorem dX12_listen_160 : decode cX12_listen 160 = .ok (.iinc 4 1, 3) := by decide +kernel
theorem dX12_listen_163 : decode cX12_listen 163 = .ok (.goto (-52), 3) := by decide +kernel
theorem dX12_listen_166 : decode cX12_listen 166 = .ok (.iconst 0, 1) := by decide +kernel
theorem dX12_listen_167 : decode cX12_listen 167 = .ok (.istore 4, 2) := by decide +kernel
theorem dX12_listen_169 : decode cX12_listen 169 = .ok (.iconst 1, 1) := by decide +kernel
theorem dX12_listen_170 : decode cX12_listen 170 = .ok (.istore 5, 2) := by decide +kernel
theorem dX12_listen_172 : decode cX12_listen 172 = .ok (.iload 5, 2) := by decide +kernel
theorem dX12_listen_174 : decode cX12_listen 174 = .ok (.bipush 20, 2) := by decide +kernel
theorem dX12_listen_176 : decode cX12_listen 176 = .ok (.if_icmp .ge 30, 3) := by decide +kernel
theorem dX12_listen_179 : decode cX12_listen 179 = .ok (.aload_n 0, 1) := by decide +kernel
theorem dX12_listen_180 : decode cX12_listen 180 = .ok (.iload_n 1, 1) := by decide +kernel
theorem dX12_listen_181 : decode cX12_listen 181 = .ok (.iload 5, 2) := by decide +kernel
theorem dX12_listen_183 : decode cX12_listen 183 = .ok (.invokevirtual 187, 3) := by decide +kernel
theorem dX12_listen_186 : decode cX12_listen 186 = .ok (.aload_n 0, 1) := by decide +kernel
theorem dX12_listen_187 : decode cX12_listen 187 = .ok (.iload_n 1, 1) := by decide +kernel
theorem dX12_listen_188 : decode cX12_listen 188 = .ok (.iload 4, 2) := by decide +kernel
theorem dX12_listen_190 : decode cX12_listen 190 = .ok (.invokevirtual 187, 3) := by decide +kernel
theorem dX12_listen_193 : decode cX12_listen 193 = .ok (.if_icmp .ge 7, 3) := by decide +kernel
theorem dX12_listen_196 : decode cX12_listen 196 = .ok (.iload 5, 2) := by decide +kernel
theorem dX12_listen_198 : decode cX12_listen 198 = .ok (.istore 4, 2) := by decide +kernel
theorem dX12_listen_200 : decode cX12_listen 200 = .ok (.iinc 5 1, 3) := by decide +kernel
theorem dX12_listen_203 : decode cX12_listen 203 = .ok (.goto (-31), 3) := by decide +kernel
theorem dX12_listen_206 : decode cX12_listen 206 = .ok (.iload_n 2, 1) := by decide +kernel
theorem dX12_listen_207 : decode cX12_listen 207 = .ok (.ifCond .ne 8, 3) := by decide +kernel
theorem dX12_listen_210 : decode cX12_listen 210 = .ok (.iload 4, 2) := by decide +kernel
theorem dX12_listen_212 : decode cX12_listen 212 = .ok (.goto 10, 3) := by decide +kernel
theorem dX12_listen_215 : decode cX12_listen 215 = .ok (.aload_n 0, 1) := by decide +kernel
theorem dX12_listen_216 : decode cX12_listen 216 = .ok (.iload_n 1, 1) := by decide +kernel
theorem dX12_listen_217 : decode cX12_listen 217 = .ok (.iload 4, 2) := by decide +kernel
theorem dX12_listen_219 : decode cX12_listen 219 = .ok (.invokevirtual 187, 3) := by decide +kernel
theorem dX12_listen_222 : decode cX12_listen 222 = .ok (.ireturn, 1) := by decide +kernel
theorem dX12_rocks_0 : decode cX12_rocks 0 = .ok (.iload_n 1, 1) := by decide +kernel
theorem dX12_rocks_1 : decode cX12_rocks 1 = .ok (.invokestatic 143, 3) := by decide +kernel
theorem dX12_rocks_4 : decode cX12_rocks 4 = .ok (.ifCond .eq 30, 3) := by decide +kernel
theorem dX12_rocks_7 : decode cX12_rocks 7 = .ok (.iload_n 2, 1) := by decide +kernel
theorem dX12_rocks_8 : decode cX12_rocks 8 = .ok (.i2l, 1) := by decide +kernel
theorem dX12_rocks_9 : decode cX12_rocks 9 = .ok (.lconst 0, 1) := by decide +kernel
theorem dX12_rocks_10 : decode cX12_rocks 10 = .ok (.ldc2_w 190, 3) := by decide +kernel
theorem dX12_rocks_13 : decode cX12_rocks 13 = .ok (.invokestatic 67, 3) := by decide +kernel
theorem dX12_rocks_16 : decode cX12_rocks 16 = .ok (.ifCond .eq 18, 3) := by decide +kernel
theorem dX12_rocks_19 : decode cX12_rocks 19 = .ok (.iload_n 3, 1) := by decide +kernel
theorem dX12_rocks_20 : decode cX12_rocks 20 = .ok (.invokestatic 143, 3) := by decide +kernel
theorem dX12_rocks_23 : decode cX12_rocks 23 = .ok (.ifCond .eq 11, 3) := by decide +kernel
theorem dX12_rocks_26 : decode cX12_rocks 26 = .ok (.iload 4, 2) := by decide +kernel
theorem dX12_rocks_28 : decode cX12_rocks 28 = .ok (.invokestatic 143, 3) := by decide +kernel
theorem dX12_rocks_31 : decode cX12_rocks 31 = .ok (.ifCond .ne 5, 3) := by decide +kernel
theorem dX12_rocks_34 : decode cX12_rocks 34 = .ok (.iconst (-1), 1) := by decide +kernel
theorem dX12_rocks_35 : decode cX12_rocks 35 = .ok (.ireturn, 1) := by decide +kernel
theorem dX12_rocks_36 : decode cX12_rocks 36 = .ok (.aload_n 0, 1) := by decide +kernel
theorem dX12_rocks_37 : decode cX12_rocks 37 = .ok (.invokevirtual 192, 3) := by decide +kernel
theorem dX12_rocks_40 : decode cX12_rocks 40 = .ok (.iconst 0, 1) := by decide +kernel
theorem dX12_rocks_41 : decode cX12_rocks 41 = .ok (.istore 6, 2) := by decide +kernel
theorem dX12_rocks_43 : decode cX12_rocks 43 = .ok (.iconst 0, 1) := by decide +kernel
theorem dX12_rocks_44 : decode cX12_rocks 44 = .ok (.istore 7, 2) := by decide +kernel
theorem dX12_rocks_46 : decode cX12_rocks 46 = .ok (.iload 7, 2) := by decide +kernel
theorem dX12_rocks_48 : decode cX12_rocks 48 = .ok (.bipush 8, 2) := by decide +kernel
theorem dX12_rocks_50 : decode cX12_rocks 50 = .ok (.if_icmp .ge 42, 3) := by decide +kernel
theorem dX12_rocks_53 : decode cX12_rocks 53 = .ok (.aload_n 0, 1) := by decide +kernel
theorem dX12_rocks_54 : decode cX12_rocks 54 = .ok (.iload_n 1, 1) := by decide +kernel
theorem dX12_rocks_55 : decode cX12_rocks 55 = .ok (.iload 7, 2) := by decide +kernel
theorem dX12_rocks_57 : decode cX12_rocks 57 = .ok (.iload_n 2, 1) := by decide +kernel
theorem dX12_rocks_58 : decode cX12_rocks 58 = .ok (.invokevirtual 103, 3) := by decide +kernel
theorem dX12_rocks_61 : decode cX12_rocks 61 = .ok (.iload 6, 2) := by decide +kernel
theorem dX12_rocks_63 : decode cX12_rocks 63 = .ok (.aload_n 0, 1) := by decide +kernel
theorem dX12_rocks_64 : decode cX12_rocks 64 = .ok (.iload_n 3, 1) := by decide +kernel
theorem dX12_rocks_65 : decode cX12_rocks 65 = .ok (.iload 4, 2) := by decide +kernel
theorem dX12_rocks_67 : decode cX12_rocks 67 = .ok (.invokevirtual 173, 3) := by decide +kernel
theorem dX12_rocks_70 : decode cX12_rocks 70 = .ok (.iload 5, 2) := by decide +kernel
theorem dX12_rocks_72 : decode cX12_rocks 72 = .ok (.if_icmp .ne 10, 3) := by decide +kernel
theorem dX12_rocks_75 : decode cX12_rocks 75 = .ok (.iconst 1, 1) := by decide +kernel
theorem dX12_rocks_76 : decode cX12_rocks 76 = .ok (.iload 7, 2) := by decide +kernel
theorem dX12_rocks_78 : decode cX12_rocks 78 = .ok (.ishl, 1) := by decide +kernel
theorem dX12_rocks_79 : decode cX12_rocks 79 = .ok (.goto 4, 3) := by decide +kernel
theorem dX12_rocks_82 : decode cX12_rocks 82 = .ok (.iconst 0, 1) := by decide +kernel
theorem dX12_rocks_83 : decode cX12_rocks 83 = .ok (.ior, 1) := by decide +kernel
theorem dX12_rocks_84 : decode cX12_rocks 84 = .ok (.istore 6, 2) := by decide +kernel
theorem dX12_rocks_86 : decode cX12_rocks 86 = .ok (.iinc 7 1, 3) := by decide +kernel
theorem dX12_rocks_89 : decode cX12_rocks 89 = .ok (.goto (-43), 3) := by decide +kernel
theorem dX12_rocks_92 : decode cX12_rocks 92 = .ok (.aload_n 0, 1) := by decide +kernel
theorem dX12_rocks_93 : decode cX12_rocks 93 = .ok (.invokevirtual 195, 3) := by decide +kernel
theorem dX12_rocks_96 : decode cX12_rocks 96 = .ok (.iload 6, 2) := by decide +kernel
theorem dX12_rocks_98 : decode cX12_rocks 98 = .ok (.ireturn, 1) := by decide +kernel
theorem dX12_findsToils_0 : decode cX12_findsToils 0 = .ok (.iconst 0, 1) := by decide +kernel
theorem dX12_findsToils_1 : decode cX12_findsToils 1 = .ok (.istore_n 2, 1) := by decide +kernel
theorem dX12_findsToils_2 : decode cX12_findsToils 2 = .ok (.iload_n 2, 1) := by decide +kernel
theorem dX12_findsToils_3 : decode cX12_findsToils 3 = .ok (.bipush 20, 2) := by decide +kernel
theorem dX12_findsToils_5 : decode cX12_findsToils 5 = .ok (.if_icmp .ge 26, 3) := by decide +kernel
theorem dX12_findsToils_8 : decode cX12_findsToils 8 = .ok (.aload_n 0, 1) := by decide +kernel
theorem dX12_findsToils_9 : decode cX12_findsToils 9 = .ok (.getfield 55, 3) := by decide +kernel
theorem dX12_findsToils_12 : decode cX12_findsToils 12 = .ok (.iload_n 2, 1) := by decide +kernel
theorem dX12_findsToils_13 : decode cX12_findsToils 13 = .ok (.iload_n 2, 1) := by decide +kernel
theorem dX12_findsToils_14 : decode cX12_findsToils 14 = .ok (.iload_n 1, 1) := by decide +kernel
theorem dX12_findsToils_15 : decode cX12_findsToils 15 = .ok (.if_icmp .ne 7, 3) := by decide +kernel
theorem dX12_findsToils_18 : decode cX12_findsToils 18 = .ok (.iconst 0, 1) := by decide +kernel
theorem dX12_findsToils_19 : decode cX12_findsToils 19 = .ok (.goto 5, 3) := by decide +kernel
theorem dX12_findsToils_22 : decode cX12_findsToils 22 = .ok (.ldc 113, 2) := by decide +kernel
theorem dX12_findsToils_24 : decode cX12_findsToils 24 = .ok (.iastore, 1) := by decide +kernel
theorem dX12_findsToils_25 : decode cX12_findsToils 25 = .ok (.iinc 2 1, 3) := by decide +kernel
theorem dX12_findsToils_28 : decode cX12_findsToils 28 = .ok (.goto (-26), 3) := by decide +kernel
theorem dX12_findsToils_31 : decode cX12_findsToils 31 = .ok (.iconst 0, 1) := by decide +kernel
theorem dX12_findsToils_32 : decode cX12_findsToils 32 = .ok (.istore_n 2, 1) := by decide +kernel
theorem dX12_findsToils_33 : decode cX12_findsToils 33 = .ok (.iload_n 2, 1) := by decide +kernel
theorem dX12_findsToils_34 : decode cX12_findsToils 34 = .ok (.bipush 20, 2) := by decide +kernel
theorem dX12_findsToils_36 : decode cX12_findsToils 36 = .ok (.if_icmp .ge 94, 3) := by decide +kernel
theorem dX12_findsToils_39 : decode cX12_findsToils 39 = .ok (.iconst 0, 1) := by decide +kernel
theorem dX12_findsToils_40 : decode cX12_findsToils 40 = .ok (.istore_n 3, 1) := by decide +kernel
theorem dX12_findsToils_41 : decode cX12_findsToils 41 = .ok (.iload_n 3, 1) := by decide +kernel
theorem dX12_findsToils_42 : decode cX12_findsToils 42 = .ok (.bipush 20, 2) := by decide +kernel
theorem dX12_findsToils_44 : decode cX12_findsToils 44 = .ok (.if_icmp .ge 80, 3) := by decide +kernel
theorem dX12_findsToils_47 : decode cX12_findsToils 47 = .ok (.iconst 0, 1) := by decide +kernel
theorem dX12_findsToils_48 : decode cX12_findsToils 48 = .ok (.istore 4, 2) := by decide +kernel
theorem dX12_findsToils_50 : decode cX12_findsToils 50 = .ok (.iload 4, 2) := by decide +kernel
theorem dX12_findsToils_52 : decode cX12_findsToils 52 = .ok (.iconst 4, 1) := by decide +kernel
theorem dX12_findsToils_53 : decode cX12_findsToils 53 = .ok (.if_icmp .ge 65, 3) := by decide +kernel
theorem dX12_findsToils_56 : decode cX12_findsToils 56 = .ok (.iload_n 3, 1) := by decide +kernel
theorem dX12_findsToils_57 : decode cX12_findsToils 57 = .ok (.iload 4, 2) := by decide +kernel
theorem dX12_findsToils_59 : decode cX12_findsToils 59 = .ok (.invokestatic 97, 3) := by decide +kernel
theorem dX12_findsToils_62 : decode cX12_findsToils 62 = .ok (.istore 5, 2) := by decide +kernel
theorem dX12_findsToils_64 : decode cX12_findsToils 64 = .ok (.iload 5, 2) := by decide +kernel
theorem dX12_findsToils_66 : decode cX12_findsToils 66 = .ok (.ifCond .lt 46, 3) := by decide +kernel
theorem dX12_findsToils_69 : decode cX12_findsToils 69 = .ok (.aload_n 0, 1) := by decide +kernel
theorem dX12_findsToils_70 : decode cX12_findsToils 70 = .ok (.getfield 55, 3) := by decide +kernel
theorem dX12_findsToils_73 : decode cX12_findsToils 73 = .ok (.iload_n 3, 1) := by decide +kernel
theorem dX12_findsToils_74 : decode cX12_findsToils 74 = .ok (.iaload, 1) := by decide +kernel
theorem dX12_findsToils_75 : decode cX12_findsToils 75 = .ok (.aload_n 0, 1) := by decide +kernel
theorem dX12_findsToils_76 : decode cX12_findsToils 76 = .ok (.iload 5, 2) := by decide +kernel
theorem dX12_findsToils_78 : decode cX12_findsToils 78 = .ok (.invokevirtual 100, 3) := by decide +kernel
theorem dX12_findsToils_81 : decode cX12_findsToils 81 = .ok (.iadd, 1) := by decide +kernel
theorem dX12_findsToils_82 : decode cX12_findsToils 82 = .ok (.aload_n 0, 1) := by decide +kernel
theorem dX12_findsToils_83 : decode cX12_findsToils 83 = .ok (.getfield 55, 3) := by decide +kernel
theorem dX12_findsToils_86 : decode cX12_findsToils 86 = .ok (.iload 5, 2) := by decide +kernel
theorem dX12_findsToils_88 : decode cX12_findsToils 88 = .ok (.iaload, 1) := by decide +kernel
theorem dX12_findsToils_89 : decode cX12_findsToils 89 = .ok (.if_icmp .ge 23, 3) := by decide +kernel
theorem dX12_findsToils_92 : decode cX12_findsToils 92 = .ok (.aload_n 0, 1) := by decide +kernel
theorem dX12_findsToils_93 : decode cX12_findsToils 93 = .ok (.getfield 55, 3) := by decide +kernel
theorem dX12_findsToils_96 : decode cX12_findsToils 96 = .ok (.iload 5, 2) := by decide +kernel
theorem dX12_findsToils_98 : decode cX12_findsToils 98 = .ok (.aload_n 0, 1) := by decide +kernel
theorem dX12_findsToils_99 : decode cX12_findsToils 99 = .ok (.getfield 55, 3) := by decide +kernel
theorem dX12_findsToils_102 : decode cX12_findsToils 102 = .ok (.iload_n 3, 1) := by decide +kernel
theorem dX12_findsToils_103 : decode cX12_findsToils 103 = .ok (.iaload, 1) := by decide +kernel
theorem dX12_findsToils_104 : decode cX12_findsToils 104 = .ok (.aload_n 0, 1) := by decide +kernel
theorem dX12_findsToils_105 : decode cX12_findsToils 105 = .ok (.iload 5, 2) := by decide +kernel
theorem dX12_findsToils_107 : decode cX12_findsToils 107 = .ok (.invokevirtual 100, 3) := by decide +kernel
theorem dX12_findsToils_110 : decode cX12_findsToils 110 = .ok (.iadd, 1) := by decide +kernel
theorem dX12_findsToils_111 : decode cX12_findsToils 111 = .ok (.iastore, 1) := by decide +kernel
theorem dX12_findsToils_112 : decode cX12_findsToils 112 = .ok (.iinc 4 1, 3) := by decide +kernel
theorem dX12_findsToils_115 : decode cX12_findsToils 115 = .ok (.goto (-65), 3) := by decide +kernel
theorem dX12_findsToils_118 : decode cX12_findsToils 118 = .ok (.iinc 3 1, 3) := by decide +kernel
theorem dX12_findsToils_121 : decode cX12_findsToils 121 = .ok (.goto (-80), 3) := by decide +kernel
theorem dX12_findsToils_124 : decode cX12_findsToils 124 = .ok (.iinc 2 1, 3) := by decide +kernel
theorem dX12_findsToils_127 : decode cX12_findsToils 127 = .ok (.goto (-94), 3) := by decide +kernel
theorem dX12_findsToils_130 : decode cX12_findsToils 130 = .ok (.return_, 1) := by decide +kernel
theorem dX12_toils_0 : decode cX12_toils 0 = .ok (.aload_n 0, 1) := by decide +kernel
theorem dX12_toils_1 : decode cX12_toils 1 = .ok (.iconst 0, 1) := by decide +kernel
theorem dX12_toils_2 : decode cX12_toils 2 = .ok (.invokevirtual 94, 3) := by decide +kernel
theorem dX12_toils_5 : decode cX12_toils 5 = .ok (.istore_n 1, 1) := by decide +kernel
theorem dX12_toils_6 : decode cX12_toils 6 = .ok (.aload_n 0, 1) := by decide +kernel
theorem dX12_toils_7 : decode cX12_toils 7 = .ok (.iconst 1, 1) := by decide +kernel
theorem dX12_toils_8 : decode cX12_toils 8 = .ok (.invokevirtual 94, 3) := by decide +kernel
theorem dX12_toils_11 : decode cX12_toils 11 = .ok (.istore_n 2, 1) := by decide +kernel
theorem dX12_toils_12 : decode cX12_toils 12 = .ok (.iload_n 1, 1) := by decide +kernel
theorem dX12_toils_13 : decode cX12_toils 13 = .ok (.iload_n 2, 1) := by decide +kernel
theorem dX12_toils_14 : decode cX12_toils 14 = .ok (.if_icmp .ne 5, 3) := by decide +kernel
theorem dX12_toils_17 : decode cX12_toils 17 = .ok (.iconst 0, 1) := by decide +kernel
theorem dX12_toils_18 : decode cX12_toils 18 = .ok (.ireturn, 1) := by decide +kernel
theorem dX12_toils_19 : decode cX12_toils 19 = .ok (.aload_n 0, 1) := by decide +kernel
theorem dX12_toils_20 : decode cX12_toils 20 = .ok (.iload_n 1, 1) := by decide +kernel
theorem dX12_toils_21 : decode cX12_toils 21 = .ok (.invokevirtual 198, 3) := by decide +kernel
theorem dX12_toils_24 : decode cX12_toils 24 = .ok (.aload_n 0, 1) := by decide +kernel
theorem dX12_toils_25 : decode cX12_toils 25 = .ok (.getfield 55, 3) := by decide +kernel
theorem dX12_toils_28 : decode cX12_toils 28 = .ok (.iload_n 2, 1) := by decide +kernel
theorem dX12_toils_29 : decode cX12_toils 29 = .ok (.iaload, 1) := by decide +kernel
theorem dX12_toils_30 : decode cX12_toils 30 = .ok (.aload_n 0, 1) := by decide +kernel
theorem dX12_toils_31 : decode cX12_toils 31 = .ok (.iload_n 2, 1) := by decide +kernel
theorem dX12_toils_32 : decode cX12_toils 32 = .ok (.invokevirtual 100, 3) := by decide +kernel
theorem dX12_toils_35 : decode cX12_toils 35 = .ok (.isub, 1) := by decide +kernel
theorem dX12_toils_36 : decode cX12_toils 36 = .ok (.ireturn, 1) := by decide +kernel
theorem dX12_soonNow_0 : decode cX12_soonNow 0 = .ok (.aload_n 0, 1) := by decide +kernel
theorem dX12_soonNow_1 : decode cX12_soonNow 1 = .ok (.invokevirtual 170, 3) := by decide +kernel
theorem dX12_soonNow_4 : decode cX12_soonNow 4 = .ok (.ifCond .eq 5, 3) := by decide +kernel
theorem dX12_soonNow_7 : decode cX12_soonNow 7 = .ok (.iconst 0, 1) := by decide +kernel
theorem dX12_soonNow_8 : decode cX12_soonNow 8 = .ok (.ireturn, 1) := by decide +kernel
theorem dX12_soonNow_9 : decode cX12_soonNow 9 = .ok (.aload_n 0, 1) := by decide +kernel
theorem dX12_soonNow_10 : decode cX12_soonNow 10 = .ok (.aload_n 0, 1) := by decide +kernel
theorem dX12_soonNow_11 : decode cX12_soonNow 11 = .ok (.iconst 1, 1) := by decide +kernel
theorem dX12_soonNow_12 : decode cX12_soonNow 12 = .ok (.invokevirtual 94, 3) := by decide +kernel
theorem dX12_soonNow_15 : decode cX12_soonNow 15 = .ok (.invokevirtual 198, 3) := by decide +kernel
theorem dX12_soonNow_18 : decode cX12_soonNow 18 = .ok (.iconst 0, 1) := by decide +kernel
theorem dX12_soonNow_19 : decode cX12_soonNow 19 = .ok (.istore_n 1, 1) := by decide +kernel
theorem dX12_soonNow_20 : decode cX12_soonNow 20 = .ok (.iload_n 1, 1) := by decide +kernel
theorem dX12_soonNow_21 : decode cX12_soonNow 21 = .ok (.bipush 20, 2) := by decide +kernel
theorem dX12_soonNow_23 : decode cX12_soonNow 23 = .ok (.if_icmp .ge 21, 3) := by decide +kernel
theorem dX12_soonNow_26 : decode cX12_soonNow 26 = .ok (.aload_n 0, 1) := by decide +kernel
theorem dX12_soonNow_27 : decode cX12_soonNow 27 = .ok (.getfield 58, 3) := by decide +kernel
theorem dX12_soonNow_30 : decode cX12_soonNow 30 = .ok (.iload_n 1, 1) := by decide +kernel
theorem dX12_soonNow_31 : decode cX12_soonNow 31 = .ok (.aload_n 0, 1) := by decide +kernel
theorem dX12_soonNow_32 : decode cX12_soonNow 32 = .ok (.getfield 55, 3) := by decide +kernel
theorem dX12_soonNow_35 : decode cX12_soonNow 35 = .ok (.iload_n 1, 1) := by decide +kernel
theorem dX12_soonNow_36 : decode cX12_soonNow 36 = .ok (.iaload, 1) := by decide +kernel
theorem dX12_soonNow_37 : decode cX12_soonNow 37 = .ok (.iastore, 1) := by decide +kernel
theorem dX12_soonNow_38 : decode cX12_soonNow 38 = .ok (.iinc 1 1, 3) := by decide +kernel
theorem dX12_soonNow_41 : decode cX12_soonNow 41 = .ok (.goto (-21), 3) := by decide +kernel
theorem dX12_soonNow_44 : decode cX12_soonNow 44 = .ok (.aload_n 0, 1) := by decide +kernel
theorem dX12_soonNow_45 : decode cX12_soonNow 45 = .ok (.aload_n 0, 1) := by decide +kernel
theorem dX12_soonNow_46 : decode cX12_soonNow 46 = .ok (.iconst 0, 1) := by decide +kernel
theorem dX12_soonNow_47 : decode cX12_soonNow 47 = .ok (.invokevirtual 94, 3) := by decide +kernel
theorem dX12_soonNow_50 : decode cX12_soonNow 50 = .ok (.invokevirtual 198, 3) := by decide +kernel
theorem dX12_soonNow_53 : decode cX12_soonNow 53 = .ok (.ldc 113, 2) := by decide +kernel
theorem dX12_soonNow_55 : decode cX12_soonNow 55 = .ok (.istore_n 1, 1) := by decide +kernel
theorem dX12_soonNow_56 : decode cX12_soonNow 56 = .ok (.iconst 0, 1) := by decide +kernel
theorem dX12_soonNow_57 : decode cX12_soonNow 57 = .ok (.istore_n 2, 1) := by decide +kernel
theorem dX12_soonNow_58 : decode cX12_soonNow 58 = .ok (.iload_n 2, 1) := by decide +kernel
theorem dX12_soonNow_59 : decode cX12_soonNow 59 = .ok (.bipush 20, 2) := by decide +kernel
theorem dX12_soonNow_61 : decode cX12_soonNow 61 = .ok (.if_icmp .ge 84, 3) := by decide +kernel
theorem dX12_soonNow_64 : decode cX12_soonNow 64 = .ok (.iconst 0, 1) := by decide +kernel
theorem dX12_soonNow_65 : decode cX12_soonNow 65 = .ok (.istore_n 3, 1) := by decide +kernel
theorem dX12_soonNow_66 : decode cX12_soonNow 66 = .ok (.iload_n 3, 1) := by decide +kernel
theorem dX12_soonNow_67 : decode cX12_soonNow 67 = .ok (.iconst 4, 1) := by decide +kernel
theorem dX12_soonNow_68 : decode cX12_soonNow 68 = .ok (.if_icmp .ge 71, 3) := by decide +kernel
theorem dX12_soonNow_71 : decode cX12_soonNow 71 = .ok (.iload_n 2, 1) := by decide +kernel
theorem dX12_soonNow_72 : decode cX12_soonNow 72 = .ok (.iload_n 3, 1) := by decide +kernel
theorem dX12_soonNow_73 : decode cX12_soonNow 73 = .ok (.invokestatic 97, 3) := by decide +kernel
theorem dX12_soonNow_76 : decode cX12_soonNow 76 = .ok (.istore 4, 2) := by decide +kernel
theorem dX12_soonNow_78 : decode cX12_soonNow 78 = .ok (.iload 4, 2) := by decide +kernel
theorem dX12_soonNow_80 : decode cX12_soonNow 80 = .ok (.ifCond .ge 6, 3) := by decide +kernel
theorem dX12_soonNow_83 : decode cX12_soonNow 83 = .ok (.goto 50, 3) := by decide +kernel
theorem dX12_soonNow_86 : decode cX12_soonNow 86 = .ok (.aload_n 0, 1) := by decide +kernel
theorem dX12_soonNow_87 : decode cX12_soonNow 87 = .ok (.getfield 55, 3) := by decide +kernel
theorem dX12_soonNow_90 : decode cX12_soonNow 90 = .ok (.iload_n 2, 1) := by decide +kernel
theorem dX12_soonNow_91 : decode cX12_soonNow 91 = .ok (.iaload, 1) := by decide +kernel
theorem dX12_soonNow_92 : decode cX12_soonNow 92 = .ok (.aload_n 0, 1) := by decide +kernel
theorem dX12_soonNow_93 : decode cX12_soonNow 93 = .ok (.getfield 58, 3) := by decide +kernel
theorem dX12_soonNow_96 : decode cX12_soonNow 96 = .ok (.iload 4, 2) := by decide +kernel
theorem dX12_soonNow_98 : decode cX12_soonNow 98 = .ok (.iaload, 1) := by decide +kernel
theorem dX12_soonNow_99 : decode cX12_soonNow 99 = .ok (.if_icmp .le 12, 3) := by decide +kernel
theorem dX12_soonNow_102 : decode cX12_soonNow 102 = .ok (.aload_n 0, 1) := by decide +kernel
theorem dX12_soonNow_103 : decode cX12_soonNow 103 = .ok (.getfield 55, 3) := by decide +kernel
theorem dX12_soonNow_106 : decode cX12_soonNow 106 = .ok (.iload_n 2, 1) := by decide +kernel
theorem dX12_soonNow_107 : decode cX12_soonNow 107 = .ok (.iaload, 1) := by decide +kernel
theorem dX12_soonNow_108 : decode cX12_soonNow 108 = .ok (.goto 10, 3) := by decide +kernel
theorem dX12_soonNow_111 : decode cX12_soonNow 111 = .ok (.aload_n 0, 1) := by decide +kernel
theorem dX12_soonNow_112 : decode cX12_soonNow 112 = .ok (.getfield 58, 3) := by decide +kernel
theorem dX12_soonNow_115 : decode cX12_soonNow 115 = .ok (.iload 4, 2) := by decide +kernel
theorem dX12_soonNow_117 : decode cX12_soonNow 117 = .ok (.iaload, 1) := by decide +kernel
theorem dX12_soonNow_118 : decode cX12_soonNow 118 = .ok (.istore 5, 2) := by decide +kernel
theorem dX12_soonNow_120 : decode cX12_soonNow 120 = .ok (.iload 5, 2) := by decide +kernel
theorem dX12_soonNow_122 : decode cX12_soonNow 122 = .ok (.iload_n 1, 1) := by decide +kernel
theorem dX12_soonNow_123 : decode cX12_soonNow 123 = .ok (.if_icmp .ge 8, 3) := by decide +kernel
theorem dX12_soonNow_126 : decode cX12_soonNow 126 = .ok (.iload 5, 2) := by decide +kernel
theorem dX12_soonNow_128 : decode cX12_soonNow 128 = .ok (.goto 4, 3) := by decide +kernel
theorem dX12_soonNow_131 : decode cX12_soonNow 131 = .ok (.iload_n 1, 1) := by decide +kernel
theorem dX12_soonNow_132 : decode cX12_soonNow 132 = .ok (.istore_n 1, 1) := by decide +kernel
theorem dX12_soonNow_133 : decode cX12_soonNow 133 = .ok (.iinc 3 1, 3) := by decide +kernel
theorem dX12_soonNow_136 : decode cX12_soonNow 136 = .ok (.goto (-70), 3) := by decide +kernel
theorem dX12_soonNow_139 : decode cX12_soonNow 139 = .ok (.iinc 2 1, 3) := by decide +kernel
theorem dX12_soonNow_142 : decode cX12_soonNow 142 = .ok (.goto (-84), 3) := by decide +kernel
theorem dX12_soonNow_145 : decode cX12_soonNow 145 = .ok (.iload_n 1, 1) := by decide +kernel
theorem dX12_soonNow_146 : decode cX12_soonNow 146 = .ok (.ireturn, 1) := by decide +kernel
theorem dX12_soon_0 : decode cX12_soon 0 = .ok (.aload_n 0, 1) := by decide +kernel
theorem dX12_soon_1 : decode cX12_soon 1 = .ok (.invokevirtual 201, 3) := by decide +kernel
theorem dX12_soon_4 : decode cX12_soon 4 = .ok (.ireturn, 1) := by decide +kernel
theorem dX12_side_0 : decode cX12_side 0 = .ok (.iload_n 1, 1) := by decide +kernel
theorem dX12_side_1 : decode cX12_side 1 = .ok (.invokestatic 146, 3) := by decide +kernel
theorem dX12_side_4 : decode cX12_side 4 = .ok (.ifCond .eq 13, 3) := by decide +kernel
theorem dX12_side_7 : decode cX12_side 7 = .ok (.iload_n 2, 1) := by decide +kernel
theorem dX12_side_8 : decode cX12_side 8 = .ok (.i2l, 1) := by decide +kernel
theorem dX12_side_9 : decode cX12_side 9 = .ok (.lconst 0, 1) := by decide +kernel
theorem dX12_side_10 : decode cX12_side 10 = .ok (.lconst 1, 1) := by decide +kernel
theorem dX12_side_11 : decode cX12_side 11 = .ok (.invokestatic 67, 3) := by decide +kernel
theorem dX12_side_14 : decode cX12_side 14 = .ok (.ifCond .ne 5, 3) := by decide +kernel
theorem dX12_side_17 : decode cX12_side 17 = .ok (.iconst (-1), 1) := by decide +kernel
theorem dX12_side_18 : decode cX12_side 18 = .ok (.ireturn, 1) := by decide +kernel
theorem dX12_side_19 : decode cX12_side 19 = .ok (.aload_n 0, 1) := by decide +kernel
theorem dX12_side_20 : decode cX12_side 20 = .ok (.invokevirtual 192, 3) := by decide +kernel
theorem dX12_side_23 : decode cX12_side 23 = .ok (.bipush (-4), 2) := by decide +kernel
theorem dX12_side_25 : decode cX12_side 25 = .ok (.istore_n 3, 1) := by decide +kernel
theorem dX12_side_26 : decode cX12_side 26 = .ok (.bipush (-4), 2) := by decide +kernel
theorem dX12_side_28 : decode cX12_side 28 = .ok (.istore 4, 2) := by decide +kernel
theorem dX12_side_30 : decode cX12_side 30 = .ok (.iconst 0, 1) := by decide +kernel
theorem dX12_side_31 : decode cX12_side 31 = .ok (.istore 5, 2) := by decide +kernel
theorem dX12_side_33 : decode cX12_side 33 = .ok (.iload 5, 2) := by decide +kernel
theorem dX12_side_35 : decode cX12_side 35 = .ok (.iconst 4, 1) := by decide +kernel
theorem dX12_side_36 : decode cX12_side 36 = .ok (.if_icmp .ge 53, 3) := by decide +kernel
theorem dX12_side_39 : decode cX12_side 39 = .ok (.aload_n 0, 1) := by decide +kernel
theorem dX12_side_40 : decode cX12_side 40 = .ok (.iload_n 1, 1) := by decide +kernel
theorem dX12_side_41 : decode cX12_side 41 = .ok (.iload 5, 2) := by decide +kernel
theorem dX12_side_43 : decode cX12_side 43 = .ok (.invokevirtual 149, 3) := by decide +kernel
theorem dX12_side_46 : decode cX12_side 46 = .ok (.ifCond .ne 6, 3) := by decide +kernel
theorem dX12_side_49 : decode cX12_side 49 = .ok (.goto 34, 3) := by decide +kernel
theorem dX12_side_52 : decode cX12_side 52 = .ok (.aload_n 0, 1) := by decide +kernel
theorem dX12_side_53 : decode cX12_side 53 = .ok (.invokevirtual 201, 3) := by decide +kernel
theorem dX12_side_56 : decode cX12_side 56 = .ok (.istore 6, 2) := by decide +kernel
theorem dX12_side_58 : decode cX12_side 58 = .ok (.aload_n 0, 1) := by decide +kernel
theorem dX12_side_59 : decode cX12_side 59 = .ok (.invokevirtual 195, 3) := by decide +kernel
theorem dX12_side_62 : decode cX12_side 62 = .ok (.iload_n 3, 1) := by decide +kernel
theorem dX12_side_63 : decode cX12_side 63 = .ok (.ifCond .lt 13, 3) := by decide +kernel
theorem dX12_side_66 : decode cX12_side 66 = .ok (.iload 6, 2) := by decide +kernel
theorem dX12_side_68 : decode cX12_side 68 = .ok (.iload 4, 2) := by decide +kernel
theorem dX12_side_70 : decode cX12_side 70 = .ok (.if_icmp .lt 6, 3) := by decide +kernel
theorem dX12_side_73 : decode cX12_side 73 = .ok (.goto 10, 3) := by decide +kernel
theorem dX12_side_76 : decode cX12_side 76 = .ok (.iload 5, 2) := by decide +kernel
theorem dX12_side_78 : decode cX12_side 78 = .ok (.istore_n 3, 1) := by decide +kernel
theorem dX12_side_79 : decode cX12_side 79 = .ok (.iload 6, 2) := by decide +kernel
theorem dX12_side_81 : decode cX12_side 81 = .ok (.istore 4, 2) := by decide +kernel
theorem dX12_side_83 : decode cX12_side 83 = .ok (.iinc 5 1, 3) := by decide +kernel
theorem dX12_side_86 : decode cX12_side 86 = .ok (.goto (-53), 3) := by decide +kernel
theorem dX12_side_89 : decode cX12_side 89 = .ok (.iload_n 2, 1) := by decide +kernel
theorem dX12_side_90 : decode cX12_side 90 = .ok (.ifCond .ne 7, 3) := by decide +kernel
theorem dX12_side_93 : decode cX12_side 93 = .ok (.iload_n 3, 1) := by decide +kernel
theorem dX12_side_94 : decode cX12_side 94 = .ok (.goto 5, 3) := by decide +kernel
theorem dX12_side_97 : decode cX12_side 97 = .ok (.iload 4, 2) := by decide +kernel
theorem dX12_side_99 : decode cX12_side 99 = .ok (.ireturn, 1) := by decide +kernel
theorem dX12_bits_0 : decode cX12_bits 0 = .ok (.iconst 0, 1) := by decide +kernel
theorem dX12_bits_1 : decode cX12_bits 1 = .ok (.istore_n 1, 1) := by decide +kernel
theorem dX12_bits_2 : decode cX12_bits 2 = .ok (.iload_n 0, 1) := by decide +kernel
theorem dX12_bits_3 : decode cX12_bits 3 = .ok (.istore_n 2, 1) := by decide +kernel
theorem dX12_bits_4 : decode cX12_bits 4 = .ok (.iload_n 2, 1) := by decide +kernel
theorem dX12_bits_5 : decode cX12_bits 5 = .ok (.ifCond .le 16, 3) := by decide +kernel
theorem dX12_bits_8 : decode cX12_bits 8 = .ok (.iload_n 1, 1) := by decide +kernel
theorem dX12_bits_9 : decode cX12_bits 9 = .ok (.iload_n 2, 1) := by decide +kernel
theorem dX12_bits_10 : decode cX12_bits 10 = .ok (.iconst 1, 1) := by decide +kernel
theorem dX12_bits_11 : decode cX12_bits 11 = .ok (.iand, 1) := by decide +kernel
theorem dX12_bits_12 : decode cX12_bits 12 = .ok (.iadd, 1) := by decide +kernel
theorem dX12_bits_13 : decode cX12_bits 13 = .ok (.istore_n 1, 1) := by decide +kernel
theorem dX12_bits_14 : decode cX12_bits 14 = .ok (.iload_n 2, 1) := by decide +kernel
theorem dX12_bits_15 : decode cX12_bits 15 = .ok (.iconst 1, 1) := by decide +kernel
theorem dX12_bits_16 : decode cX12_bits 16 = .ok (.ishr, 1) := by decide +kernel
theorem dX12_bits_17 : decode cX12_bits 17 = .ok (.istore_n 2, 1) := by decide +kernel
theorem dX12_bits_18 : decode cX12_bits 18 = .ok (.goto (-14), 3) := by decide +kernel
theorem dX12_bits_21 : decode cX12_bits 21 = .ok (.iload_n 1, 1) := by decide +kernel
theorem dX12_bits_22 : decode cX12_bits 22 = .ok (.ireturn, 1) := by decide +kernel
theorem dX12_areTaken_0 : decode cX12_areTaken 0 = .ok (.iload_n 0, 1) := by decide +kernel
theorem dX12_areTaken_1 : decode cX12_areTaken 1 = .ok (.iload_n 1, 1) := by decide +kernel
theorem dX12_areTaken_2 : decode cX12_areTaken 2 = .ok (.iconst (-1), 1) := by decide +kernel
theorem dX12_areTaken_3 : decode cX12_areTaken 3 = .ok (.ixor, 1) := by decide +kernel
theorem dX12_areTaken_4 : decode cX12_areTaken 4 = .ok (.iand, 1) := by decide +kernel
theorem dX12_areTaken_5 : decode cX12_areTaken 5 = .ok (.invokestatic 204, 3) := by decide +kernel
theorem dX12_areTaken_8 : decode cX12_areTaken 8 = .ok (.iload_n 2, 1) := by decide +kernel
theorem dX12_areTaken_9 : decode cX12_areTaken 9 = .ok (.if_icmp .gt 19, 3) := by decide +kernel
theorem dX12_areTaken_12 : decode cX12_areTaken 12 = .ok (.iload_n 1, 1) := by decide +kernel
theorem dX12_areTaken_13 : decode cX12_areTaken 13 = .ok (.iload_n 0, 1) := by decide +kernel
theorem dX12_areTaken_14 : decode cX12_areTaken 14 = .ok (.iconst (-1), 1) := by decide +kernel
theorem dX12_areTaken_15 : decode cX12_areTaken 15 = .ok (.ixor, 1) := by decide +kernel
theorem dX12_areTaken_16 : decode cX12_areTaken 16 = .ok (.iand, 1) := by decide +kernel
theorem dX12_areTaken_17 : decode cX12_areTaken 17 = .ok (.invokestatic 204, 3) := by decide +kernel
theorem dX12_areTaken_20 : decode cX12_areTaken 20 = .ok (.iload_n 2, 1) := by decide +kernel
theorem dX12_areTaken_21 : decode cX12_areTaken 21 = .ok (.if_icmp .gt 7, 3) := by decide +kernel
theorem dX12_areTaken_24 : decode cX12_areTaken 24 = .ok (.iconst 1, 1) := by decide +kernel
theorem dX12_areTaken_25 : decode cX12_areTaken 25 = .ok (.goto 4, 3) := by decide +kernel
theorem dX12_areTaken_28 : decode cX12_areTaken 28 = .ok (.iconst 0, 1) := by decide +kernel
theorem dX12_areTaken_29 : decode cX12_areTaken 29 = .ok (.ireturn, 1) := by decide +kernel
theorem dX12_taken_0 : decode cX12_taken 0 = .ok (.iload_n 1, 1) := by decide +kernel
theorem dX12_taken_1 : decode cX12_taken 1 = .ok (.i2l, 1) := by decide +kernel
theorem dX12_taken_2 : decode cX12_taken 2 = .ok (.lconst 0, 1) := by decide +kernel
theorem dX12_taken_3 : decode cX12_taken 3 = .ok (.ldc2_w 207, 3) := by decide +kernel
theorem dX12_taken_6 : decode cX12_taken 6 = .ok (.invokestatic 67, 3) := by decide +kernel
theorem dX12_taken_9 : decode cX12_taken 9 = .ok (.ifCond .eq 27, 3) := by decide +kernel
theorem dX12_taken_12 : decode cX12_taken 12 = .ok (.iload_n 2, 1) := by decide +kernel
theorem dX12_taken_13 : decode cX12_taken 13 = .ok (.i2l, 1) := by decide +kernel
theorem dX12_taken_14 : decode cX12_taken 14 = .ok (.lconst 0, 1) := by decide +kernel
theorem dX12_taken_15 : decode cX12_taken 15 = .ok (.ldc2_w 207, 3) := by decide +kernel
theorem dX12_taken_18 : decode cX12_taken 18 = .ok (.invokestatic 67, 3) := by decide +kernel
theorem dX12_taken_21 : decode cX12_taken 21 = .ok (.ifCond .eq 15, 3) := by decide +kernel
theorem dX12_taken_24 : decode cX12_taken 24 = .ok (.iload_n 3, 1) := by decide +kernel
theorem dX12_taken_25 : decode cX12_taken 25 = .ok (.i2l, 1) := by decide +kernel
theorem dX12_taken_26 : decode cX12_taken 26 = .ok (.lconst 0, 1) := by decide +kernel
theorem dX12_taken_27 : decode cX12_taken 27 = .ok (.ldc2_w 209, 3) := by decide +kernel
theorem dX12_taken_30 : decode cX12_taken 30 = .ok (.invokestatic 67, 3) := by decide +kernel
theorem dX12_taken_33 : decode cX12_taken 33 = .ok (.ifCond .ne 7, 3) := by decide +kernel
theorem dX12_taken_36 : decode cX12_taken 36 = .ok (.iconst (-1), 1) := by decide +kernel
theorem dX12_taken_37 : decode cX12_taken 37 = .ok (.goto 17, 3) := by decide +kernel
theorem dX12_taken_40 : decode cX12_taken 40 = .ok (.iload_n 1, 1) := by decide +kernel
theorem dX12_taken_41 : decode cX12_taken 41 = .ok (.iload_n 2, 1) := by decide +kernel
theorem dX12_taken_42 : decode cX12_taken 42 = .ok (.iload_n 3, 1) := by decide +kernel
theorem dX12_taken_43 : decode cX12_taken 43 = .ok (.invokestatic 211, 3) := by decide +kernel
theorem dX12_taken_46 : decode cX12_taken 46 = .ok (.ifCond .eq 7, 3) := by decide +kernel
theorem dX12_taken_49 : decode cX12_taken 49 = .ok (.iconst 1, 1) := by decide +kernel
theorem dX12_taken_50 : decode cX12_taken 50 = .ok (.goto 4, 3) := by decide +kernel
theorem dX12_taken_53 : decode cX12_taken 53 = .ok (.iconst 0, 1) := by decide +kernel
theorem dX12_taken_54 : decode cX12_taken 54 = .ok (.ireturn, 1) := by decide +kernel
theorem dX12_isSafe_0 : decode cX12_isSafe 0 = .ok (.iconst 0, 1) := by decide +kernel
theorem dX12_isSafe_1 : decode cX12_isSafe 1 = .ok (.istore 4, 2) := by decide +kernel
theorem dX12_isSafe_3 : decode cX12_isSafe 3 = .ok (.iload 4, 2) := by decide +kernel
theorem dX12_isSafe_5 : decode cX12_isSafe 5 = .ok (.aload_n 0, 1) := by decide +kernel
theorem dX12_isSafe_6 : decode cX12_isSafe 6 = .ok (.getfield 28, 3) := by decide +kernel
theorem dX12_isSafe_9 : decode cX12_isSafe 9 = .ok (.iload_n 1, 1) := by decide +kernel
theorem dX12_isSafe_10 : decode cX12_isSafe 10 = .ok (.iaload, 1) := by decide +kernel
theorem dX12_isSafe_11 : decode cX12_isSafe 11 = .ok (.if_icmp .ge 76, 3) := by decide +kernel
theorem dX12_isSafe_14 : decode cX12_isSafe 14 = .ok (.iconst 0, 1) := by decide +kernel
theorem dX12_isSafe_15 : decode cX12_isSafe 15 = .ok (.istore 5, 2) := by decide +kernel
theorem dX12_isSafe_17 : decode cX12_isSafe 17 = .ok (.iload 5, 2) := by decide +kernel
theorem dX12_isSafe_19 : decode cX12_isSafe 19 = .ok (.iload 4, 2) := by decide +kernel
theorem dX12_isSafe_21 : decode cX12_isSafe 21 = .ok (.if_icmp .ge 60, 3) := by decide +kernel
theorem dX12_isSafe_24 : decode cX12_isSafe 24 = .ok (.iload_n 3, 1) := by decide +kernel
theorem dX12_isSafe_25 : decode cX12_isSafe 25 = .ok (.iload 4, 2) := by decide +kernel
theorem dX12_isSafe_27 : decode cX12_isSafe 27 = .ok (.ishr, 1) := by decide +kernel
theorem dX12_isSafe_28 : decode cX12_isSafe 28 = .ok (.iconst 1, 1) := by decide +kernel
theorem dX12_isSafe_29 : decode cX12_isSafe 29 = .ok (.iand, 1) := by decide +kernel
theorem dX12_isSafe_30 : decode cX12_isSafe 30 = .ok (.iconst 1, 1) := by decide +kernel
theorem dX12_isSafe_31 : decode cX12_isSafe 31 = .ok (.if_icmp .ne 44, 3) := by decide +kernel
theorem dX12_isSafe_34 : decode cX12_isSafe 34 = .ok (.iload_n 3, 1) := by decide +kernel
theorem dX12_isSafe_35 : decode cX12_isSafe 35 = .ok (.iload 5, 2) := by decide +kernel
theorem dX12_isSafe_37 : decode cX12_isSafe 37 = .ok (.ishr, 1) := by decide +kernel
theorem dX12_isSafe_38 : decode cX12_isSafe 38 = .ok (.iconst 1, 1) := by decide +kernel
theorem dX12_isSafe_39 : decode cX12_isSafe 39 = .ok (.iand, 1) := by decide +kernel
theorem dX12_isSafe_40 : decode cX12_isSafe 40 = .ok (.iconst 1, 1) := by decide +kernel
theorem dX12_isSafe_41 : decode cX12_isSafe 41 = .ok (.if_icmp .ne 34, 3) := by decide +kernel
theorem dX12_isSafe_44 : decode cX12_isSafe 44 = .ok (.aload_n 0, 1) := by decide +kernel
theorem dX12_isSafe_45 : decode cX12_isSafe 45 = .ok (.iload_n 1, 1) := by decide +kernel
theorem dX12_isSafe_46 : decode cX12_isSafe 46 = .ok (.iload 4, 2) := by decide +kernel
theorem dX12_isSafe_48 : decode cX12_isSafe 48 = .ok (.invokevirtual 181, 3) := by decide +kernel
theorem dX12_isSafe_51 : decode cX12_isSafe 51 = .ok (.sipush 255, 3) := by decide +kernel
theorem dX12_isSafe_54 : decode cX12_isSafe 54 = .ok (.iand, 1) := by decide +kernel
theorem dX12_isSafe_55 : decode cX12_isSafe 55 = .ok (.aload_n 0, 1) := by decide +kernel
theorem dX12_isSafe_56 : decode cX12_isSafe 56 = .ok (.iload_n 1, 1) := by decide +kernel
theorem dX12_isSafe_57 : decode cX12_isSafe 57 = .ok (.iload 5, 2) := by decide +kernel
theorem dX12_isSafe_59 : decode cX12_isSafe 59 = .ok (.invokevirtual 181, 3) := by decide +kernel
theorem dX12_isSafe_62 : decode cX12_isSafe 62 = .ok (.sipush 255, 3) := by decide +kernel
theorem dX12_isSafe_65 : decode cX12_isSafe 65 = .ok (.iand, 1) := by decide +kernel
theorem dX12_isSafe_66 : decode cX12_isSafe 66 = .ok (.iload_n 2, 1) := by decide +kernel
theorem dX12_isSafe_67 : decode cX12_isSafe 67 = .ok (.invokestatic 211, 3) := by decide +kernel
theorem dX12_isSafe_70 : decode cX12_isSafe 70 = .ok (.ifCond .eq 5, 3) := by decide +kernel
theorem dX12_isSafe_73 : decode cX12_isSafe 73 = .ok (.iconst 0, 1) := by decide +kernel
theorem dX12_isSafe_74 : decode cX12_isSafe 74 = .ok (.ireturn, 1) := by decide +kernel
theorem dX12_isSafe_75 : decode cX12_isSafe 75 = .ok (.iinc 5 1, 3) := by decide +kernel
theorem dX12_isSafe_78 : decode cX12_isSafe 78 = .ok (.goto (-61), 3) := by decide +kernel
theorem dX12_isSafe_81 : decode cX12_isSafe 81 = .ok (.iinc 4 1, 3) := by decide +kernel
theorem dX12_isSafe_84 : decode cX12_isSafe 84 = .ok (.goto (-81), 3) := by decide +kernel
theorem dX12_isSafe_87 : decode cX12_isSafe 87 = .ok (.iconst 1, 1) := by decide +kernel
theorem dX12_isSafe_88 : decode cX12_isSafe 88 = .ok (.ireturn, 1) := by decide +kernel
theorem dX12_safe_0 : decode cX12_safe 0 = .ok (.iload_n 1, 1) := by decide +kernel
theorem dX12_safe_1 : decode cX12_safe 1 = .ok (.invokestatic 152, 3) := by decide +kernel
theorem dX12_safe_4 : decode cX12_safe 4 = .ok (.ifCond .eq 25, 3) := by decide +kernel
theorem dX12_safe_7 : decode cX12_safe 7 = .ok (.iload_n 2, 1) := by decide +kernel
theorem dX12_safe_8 : decode cX12_safe 8 = .ok (.i2l, 1) := by decide +kernel
theorem dX12_safe_9 : decode cX12_safe 9 = .ok (.lconst 0, 1) := by decide +kernel
theorem dX12_safe_10 : decode cX12_safe 10 = .ok (.ldc2_w 209, 3) := by decide +kernel
theorem dX12_safe_13 : decode cX12_safe 13 = .ok (.invokestatic 67, 3) := by decide +kernel
theorem dX12_safe_16 : decode cX12_safe 16 = .ok (.ifCond .eq 13, 3) := by decide +kernel
theorem dX12_safe_19 : decode cX12_safe 19 = .ok (.iload_n 3, 1) := by decide +kernel
theorem dX12_safe_20 : decode cX12_safe 20 = .ok (.i2l, 1) := by decide +kernel
theorem dX12_safe_21 : decode cX12_safe 21 = .ok (.lconst 0, 1) := by decide +kernel
theorem dX12_safe_22 : decode cX12_safe 22 = .ok (.lconst 1, 1) := by decide +kernel
theorem dX12_safe_23 : decode cX12_safe 23 = .ok (.invokestatic 67, 3) := by decide +kernel
theorem dX12_safe_26 : decode cX12_safe 26 = .ok (.ifCond .ne 7, 3) := by decide +kernel
theorem dX12_safe_29 : decode cX12_safe 29 = .ok (.iconst (-1), 1) := by decide +kernel
theorem dX12_safe_30 : decode cX12_safe 30 = .ok (.goto 9, 3) := by decide +kernel
theorem dX12_safe_33 : decode cX12_safe 33 = .ok (.aload_n 0, 1) := by decide +kernel
theorem dX12_safe_34 : decode cX12_safe 34 = .ok (.iload_n 1, 1) := by decide +kernel
theorem dX12_safe_35 : decode cX12_safe 35 = .ok (.iconst 0, 1) := by decide +kernel
theorem dX12_safe_36 : decode cX12_safe 36 = .ok (.invokevirtual 155, 3) := by decide +kernel
theorem dX12_safe_39 : decode cX12_safe 39 = .ok (.istore 4, 2) := by decide +kernel
theorem dX12_safe_41 : decode cX12_safe 41 = .ok (.iload 4, 2) := by decide +kernel
theorem dX12_safe_43 : decode cX12_safe 43 = .ok (.ifCond .ne 18, 3) := by decide +kernel
theorem dX12_safe_46 : decode cX12_safe 46 = .ok (.aload_n 0, 1) := by decide +kernel
theorem dX12_safe_47 : decode cX12_safe 47 = .ok (.getfield 28, 3) := by decide +kernel
theorem dX12_safe_50 : decode cX12_safe 50 = .ok (.iload_n 1, 1) := by decide +kernel
theorem dX12_safe_51 : decode cX12_safe 51 = .ok (.iaload, 1) := by decide +kernel
theorem dX12_safe_52 : decode cX12_safe 52 = .ok (.bipush 8, 2) := by decide +kernel
theorem dX12_safe_54 : decode cX12_safe 54 = .ok (.if_icmp .le 7, 3) := by decide +kernel
theorem dX12_safe_57 : decode cX12_safe 57 = .ok (.bipush (-13), 2) := by decide +kernel
theorem dX12_safe_59 : decode cX12_safe 59 = .ok (.istore 4, 2) := by decide +kernel
theorem dX12_safe_61 : decode cX12_safe 61 = .ok (.iload 4, 2) := by decide +kernel
theorem dX12_safe_63 : decode cX12_safe 63 = .ok (.ifCond .eq 6, 3) := by decide +kernel
theorem dX12_safe_66 : decode cX12_safe 66 = .ok (.iload 4, 2) := by decide +kernel
theorem dX12_safe_68 : decode cX12_safe 68 = .ok (.ireturn, 1) := by decide +kernel
theorem dX12_safe_69 : decode cX12_safe 69 = .ok (.iconst 0, 1) := by decide +kernel
theorem dX12_safe_70 : decode cX12_safe 70 = .ok (.istore 5, 2) := by decide +kernel
theorem dX12_safe_72 : decode cX12_safe 72 = .ok (.iconst 1, 1) := by decide +kernel
theorem dX12_safe_73 : decode cX12_safe 73 = .ok (.istore 6, 2) := by decide +kernel
theorem dX12_safe_75 : decode cX12_safe 75 = .ok (.iload 6, 2) := by decide +kernel
theorem dX12_safe_77 : decode cX12_safe 77 = .ok (.iconst 1, 1) := by decide +kernel
theorem dX12_safe_78 : decode cX12_safe 78 = .ok (.aload_n 0, 1) := by decide +kernel
theorem dX12_safe_79 : decode cX12_safe 79 = .ok (.getfield 28, 3) := by decide +kernel
theorem dX12_safe_82 : decode cX12_safe 82 = .ok (.iload_n 1, 1) := by decide +kernel
theorem dX12_safe_83 : decode cX12_safe 83 = .ok (.iaload, 1) := by decide +kernel
theorem dX12_safe_84 : decode cX12_safe 84 = .ok (.ishl, 1) := by decide +kernel
theorem dX12_safe_85 : decode cX12_safe 85 = .ok (.if_icmp .ge 37, 3) := by decide +kernel
theorem dX12_safe_88 : decode cX12_safe 88 = .ok (.iload 6, 2) := by decide +kernel
theorem dX12_safe_90 : decode cX12_safe 90 = .ok (.invokestatic 204, 3) := by decide +kernel
theorem dX12_safe_93 : decode cX12_safe 93 = .ok (.iload 5, 2) := by decide +kernel
theorem dX12_safe_95 : decode cX12_safe 95 = .ok (.invokestatic 204, 3) := by decide +kernel
theorem dX12_safe_98 : decode cX12_safe 98 = .ok (.if_icmp .le 18, 3) := by decide +kernel
theorem dX12_safe_101 : decode cX12_safe 101 = .ok (.aload_n 0, 1) := by decide +kernel
theorem dX12_safe_102 : decode cX12_safe 102 = .ok (.iload_n 1, 1) := by decide +kernel
theorem dX12_safe_103 : decode cX12_safe 103 = .ok (.iload_n 2, 1) := by decide +kernel
theorem dX12_safe_104 : decode cX12_safe 104 = .ok (.iload 6, 2) := by decide +kernel
theorem dX12_safe_106 : decode cX12_safe 106 = .ok (.invokevirtual 215, 3) := by decide +kernel
theorem dX12_safe_109 : decode cX12_safe 109 = .ok (.ifCond .eq 7, 3) := by decide +kernel
theorem dX12_safe_112 : decode cX12_safe 112 = .ok (.iload 6, 2) := by decide +kernel
theorem dX12_safe_114 : decode cX12_safe 114 = .ok (.istore 5, 2) := by decide +kernel
theorem dX12_safe_116 : decode cX12_safe 116 = .ok (.iinc 6 1, 3) := by decide +kernel
theorem dX12_safe_119 : decode cX12_safe 119 = .ok (.goto (-44), 3) := by decide +kernel
theorem dX12_safe_122 : decode cX12_safe 122 = .ok (.iload_n 3, 1) := by decide +kernel
theorem dX12_safe_123 : decode cX12_safe 123 = .ok (.ifCond .ne 8, 3) := by decide +kernel
theorem dX12_safe_126 : decode cX12_safe 126 = .ok (.iload 5, 2) := by decide +kernel
theorem dX12_safe_128 : decode cX12_safe 128 = .ok (.goto 8, 3) := by decide +kernel
theorem dX12_safe_131 : decode cX12_safe 131 = .ok (.iload 5, 2) := by decide +kernel
theorem dX12_safe_133 : decode cX12_safe 133 = .ok (.invokestatic 204, 3) := by decide +kernel
theorem dX12_safe_136 : decode cX12_safe 136 = .ok (.ireturn, 1) := by decide +kernel
theorem dX12_drawn_0 : decode cX12_drawn 0 = .ok (.aload_n 0, 1) := by decide +kernel
theorem dX12_drawn_1 : decode cX12_drawn 1 = .ok (.aload_n 0, 1) := by decide +kernel
theorem dX12_drawn_2 : decode cX12_drawn 2 = .ok (.getfield 218, 3) := by decide +kernel
theorem dX12_drawn_5 : decode cX12_drawn 5 = .ok (.ldc 221, 2) := by decide +kernel
theorem dX12_drawn_7 : decode cX12_drawn 7 = .ok (.imul, 1) := by decide +kernel
theorem dX12_drawn_8 : decode cX12_drawn 8 = .ok (.sipush 12345, 3) := by decide +kernel
theorem dX12_drawn_11 : decode cX12_drawn 11 = .ok (.iadd, 1) := by decide +kernel
theorem dX12_drawn_12 : decode cX12_drawn 12 = .ok (.putfield 218, 3) := by decide +kernel
theorem dX12_drawn_15 : decode cX12_drawn 15 = .ok (.aload_n 0, 1) := by decide +kernel
theorem dX12_drawn_16 : decode cX12_drawn 16 = .ok (.getfield 218, 3) := by decide +kernel
theorem dX12_drawn_19 : decode cX12_drawn 19 = .ok (.ldc 222, 2) := by decide +kernel
theorem dX12_drawn_21 : decode cX12_drawn 21 = .ok (.iand, 1) := by decide +kernel
theorem dX12_drawn_22 : decode cX12_drawn 22 = .ok (.ldc 223, 2) := by decide +kernel
theorem dX12_drawn_24 : decode cX12_drawn 24 = .ok (.idiv, 1) := by decide +kernel
theorem dX12_drawn_25 : decode cX12_drawn 25 = .ok (.iload_n 1, 1) := by decide +kernel
theorem dX12_drawn_26 : decode cX12_drawn 26 = .ok (.irem, 1) := by decide +kernel
theorem dX12_drawn_27 : decode cX12_drawn 27 = .ok (.ireturn, 1) := by decide +kernel
theorem dX12_hours_0 : decode cX12_hours 0 = .ok (.aload_n 0, 1) := by decide +kernel
theorem dX12_hours_1 : decode cX12_hours 1 = .ok (.getfield 9, 3) := by decide +kernel
theorem dX12_hours_4 : decode cX12_hours 4 = .ok (.bipush 41, 2) := by decide +kernel
theorem dX12_hours_6 : decode cX12_hours 6 = .ok (.iaload, 1) := by decide +kernel
theorem dX12_hours_7 : decode cX12_hours 7 = .ok (.aload_n 0, 1) := by decide +kernel
theorem dX12_hours_8 : decode cX12_hours 8 = .ok (.getfield 9, 3) := by decide +kernel
theorem dX12_hours_11 : decode cX12_hours 11 = .ok (.bipush 43, 2) := by decide +kernel
theorem dX12_hours_13 : decode cX12_hours 13 = .ok (.iaload, 1) := by decide +kernel
theorem dX12_hours_14 : decode cX12_hours 14 = .ok (.iadd, 1) := by decide +kernel
theorem dX12_hours_15 : decode cX12_hours 15 = .ok (.ireturn, 1) := by decide +kernel
theorem dX12_seeded_0 : decode cX12_seeded 0 = .ok (.iload_n 1, 1) := by decide +kernel
theorem dX12_seeded_1 : decode cX12_seeded 1 = .ok (.i2l, 1) := by decide +kernel
theorem dX12_seeded_2 : decode cX12_seeded 2 = .ok (.lconst 1, 1) := by decide +kernel
theorem dX12_seeded_3 : decode cX12_seeded 3 = .ok (.ldc2_w 224, 3) := by decide +kernel
theorem dX12_seeded_6 : decode cX12_seeded 6 = .ok (.invokestatic 67, 3) := by decide +kernel
theorem dX12_seeded_9 : decode cX12_seeded 9 = .ok (.ifCond .eq 13, 3) := by decide +kernel
theorem dX12_seeded_12 : decode cX12_seeded 12 = .ok (.iload_n 3, 1) := by decide +kernel
theorem dX12_seeded_13 : decode cX12_seeded 13 = .ok (.i2l, 1) := by decide +kernel
theorem dX12_seeded_14 : decode cX12_seeded 14 = .ok (.lconst 0, 1) := by decide +kernel
theorem dX12_seeded_15 : decode cX12_seeded 15 = .ok (.lconst 1, 1) := by decide +kernel
theorem dX12_seeded_16 : decode cX12_seeded 16 = .ok (.invokestatic 67, 3) := by decide +kernel
theorem dX12_seeded_19 : decode cX12_seeded 19 = .ok (.ifCond .ne 5, 3) := by decide +kernel
theorem dX12_seeded_22 : decode cX12_seeded 22 = .ok (.iconst (-1), 1) := by decide +kernel
theorem dX12_seeded_23 : decode cX12_seeded 23 = .ok (.ireturn, 1) := by decide +kernel
theorem dX12_seeded_24 : decode cX12_seeded 24 = .ok (.aload_n 0, 1) := by decide +kernel
theorem dX12_seeded_25 : decode cX12_seeded 25 = .ok (.invokevirtual 192, 3) := by decide +kernel
theorem dX12_seeded_28 : decode cX12_seeded 28 = .ok (.aload_n 0, 1) := by decide +kernel
theorem dX12_seeded_29 : decode cX12_seeded 29 = .ok (.iload_n 2, 1) := by decide +kernel
theorem dX12_seeded_30 : decode cX12_seeded 30 = .ok (.putfield 218, 3) := by decide +kernel
theorem dX12_seeded_33 : decode cX12_seeded 33 = .ok (.aload_n 0, 1) := by decide +kernel
theorem dX12_seeded_34 : decode cX12_seeded 34 = .ok (.invokevirtual 170, 3) := by decide +kernel
theorem dX12_seeded_37 : decode cX12_seeded 37 = .ok (.ifCond .eq 7, 3) := by decide +kernel
theorem dX12_seeded_40 : decode cX12_seeded 40 = .ok (.iconst 0, 1) := by decide +kernel
theorem dX12_seeded_41 : decode cX12_seeded 41 = .ok (.goto 5, 3) := by decide +kernel
theorem dX12_seeded_44 : decode cX12_seeded 44 = .ok (.bipush (-4), 2) := by decide +kernel
theorem dX12_seeded_46 : decode cX12_seeded 46 = .ok (.istore 4, 2) := by decide +kernel
theorem dX12_seeded_48 : decode cX12_seeded 48 = .ok (.iconst 1, 1) := by decide +kernel
theorem dX12_seeded_49 : decode cX12_seeded 49 = .ok (.istore 5, 2) := by decide +kernel
theorem dX12_seeded_51 : decode cX12_seeded 51 = .ok (.iload 5, 2) := by decide +kernel
theorem dX12_seeded_53 : decode cX12_seeded 53 = .ok (.iload_n 1, 1) := by decide +kernel
theorem dX12_seeded_54 : decode cX12_seeded 54 = .ok (.if_icmp .gt 45, 3) := by decide +kernel
theorem dX12_seeded_57 : decode cX12_seeded 57 = .ok (.aload_n 0, 1) := by decide +kernel
theorem dX12_seeded_58 : decode cX12_seeded 58 = .ok (.iconst 2, 1) := by decide +kernel
theorem dX12_seeded_59 : decode cX12_seeded 59 = .ok (.invokevirtual 226, 3) := by decide +kernel
theorem dX12_seeded_62 : decode cX12_seeded 62 = .ok (.istore 6, 2) := by decide +kernel
theorem dX12_seeded_64 : decode cX12_seeded 64 = .ok (.aload_n 0, 1) := by decide +kernel
theorem dX12_seeded_65 : decode cX12_seeded 65 = .ok (.iload 6, 2) := by decide +kernel
theorem dX12_seeded_67 : decode cX12_seeded 67 = .ok (.aload_n 0, 1) := by decide +kernel
theorem dX12_seeded_68 : decode cX12_seeded 68 = .ok (.iconst 4, 1) := by decide +kernel
theorem dX12_seeded_69 : decode cX12_seeded 69 = .ok (.invokevirtual 226, 3) := by decide +kernel
theorem dX12_seeded_72 : decode cX12_seeded 72 = .ok (.invokevirtual 149, 3) := by decide +kernel
theorem dX12_seeded_75 : decode cX12_seeded 75 = .ok (.istore 7, 2) := by decide +kernel
theorem dX12_seeded_77 : decode cX12_seeded 77 = .ok (.iload 4, 2) := by decide +kernel
theorem dX12_seeded_79 : decode cX12_seeded 79 = .ok (.ifCond .ge 14, 3) := by decide +kernel
theorem dX12_seeded_82 : decode cX12_seeded 82 = .ok (.aload_n 0, 1) := by decide +kernel
theorem dX12_seeded_83 : decode cX12_seeded 83 = .ok (.invokevirtual 170, 3) := by decide +kernel
theorem dX12_seeded_86 : decode cX12_seeded 86 = .ok (.ifCond .eq 7, 3) := by decide +kernel
theorem dX12_seeded_89 : decode cX12_seeded 89 = .ok (.iload 5, 2) := by decide +kernel
theorem dX12_seeded_91 : decode cX12_seeded 91 = .ok (.istore 4, 2) := by decide +kernel
theorem dX12_seeded_93 : decode cX12_seeded 93 = .ok (.iinc 5 1, 3) := by decide +kernel
theorem dX12_seeded_96 : decode cX12_seeded 96 = .ok (.goto (-45), 3) := by decide +kernel
theorem dX12_seeded_99 : decode cX12_seeded 99 = .ok (.aload_n 0, 1) := by decide +kernel
theorem dX12_seeded_100 : decode cX12_seeded 100 = .ok (.invokevirtual 229, 3) := by decide +kernel
theorem dX12_seeded_103 : decode cX12_seeded 103 = .ok (.istore 5, 2) := by decide +kernel
theorem dX12_seeded_105 : decode cX12_seeded 105 = .ok (.aload_n 0, 1) := by decide +kernel
theorem dX12_seeded_106 : decode cX12_seeded 106 = .ok (.invokevirtual 195, 3) := by decide +kernel
theorem dX12_seeded_109 : decode cX12_seeded 109 = .ok (.iload_n 3, 1) := by decide +kernel
theorem dX12_seeded_110 : decode cX12_seeded 110 = .ok (.ifCond .ne 8, 3) := by decide +kernel
theorem dX12_seeded_113 : decode cX12_seeded 113 = .ok (.iload 5, 2) := by decide +kernel
theorem dX12_seeded_115 : decode cX12_seeded 115 = .ok (.goto 5, 3) := by decide +kernel
theorem dX12_seeded_118 : decode cX12_seeded 118 = .ok (.iload 4, 2) := by decide +kernel
theorem dX12_seeded_120 : decode cX12_seeded 120 = .ok (.ireturn, 1) := by decide +kernel
theorem dX12_wrongThree_0 : decode cX12_wrongThree 0 = .ok (.aload_n 0, 1) := by decide +kernel
theorem dX12_wrongThree_1 : decode cX12_wrongThree 1 = .ok (.iload_n 1, 1) := by decide +kernel
theorem dX12_wrongThree_2 : decode cX12_wrongThree 2 = .ok (.iload_n 2, 1) := by decide +kernel
theorem dX12_wrongThree_3 : decode cX12_wrongThree 3 = .ok (.invokevirtual 181, 3) := by decide +kernel
theorem dX12_wrongThree_6 : decode cX12_wrongThree 6 = .ok (.istore_n 3, 1) := by decide +kernel
theorem dX12_wrongThree_7 : decode cX12_wrongThree 7 = .ok (.aload_n 0, 1) := by decide +kernel
theorem dX12_wrongThree_8 : decode cX12_wrongThree 8 = .ok (.iload_n 1, 1) := by decide +kernel
theorem dX12_wrongThree_9 : decode cX12_wrongThree 9 = .ok (.iload_n 2, 1) := by decide +kernel
theorem dX12_wrongThree_10 : decode cX12_wrongThree 10 = .ok (.iconst 1, 1) := by decide +kernel
theorem dX12_wrongThree_11 : decode cX12_wrongThree 11 = .ok (.iadd, 1) := by decide +kernel
theorem dX12_wrongThree_12 : decode cX12_wrongThree 12 = .ok (.invokevirtual 181, 3) := by decide +kernel
theorem dX12_wrongThree_15 : decode cX12_wrongThree 15 = .ok (.istore 4, 2) := by decide +kernel
theorem dX12_wrongThree_17 : decode cX12_wrongThree 17 = .ok (.iload_n 3, 1) := by decide +kernel
theorem dX12_wrongThree_18 : decode cX12_wrongThree 18 = .ok (.invokestatic 146, 3) := by decide +kernel
theorem dX12_wrongThree_21 : decode cX12_wrongThree 21 = .ok (.ifCond .ne 5, 3) := by decide +kernel
theorem dX12_wrongThree_24 : decode cX12_wrongThree 24 = .ok (.iload_n 2, 1) := by decide +kernel
theorem dX12_wrongThree_25 : decode cX12_wrongThree 25 = .ok (.ireturn, 1) := by decide +kernel
theorem dX12_wrongThree_26 : decode cX12_wrongThree 26 = .ok (.iload 4, 2) := by decide +kernel
theorem dX12_wrongThree_28 : decode cX12_wrongThree 28 = .ok (.i2l, 1) := by decide +kernel
theorem dX12_wrongThree_29 : decode cX12_wrongThree 29 = .ok (.lconst 0, 1) := by decide +kernel
theorem dX12_wrongThree_30 : decode cX12_wrongThree 30 = .ok (.ldc2_w 168, 3) := by decide +kernel
theorem dX12_wrongThree_33 : decode cX12_wrongThree 33 = .ok (.invokestatic 67, 3) := by decide +kernel
theorem dX12_wrongThree_36 : decode cX12_wrongThree 36 = .ok (.ifCond .eq 13, 3) := by decide +kernel
theorem dX12_wrongThree_39 : decode cX12_wrongThree 39 = .ok (.aload_n 0, 1) := by decide +kernel
theorem dX12_wrongThree_40 : decode cX12_wrongThree 40 = .ok (.iload_n 3, 1) := by decide +kernel
theorem dX12_wrongThree_41 : decode cX12_wrongThree 41 = .ok (.iload 4, 2) := by decide +kernel
theorem dX12_wrongThree_43 : decode cX12_wrongThree 43 = .ok (.invokevirtual 149, 3) := by decide +kernel
theorem dX12_wrongThree_46 : decode cX12_wrongThree 46 = .ok (.ifCond .ne 7, 3) := by decide +kernel
theorem dX12_wrongThree_49 : decode cX12_wrongThree 49 = .ok (.iload_n 2, 1) := by decide +kernel
theorem dX12_wrongThree_50 : decode cX12_wrongThree 50 = .ok (.iconst 1, 1) := by decide +kernel
theorem dX12_wrongThree_51 : decode cX12_wrongThree 51 = .ok (.iadd, 1) := by decide +kernel
theorem dX12_wrongThree_52 : decode cX12_wrongThree 52 = .ok (.ireturn, 1) := by decide +kernel
theorem dX12_wrongThree_53 : decode cX12_wrongThree 53 = .ok (.aload_n 0, 1) := by decide +kernel
theorem dX12_wrongThree_54 : decode cX12_wrongThree 54 = .ok (.getfield 9, 3) := by decide +kernel
theorem dX12_wrongThree_57 : decode cX12_wrongThree 57 = .ok (.bipush 40, 2) := by decide +kernel
theorem dX12_wrongThree_59 : decode cX12_wrongThree 59 = .ok (.iconst 2, 1) := by decide +kernel
theorem dX12_wrongThree_60 : decode cX12_wrongThree 60 = .ok (.iload_n 3, 1) := by decide +kernel
theorem dX12_wrongThree_61 : decode cX12_wrongThree 61 = .ok (.imul, 1) := by decide +kernel
theorem dX12_wrongThree_62 : decode cX12_wrongThree 62 = .ok (.iadd, 1) := by decide +kernel
theorem dX12_wrongThree_63 : decode cX12_wrongThree 63 = .ok (.iconst 1, 1) := by decide +kernel
theorem dX12_wrongThree_64 : decode cX12_wrongThree 64 = .ok (.iadd, 1) := by decide +kernel
theorem dX12_wrongThree_65 : decode cX12_wrongThree 65 = .ok (.iaload, 1) := by decide +kernel
theorem dX12_wrongThree_66 : decode cX12_wrongThree 66 = .ok (.aload_n 0, 1) := by decide +kernel
theorem dX12_wrongThree_67 : decode cX12_wrongThree 67 = .ok (.iload_n 1, 1) := by decide +kernel
theorem dX12_wrongThree_68 : decode cX12_wrongThree 68 = .ok (.iload_n 2, 1) := by decide +kernel
theorem dX12_wrongThree_69 : decode cX12_wrongThree 69 = .ok (.iconst 2, 1) := by decide +kernel
theorem dX12_wrongThree_70 : decode cX12_wrongThree 70 = .ok (.iadd, 1) := by decide +kernel
theorem dX12_wrongThree_71 : decode cX12_wrongThree 71 = .ok (.invokevirtual 181, 3) := by decide +kernel
theorem dX12_wrongThree_74 : decode cX12_wrongThree 74 = .ok (.if_icmp .eq 9, 3) := by decide +kernel
theorem dX12_wrongThree_77 : decode cX12_wrongThree 77 = .ok (.iload_n 2, 1) := by decide +kernel
theorem dX12_wrongThree_78 : decode cX12_wrongThree 78 = .ok (.iconst 2, 1) := by decide +kernel
theorem dX12_wrongThree_79 : decode cX12_wrongThree 79 = .ok (.iadd, 1) := by decide +kernel
theorem dX12_wrongThree_80 : decode cX12_wrongThree 80 = .ok (.goto 5, 3) := by decide +kernel
theorem dX12_wrongThree_83 : decode cX12_wrongThree 83 = .ok (.bipush (-4), 2) := by decide +kernel
theorem dX12_wrongThree_85 : decode cX12_wrongThree 85 = .ok (.ireturn, 1) := by decide +kernel
theorem dX12_judge_0 : decode cX12_judge 0 = .ok (.aload_n 0, 1) := by decide +kernel
theorem dX12_judge_1 : decode cX12_judge 1 = .ok (.iload_n 1, 1) := by decide +kernel
theorem dX12_judge_2 : decode cX12_judge 2 = .ok (.iconst (-1), 1) := by decide +kernel
theorem dX12_judge_3 : decode cX12_judge 3 = .ok (.invokevirtual 155, 3) := by decide +kernel
theorem dX12_judge_6 : decode cX12_judge 6 = .ok (.istore_n 2, 1) := by decide +kernel
theorem dX12_judge_7 : decode cX12_judge 7 = .ok (.iload_n 2, 1) := by decide +kernel
theorem dX12_judge_8 : decode cX12_judge 8 = .ok (.ifCond .eq 5, 3) := by decide +kernel
theorem dX12_judge_11 : decode cX12_judge 11 = .ok (.iload_n 2, 1) := by decide +kernel
theorem dX12_judge_12 : decode cX12_judge 12 = .ok (.ireturn, 1) := by decide +kernel
theorem dX12_judge_13 : decode cX12_judge 13 = .ok (.aload_n 0, 1) := by decide +kernel
theorem dX12_judge_14 : decode cX12_judge 14 = .ok (.invokevirtual 192, 3) := by decide +kernel
theorem dX12_judge_17 : decode cX12_judge 17 = .ok (.bipush (-4), 2) := by decide +kernel
theorem dX12_judge_19 : decode cX12_judge 19 = .ok (.istore_n 3, 1) := by decide +kernel
theorem dX12_judge_20 : decode cX12_judge 20 = .ok (.iconst 0, 1) := by decide +kernel
theorem dX12_judge_21 : decode cX12_judge 21 = .ok (.istore 4, 2) := by decide +kernel
theorem dX12_judge_23 : decode cX12_judge 23 = .ok (.iload 4, 2) := by decide +kernel
theorem dX12_judge_25 : decode cX12_judge 25 = .ok (.iconst 2, 1) := by decide +kernel
theorem dX12_judge_26 : decode cX12_judge 26 = .ok (.iadd, 1) := by decide +kernel
theorem dX12_judge_27 : decode cX12_judge 27 = .ok (.aload_n 0, 1) := by decide +kernel
theorem dX12_judge_28 : decode cX12_judge 28 = .ok (.getfield 28, 3) := by decide +kernel
theorem dX12_judge_31 : decode cX12_judge 31 = .ok (.iload_n 1, 1) := by decide +kernel
theorem dX12_judge_32 : decode cX12_judge 32 = .ok (.iaload, 1) := by decide +kernel
theorem dX12_judge_33 : decode cX12_judge 33 = .ok (.if_icmp .ge 21, 3) := by decide +kernel
theorem dX12_judge_36 : decode cX12_judge 36 = .ok (.iload_n 3, 1) := by decide +kernel
theorem dX12_judge_37 : decode cX12_judge 37 = .ok (.ifCond .ge 17, 3) := by decide +kernel
theorem dX12_judge_40 : decode cX12_judge 40 = .ok (.aload_n 0, 1) := by decide +kernel
theorem dX12_judge_41 : decode cX12_judge 41 = .ok (.iload_n 1, 1) := by decide +kernel
theorem dX12_judge_42 : decode cX12_judge 42 = .ok (.iload 4, 2) := by decide +kernel
theorem dX12_judge_44 : decode cX12_judge 44 = .ok (.invokevirtual 232, 3) := by decide +kernel
theorem dX12_judge_47 : decode cX12_judge 47 = .ok (.istore_n 3, 1) := by decide +kernel
theorem dX12_judge_48 : decode cX12_judge 48 = .ok (.iinc 4 3, 3) := by decide +kernel
theorem dX12_judge_51 : decode cX12_judge 51 = .ok (.goto (-28), 3) := by decide +kernel
theorem dX12_judge_54 : decode cX12_judge 54 = .ok (.aload_n 0, 1) := by decide +kernel
theorem dX12_judge_55 : decode cX12_judge 55 = .ok (.invokevirtual 195, 3) := by decide +kernel
theorem dX12_judge_58 : decode cX12_judge 58 = .ok (.iload_n 3, 1) := by decide +kernel
theorem dX12_judge_59 : decode cX12_judge 59 = .ok (.ifCond .ge 14, 3) := by decide +kernel
theorem dX12_judge_62 : decode cX12_judge 62 = .ok (.aload_n 0, 1) := by decide +kernel
theorem dX12_judge_63 : decode cX12_judge 63 = .ok (.getfield 28, 3) := by decide +kernel
theorem dX12_judge_66 : decode cX12_judge 66 = .ok (.iload_n 1, 1) := by decide +kernel
theorem dX12_judge_67 : decode cX12_judge 67 = .ok (.iaload, 1) := by decide +kernel
theorem dX12_judge_68 : decode cX12_judge 68 = .ok (.iconst 3, 1) := by decide +kernel
theorem dX12_judge_69 : decode cX12_judge 69 = .ok (.irem, 1) := by decide +kernel
theorem dX12_judge_70 : decode cX12_judge 70 = .ok (.ifCond .ne 7, 3) := by decide +kernel
theorem dX12_judge_73 : decode cX12_judge 73 = .ok (.iload_n 3, 1) := by decide +kernel
theorem dX12_judge_74 : decode cX12_judge 74 = .ok (.goto 5, 3) := by decide +kernel
theorem dX12_judge_77 : decode cX12_judge 77 = .ok (.iload 4, 2) := by decide +kernel
theorem dX12_judge_79 : decode cX12_judge 79 = .ok (.ireturn, 1) := by decide +kernel
theorem dX12_image_0 : decode cX12_image 0 = .ok (.aload_n 0, 1) := by decide +kernel
theorem dX12_image_1 : decode cX12_image 1 = .ok (.getfield 9, 3) := by decide +kernel
theorem dX12_image_4 : decode cX12_image 4 = .ok (.aload_n 0, 1) := by decide +kernel
theorem dX12_image_5 : decode cX12_image 5 = .ok (.getfield 13, 3) := by decide +kernel
theorem dX12_image_8 : decode cX12_image 8 = .ok (.invokestatic 73, 3) := by decide +kernel
theorem dX12_image_11 : decode cX12_image 11 = .ok (.aload_n 0, 1) := by decide +kernel
theorem dX12_image_12 : decode cX12_image 12 = .ok (.iconst 1, 1) := by decide +kernel
theorem dX12_image_13 : decode cX12_image 13 = .ok (.putfield 235, 3) := by decide +kernel
theorem dX12_image_16 : decode cX12_image 16 = .ok (.aload_n 0, 1) := by decide +kernel
theorem dX12_image_17 : decode cX12_image 17 = .ok (.invokevirtual 229, 3) := by decide +kernel
theorem dX12_image_20 : decode cX12_image 20 = .ok (.ireturn, 1) := by decide +kernel
theorem dX12_restore_0 : decode cX12_restore 0 = .ok (.aload_n 0, 1) := by decide +kernel
theorem dX12_restore_1 : decode cX12_restore 1 = .ok (.getfield 235, 3) := by decide +kernel
theorem dX12_restore_4 : decode cX12_restore 4 = .ok (.ifCond .ne 6, 3) := by decide +kernel
theorem dX12_restore_7 : decode cX12_restore 7 = .ok (.bipush (-3), 2) := by decide +kernel
theorem dX12_restore_9 : decode cX12_restore 9 = .ok (.ireturn, 1) := by decide +kernel
theorem dX12_restore_10 : decode cX12_restore 10 = .ok (.aload_n 0, 1) := by decide +kernel
theorem dX12_restore_11 : decode cX12_restore 11 = .ok (.getfield 13, 3) := by decide +kernel
theorem dX12_restore_14 : decode cX12_restore 14 = .ok (.aload_n 0, 1) := by decide +kernel
theorem dX12_restore_15 : decode cX12_restore 15 = .ok (.getfield 9, 3) := by decide +kernel
theorem dX12_restore_18 : decode cX12_restore 18 = .ok (.invokestatic 73, 3) := by decide +kernel
theorem dX12_restore_21 : decode cX12_restore 21 = .ok (.aload_n 0, 1) := by decide +kernel
theorem dX12_restore_22 : decode cX12_restore 22 = .ok (.invokevirtual 229, 3) := by decide +kernel
theorem dX12_restore_25 : decode cX12_restore 25 = .ok (.ireturn, 1) := by decide +kernel
theorem dX12_count_0 : decode cX12_count 0 = .ok (.iload_n 1, 1) := by decide +kernel
theorem dX12_count_1 : decode cX12_count 1 = .ok (.i2l, 1) := by decide +kernel
theorem dX12_count_2 : decode cX12_count 2 = .ok (.lconst 0, 1) := by decide +kernel
theorem dX12_count_3 : decode cX12_count 3 = .ok (.ldc2_w 190, 3) := by decide +kernel
theorem dX12_count_6 : decode cX12_count 6 = .ok (.invokestatic 67, 3) := by decide +kernel
theorem dX12_count_9 : decode cX12_count 9 = .ok (.ifCond .ne 5, 3) := by decide +kernel
theorem dX12_count_12 : decode cX12_count 12 = .ok (.iconst (-1), 1) := by decide +kernel
theorem dX12_count_13 : decode cX12_count 13 = .ok (.ireturn, 1) := by decide +kernel
theorem dX12_count_14 : decode cX12_count 14 = .ok (.iconst 0, 1) := by decide +kernel
theorem dX12_count_15 : decode cX12_count 15 = .ok (.istore_n 2, 1) := by decide +kernel
theorem dX12_count_16 : decode cX12_count 16 = .ok (.iconst 0, 1) := by decide +kernel
theorem dX12_count_17 : decode cX12_count 17 = .ok (.istore_n 3, 1) := by decide +kernel
theorem dX12_count_18 : decode cX12_count 18 = .ok (.iload_n 3, 1) := by decide +kernel
theorem dX12_count_19 : decode cX12_count 19 = .ok (.bipush 20, 2) := by decide +kernel
theorem dX12_count_21 : decode cX12_count 21 = .ok (.if_icmp .ge 54, 3) := by decide +kernel
theorem dX12_count_24 : decode cX12_count 24 = .ok (.iload_n 2, 1) := by decide +kernel
theorem dX12_count_25 : decode cX12_count 25 = .ok (.iload_n 1, 1) := by decide +kernel
theorem dX12_count_26 : decode cX12_count 26 = .ok (.bipush 8, 2) := by decide +kernel
theorem dX12_count_28 : decode cX12_count 28 = .ok (.if_icmp .ne 11, 3) := by decide +kernel
theorem dX12_count_31 : decode cX12_count 31 = .ok (.aload_n 0, 1) := by decide +kernel
theorem dX12_count_32 : decode cX12_count 32 = .ok (.iload_n 3, 1) := by decide +kernel
theorem dX12_count_33 : decode cX12_count 33 = .ok (.invokevirtual 107, 3) := by decide +kernel
theorem dX12_count_36 : decode cX12_count 36 = .ok (.goto 31, 3) := by decide +kernel
theorem dX12_count_39 : decode cX12_count 39 = .ok (.iload_n 1, 1) := by decide +kernel
theorem dX12_count_40 : decode cX12_count 40 = .ok (.bipush 9, 2) := by decide +kernel
theorem dX12_count_42 : decode cX12_count 42 = .ok (.if_icmp .ne 11, 3) := by decide +kernel
theorem dX12_count_45 : decode cX12_count 45 = .ok (.aload_n 0, 1) := by decide +kernel
theorem dX12_count_46 : decode cX12_count 46 = .ok (.iload_n 3, 1) := by decide +kernel
theorem dX12_count_47 : decode cX12_count 47 = .ok (.invokevirtual 100, 3) := by decide +kernel
theorem dX12_count_50 : decode cX12_count 50 = .ok (.goto 17, 3) := by decide +kernel
theorem dX12_count_53 : decode cX12_count 53 = .ok (.aload_n 0, 1) := by decide +kernel
theorem dX12_count_54 : decode cX12_count 54 = .ok (.iload_n 3, 1) := by decide +kernel
theorem dX12_count_55 : decode cX12_count 55 = .ok (.invokevirtual 77, 3) := by decide +kernel
theorem dX12_count_58 : decode cX12_count 58 = .ok (.iload_n 1, 1) := by decide +kernel
theorem dX12_count_59 : decode cX12_count 59 = .ok (.if_icmp .ne 7, 3) := by decide +kernel
theorem dX12_count_62 : decode cX12_count 62 = .ok (.iconst 1, 1) := by decide +kernel
theorem dX12_count_63 : decode cX12_count 63 = .ok (.goto 4, 3) := by decide +kernel
theorem dX12_count_66 : decode cX12_count 66 = .ok (.iconst 0, 1) := by decide +kernel
theorem dX12_count_67 : decode cX12_count 67 = .ok (.iadd, 1) := by decide +kernel
theorem dX12_count_68 : decode cX12_count 68 = .ok (.istore_n 2, 1) := by decide +kernel
theorem dX12_count_69 : decode cX12_count 69 = .ok (.iinc 3 1, 3) := by decide +kernel
theorem dX12_count_72 : decode cX12_count 72 = .ok (.goto (-54), 3) := by decide +kernel
theorem dX12_count_75 : decode cX12_count 75 = .ok (.iload_n 2, 1) := by decide +kernel
theorem dX12_count_76 : decode cX12_count 76 = .ok (.ireturn, 1) := by decide +kernel
theorem dX12_payBy_0 : decode cX12_payBy 0 = .ok (.iload_n 0, 1) := by decide +kernel
theorem dX12_payBy_1 : decode cX12_payBy 1 = .ok (.tableswitch 66 1 7 #[43, 47, 49, 51, 66, 59, 62], 43) := by decide +kernel
theorem dX12_payBy_44 : decode cX12_payBy 44 = .ok (.iconst 3, 1) := by decide +kernel
end
section
theorem dX12_payBy_45 : decode cX12_payBy 45 = .ok (.iload_n 1, 1) := by decide +kernel
theorem dX12_payBy_46 : decode cX12_payBy 46 = .ok (.iadd, 1) := by decide +kernel
theorem dX12_payBy_47 : decode cX12_payBy 47 = .ok (.ireturn, 1) := by decide +kernel
theorem dX12_payBy_48 : decode cX12_payBy 48 = .ok (.iconst 2, 1) := by decide +kernel
theorem dX12_payBy_49 : decode cX12_payBy 49 = .ok (.ireturn, 1) := by decide +kernel
theorem dX12_payBy_50 : decode cX12_payBy 50 = .ok (.iconst 4, 1) := by decide +kernel
theorem dX12_payBy_51 : decode cX12_payBy 51 = .ok (.ireturn, 1) := by decide +kernel
theorem dX12_payBy_52 : decode cX12_payBy 52 = .ok (.iconst 3, 1) := by decide +kernel
theorem dX12_payBy_53 : decode cX12_payBy 53 = .ok (.iload_n 1, 1) := by decide +kernel
theorem dX12_payBy_54 : decode cX12_payBy 54 = .ok (.iadd, 1) := by decide +kernel
theorem dX12_payBy_55 : decode cX12_payBy 55 = .ok (.iload_n 1, 1) := by decide +kernel
theorem dX12_payBy_56 : decode cX12_payBy 56 = .ok (.iconst 1, 1) := by decide +kernel
theorem dX12_payBy_57 : decode cX12_payBy 57 = .ok (.iadd, 1) := by decide +kernel
theorem dX12_payBy_58 : decode cX12_payBy 58 = .ok (.imul, 1) := by decide +kernel
theorem dX12_payBy_59 : decode cX12_payBy 59 = .ok (.ireturn, 1) := by decide +kernel
theorem dX12_payBy_60 : decode cX12_payBy 60 = .ok (.bipush 7, 2) := by decide +kernel
theorem dX12_payBy_62 : decode cX12_payBy 62 = .ok (.ireturn, 1) := by decide +kernel
theorem dX12_payBy_63 : decode cX12_payBy 63 = .ok (.iconst 3, 1) := by decide +kernel
theorem dX12_payBy_64 : decode cX12_payBy 64 = .ok (.iload_n 1, 1) := by decide +kernel
theorem dX12_payBy_65 : decode cX12_payBy 65 = .ok (.isub, 1) := by decide +kernel
theorem dX12_payBy_66 : decode cX12_payBy 66 = .ok (.ireturn, 1) := by decide +kernel
theorem dX12_payBy_67 : decode cX12_payBy 67 = .ok (.iconst 3, 1) := by decide +kernel
theorem dX12_payBy_68 : decode cX12_payBy 68 = .ok (.ireturn, 1) := by decide +kernel
theorem dX12_keep_0 : decode cX12_keep 0 = .ok (.iload_n 1, 1) := by decide +kernel
theorem dX12_keep_1 : decode cX12_keep 1 = .ok (.invokestatic 152, 3) := by decide +kernel
theorem dX12_keep_4 : decode cX12_keep 4 = .ok (.ifCond .eq 43, 3) := by decide +kernel
theorem dX12_keep_7 : decode cX12_keep 7 = .ok (.iload_n 2, 1) := by decide +kernel
theorem dX12_keep_8 : decode cX12_keep 8 = .ok (.i2l, 1) := by decide +kernel
theorem dX12_keep_9 : decode cX12_keep 9 = .ok (.lconst 0, 1) := by decide +kernel
theorem dX12_keep_10 : decode cX12_keep 10 = .ok (.lconst 1, 1) := by decide +kernel
theorem dX12_keep_11 : decode cX12_keep 11 = .ok (.invokestatic 67, 3) := by decide +kernel
theorem dX12_keep_14 : decode cX12_keep 14 = .ok (.ifCond .eq 33, 3) := by decide +kernel
theorem dX12_keep_17 : decode cX12_keep 17 = .ok (.iload_n 2, 1) := by decide +kernel
theorem dX12_keep_18 : decode cX12_keep 18 = .ok (.iconst 1, 1) := by decide +kernel
theorem dX12_keep_19 : decode cX12_keep 19 = .ok (.if_icmp .ne 30, 3) := by decide +kernel
theorem dX12_keep_22 : decode cX12_keep 22 = .ok (.iload_n 3, 1) := by decide +kernel
theorem dX12_keep_23 : decode cX12_keep 23 = .ok (.i2l, 1) := by decide +kernel
theorem dX12_keep_24 : decode cX12_keep 24 = .ok (.lconst 0, 1) := by decide +kernel
theorem dX12_keep_25 : decode cX12_keep 25 = .ok (.ldc2_w 65, 3) := by decide +kernel
theorem dX12_keep_28 : decode cX12_keep 28 = .ok (.invokestatic 67, 3) := by decide +kernel
theorem dX12_keep_31 : decode cX12_keep 31 = .ok (.ifCond .eq 16, 3) := by decide +kernel
theorem dX12_keep_34 : decode cX12_keep 34 = .ok (.iload 4, 2) := by decide +kernel
theorem dX12_keep_36 : decode cX12_keep 36 = .ok (.i2l, 1) := by decide +kernel
theorem dX12_keep_37 : decode cX12_keep 37 = .ok (.lconst 0, 1) := by decide +kernel
theorem dX12_keep_38 : decode cX12_keep 38 = .ok (.ldc2_w 190, 3) := by decide +kernel
theorem dX12_keep_41 : decode cX12_keep 41 = .ok (.invokestatic 67, 3) := by decide +kernel
theorem dX12_keep_44 : decode cX12_keep 44 = .ok (.ifCond .ne 5, 3) := by decide +kernel
theorem dX12_keep_47 : decode cX12_keep 47 = .ok (.iconst (-1), 1) := by decide +kernel
theorem dX12_keep_48 : decode cX12_keep 48 = .ok (.ireturn, 1) := by decide +kernel
theorem dX12_keep_49 : decode cX12_keep 49 = .ok (.aload_n 0, 1) := by decide +kernel
theorem dX12_keep_50 : decode cX12_keep 50 = .ok (.getfield 22, 3) := by decide +kernel
theorem dX12_keep_53 : decode cX12_keep 53 = .ok (.iload_n 1, 1) := by decide +kernel
theorem dX12_keep_54 : decode cX12_keep 54 = .ok (.iload_n 2, 1) := by decide +kernel
theorem dX12_keep_55 : decode cX12_keep 55 = .ok (.iastore, 1) := by decide +kernel
theorem dX12_keep_56 : decode cX12_keep 56 = .ok (.aload_n 0, 1) := by decide +kernel
theorem dX12_keep_57 : decode cX12_keep 57 = .ok (.getfield 34, 3) := by decide +kernel
theorem dX12_keep_60 : decode cX12_keep 60 = .ok (.iload_n 1, 1) := by decide +kernel
theorem dX12_keep_61 : decode cX12_keep 61 = .ok (.iload_n 3, 1) := by decide +kernel
theorem dX12_keep_62 : decode cX12_keep 62 = .ok (.iastore, 1) := by decide +kernel
theorem dX12_keep_63 : decode cX12_keep 63 = .ok (.aload_n 0, 1) := by decide +kernel
theorem dX12_keep_64 : decode cX12_keep 64 = .ok (.getfield 37, 3) := by decide +kernel
theorem dX12_keep_67 : decode cX12_keep 67 = .ok (.iload_n 1, 1) := by decide +kernel
theorem dX12_keep_68 : decode cX12_keep 68 = .ok (.iload 4, 2) := by decide +kernel
theorem dX12_keep_70 : decode cX12_keep 70 = .ok (.iastore, 1) := by decide +kernel
theorem dX12_keep_71 : decode cX12_keep 71 = .ok (.iconst 0, 1) := by decide +kernel
theorem dX12_keep_72 : decode cX12_keep 72 = .ok (.ireturn, 1) := by decide +kernel
theorem dX12_row_0 : decode cX12_row 0 = .ok (.iload_n 1, 1) := by decide +kernel
theorem dX12_row_1 : decode cX12_row 1 = .ok (.invokestatic 152, 3) := by decide +kernel
theorem dX12_row_4 : decode cX12_row 4 = .ok (.ifCond .eq 21, 3) := by decide +kernel
theorem dX12_row_7 : decode cX12_row 7 = .ok (.iload_n 2, 1) := by decide +kernel
theorem dX12_row_8 : decode cX12_row 8 = .ok (.i2l, 1) := by decide +kernel
theorem dX12_row_9 : decode cX12_row 9 = .ok (.lconst 0, 1) := by decide +kernel
theorem dX12_row_10 : decode cX12_row 10 = .ok (.ldc2_w 239, 3) := by decide +kernel
theorem dX12_row_13 : decode cX12_row 13 = .ok (.invokestatic 67, 3) := by decide +kernel
theorem dX12_row_16 : decode cX12_row 16 = .ok (.ifCond .eq 9, 3) := by decide +kernel
theorem dX12_row_19 : decode cX12_row 19 = .ok (.iload_n 3, 1) := by decide +kernel
theorem dX12_row_20 : decode cX12_row 20 = .ok (.bipush 100, 2) := by decide +kernel
theorem dX12_row_22 : decode cX12_row 22 = .ok (.if_icmp .le 5, 3) := by decide +kernel
theorem dX12_row_25 : decode cX12_row 25 = .ok (.iconst (-1), 1) := by decide +kernel
theorem dX12_row_26 : decode cX12_row 26 = .ok (.ireturn, 1) := by decide +kernel
theorem dX12_row_27 : decode cX12_row 27 = .ok (.iload_n 3, 1) := by decide +kernel
theorem dX12_row_28 : decode cX12_row 28 = .ok (.ifCond .ge 6, 3) := by decide +kernel
theorem dX12_row_31 : decode cX12_row 31 = .ok (.bipush (-14), 2) := by decide +kernel
theorem dX12_row_33 : decode cX12_row 33 = .ok (.ireturn, 1) := by decide +kernel
theorem dX12_row_34 : decode cX12_row 34 = .ok (.aload_n 0, 1) := by decide +kernel
theorem dX12_row_35 : decode cX12_row 35 = .ok (.getfield 22, 3) := by decide +kernel
theorem dX12_row_38 : decode cX12_row 38 = .ok (.iload_n 1, 1) := by decide +kernel
theorem dX12_row_39 : decode cX12_row 39 = .ok (.iconst 2, 1) := by decide +kernel
theorem dX12_row_40 : decode cX12_row 40 = .ok (.iastore, 1) := by decide +kernel
theorem dX12_row_41 : decode cX12_row 41 = .ok (.aload_n 0, 1) := by decide +kernel
theorem dX12_row_42 : decode cX12_row 42 = .ok (.getfield 25, 3) := by decide +kernel
theorem dX12_row_45 : decode cX12_row 45 = .ok (.iload_n 1, 1) := by decide +kernel
theorem dX12_row_46 : decode cX12_row 46 = .ok (.iload_n 2, 1) := by decide +kernel
theorem dX12_row_47 : decode cX12_row 47 = .ok (.iastore, 1) := by decide +kernel
theorem dX12_row_48 : decode cX12_row 48 = .ok (.aload_n 0, 1) := by decide +kernel
theorem dX12_row_49 : decode cX12_row 49 = .ok (.getfield 28, 3) := by decide +kernel
theorem dX12_row_52 : decode cX12_row 52 = .ok (.iload_n 1, 1) := by decide +kernel
theorem dX12_row_53 : decode cX12_row 53 = .ok (.iload_n 3, 1) := by decide +kernel
theorem dX12_row_54 : decode cX12_row 54 = .ok (.iastore, 1) := by decide +kernel
theorem dX12_row_55 : decode cX12_row 55 = .ok (.iconst 0, 1) := by decide +kernel
theorem dX12_row_56 : decode cX12_row 56 = .ok (.istore 4, 2) := by decide +kernel
theorem dX12_row_58 : decode cX12_row 58 = .ok (.iload 4, 2) := by decide +kernel
theorem dX12_row_60 : decode cX12_row 60 = .ok (.bipush 100, 2) := by decide +kernel
theorem dX12_row_62 : decode cX12_row 62 = .ok (.if_icmp .ge 22, 3) := by decide +kernel
theorem dX12_row_65 : decode cX12_row 65 = .ok (.aload_n 0, 1) := by decide +kernel
theorem dX12_row_66 : decode cX12_row 66 = .ok (.getfield 31, 3) := by decide +kernel
theorem dX12_row_69 : decode cX12_row 69 = .ok (.bipush 100, 2) := by decide +kernel
theorem dX12_row_71 : decode cX12_row 71 = .ok (.iload_n 1, 1) := by decide +kernel
theorem dX12_row_72 : decode cX12_row 72 = .ok (.imul, 1) := by decide +kernel
theorem dX12_row_73 : decode cX12_row 73 = .ok (.iload 4, 2) := by decide +kernel
theorem dX12_row_75 : decode cX12_row 75 = .ok (.iadd, 1) := by decide +kernel
theorem dX12_row_76 : decode cX12_row 76 = .ok (.iconst 0, 1) := by decide +kernel
theorem dX12_row_77 : decode cX12_row 77 = .ok (.iastore, 1) := by decide +kernel
theorem dX12_row_78 : decode cX12_row 78 = .ok (.iinc 4 1, 3) := by decide +kernel
theorem dX12_row_81 : decode cX12_row 81 = .ok (.goto (-23), 3) := by decide +kernel
theorem dX12_row_84 : decode cX12_row 84 = .ok (.iconst 0, 1) := by decide +kernel
theorem dX12_row_85 : decode cX12_row 85 = .ok (.ireturn, 1) := by decide +kernel
theorem dX12_put_0 : decode cX12_put 0 = .ok (.aload_n 0, 1) := by decide +kernel
theorem dX12_put_1 : decode cX12_put 1 = .ok (.iload_n 1, 1) := by decide +kernel
theorem dX12_put_2 : decode cX12_put 2 = .ok (.iconst (-1), 1) := by decide +kernel
theorem dX12_put_3 : decode cX12_put 3 = .ok (.invokevirtual 155, 3) := by decide +kernel
theorem dX12_put_6 : decode cX12_put 6 = .ok (.istore 4, 2) := by decide +kernel
theorem dX12_put_8 : decode cX12_put 8 = .ok (.iload 4, 2) := by decide +kernel
theorem dX12_put_10 : decode cX12_put 10 = .ok (.ifCond .eq 6, 3) := by decide +kernel
theorem dX12_put_13 : decode cX12_put 13 = .ok (.iload 4, 2) := by decide +kernel
theorem dX12_put_15 : decode cX12_put 15 = .ok (.ireturn, 1) := by decide +kernel
theorem dX12_put_16 : decode cX12_put 16 = .ok (.iload_n 2, 1) := by decide +kernel
theorem dX12_put_17 : decode cX12_put 17 = .ok (.i2l, 1) := by decide +kernel
theorem dX12_put_18 : decode cX12_put 18 = .ok (.lconst 0, 1) := by decide +kernel
theorem dX12_put_19 : decode cX12_put 19 = .ok (.aload_n 0, 1) := by decide +kernel
theorem dX12_put_20 : decode cX12_put 20 = .ok (.getfield 28, 3) := by decide +kernel
theorem dX12_put_23 : decode cX12_put 23 = .ok (.iload_n 1, 1) := by decide +kernel
theorem dX12_put_24 : decode cX12_put 24 = .ok (.iaload, 1) := by decide +kernel
theorem dX12_put_25 : decode cX12_put 25 = .ok (.iconst 1, 1) := by decide +kernel
theorem dX12_put_26 : decode cX12_put 26 = .ok (.isub, 1) := by decide +kernel
theorem dX12_put_27 : decode cX12_put 27 = .ok (.i2l, 1) := by decide +kernel
theorem dX12_put_28 : decode cX12_put 28 = .ok (.invokestatic 67, 3) := by decide +kernel
theorem dX12_put_31 : decode cX12_put 31 = .ok (.ifCond .ne 6, 3) := by decide +kernel
theorem dX12_put_34 : decode cX12_put 34 = .ok (.bipush (-13), 2) := by decide +kernel
theorem dX12_put_36 : decode cX12_put 36 = .ok (.ireturn, 1) := by decide +kernel
theorem dX12_put_37 : decode cX12_put 37 = .ok (.aload_n 0, 1) := by decide +kernel
theorem dX12_put_38 : decode cX12_put 38 = .ok (.getfield 31, 3) := by decide +kernel
theorem dX12_put_41 : decode cX12_put 41 = .ok (.bipush 100, 2) := by decide +kernel
theorem dX12_put_43 : decode cX12_put 43 = .ok (.iload_n 1, 1) := by decide +kernel
theorem dX12_put_44 : decode cX12_put 44 = .ok (.imul, 1) := by decide +kernel
theorem dX12_put_45 : decode cX12_put 45 = .ok (.iload_n 2, 1) := by decide +kernel
theorem dX12_put_46 : decode cX12_put 46 = .ok (.iadd, 1) := by decide +kernel
theorem dX12_put_47 : decode cX12_put 47 = .ok (.aload_n 0, 1) := by decide +kernel
theorem dX12_put_48 : decode cX12_put 48 = .ok (.getfield 25, 3) := by decide +kernel
theorem dX12_put_51 : decode cX12_put 51 = .ok (.iload_n 1, 1) := by decide +kernel
theorem dX12_put_52 : decode cX12_put 52 = .ok (.iaload, 1) := by decide +kernel
theorem dX12_put_53 : decode cX12_put 53 = .ok (.ifCond .ne 8, 3) := by decide +kernel
theorem dX12_put_56 : decode cX12_put 56 = .ok (.iload_n 3, 1) := by decide +kernel
theorem dX12_put_57 : decode cX12_put 57 = .ok (.i2b, 1) := by decide +kernel
theorem dX12_put_58 : decode cX12_put 58 = .ok (.goto 19, 3) := by decide +kernel
theorem dX12_put_61 : decode cX12_put 61 = .ok (.aload_n 0, 1) := by decide +kernel
theorem dX12_put_62 : decode cX12_put 62 = .ok (.getfield 25, 3) := by decide +kernel
theorem dX12_put_65 : decode cX12_put 65 = .ok (.iload_n 1, 1) := by decide +kernel
theorem dX12_put_66 : decode cX12_put 66 = .ok (.iaload, 1) := by decide +kernel
theorem dX12_put_67 : decode cX12_put 67 = .ok (.iconst 1, 1) := by decide +kernel
theorem dX12_put_68 : decode cX12_put 68 = .ok (.if_icmp .ne 8, 3) := by decide +kernel
theorem dX12_put_71 : decode cX12_put 71 = .ok (.iload_n 3, 1) := by decide +kernel
theorem dX12_put_72 : decode cX12_put 72 = .ok (.i2s, 1) := by decide +kernel
theorem dX12_put_73 : decode cX12_put 73 = .ok (.goto 4, 3) := by decide +kernel
theorem dX12_put_76 : decode cX12_put 76 = .ok (.iload_n 3, 1) := by decide +kernel
theorem dX12_put_77 : decode cX12_put 77 = .ok (.iastore, 1) := by decide +kernel
theorem dX12_put_78 : decode cX12_put 78 = .ok (.iconst 0, 1) := by decide +kernel
theorem dX12_put_79 : decode cX12_put 79 = .ok (.ireturn, 1) := by decide +kernel
theorem dX12_element_0 : decode cX12_element 0 = .ok (.aload_n 0, 1) := by decide +kernel
theorem dX12_element_1 : decode cX12_element 1 = .ok (.iload_n 1, 1) := by decide +kernel
theorem dX12_element_2 : decode cX12_element 2 = .ok (.invokestatic 152, 3) := by decide +kernel
theorem dX12_element_5 : decode cX12_element 5 = .ok (.ifCond .ne 7, 3) := by decide +kernel
theorem dX12_element_8 : decode cX12_element 8 = .ok (.iconst 1, 1) := by decide +kernel
theorem dX12_element_9 : decode cX12_element 9 = .ok (.goto 36, 3) := by decide +kernel
theorem dX12_element_12 : decode cX12_element 12 = .ok (.aload_n 0, 1) := by decide +kernel
theorem dX12_element_13 : decode cX12_element 13 = .ok (.getfield 22, 3) := by decide +kernel
theorem dX12_element_16 : decode cX12_element 16 = .ok (.iload_n 1, 1) := by decide +kernel
theorem dX12_element_17 : decode cX12_element 17 = .ok (.iaload, 1) := by decide +kernel
theorem dX12_element_18 : decode cX12_element 18 = .ok (.iconst 2, 1) := by decide +kernel
theorem dX12_element_19 : decode cX12_element 19 = .ok (.if_icmp .ne 21, 3) := by decide +kernel
theorem dX12_element_22 : decode cX12_element 22 = .ok (.iload_n 2, 1) := by decide +kernel
theorem dX12_element_23 : decode cX12_element 23 = .ok (.i2l, 1) := by decide +kernel
theorem dX12_element_24 : decode cX12_element 24 = .ok (.lconst 0, 1) := by decide +kernel
theorem dX12_element_25 : decode cX12_element 25 = .ok (.aload_n 0, 1) := by decide +kernel
theorem dX12_element_26 : decode cX12_element 26 = .ok (.getfield 28, 3) := by decide +kernel
theorem dX12_element_29 : decode cX12_element 29 = .ok (.iload_n 1, 1) := by decide +kernel
theorem dX12_element_30 : decode cX12_element 30 = .ok (.iaload, 1) := by decide +kernel
theorem dX12_element_31 : decode cX12_element 31 = .ok (.iconst 1, 1) := by decide +kernel
theorem dX12_element_32 : decode cX12_element 32 = .ok (.isub, 1) := by decide +kernel
theorem dX12_element_33 : decode cX12_element 33 = .ok (.i2l, 1) := by decide +kernel
theorem dX12_element_34 : decode cX12_element 34 = .ok (.invokestatic 67, 3) := by decide +kernel
theorem dX12_element_37 : decode cX12_element 37 = .ok (.ifCond .ne 7, 3) := by decide +kernel
theorem dX12_element_40 : decode cX12_element 40 = .ok (.iconst 2, 1) := by decide +kernel
theorem dX12_element_41 : decode cX12_element 41 = .ok (.goto 4, 3) := by decide +kernel
theorem dX12_element_44 : decode cX12_element 44 = .ok (.iconst 0, 1) := by decide +kernel
theorem dX12_element_45 : decode cX12_element 45 = .ok (.putfield 61, 3) := by decide +kernel
theorem dX12_element_48 : decode cX12_element 48 = .ok (.aload_n 0, 1) := by decide +kernel
theorem dX12_element_49 : decode cX12_element 49 = .ok (.getfield 61, 3) := by decide +kernel
theorem dX12_element_52 : decode cX12_element 52 = .ok (.ifCond .ne 18, 3) := by decide +kernel
theorem dX12_element_55 : decode cX12_element 55 = .ok (.aload_n 0, 1) := by decide +kernel
theorem dX12_element_56 : decode cX12_element 56 = .ok (.getfield 31, 3) := by decide +kernel
theorem dX12_element_59 : decode cX12_element 59 = .ok (.bipush 100, 2) := by decide +kernel
theorem dX12_element_61 : decode cX12_element 61 = .ok (.iload_n 1, 1) := by decide +kernel
theorem dX12_element_62 : decode cX12_element 62 = .ok (.imul, 1) := by decide +kernel
theorem dX12_element_63 : decode cX12_element 63 = .ok (.iload_n 2, 1) := by decide +kernel
theorem dX12_element_64 : decode cX12_element 64 = .ok (.iadd, 1) := by decide +kernel
theorem dX12_element_65 : decode cX12_element 65 = .ok (.iaload, 1) := by decide +kernel
theorem dX12_element_66 : decode cX12_element 66 = .ok (.i2l, 1) := by decide +kernel
theorem dX12_element_67 : decode cX12_element 67 = .ok (.goto 4, 3) := by decide +kernel
theorem dX12_element_70 : decode cX12_element 70 = .ok (.lconst 0, 1) := by decide +kernel
theorem dX12_element_71 : decode cX12_element 71 = .ok (.lreturn, 1) := by decide +kernel
theorem dX12_copy_0 : decode cX12_copy 0 = .ok (.iload_n 1, 1) := by decide +kernel
theorem dX12_copy_1 : decode cX12_copy 1 = .ok (.invokestatic 152, 3) := by decide +kernel
theorem dX12_copy_4 : decode cX12_copy 4 = .ok (.ifCond .eq 10, 3) := by decide +kernel
theorem dX12_copy_7 : decode cX12_copy 7 = .ok (.iload_n 3, 1) := by decide +kernel
theorem dX12_copy_8 : decode cX12_copy 8 = .ok (.invokestatic 152, 3) := by decide +kernel
theorem dX12_copy_11 : decode cX12_copy 11 = .ok (.ifCond .ne 5, 3) := by decide +kernel
theorem dX12_copy_14 : decode cX12_copy 14 = .ok (.iconst (-1), 1) := by decide +kernel
theorem dX12_copy_15 : decode cX12_copy 15 = .ok (.ireturn, 1) := by decide +kernel
theorem dX12_copy_16 : decode cX12_copy 16 = .ok (.aload_n 0, 1) := by decide +kernel
theorem dX12_copy_17 : decode cX12_copy 17 = .ok (.getfield 22, 3) := by decide +kernel
theorem dX12_copy_20 : decode cX12_copy 20 = .ok (.iload_n 1, 1) := by decide +kernel
theorem dX12_copy_21 : decode cX12_copy 21 = .ok (.iaload, 1) := by decide +kernel
theorem dX12_copy_22 : decode cX12_copy 22 = .ok (.ifCond .eq 12, 3) := by decide +kernel
theorem dX12_copy_25 : decode cX12_copy 25 = .ok (.aload_n 0, 1) := by decide +kernel
theorem dX12_copy_26 : decode cX12_copy 26 = .ok (.getfield 22, 3) := by decide +kernel
theorem dX12_copy_29 : decode cX12_copy 29 = .ok (.iload_n 3, 1) := by decide +kernel
theorem dX12_copy_30 : decode cX12_copy 30 = .ok (.iaload, 1) := by decide +kernel
theorem dX12_copy_31 : decode cX12_copy 31 = .ok (.ifCond .ne 6, 3) := by decide +kernel
theorem dX12_copy_34 : decode cX12_copy 34 = .ok (.bipush (-11), 2) := by decide +kernel
theorem dX12_copy_36 : decode cX12_copy 36 = .ok (.ireturn, 1) := by decide +kernel
theorem dX12_copy_37 : decode cX12_copy 37 = .ok (.aload_n 0, 1) := by decide +kernel
theorem dX12_copy_38 : decode cX12_copy 38 = .ok (.getfield 22, 3) := by decide +kernel
theorem dX12_copy_41 : decode cX12_copy 41 = .ok (.iload_n 1, 1) := by decide +kernel
theorem dX12_copy_42 : decode cX12_copy 42 = .ok (.iaload, 1) := by decide +kernel
theorem dX12_copy_43 : decode cX12_copy 43 = .ok (.iconst 2, 1) := by decide +kernel
theorem dX12_copy_44 : decode cX12_copy 44 = .ok (.if_icmp .ne 28, 3) := by decide +kernel
theorem dX12_copy_47 : decode cX12_copy 47 = .ok (.aload_n 0, 1) := by decide +kernel
theorem dX12_copy_48 : decode cX12_copy 48 = .ok (.getfield 22, 3) := by decide +kernel
theorem dX12_copy_51 : decode cX12_copy 51 = .ok (.iload_n 3, 1) := by decide +kernel
theorem dX12_copy_52 : decode cX12_copy 52 = .ok (.iaload, 1) := by decide +kernel
theorem dX12_copy_53 : decode cX12_copy 53 = .ok (.iconst 2, 1) := by decide +kernel
theorem dX12_copy_54 : decode cX12_copy 54 = .ok (.if_icmp .ne 18, 3) := by decide +kernel
theorem dX12_copy_57 : decode cX12_copy 57 = .ok (.aload_n 0, 1) := by decide +kernel
theorem dX12_copy_58 : decode cX12_copy 58 = .ok (.getfield 25, 3) := by decide +kernel
theorem dX12_copy_61 : decode cX12_copy 61 = .ok (.iload_n 1, 1) := by decide +kernel
theorem dX12_copy_62 : decode cX12_copy 62 = .ok (.iaload, 1) := by decide +kernel
theorem dX12_copy_63 : decode cX12_copy 63 = .ok (.aload_n 0, 1) := by decide +kernel
theorem dX12_copy_64 : decode cX12_copy 64 = .ok (.getfield 25, 3) := by decide +kernel
theorem dX12_copy_67 : decode cX12_copy 67 = .ok (.iload_n 3, 1) := by decide +kernel
theorem dX12_copy_68 : decode cX12_copy 68 = .ok (.iaload, 1) := by decide +kernel
theorem dX12_copy_69 : decode cX12_copy 69 = .ok (.if_icmp .eq 6, 3) := by decide +kernel
theorem dX12_copy_72 : decode cX12_copy 72 = .ok (.bipush (-12), 2) := by decide +kernel
theorem dX12_copy_74 : decode cX12_copy 74 = .ok (.ireturn, 1) := by decide +kernel
theorem dX12_copy_75 : decode cX12_copy 75 = .ok (.iload 5, 2) := by decide +kernel
theorem dX12_copy_77 : decode cX12_copy 77 = .ok (.ifCond .lt 39, 3) := by decide +kernel
theorem dX12_copy_80 : decode cX12_copy 80 = .ok (.iload_n 2, 1) := by decide +kernel
theorem dX12_copy_81 : decode cX12_copy 81 = .ok (.ifCond .lt 35, 3) := by decide +kernel
theorem dX12_copy_84 : decode cX12_copy 84 = .ok (.iload 4, 2) := by decide +kernel
theorem dX12_copy_86 : decode cX12_copy 86 = .ok (.ifCond .lt 30, 3) := by decide +kernel
theorem dX12_copy_89 : decode cX12_copy 89 = .ok (.iload 5, 2) := by decide +kernel
theorem dX12_copy_91 : decode cX12_copy 91 = .ok (.aload_n 0, 1) := by decide +kernel
theorem dX12_copy_92 : decode cX12_copy 92 = .ok (.getfield 28, 3) := by decide +kernel
theorem dX12_copy_95 : decode cX12_copy 95 = .ok (.iload_n 1, 1) := by decide +kernel
theorem dX12_copy_96 : decode cX12_copy 96 = .ok (.iaload, 1) := by decide +kernel
theorem dX12_copy_97 : decode cX12_copy 97 = .ok (.iload_n 2, 1) := by decide +kernel
theorem dX12_copy_98 : decode cX12_copy 98 = .ok (.isub, 1) := by decide +kernel
theorem dX12_copy_99 : decode cX12_copy 99 = .ok (.if_icmp .gt 17, 3) := by decide +kernel
theorem dX12_copy_102 : decode cX12_copy 102 = .ok (.iload 5, 2) := by decide +kernel
theorem dX12_copy_104 : decode cX12_copy 104 = .ok (.aload_n 0, 1) := by decide +kernel
theorem dX12_copy_105 : decode cX12_copy 105 = .ok (.getfield 28, 3) := by decide +kernel
theorem dX12_copy_108 : decode cX12_copy 108 = .ok (.iload_n 3, 1) := by decide +kernel
theorem dX12_copy_109 : decode cX12_copy 109 = .ok (.iaload, 1) := by decide +kernel
theorem dX12_copy_110 : decode cX12_copy 110 = .ok (.iload 4, 2) := by decide +kernel
theorem dX12_copy_112 : decode cX12_copy 112 = .ok (.isub, 1) := by decide +kernel
theorem dX12_copy_113 : decode cX12_copy 113 = .ok (.if_icmp .le 6, 3) := by decide +kernel
theorem dX12_copy_116 : decode cX12_copy 116 = .ok (.bipush (-13), 2) := by decide +kernel
theorem dX12_copy_118 : decode cX12_copy 118 = .ok (.ireturn, 1) := by decide +kernel
theorem dX12_copy_119 : decode cX12_copy 119 = .ok (.iconst 0, 1) := by decide +kernel
theorem dX12_copy_120 : decode cX12_copy 120 = .ok (.istore 6, 2) := by decide +kernel
theorem dX12_copy_122 : decode cX12_copy 122 = .ok (.iload 6, 2) := by decide +kernel
theorem dX12_copy_124 : decode cX12_copy 124 = .ok (.iload 5, 2) := by decide +kernel
theorem dX12_copy_126 : decode cX12_copy 126 = .ok (.if_icmp .ge 58, 3) := by decide +kernel
theorem dX12_copy_129 : decode cX12_copy 129 = .ok (.iload_n 2, 1) := by decide +kernel
theorem dX12_copy_130 : decode cX12_copy 130 = .ok (.iload 4, 2) := by decide +kernel
theorem dX12_copy_132 : decode cX12_copy 132 = .ok (.if_icmp .le 8, 3) := by decide +kernel
theorem dX12_copy_135 : decode cX12_copy 135 = .ok (.iload 6, 2) := by decide +kernel
theorem dX12_copy_137 : decode cX12_copy 137 = .ok (.goto 10, 3) := by decide +kernel
theorem dX12_copy_140 : decode cX12_copy 140 = .ok (.iload 5, 2) := by decide +kernel
theorem dX12_copy_142 : decode cX12_copy 142 = .ok (.iconst 1, 1) := by decide +kernel
theorem dX12_copy_143 : decode cX12_copy 143 = .ok (.isub, 1) := by decide +kernel
theorem dX12_copy_144 : decode cX12_copy 144 = .ok (.iload 6, 2) := by decide +kernel
theorem dX12_copy_146 : decode cX12_copy 146 = .ok (.isub, 1) := by decide +kernel
theorem dX12_copy_147 : decode cX12_copy 147 = .ok (.istore 7, 2) := by decide +kernel
theorem dX12_copy_149 : decode cX12_copy 149 = .ok (.aload_n 0, 1) := by decide +kernel
theorem dX12_copy_150 : decode cX12_copy 150 = .ok (.getfield 31, 3) := by decide +kernel
theorem dX12_copy_153 : decode cX12_copy 153 = .ok (.bipush 100, 2) := by decide +kernel
theorem dX12_copy_155 : decode cX12_copy 155 = .ok (.iload_n 3, 1) := by decide +kernel
theorem dX12_copy_156 : decode cX12_copy 156 = .ok (.imul, 1) := by decide +kernel
theorem dX12_copy_157 : decode cX12_copy 157 = .ok (.iload 4, 2) := by decide +kernel
theorem dX12_copy_159 : decode cX12_copy 159 = .ok (.iadd, 1) := by decide +kernel
theorem dX12_copy_160 : decode cX12_copy 160 = .ok (.iload 7, 2) := by decide +kernel
theorem dX12_copy_162 : decode cX12_copy 162 = .ok (.iadd, 1) := by decide +kernel
theorem dX12_copy_163 : decode cX12_copy 163 = .ok (.aload_n 0, 1) := by decide +kernel
theorem dX12_copy_164 : decode cX12_copy 164 = .ok (.getfield 31, 3) := by decide +kernel
theorem dX12_copy_167 : decode cX12_copy 167 = .ok (.bipush 100, 2) := by decide +kernel
theorem dX12_copy_169 : decode cX12_copy 169 = .ok (.iload_n 1, 1) := by decide +kernel
theorem dX12_copy_170 : decode cX12_copy 170 = .ok (.imul, 1) := by decide +kernel
theorem dX12_copy_171 : decode cX12_copy 171 = .ok (.iload_n 2, 1) := by decide +kernel
theorem dX12_copy_172 : decode cX12_copy 172 = .ok (.iadd, 1) := by decide +kernel
theorem dX12_copy_173 : decode cX12_copy 173 = .ok (.iload 7, 2) := by decide +kernel
theorem dX12_copy_175 : decode cX12_copy 175 = .ok (.iadd, 1) := by decide +kernel
theorem dX12_copy_176 : decode cX12_copy 176 = .ok (.iaload, 1) := by decide +kernel
theorem dX12_copy_177 : decode cX12_copy 177 = .ok (.iastore, 1) := by decide +kernel
theorem dX12_copy_178 : decode cX12_copy 178 = .ok (.iinc 6 1, 3) := by decide +kernel
theorem dX12_copy_181 : decode cX12_copy 181 = .ok (.goto (-59), 3) := by decide +kernel
theorem dX12_copy_184 : decode cX12_copy 184 = .ok (.iload 5, 2) := by decide +kernel
theorem dX12_copy_186 : decode cX12_copy 186 = .ok (.ireturn, 1) := by decide +kernel
theorem dX12_pay_0 : decode cX12_pay 0 = .ok (.aload_n 0, 1) := by decide +kernel
theorem dX12_pay_1 : decode cX12_pay 1 = .ok (.iload_n 1, 1) := by decide +kernel
theorem dX12_pay_2 : decode cX12_pay 2 = .ok (.invokevirtual 165, 3) := by decide +kernel
theorem dX12_pay_5 : decode cX12_pay 5 = .ok (.istore_n 2, 1) := by decide +kernel
theorem dX12_pay_6 : decode cX12_pay 6 = .ok (.iload_n 2, 1) := by decide +kernel
theorem dX12_pay_7 : decode cX12_pay 7 = .ok (.ifCond .eq 7, 3) := by decide +kernel
theorem dX12_pay_10 : decode cX12_pay 10 = .ok (.iload_n 2, 1) := by decide +kernel
theorem dX12_pay_11 : decode cX12_pay 11 = .ok (.goto 18, 3) := by decide +kernel
theorem dX12_pay_14 : decode cX12_pay 14 = .ok (.aload_n 0, 1) := by decide +kernel
theorem dX12_pay_15 : decode cX12_pay 15 = .ok (.getfield 34, 3) := by decide +kernel
theorem dX12_pay_18 : decode cX12_pay 18 = .ok (.iload_n 1, 1) := by decide +kernel
theorem dX12_pay_19 : decode cX12_pay 19 = .ok (.iaload, 1) := by decide +kernel
theorem dX12_pay_20 : decode cX12_pay 20 = .ok (.aload_n 0, 1) := by decide +kernel
theorem dX12_pay_21 : decode cX12_pay 21 = .ok (.getfield 37, 3) := by decide +kernel
theorem dX12_pay_24 : decode cX12_pay 24 = .ok (.iload_n 1, 1) := by decide +kernel
theorem dX12_pay_25 : decode cX12_pay 25 = .ok (.iaload, 1) := by decide +kernel
theorem dX12_pay_26 : decode cX12_pay 26 = .ok (.invokestatic 241, 3) := by decide +kernel
theorem dX12_pay_29 : decode cX12_pay 29 = .ok (.ireturn, 1) := by decide +kernel
theorem dX12_toss_0 : decode cX12_toss 0 = .ok (.aload_n 0, 1) := by decide +kernel
theorem dX12_toss_1 : decode cX12_toss 1 = .ok (.iload_n 1, 1) := by decide +kernel
theorem dX12_toss_2 : decode cX12_toss 2 = .ok (.invokevirtual 165, 3) := by decide +kernel
theorem dX12_toss_5 : decode cX12_toss 5 = .ok (.istore_n 2, 1) := by decide +kernel
theorem dX12_toss_6 : decode cX12_toss 6 = .ok (.iload_n 2, 1) := by decide +kernel
theorem dX12_toss_7 : decode cX12_toss 7 = .ok (.ifCond .eq 5, 3) := by decide +kernel
theorem dX12_toss_10 : decode cX12_toss 10 = .ok (.iload_n 2, 1) := by decide +kernel
theorem dX12_toss_11 : decode cX12_toss 11 = .ok (.ireturn, 1) := by decide +kernel
theorem dX12_toss_12 : decode cX12_toss 12 = .ok (.aload_n 0, 1) := by decide +kernel
theorem dX12_toss_13 : decode cX12_toss 13 = .ok (.getfield 34, 3) := by decide +kernel
theorem dX12_toss_16 : decode cX12_toss 16 = .ok (.iload_n 1, 1) := by decide +kernel
theorem dX12_toss_17 : decode cX12_toss 17 = .ok (.iaload, 1) := by decide +kernel
theorem dX12_toss_18 : decode cX12_toss 18 = .ok (.istore_n 3, 1) := by decide +kernel
theorem dX12_toss_19 : decode cX12_toss 19 = .ok (.aload_n 0, 1) := by decide +kernel
theorem dX12_toss_20 : decode cX12_toss 20 = .ok (.getfield 37, 3) := by decide +kernel
theorem dX12_toss_23 : decode cX12_toss 23 = .ok (.iload_n 1, 1) := by decide +kernel
theorem dX12_toss_24 : decode cX12_toss 24 = .ok (.iaload, 1) := by decide +kernel
theorem dX12_toss_25 : decode cX12_toss 25 = .ok (.istore 4, 2) := by decide +kernel
theorem dX12_toss_27 : decode cX12_toss 27 = .ok (.iload_n 3, 1) := by decide +kernel
theorem dX12_toss_28 : decode cX12_toss 28 = .ok (.bipush 7, 2) := by decide +kernel
theorem dX12_toss_30 : decode cX12_toss 30 = .ok (.if_icmp .eq 8, 3) := by decide +kernel
theorem dX12_toss_33 : decode cX12_toss 33 = .ok (.iload 4, 2) := by decide +kernel
theorem dX12_toss_35 : decode cX12_toss 35 = .ok (.ifCond .ne 8, 3) := by decide +kernel
theorem dX12_toss_38 : decode cX12_toss 38 = .ok (.bipush (-15), 2) := by decide +kernel
theorem dX12_toss_40 : decode cX12_toss 40 = .ok (.goto 36, 3) := by decide +kernel
theorem dX12_toss_43 : decode cX12_toss 43 = .ok (.iload_n 3, 1) := by decide +kernel
theorem dX12_toss_44 : decode cX12_toss 44 = .ok (.iconst 3, 1) := by decide +kernel
theorem dX12_toss_45 : decode cX12_toss 45 = .ok (.if_icmp .ne 11, 3) := by decide +kernel
theorem dX12_toss_48 : decode cX12_toss 48 = .ok (.bipush 100, 2) := by decide +kernel
theorem dX12_toss_50 : decode cX12_toss 50 = .ok (.iload 4, 2) := by decide +kernel
theorem dX12_toss_52 : decode cX12_toss 52 = .ok (.iadd, 1) := by decide +kernel
theorem dX12_toss_53 : decode cX12_toss 53 = .ok (.goto 23, 3) := by decide +kernel
theorem dX12_toss_56 : decode cX12_toss 56 = .ok (.iload_n 3, 1) := by decide +kernel
theorem dX12_toss_57 : decode cX12_toss 57 = .ok (.iconst 4, 1) := by decide +kernel
theorem dX12_toss_58 : decode cX12_toss 58 = .ok (.if_icmp .ne 16, 3) := by decide +kernel
theorem dX12_toss_61 : decode cX12_toss 61 = .ok (.sipush 200, 3) := by decide +kernel
theorem dX12_toss_64 : decode cX12_toss 64 = .ok (.iload_n 3, 1) := by decide +kernel
theorem dX12_toss_65 : decode cX12_toss 65 = .ok (.iload 4, 2) := by decide +kernel
theorem dX12_toss_67 : decode cX12_toss 67 = .ok (.invokestatic 241, 3) := by decide +kernel
theorem dX12_toss_70 : decode cX12_toss 70 = .ok (.iadd, 1) := by decide +kernel
theorem dX12_toss_71 : decode cX12_toss 71 = .ok (.goto 5, 3) := by decide +kernel
theorem dX12_toss_74 : decode cX12_toss 74 = .ok (.iload 4, 2) := by decide +kernel
theorem dX12_toss_76 : decode cX12_toss 76 = .ok (.ireturn, 1) := by decide +kernel
theorem dJ6_bitCount_0f7a4_0 : decode cJ6_bitCount_0f7a4 0 = .ok (.iload_n 0, 1) := by decide +kernel
theorem dJ6_bitCount_0f7a4_1 : decode cJ6_bitCount_0f7a4 1 = .ok (.iload_n 0, 1) := by decide +kernel
theorem dJ6_bitCount_0f7a4_2 : decode cJ6_bitCount_0f7a4 2 = .ok (.iconst 1, 1) := by decide +kernel
theorem dJ6_bitCount_0f7a4_3 : decode cJ6_bitCount_0f7a4 3 = .ok (.iushr, 1) := by decide +kernel
theorem dJ6_bitCount_0f7a4_4 : decode cJ6_bitCount_0f7a4 4 = .ok (.ldc_w 265, 3) := by decide +kernel
theorem dJ6_bitCount_0f7a4_7 : decode cJ6_bitCount_0f7a4 7 = .ok (.iand, 1) := by decide +kernel
theorem dJ6_bitCount_0f7a4_8 : decode cJ6_bitCount_0f7a4 8 = .ok (.isub, 1) := by decide +kernel
theorem dJ6_bitCount_0f7a4_9 : decode cJ6_bitCount_0f7a4 9 = .ok (.istore_n 0, 1) := by decide +kernel
theorem dJ6_bitCount_0f7a4_10 : decode cJ6_bitCount_0f7a4 10 = .ok (.iload_n 0, 1) := by decide +kernel
theorem dJ6_bitCount_0f7a4_11 : decode cJ6_bitCount_0f7a4 11 = .ok (.ldc_w 266, 3) := by decide +kernel
theorem dJ6_bitCount_0f7a4_14 : decode cJ6_bitCount_0f7a4 14 = .ok (.iand, 1) := by decide +kernel
theorem dJ6_bitCount_0f7a4_15 : decode cJ6_bitCount_0f7a4 15 = .ok (.iload_n 0, 1) := by decide +kernel
theorem dJ6_bitCount_0f7a4_16 : decode cJ6_bitCount_0f7a4 16 = .ok (.iconst 2, 1) := by decide +kernel
theorem dJ6_bitCount_0f7a4_17 : decode cJ6_bitCount_0f7a4 17 = .ok (.iushr, 1) := by decide +kernel
theorem dJ6_bitCount_0f7a4_18 : decode cJ6_bitCount_0f7a4 18 = .ok (.ldc_w 266, 3) := by decide +kernel
theorem dJ6_bitCount_0f7a4_21 : decode cJ6_bitCount_0f7a4 21 = .ok (.iand, 1) := by decide +kernel
theorem dJ6_bitCount_0f7a4_22 : decode cJ6_bitCount_0f7a4 22 = .ok (.iadd, 1) := by decide +kernel
theorem dJ6_bitCount_0f7a4_23 : decode cJ6_bitCount_0f7a4 23 = .ok (.istore_n 0, 1) := by decide +kernel
theorem dJ6_bitCount_0f7a4_24 : decode cJ6_bitCount_0f7a4 24 = .ok (.iload_n 0, 1) := by decide +kernel
theorem dJ6_bitCount_0f7a4_25 : decode cJ6_bitCount_0f7a4 25 = .ok (.iload_n 0, 1) := by decide +kernel
theorem dJ6_bitCount_0f7a4_26 : decode cJ6_bitCount_0f7a4 26 = .ok (.iconst 4, 1) := by decide +kernel
theorem dJ6_bitCount_0f7a4_27 : decode cJ6_bitCount_0f7a4 27 = .ok (.iushr, 1) := by decide +kernel
theorem dJ6_bitCount_0f7a4_28 : decode cJ6_bitCount_0f7a4 28 = .ok (.iadd, 1) := by decide +kernel
theorem dJ6_bitCount_0f7a4_29 : decode cJ6_bitCount_0f7a4 29 = .ok (.ldc_w 267, 3) := by decide +kernel
theorem dJ6_bitCount_0f7a4_32 : decode cJ6_bitCount_0f7a4 32 = .ok (.iand, 1) := by decide +kernel
theorem dJ6_bitCount_0f7a4_33 : decode cJ6_bitCount_0f7a4 33 = .ok (.istore_n 0, 1) := by decide +kernel
theorem dJ6_bitCount_0f7a4_34 : decode cJ6_bitCount_0f7a4 34 = .ok (.iload_n 0, 1) := by decide +kernel
theorem dJ6_bitCount_0f7a4_35 : decode cJ6_bitCount_0f7a4 35 = .ok (.iload_n 0, 1) := by decide +kernel
theorem dJ6_bitCount_0f7a4_36 : decode cJ6_bitCount_0f7a4 36 = .ok (.bipush 8, 2) := by decide +kernel
theorem dJ6_bitCount_0f7a4_38 : decode cJ6_bitCount_0f7a4 38 = .ok (.iushr, 1) := by decide +kernel
theorem dJ6_bitCount_0f7a4_39 : decode cJ6_bitCount_0f7a4 39 = .ok (.iadd, 1) := by decide +kernel
theorem dJ6_bitCount_0f7a4_40 : decode cJ6_bitCount_0f7a4 40 = .ok (.istore_n 0, 1) := by decide +kernel
theorem dJ6_bitCount_0f7a4_41 : decode cJ6_bitCount_0f7a4 41 = .ok (.iload_n 0, 1) := by decide +kernel
theorem dJ6_bitCount_0f7a4_42 : decode cJ6_bitCount_0f7a4 42 = .ok (.iload_n 0, 1) := by decide +kernel
theorem dJ6_bitCount_0f7a4_43 : decode cJ6_bitCount_0f7a4 43 = .ok (.bipush 16, 2) := by decide +kernel
theorem dJ6_bitCount_0f7a4_45 : decode cJ6_bitCount_0f7a4 45 = .ok (.iushr, 1) := by decide +kernel
theorem dJ6_bitCount_0f7a4_46 : decode cJ6_bitCount_0f7a4 46 = .ok (.iadd, 1) := by decide +kernel
theorem dJ6_bitCount_0f7a4_47 : decode cJ6_bitCount_0f7a4 47 = .ok (.istore_n 0, 1) := by decide +kernel
theorem dJ6_bitCount_0f7a4_48 : decode cJ6_bitCount_0f7a4 48 = .ok (.iload_n 0, 1) := by decide +kernel
theorem dJ6_bitCount_0f7a4_49 : decode cJ6_bitCount_0f7a4 49 = .ok (.bipush 63, 2) := by decide +kernel
theorem dJ6_bitCount_0f7a4_51 : decode cJ6_bitCount_0f7a4 51 = .ok (.iand, 1) := by decide +kernel
theorem dJ6_bitCount_0f7a4_52 : decode cJ6_bitCount_0f7a4 52 = .ok (.ireturn, 1) := by decide +kernel
theorem dJ9_max_7cf53_0 : decode cJ9_max_7cf53 0 = .ok (.iload_n 0, 1) := by decide +kernel
theorem dJ9_max_7cf53_1 : decode cJ9_max_7cf53 1 = .ok (.iload_n 1, 1) := by decide +kernel
theorem dJ9_max_7cf53_2 : decode cJ9_max_7cf53 2 = .ok (.if_icmp .lt 7, 3) := by decide +kernel
theorem dJ9_max_7cf53_5 : decode cJ9_max_7cf53 5 = .ok (.iload_n 0, 1) := by decide +kernel
theorem dJ9_max_7cf53_6 : decode cJ9_max_7cf53 6 = .ok (.goto 4, 3) := by decide +kernel
theorem dJ9_max_7cf53_9 : decode cJ9_max_7cf53 9 = .ok (.iload_n 1, 1) := by decide +kernel
theorem dJ9_max_7cf53_10 : decode cJ9_max_7cf53 10 = .ok (.ireturn, 1) := by decide +kernel
theorem dJ9_min_7cf53_0 : decode cJ9_min_7cf53 0 = .ok (.iload_n 0, 1) := by decide +kernel
theorem dJ9_min_7cf53_1 : decode cJ9_min_7cf53 1 = .ok (.iload_n 1, 1) := by decide +kernel
theorem dJ9_min_7cf53_2 : decode cJ9_min_7cf53 2 = .ok (.if_icmp .gt 7, 3) := by decide +kernel
theorem dJ9_min_7cf53_5 : decode cJ9_min_7cf53 5 = .ok (.iload_n 0, 1) := by decide +kernel
theorem dJ9_min_7cf53_6 : decode cJ9_min_7cf53 6 = .ok (.goto 4, 3) := by decide +kernel
theorem dJ9_min_7cf53_9 : decode cJ9_min_7cf53 9 = .ok (.iload_n 1, 1) := by decide +kernel
theorem dJ9_min_7cf53_10 : decode cJ9_min_7cf53 10 = .ok (.ireturn, 1) := by decide +kernel
theorem dL_element_0 : decode cL_element 0 = .ok (.aload_n 3, 1) := by decide +kernel
theorem dL_element_1 : decode cL_element 1 = .ok (.iconst 0, 1) := by decide +kernel
theorem dL_element_2 : decode cL_element 2 = .ok (.aload_n 0, 1) := by decide +kernel
theorem dL_element_3 : decode cL_element 3 = .ok (.iload_n 1, 1) := by decide +kernel
theorem dL_element_4 : decode cL_element 4 = .ok (.iload_n 2, 1) := by decide +kernel
theorem dL_element_5 : decode cL_element 5 = .ok (.invokevirtual 7, 3) := by decide +kernel
theorem dL_element_8 : decode cL_element 8 = .ok (.lastore, 1) := by decide +kernel
theorem dL_element_9 : decode cL_element 9 = .ok (.goto 11, 3) := by decide +kernel
theorem dL_element_12 : decode cL_element 12 = .ok (.astore 4, 2) := by decide +kernel
theorem dL_element_14 : decode cL_element 14 = .ok (.iconst 1, 1) := by decide +kernel
theorem dL_element_15 : decode cL_element 15 = .ok (.ireturn, 1) := by decide +kernel
theorem dL_element_16 : decode cL_element 16 = .ok (.astore 4, 2) := by decide +kernel
theorem dL_element_18 : decode cL_element 18 = .ok (.iconst 2, 1) := by decide +kernel
theorem dL_element_19 : decode cL_element 19 = .ok (.ireturn, 1) := by decide +kernel
theorem dL_element_20 : decode cL_element 20 = .ok (.iconst 0, 1) := by decide +kernel
theorem dL_element_21 : decode cL_element 21 = .ok (.ireturn, 1) := by decide +kernel
theorem dL_law_0 : decode cL_law 0 = .ok (.new 8, 3) := by decide +kernel
theorem dL_law_3 : decode cL_law 3 = .ok (.dup, 1) := by decide +kernel
theorem dL_law_4 : decode cL_law 4 = .ok (.invokespecial 17, 3) := by decide +kernel
theorem dL_law_7 : decode cL_law 7 = .ok (.astore_n 1, 1) := by decide +kernel
theorem dL_law_8 : decode cL_law 8 = .ok (.new 18, 3) := by decide +kernel
theorem dL_law_11 : decode cL_law 11 = .ok (.dup, 1) := by decide +kernel
theorem dL_law_12 : decode cL_law 12 = .ok (.invokespecial 20, 3) := by decide +kernel
theorem dL_law_15 : decode cL_law 15 = .ok (.astore_n 2, 1) := by decide +kernel
theorem dL_law_16 : decode cL_law 16 = .ok (.iconst 1, 1) := by decide +kernel
theorem dL_law_17 : decode cL_law 17 = .ok (.newarray .long, 2) := by decide +kernel
theorem dL_law_19 : decode cL_law 19 = .ok (.astore_n 3, 1) := by decide +kernel
theorem dL_law_20 : decode cL_law 20 = .ok (.iconst 0, 1) := by decide +kernel
theorem dL_law_21 : decode cL_law 21 = .ok (.istore 4, 2) := by decide +kernel
theorem dL_law_23 : decode cL_law 23 = .ok (.iload 4, 2) := by decide +kernel
theorem dL_law_25 : decode cL_law 25 = .ok (.aload_n 0, 1) := by decide +kernel
theorem dL_law_26 : decode cL_law 26 = .ok (.arraylength, 1) := by decide +kernel
theorem dL_law_27 : decode cL_law 27 = .ok (.bipush 6, 2) := by decide +kernel
theorem dL_law_29 : decode cL_law 29 = .ok (.isub, 1) := by decide +kernel
theorem dL_law_30 : decode cL_law 30 = .ok (.if_icmp .gt 1280, 3) := by decide +kernel
theorem dL_law_33 : decode cL_law 33 = .ok (.aload_n 0, 1) := by decide +kernel
theorem dL_law_34 : decode cL_law 34 = .ok (.iload 4, 2) := by decide +kernel
theorem dL_law_36 : decode cL_law 36 = .ok (.iaload, 1) := by decide +kernel
theorem dL_law_37 : decode cL_law 37 = .ok (.bipush 31, 2) := by decide +kernel
theorem dL_law_39 : decode cL_law 39 = .ok (.iand, 1) := by decide +kernel
theorem dL_law_40 : decode cL_law 40 = .ok (.tableswitch 1264 0 29 #[136, 161, 198, 235, 272, 309, 322, 359, 408, 445, 482, 519, 556, 629, 642, 655, 692, 741, 790, 839, 864, 877, 890, 915, 976, 1025, 1074, 1141, 1214, 1239], 136) := by decide +kernel
theorem dL_law_176 : decode cL_law 176 = .ok (.aload_n 1, 1) := by decide +kernel
theorem dL_law_177 : decode cL_law 177 = .ok (.aload_n 0, 1) := by decide +kernel
theorem dL_law_178 : decode cL_law 178 = .ok (.iload 4, 2) := by decide +kernel
theorem dL_law_180 : decode cL_law 180 = .ok (.iconst 1, 1) := by decide +kernel
theorem dL_law_181 : decode cL_law 181 = .ok (.iadd, 1) := by decide +kernel
theorem dL_law_182 : decode cL_law 182 = .ok (.iaload, 1) := by decide +kernel
theorem dL_law_183 : decode cL_law 183 = .ok (.invokevirtual 21, 3) := by decide +kernel
theorem dL_law_186 : decode cL_law 186 = .ok (.aload_n 2, 1) := by decide +kernel
theorem dL_law_187 : decode cL_law 187 = .ok (.aload_n 0, 1) := by decide +kernel
theorem dL_law_188 : decode cL_law 188 = .ok (.iload 4, 2) := by decide +kernel
theorem dL_law_190 : decode cL_law 190 = .ok (.iconst 1, 1) := by decide +kernel
theorem dL_law_191 : decode cL_law 191 = .ok (.iadd, 1) := by decide +kernel
theorem dL_law_192 : decode cL_law 192 = .ok (.iaload, 1) := by decide +kernel
theorem dL_law_193 : decode cL_law 193 = .ok (.invokevirtual 25, 3) := by decide +kernel
theorem dL_law_196 : decode cL_law 196 = .ok (.if_icmp .eq 1108, 3) := by decide +kernel
theorem dL_law_199 : decode cL_law 199 = .ok (.iconst 0, 1) := by decide +kernel
theorem dL_law_200 : decode cL_law 200 = .ok (.ireturn, 1) := by decide +kernel
theorem dL_law_201 : decode cL_law 201 = .ok (.aload_n 1, 1) := by decide +kernel
theorem dL_law_202 : decode cL_law 202 = .ok (.aload_n 0, 1) := by decide +kernel
theorem dL_law_203 : decode cL_law 203 = .ok (.iload 4, 2) := by decide +kernel
theorem dL_law_205 : decode cL_law 205 = .ok (.iconst 1, 1) := by decide +kernel
theorem dL_law_206 : decode cL_law 206 = .ok (.iadd, 1) := by decide +kernel
theorem dL_law_207 : decode cL_law 207 = .ok (.iaload, 1) := by decide +kernel
theorem dL_law_208 : decode cL_law 208 = .ok (.aload_n 0, 1) := by decide +kernel
theorem dL_law_209 : decode cL_law 209 = .ok (.iload 4, 2) := by decide +kernel
theorem dL_law_211 : decode cL_law 211 = .ok (.iconst 2, 1) := by decide +kernel
theorem dL_law_212 : decode cL_law 212 = .ok (.iadd, 1) := by decide +kernel
theorem dL_law_213 : decode cL_law 213 = .ok (.iaload, 1) := by decide +kernel
theorem dL_law_214 : decode cL_law 214 = .ok (.invokevirtual 26, 3) := by decide +kernel
theorem dL_law_217 : decode cL_law 217 = .ok (.aload_n 2, 1) := by decide +kernel
theorem dL_law_218 : decode cL_law 218 = .ok (.aload_n 0, 1) := by decide +kernel
theorem dL_law_219 : decode cL_law 219 = .ok (.iload 4, 2) := by decide +kernel
theorem dL_law_221 : decode cL_law 221 = .ok (.iconst 1, 1) := by decide +kernel
theorem dL_law_222 : decode cL_law 222 = .ok (.iadd, 1) := by decide +kernel
theorem dL_law_223 : decode cL_law 223 = .ok (.iaload, 1) := by decide +kernel
theorem dL_law_224 : decode cL_law 224 = .ok (.aload_n 0, 1) := by decide +kernel
theorem dL_law_225 : decode cL_law 225 = .ok (.iload 4, 2) := by decide +kernel
theorem dL_law_227 : decode cL_law 227 = .ok (.iconst 2, 1) := by decide +kernel
theorem dL_law_228 : decode cL_law 228 = .ok (.iadd, 1) := by decide +kernel
theorem dL_law_229 : decode cL_law 229 = .ok (.iaload, 1) := by decide +kernel
theorem dL_law_230 : decode cL_law 230 = .ok (.invokevirtual 30, 3) := by decide +kernel
theorem dL_law_233 : decode cL_law 233 = .ok (.if_icmp .eq 1071, 3) := by decide +kernel
theorem dL_law_236 : decode cL_law 236 = .ok (.iconst 0, 1) := by decide +kernel
theorem dL_law_237 : decode cL_law 237 = .ok (.ireturn, 1) := by decide +kernel
theorem dL_law_238 : decode cL_law 238 = .ok (.aload_n 1, 1) := by decide +kernel
theorem dL_law_239 : decode cL_law 239 = .ok (.aload_n 0, 1) := by decide +kernel
theorem dL_law_240 : decode cL_law 240 = .ok (.iload 4, 2) := by decide +kernel
theorem dL_law_242 : decode cL_law 242 = .ok (.iconst 1, 1) := by decide +kernel
theorem dL_law_243 : decode cL_law 243 = .ok (.iadd, 1) := by decide +kernel
theorem dL_law_244 : decode cL_law 244 = .ok (.iaload, 1) := by decide +kernel
theorem dL_law_245 : decode cL_law 245 = .ok (.aload_n 0, 1) := by decide +kernel
theorem dL_law_246 : decode cL_law 246 = .ok (.iload 4, 2) := by decide +kernel
theorem dL_law_248 : decode cL_law 248 = .ok (.iconst 2, 1) := by decide +kernel
theorem dL_law_249 : decode cL_law 249 = .ok (.iadd, 1) := by decide +kernel
theorem dL_law_250 : decode cL_law 250 = .ok (.iaload, 1) := by decide +kernel
theorem dL_law_251 : decode cL_law 251 = .ok (.invokevirtual 31, 3) := by decide +kernel
theorem dL_law_254 : decode cL_law 254 = .ok (.aload_n 2, 1) := by decide +kernel
theorem dL_law_255 : decode cL_law 255 = .ok (.aload_n 0, 1) := by decide +kernel
theorem dL_law_256 : decode cL_law 256 = .ok (.iload 4, 2) := by decide +kernel
theorem dL_law_258 : decode cL_law 258 = .ok (.iconst 1, 1) := by decide +kernel
theorem dL_law_259 : decode cL_law 259 = .ok (.iadd, 1) := by decide +kernel
theorem dL_law_260 : decode cL_law 260 = .ok (.iaload, 1) := by decide +kernel
theorem dL_law_261 : decode cL_law 261 = .ok (.aload_n 0, 1) := by decide +kernel
theorem dL_law_262 : decode cL_law 262 = .ok (.iload 4, 2) := by decide +kernel
theorem dL_law_264 : decode cL_law 264 = .ok (.iconst 2, 1) := by decide +kernel
theorem dL_law_265 : decode cL_law 265 = .ok (.iadd, 1) := by decide +kernel
theorem dL_law_266 : decode cL_law 266 = .ok (.iaload, 1) := by decide +kernel
theorem dL_law_267 : decode cL_law 267 = .ok (.invokevirtual 34, 3) := by decide +kernel
theorem dL_law_270 : decode cL_law 270 = .ok (.if_icmp .eq 1034, 3) := by decide +kernel
theorem dL_law_273 : decode cL_law 273 = .ok (.iconst 0, 1) := by decide +kernel
theorem dL_law_274 : decode cL_law 274 = .ok (.ireturn, 1) := by decide +kernel
theorem dL_law_275 : decode cL_law 275 = .ok (.aload_n 1, 1) := by decide +kernel
theorem dL_law_276 : decode cL_law 276 = .ok (.aload_n 0, 1) := by decide +kernel
theorem dL_law_277 : decode cL_law 277 = .ok (.iload 4, 2) := by decide +kernel
theorem dL_law_279 : decode cL_law 279 = .ok (.iconst 1, 1) := by decide +kernel
theorem dL_law_280 : decode cL_law 280 = .ok (.iadd, 1) := by decide +kernel
theorem dL_law_281 : decode cL_law 281 = .ok (.iaload, 1) := by decide +kernel
theorem dL_law_282 : decode cL_law 282 = .ok (.aload_n 0, 1) := by decide +kernel
theorem dL_law_283 : decode cL_law 283 = .ok (.iload 4, 2) := by decide +kernel
theorem dL_law_285 : decode cL_law 285 = .ok (.iconst 2, 1) := by decide +kernel
theorem dL_law_286 : decode cL_law 286 = .ok (.iadd, 1) := by decide +kernel
theorem dL_law_287 : decode cL_law 287 = .ok (.iaload, 1) := by decide +kernel
theorem dL_law_288 : decode cL_law 288 = .ok (.invokevirtual 35, 3) := by decide +kernel
theorem dL_law_291 : decode cL_law 291 = .ok (.aload_n 2, 1) := by decide +kernel
theorem dL_law_292 : decode cL_law 292 = .ok (.aload_n 0, 1) := by decide +kernel
theorem dL_law_293 : decode cL_law 293 = .ok (.iload 4, 2) := by decide +kernel
theorem dL_law_295 : decode cL_law 295 = .ok (.iconst 1, 1) := by decide +kernel
theorem dL_law_296 : decode cL_law 296 = .ok (.iadd, 1) := by decide +kernel
theorem dL_law_297 : decode cL_law 297 = .ok (.iaload, 1) := by decide +kernel
theorem dL_law_298 : decode cL_law 298 = .ok (.aload_n 0, 1) := by decide +kernel
theorem dL_law_299 : decode cL_law 299 = .ok (.iload 4, 2) := by decide +kernel
theorem dL_law_301 : decode cL_law 301 = .ok (.iconst 2, 1) := by decide +kernel
theorem dL_law_302 : decode cL_law 302 = .ok (.iadd, 1) := by decide +kernel
theorem dL_law_303 : decode cL_law 303 = .ok (.iaload, 1) := by decide +kernel
theorem dL_law_304 : decode cL_law 304 = .ok (.invokevirtual 38, 3) := by decide +kernel
theorem dL_law_307 : decode cL_law 307 = .ok (.if_icmp .eq 997, 3) := by decide +kernel
theorem dL_law_310 : decode cL_law 310 = .ok (.iconst 0, 1) := by decide +kernel
theorem dL_law_311 : decode cL_law 311 = .ok (.ireturn, 1) := by decide +kernel
theorem dL_law_312 : decode cL_law 312 = .ok (.aload_n 1, 1) := by decide +kernel
theorem dL_law_313 : decode cL_law 313 = .ok (.aload_n 0, 1) := by decide +kernel
theorem dL_law_314 : decode cL_law 314 = .ok (.iload 4, 2) := by decide +kernel
theorem dL_law_316 : decode cL_law 316 = .ok (.iconst 1, 1) := by decide +kernel
theorem dL_law_317 : decode cL_law 317 = .ok (.iadd, 1) := by decide +kernel
theorem dL_law_318 : decode cL_law 318 = .ok (.iaload, 1) := by decide +kernel
theorem dL_law_319 : decode cL_law 319 = .ok (.aload_n 0, 1) := by decide +kernel
theorem dL_law_320 : decode cL_law 320 = .ok (.iload 4, 2) := by decide +kernel
theorem dL_law_322 : decode cL_law 322 = .ok (.iconst 2, 1) := by decide +kernel
theorem dL_law_323 : decode cL_law 323 = .ok (.iadd, 1) := by decide +kernel
theorem dL_law_324 : decode cL_law 324 = .ok (.iaload, 1) := by decide +kernel
theorem dL_law_325 : decode cL_law 325 = .ok (.invokevirtual 39, 3) := by decide +kernel
theorem dL_law_328 : decode cL_law 328 = .ok (.aload_n 2, 1) := by decide +kernel
theorem dL_law_329 : decode cL_law 329 = .ok (.aload_n 0, 1) := by decide +kernel
theorem dL_law_330 : decode cL_law 330 = .ok (.iload 4, 2) := by decide +kernel
theorem dL_law_332 : decode cL_law 332 = .ok (.iconst 1, 1) := by decide +kernel
theorem dL_law_333 : decode cL_law 333 = .ok (.iadd, 1) := by decide +kernel
theorem dL_law_334 : decode cL_law 334 = .ok (.iaload, 1) := by decide +kernel
theorem dL_law_335 : decode cL_law 335 = .ok (.aload_n 0, 1) := by decide +kernel
theorem dL_law_336 : decode cL_law 336 = .ok (.iload 4, 2) := by decide +kernel
theorem dL_law_338 : decode cL_law 338 = .ok (.iconst 2, 1) := by decide +kernel
theorem dL_law_339 : decode cL_law 339 = .ok (.iadd, 1) := by decide +kernel
theorem dL_law_340 : decode cL_law 340 = .ok (.iaload, 1) := by decide +kernel
theorem dL_law_341 : decode cL_law 341 = .ok (.invokevirtual 42, 3) := by decide +kernel
theorem dL_law_344 : decode cL_law 344 = .ok (.if_icmp .eq 960, 3) := by decide +kernel
theorem dL_law_347 : decode cL_law 347 = .ok (.iconst 0, 1) := by decide +kernel
theorem dL_law_348 : decode cL_law 348 = .ok (.ireturn, 1) := by decide +kernel
theorem dL_law_349 : decode cL_law 349 = .ok (.aload_n 1, 1) := by decide +kernel
theorem dL_law_350 : decode cL_law 350 = .ok (.invokevirtual 43, 3) := by decide +kernel
theorem dL_law_353 : decode cL_law 353 = .ok (.aload_n 2, 1) := by decide +kernel
theorem dL_law_354 : decode cL_law 354 = .ok (.invokevirtual 47, 3) := by decide +kernel
theorem dL_law_357 : decode cL_law 357 = .ok (.if_icmp .eq 947, 3) := by decide +kernel
theorem dL_law_360 : decode cL_law 360 = .ok (.iconst 0, 1) := by decide +kernel
theorem dL_law_361 : decode cL_law 361 = .ok (.ireturn, 1) := by decide +kernel
theorem dL_law_362 : decode cL_law 362 = .ok (.aload_n 1, 1) := by decide +kernel
theorem dL_law_363 : decode cL_law 363 = .ok (.aload_n 0, 1) := by decide +kernel
theorem dL_law_364 : decode cL_law 364 = .ok (.iload 4, 2) := by decide +kernel
theorem dL_law_366 : decode cL_law 366 = .ok (.iconst 1, 1) := by decide +kernel
theorem dL_law_367 : decode cL_law 367 = .ok (.iadd, 1) := by decide +kernel
theorem dL_law_368 : decode cL_law 368 = .ok (.iaload, 1) := by decide +kernel
theorem dL_law_369 : decode cL_law 369 = .ok (.aload_n 0, 1) := by decide +kernel
theorem dL_law_370 : decode cL_law 370 = .ok (.iload 4, 2) := by decide +kernel
theorem dL_law_372 : decode cL_law 372 = .ok (.iconst 2, 1) := by decide +kernel
theorem dL_law_373 : decode cL_law 373 = .ok (.iadd, 1) := by decide +kernel
theorem dL_law_374 : decode cL_law 374 = .ok (.iaload, 1) := by decide +kernel
theorem dL_law_375 : decode cL_law 375 = .ok (.invokevirtual 48, 3) := by decide +kernel
theorem dL_law_378 : decode cL_law 378 = .ok (.aload_n 2, 1) := by decide +kernel
theorem dL_law_379 : decode cL_law 379 = .ok (.aload_n 0, 1) := by decide +kernel
theorem dL_law_380 : decode cL_law 380 = .ok (.iload 4, 2) := by decide +kernel
theorem dL_law_382 : decode cL_law 382 = .ok (.iconst 1, 1) := by decide +kernel
theorem dL_law_383 : decode cL_law 383 = .ok (.iadd, 1) := by decide +kernel
theorem dL_law_384 : decode cL_law 384 = .ok (.iaload, 1) := by decide +kernel
theorem dL_law_385 : decode cL_law 385 = .ok (.aload_n 0, 1) := by decide +kernel
theorem dL_law_386 : decode cL_law 386 = .ok (.iload 4, 2) := by decide +kernel
theorem dL_law_388 : decode cL_law 388 = .ok (.iconst 2, 1) := by decide +kernel
theorem dL_law_389 : decode cL_law 389 = .ok (.iadd, 1) := by decide +kernel
theorem dL_law_390 : decode cL_law 390 = .ok (.iaload, 1) := by decide +kernel
theorem dL_law_391 : decode cL_law 391 = .ok (.invokevirtual 51, 3) := by decide +kernel
theorem dL_law_394 : decode cL_law 394 = .ok (.if_icmp .eq 910, 3) := by decide +kernel
theorem dL_law_397 : decode cL_law 397 = .ok (.iconst 0, 1) := by decide +kernel
theorem dL_law_398 : decode cL_law 398 = .ok (.ireturn, 1) := by decide +kernel
theorem dL_law_399 : decode cL_law 399 = .ok (.aload_n 1, 1) := by decide +kernel
theorem dL_law_400 : decode cL_law 400 = .ok (.aload_n 0, 1) := by decide +kernel
theorem dL_law_401 : decode cL_law 401 = .ok (.iload 4, 2) := by decide +kernel
theorem dL_law_403 : decode cL_law 403 = .ok (.iconst 1, 1) := by decide +kernel
theorem dL_law_404 : decode cL_law 404 = .ok (.iadd, 1) := by decide +kernel
theorem dL_law_405 : decode cL_law 405 = .ok (.iaload, 1) := by decide +kernel
theorem dL_law_406 : decode cL_law 406 = .ok (.aload_n 0, 1) := by decide +kernel
theorem dL_law_407 : decode cL_law 407 = .ok (.iload 4, 2) := by decide +kernel
theorem dL_law_409 : decode cL_law 409 = .ok (.iconst 2, 1) := by decide +kernel
theorem dL_law_410 : decode cL_law 410 = .ok (.iadd, 1) := by decide +kernel
theorem dL_law_411 : decode cL_law 411 = .ok (.iaload, 1) := by decide +kernel
theorem dL_law_412 : decode cL_law 412 = .ok (.aload_n 0, 1) := by decide +kernel
theorem dL_law_413 : decode cL_law 413 = .ok (.iload 4, 2) := by decide +kernel
theorem dL_law_415 : decode cL_law 415 = .ok (.iconst 3, 1) := by decide +kernel
theorem dL_law_416 : decode cL_law 416 = .ok (.iadd, 1) := by decide +kernel
theorem dL_law_417 : decode cL_law 417 = .ok (.iaload, 1) := by decide +kernel
theorem dL_law_418 : decode cL_law 418 = .ok (.invokevirtual 52, 3) := by decide +kernel
theorem dL_law_421 : decode cL_law 421 = .ok (.aload_n 2, 1) := by decide +kernel
theorem dL_law_422 : decode cL_law 422 = .ok (.aload_n 0, 1) := by decide +kernel
theorem dL_law_423 : decode cL_law 423 = .ok (.iload 4, 2) := by decide +kernel
theorem dL_law_425 : decode cL_law 425 = .ok (.iconst 1, 1) := by decide +kernel
theorem dL_law_426 : decode cL_law 426 = .ok (.iadd, 1) := by decide +kernel
theorem dL_law_427 : decode cL_law 427 = .ok (.iaload, 1) := by decide +kernel
theorem dL_law_428 : decode cL_law 428 = .ok (.aload_n 0, 1) := by decide +kernel
theorem dL_law_429 : decode cL_law 429 = .ok (.iload 4, 2) := by decide +kernel
theorem dL_law_431 : decode cL_law 431 = .ok (.iconst 2, 1) := by decide +kernel
theorem dL_law_432 : decode cL_law 432 = .ok (.iadd, 1) := by decide +kernel
theorem dL_law_433 : decode cL_law 433 = .ok (.iaload, 1) := by decide +kernel
theorem dL_law_434 : decode cL_law 434 = .ok (.aload_n 0, 1) := by decide +kernel
theorem dL_law_435 : decode cL_law 435 = .ok (.iload 4, 2) := by decide +kernel
theorem dL_law_437 : decode cL_law 437 = .ok (.iconst 3, 1) := by decide +kernel
theorem dL_law_438 : decode cL_law 438 = .ok (.iadd, 1) := by decide +kernel
theorem dL_law_439 : decode cL_law 439 = .ok (.iaload, 1) := by decide +kernel
theorem dL_law_440 : decode cL_law 440 = .ok (.invokevirtual 56, 3) := by decide +kernel
theorem dL_law_443 : decode cL_law 443 = .ok (.if_icmp .eq 861, 3) := by decide +kernel
theorem dL_law_446 : decode cL_law 446 = .ok (.iconst 0, 1) := by decide +kernel
theorem dL_law_447 : decode cL_law 447 = .ok (.ireturn, 1) := by decide +kernel
theorem dL_law_448 : decode cL_law 448 = .ok (.aload_n 1, 1) := by decide +kernel
theorem dL_law_449 : decode cL_law 449 = .ok (.aload_n 0, 1) := by decide +kernel
theorem dL_law_450 : decode cL_law 450 = .ok (.iload 4, 2) := by decide +kernel
theorem dL_law_452 : decode cL_law 452 = .ok (.iconst 1, 1) := by decide +kernel
theorem dL_law_453 : decode cL_law 453 = .ok (.iadd, 1) := by decide +kernel
theorem dL_law_454 : decode cL_law 454 = .ok (.iaload, 1) := by decide +kernel
theorem dL_law_455 : decode cL_law 455 = .ok (.aload_n 0, 1) := by decide +kernel
theorem dL_law_456 : decode cL_law 456 = .ok (.iload 4, 2) := by decide +kernel
theorem dL_law_458 : decode cL_law 458 = .ok (.iconst 2, 1) := by decide +kernel
theorem dL_law_459 : decode cL_law 459 = .ok (.iadd, 1) := by decide +kernel
theorem dL_law_460 : decode cL_law 460 = .ok (.iaload, 1) := by decide +kernel
theorem dL_law_461 : decode cL_law 461 = .ok (.invokevirtual 57, 3) := by decide +kernel
theorem dL_law_464 : decode cL_law 464 = .ok (.aload_n 2, 1) := by decide +kernel
theorem dL_law_465 : decode cL_law 465 = .ok (.aload_n 0, 1) := by decide +kernel
theorem dL_law_466 : decode cL_law 466 = .ok (.iload 4, 2) := by decide +kernel
theorem dL_law_468 : decode cL_law 468 = .ok (.iconst 1, 1) := by decide +kernel
theorem dL_law_469 : decode cL_law 469 = .ok (.iadd, 1) := by decide +kernel
theorem dL_law_470 : decode cL_law 470 = .ok (.iaload, 1) := by decide +kernel
theorem dL_law_471 : decode cL_law 471 = .ok (.aload_n 0, 1) := by decide +kernel
theorem dL_law_472 : decode cL_law 472 = .ok (.iload 4, 2) := by decide +kernel
theorem dL_law_474 : decode cL_law 474 = .ok (.iconst 2, 1) := by decide +kernel
theorem dL_law_475 : decode cL_law 475 = .ok (.iadd, 1) := by decide +kernel
theorem dL_law_476 : decode cL_law 476 = .ok (.iaload, 1) := by decide +kernel
theorem dL_law_477 : decode cL_law 477 = .ok (.invokevirtual 60, 3) := by decide +kernel
theorem dL_law_480 : decode cL_law 480 = .ok (.if_icmp .eq 824, 3) := by decide +kernel
theorem dL_law_483 : decode cL_law 483 = .ok (.iconst 0, 1) := by decide +kernel
theorem dL_law_484 : decode cL_law 484 = .ok (.ireturn, 1) := by decide +kernel
theorem dL_law_485 : decode cL_law 485 = .ok (.aload_n 1, 1) := by decide +kernel
theorem dL_law_486 : decode cL_law 486 = .ok (.aload_n 0, 1) := by decide +kernel
theorem dL_law_487 : decode cL_law 487 = .ok (.iload 4, 2) := by decide +kernel
theorem dL_law_489 : decode cL_law 489 = .ok (.iconst 1, 1) := by decide +kernel
theorem dL_law_490 : decode cL_law 490 = .ok (.iadd, 1) := by decide +kernel
theorem dL_law_491 : decode cL_law 491 = .ok (.iaload, 1) := by decide +kernel
theorem dL_law_492 : decode cL_law 492 = .ok (.aload_n 0, 1) := by decide +kernel
theorem dL_law_493 : decode cL_law 493 = .ok (.iload 4, 2) := by decide +kernel
theorem dL_law_495 : decode cL_law 495 = .ok (.iconst 2, 1) := by decide +kernel
theorem dL_law_496 : decode cL_law 496 = .ok (.iadd, 1) := by decide +kernel
theorem dL_law_497 : decode cL_law 497 = .ok (.iaload, 1) := by decide +kernel
theorem dL_law_498 : decode cL_law 498 = .ok (.invokevirtual 61, 3) := by decide +kernel
theorem dL_law_501 : decode cL_law 501 = .ok (.aload_n 2, 1) := by decide +kernel
theorem dL_law_502 : decode cL_law 502 = .ok (.aload_n 0, 1) := by decide +kernel
theorem dL_law_503 : decode cL_law 503 = .ok (.iload 4, 2) := by decide +kernel
theorem dL_law_505 : decode cL_law 505 = .ok (.iconst 1, 1) := by decide +kernel
theorem dL_law_506 : decode cL_law 506 = .ok (.iadd, 1) := by decide +kernel
theorem dL_law_507 : decode cL_law 507 = .ok (.iaload, 1) := by decide +kernel
theorem dL_law_508 : decode cL_law 508 = .ok (.aload_n 0, 1) := by decide +kernel
theorem dL_law_509 : decode cL_law 509 = .ok (.iload 4, 2) := by decide +kernel
theorem dL_law_511 : decode cL_law 511 = .ok (.iconst 2, 1) := by decide +kernel
theorem dL_law_512 : decode cL_law 512 = .ok (.iadd, 1) := by decide +kernel
theorem dL_law_513 : decode cL_law 513 = .ok (.iaload, 1) := by decide +kernel
theorem dL_law_514 : decode cL_law 514 = .ok (.invokevirtual 64, 3) := by decide +kernel
theorem dL_law_517 : decode cL_law 517 = .ok (.if_icmp .eq 787, 3) := by decide +kernel
theorem dL_law_520 : decode cL_law 520 = .ok (.iconst 0, 1) := by decide +kernel
theorem dL_law_521 : decode cL_law 521 = .ok (.ireturn, 1) := by decide +kernel
theorem dL_law_522 : decode cL_law 522 = .ok (.aload_n 1, 1) := by decide +kernel
theorem dL_law_523 : decode cL_law 523 = .ok (.aload_n 0, 1) := by decide +kernel
theorem dL_law_524 : decode cL_law 524 = .ok (.iload 4, 2) := by decide +kernel
theorem dL_law_526 : decode cL_law 526 = .ok (.iconst 1, 1) := by decide +kernel
theorem dL_law_527 : decode cL_law 527 = .ok (.iadd, 1) := by decide +kernel
theorem dL_law_528 : decode cL_law 528 = .ok (.iaload, 1) := by decide +kernel
theorem dL_law_529 : decode cL_law 529 = .ok (.aload_n 0, 1) := by decide +kernel
theorem dL_law_530 : decode cL_law 530 = .ok (.iload 4, 2) := by decide +kernel
theorem dL_law_532 : decode cL_law 532 = .ok (.iconst 2, 1) := by decide +kernel
theorem dL_law_533 : decode cL_law 533 = .ok (.iadd, 1) := by decide +kernel
theorem dL_law_534 : decode cL_law 534 = .ok (.iaload, 1) := by decide +kernel
theorem dL_law_535 : decode cL_law 535 = .ok (.invokevirtual 65, 3) := by decide +kernel
theorem dL_law_538 : decode cL_law 538 = .ok (.aload_n 2, 1) := by decide +kernel
theorem dL_law_539 : decode cL_law 539 = .ok (.aload_n 0, 1) := by decide +kernel
theorem dL_law_540 : decode cL_law 540 = .ok (.iload 4, 2) := by decide +kernel
theorem dL_law_542 : decode cL_law 542 = .ok (.iconst 1, 1) := by decide +kernel
theorem dL_law_543 : decode cL_law 543 = .ok (.iadd, 1) := by decide +kernel
theorem dL_law_544 : decode cL_law 544 = .ok (.iaload, 1) := by decide +kernel
theorem dL_law_545 : decode cL_law 545 = .ok (.aload_n 0, 1) := by decide +kernel
theorem dL_law_546 : decode cL_law 546 = .ok (.iload 4, 2) := by decide +kernel
theorem dL_law_548 : decode cL_law 548 = .ok (.iconst 2, 1) := by decide +kernel
theorem dL_law_549 : decode cL_law 549 = .ok (.iadd, 1) := by decide +kernel
theorem dL_law_550 : decode cL_law 550 = .ok (.iaload, 1) := by decide +kernel
theorem dL_law_551 : decode cL_law 551 = .ok (.invokevirtual 68, 3) := by decide +kernel
theorem dL_law_554 : decode cL_law 554 = .ok (.if_icmp .eq 750, 3) := by decide +kernel
theorem dL_law_557 : decode cL_law 557 = .ok (.iconst 0, 1) := by decide +kernel
theorem dL_law_558 : decode cL_law 558 = .ok (.ireturn, 1) := by decide +kernel
theorem dL_law_559 : decode cL_law 559 = .ok (.aload_n 1, 1) := by decide +kernel
theorem dL_law_560 : decode cL_law 560 = .ok (.aload_n 0, 1) := by decide +kernel
theorem dL_law_561 : decode cL_law 561 = .ok (.iload 4, 2) := by decide +kernel
theorem dL_law_563 : decode cL_law 563 = .ok (.iconst 1, 1) := by decide +kernel
theorem dL_law_564 : decode cL_law 564 = .ok (.iadd, 1) := by decide +kernel
theorem dL_law_565 : decode cL_law 565 = .ok (.iaload, 1) := by decide +kernel
theorem dL_law_566 : decode cL_law 566 = .ok (.aload_n 0, 1) := by decide +kernel
theorem dL_law_567 : decode cL_law 567 = .ok (.iload 4, 2) := by decide +kernel
theorem dL_law_569 : decode cL_law 569 = .ok (.iconst 2, 1) := by decide +kernel
theorem dL_law_570 : decode cL_law 570 = .ok (.iadd, 1) := by decide +kernel
theorem dL_law_571 : decode cL_law 571 = .ok (.iaload, 1) := by decide +kernel
theorem dL_law_572 : decode cL_law 572 = .ok (.invokevirtual 69, 3) := by decide +kernel
theorem dL_law_575 : decode cL_law 575 = .ok (.aload_n 2, 1) := by decide +kernel
theorem dL_law_576 : decode cL_law 576 = .ok (.aload_n 0, 1) := by decide +kernel
theorem dL_law_577 : decode cL_law 577 = .ok (.iload 4, 2) := by decide +kernel
theorem dL_law_579 : decode cL_law 579 = .ok (.iconst 1, 1) := by decide +kernel
theorem dL_law_580 : decode cL_law 580 = .ok (.iadd, 1) := by decide +kernel
theorem dL_law_581 : decode cL_law 581 = .ok (.iaload, 1) := by decide +kernel
theorem dL_law_582 : decode cL_law 582 = .ok (.aload_n 0, 1) := by decide +kernel
theorem dL_law_583 : decode cL_law 583 = .ok (.iload 4, 2) := by decide +kernel
theorem dL_law_585 : decode cL_law 585 = .ok (.iconst 2, 1) := by decide +kernel
theorem dL_law_586 : decode cL_law 586 = .ok (.iadd, 1) := by decide +kernel
theorem dL_law_587 : decode cL_law 587 = .ok (.iaload, 1) := by decide +kernel
theorem dL_law_588 : decode cL_law 588 = .ok (.invokevirtual 72, 3) := by decide +kernel
theorem dL_law_591 : decode cL_law 591 = .ok (.if_icmp .eq 713, 3) := by decide +kernel
theorem dL_law_594 : decode cL_law 594 = .ok (.iconst 0, 1) := by decide +kernel
theorem dL_law_595 : decode cL_law 595 = .ok (.ireturn, 1) := by decide +kernel
theorem dL_law_596 : decode cL_law 596 = .ok (.aload_n 1, 1) := by decide +kernel
theorem dL_law_597 : decode cL_law 597 = .ok (.aload_n 0, 1) := by decide +kernel
theorem dL_law_598 : decode cL_law 598 = .ok (.iload 4, 2) := by decide +kernel
theorem dL_law_600 : decode cL_law 600 = .ok (.iconst 1, 1) := by decide +kernel
theorem dL_law_601 : decode cL_law 601 = .ok (.iadd, 1) := by decide +kernel
theorem dL_law_602 : decode cL_law 602 = .ok (.iaload, 1) := by decide +kernel
theorem dL_law_603 : decode cL_law 603 = .ok (.aload_n 0, 1) := by decide +kernel
theorem dL_law_604 : decode cL_law 604 = .ok (.iload 4, 2) := by decide +kernel
theorem dL_law_606 : decode cL_law 606 = .ok (.iconst 2, 1) := by decide +kernel
theorem dL_law_607 : decode cL_law 607 = .ok (.iadd, 1) := by decide +kernel
theorem dL_law_608 : decode cL_law 608 = .ok (.iaload, 1) := by decide +kernel
theorem dL_law_609 : decode cL_law 609 = .ok (.aload_n 0, 1) := by decide +kernel
theorem dL_law_610 : decode cL_law 610 = .ok (.iload 4, 2) := by decide +kernel
theorem dL_law_612 : decode cL_law 612 = .ok (.iconst 3, 1) := by decide +kernel
theorem dL_law_613 : decode cL_law 613 = .ok (.iadd, 1) := by decide +kernel
theorem dL_law_614 : decode cL_law 614 = .ok (.iaload, 1) := by decide +kernel
theorem dL_law_615 : decode cL_law 615 = .ok (.aload_n 0, 1) := by decide +kernel
theorem dL_law_616 : decode cL_law 616 = .ok (.iload 4, 2) := by decide +kernel
theorem dL_law_618 : decode cL_law 618 = .ok (.iconst 4, 1) := by decide +kernel
theorem dL_law_619 : decode cL_law 619 = .ok (.iadd, 1) := by decide +kernel
theorem dL_law_620 : decode cL_law 620 = .ok (.iaload, 1) := by decide +kernel
theorem dL_law_621 : decode cL_law 621 = .ok (.aload_n 0, 1) := by decide +kernel
theorem dL_law_622 : decode cL_law 622 = .ok (.iload 4, 2) := by decide +kernel
theorem dL_law_624 : decode cL_law 624 = .ok (.iconst 5, 1) := by decide +kernel
theorem dL_law_625 : decode cL_law 625 = .ok (.iadd, 1) := by decide +kernel
theorem dL_law_626 : decode cL_law 626 = .ok (.iaload, 1) := by decide +kernel
theorem dL_law_627 : decode cL_law 627 = .ok (.invokevirtual 73, 3) := by decide +kernel
theorem dL_law_630 : decode cL_law 630 = .ok (.aload_n 2, 1) := by decide +kernel
theorem dL_law_631 : decode cL_law 631 = .ok (.aload_n 0, 1) := by decide +kernel
theorem dL_law_632 : decode cL_law 632 = .ok (.iload 4, 2) := by decide +kernel
theorem dL_law_634 : decode cL_law 634 = .ok (.iconst 1, 1) := by decide +kernel
theorem dL_law_635 : decode cL_law 635 = .ok (.iadd, 1) := by decide +kernel
theorem dL_law_636 : decode cL_law 636 = .ok (.iaload, 1) := by decide +kernel
theorem dL_law_637 : decode cL_law 637 = .ok (.aload_n 0, 1) := by decide +kernel
theorem dL_law_638 : decode cL_law 638 = .ok (.iload 4, 2) := by decide +kernel
theorem dL_law_640 : decode cL_law 640 = .ok (.iconst 2, 1) := by decide +kernel
theorem dL_law_641 : decode cL_law 641 = .ok (.iadd, 1) := by decide +kernel
theorem dL_law_642 : decode cL_law 642 = .ok (.iaload, 1) := by decide +kernel
theorem dL_law_643 : decode cL_law 643 = .ok (.aload_n 0, 1) := by decide +kernel
theorem dL_law_644 : decode cL_law 644 = .ok (.iload 4, 2) := by decide +kernel
theorem dL_law_646 : decode cL_law 646 = .ok (.iconst 3, 1) := by decide +kernel
theorem dL_law_647 : decode cL_law 647 = .ok (.iadd, 1) := by decide +kernel
theorem dL_law_648 : decode cL_law 648 = .ok (.iaload, 1) := by decide +kernel
theorem dL_law_649 : decode cL_law 649 = .ok (.aload_n 0, 1) := by decide +kernel
theorem dL_law_650 : decode cL_law 650 = .ok (.iload 4, 2) := by decide +kernel
theorem dL_law_652 : decode cL_law 652 = .ok (.iconst 4, 1) := by decide +kernel
theorem dL_law_653 : decode cL_law 653 = .ok (.iadd, 1) := by decide +kernel
theorem dL_law_654 : decode cL_law 654 = .ok (.iaload, 1) := by decide +kernel
theorem dL_law_655 : decode cL_law 655 = .ok (.aload_n 0, 1) := by decide +kernel
theorem dL_law_656 : decode cL_law 656 = .ok (.iload 4, 2) := by decide +kernel
theorem dL_law_658 : decode cL_law 658 = .ok (.iconst 5, 1) := by decide +kernel
theorem dL_law_659 : decode cL_law 659 = .ok (.iadd, 1) := by decide +kernel
theorem dL_law_660 : decode cL_law 660 = .ok (.iaload, 1) := by decide +kernel
theorem dL_law_661 : decode cL_law 661 = .ok (.invokevirtual 77, 3) := by decide +kernel
theorem dL_law_664 : decode cL_law 664 = .ok (.if_icmp .eq 640, 3) := by decide +kernel
theorem dL_law_667 : decode cL_law 667 = .ok (.iconst 0, 1) := by decide +kernel
theorem dL_law_668 : decode cL_law 668 = .ok (.ireturn, 1) := by decide +kernel
theorem dL_law_669 : decode cL_law 669 = .ok (.aload_n 1, 1) := by decide +kernel
theorem dL_law_670 : decode cL_law 670 = .ok (.invokevirtual 78, 3) := by decide +kernel
theorem dL_law_673 : decode cL_law 673 = .ok (.aload_n 2, 1) := by decide +kernel
theorem dL_law_674 : decode cL_law 674 = .ok (.invokevirtual 81, 3) := by decide +kernel
theorem dL_law_677 : decode cL_law 677 = .ok (.if_icmp .eq 627, 3) := by decide +kernel
theorem dL_law_680 : decode cL_law 680 = .ok (.iconst 0, 1) := by decide +kernel
theorem dL_law_681 : decode cL_law 681 = .ok (.ireturn, 1) := by decide +kernel
theorem dL_law_682 : decode cL_law 682 = .ok (.aload_n 1, 1) := by decide +kernel
theorem dL_law_683 : decode cL_law 683 = .ok (.invokevirtual 82, 3) := by decide +kernel
theorem dL_law_686 : decode cL_law 686 = .ok (.aload_n 2, 1) := by decide +kernel
theorem dL_law_687 : decode cL_law 687 = .ok (.invokevirtual 85, 3) := by decide +kernel
theorem dL_law_690 : decode cL_law 690 = .ok (.if_icmp .eq 614, 3) := by decide +kernel
theorem dL_law_693 : decode cL_law 693 = .ok (.iconst 0, 1) := by decide +kernel
theorem dL_law_694 : decode cL_law 694 = .ok (.ireturn, 1) := by decide +kernel
theorem dL_law_695 : decode cL_law 695 = .ok (.aload_n 1, 1) := by decide +kernel
theorem dL_law_696 : decode cL_law 696 = .ok (.aload_n 0, 1) := by decide +kernel
theorem dL_law_697 : decode cL_law 697 = .ok (.iload 4, 2) := by decide +kernel
theorem dL_law_699 : decode cL_law 699 = .ok (.iconst 1, 1) := by decide +kernel
theorem dL_law_700 : decode cL_law 700 = .ok (.iadd, 1) := by decide +kernel
theorem dL_law_701 : decode cL_law 701 = .ok (.iaload, 1) := by decide +kernel
theorem dL_law_702 : decode cL_law 702 = .ok (.aload_n 0, 1) := by decide +kernel
theorem dL_law_703 : decode cL_law 703 = .ok (.iload 4, 2) := by decide +kernel
theorem dL_law_705 : decode cL_law 705 = .ok (.iconst 2, 1) := by decide +kernel
theorem dL_law_706 : decode cL_law 706 = .ok (.iadd, 1) := by decide +kernel
theorem dL_law_707 : decode cL_law 707 = .ok (.iaload, 1) := by decide +kernel
theorem dL_law_708 : decode cL_law 708 = .ok (.invokevirtual 86, 3) := by decide +kernel
theorem dL_law_711 : decode cL_law 711 = .ok (.aload_n 2, 1) := by decide +kernel
theorem dL_law_712 : decode cL_law 712 = .ok (.aload_n 0, 1) := by decide +kernel
theorem dL_law_713 : decode cL_law 713 = .ok (.iload 4, 2) := by decide +kernel
theorem dL_law_715 : decode cL_law 715 = .ok (.iconst 1, 1) := by decide +kernel
theorem dL_law_716 : decode cL_law 716 = .ok (.iadd, 1) := by decide +kernel
theorem dL_law_717 : decode cL_law 717 = .ok (.iaload, 1) := by decide +kernel
theorem dL_law_718 : decode cL_law 718 = .ok (.aload_n 0, 1) := by decide +kernel
theorem dL_law_719 : decode cL_law 719 = .ok (.iload 4, 2) := by decide +kernel
theorem dL_law_721 : decode cL_law 721 = .ok (.iconst 2, 1) := by decide +kernel
theorem dL_law_722 : decode cL_law 722 = .ok (.iadd, 1) := by decide +kernel
theorem dL_law_723 : decode cL_law 723 = .ok (.iaload, 1) := by decide +kernel
theorem dL_law_724 : decode cL_law 724 = .ok (.invokevirtual 89, 3) := by decide +kernel
theorem dL_law_727 : decode cL_law 727 = .ok (.if_icmp .eq 577, 3) := by decide +kernel
theorem dL_law_730 : decode cL_law 730 = .ok (.iconst 0, 1) := by decide +kernel
theorem dL_law_731 : decode cL_law 731 = .ok (.ireturn, 1) := by decide +kernel
theorem dL_law_732 : decode cL_law 732 = .ok (.aload_n 1, 1) := by decide +kernel
theorem dL_law_733 : decode cL_law 733 = .ok (.aload_n 0, 1) := by decide +kernel
theorem dL_law_734 : decode cL_law 734 = .ok (.iload 4, 2) := by decide +kernel
theorem dL_law_736 : decode cL_law 736 = .ok (.iconst 1, 1) := by decide +kernel
theorem dL_law_737 : decode cL_law 737 = .ok (.iadd, 1) := by decide +kernel
theorem dL_law_738 : decode cL_law 738 = .ok (.iaload, 1) := by decide +kernel
theorem dL_law_739 : decode cL_law 739 = .ok (.aload_n 0, 1) := by decide +kernel
theorem dL_law_740 : decode cL_law 740 = .ok (.iload 4, 2) := by decide +kernel
theorem dL_law_742 : decode cL_law 742 = .ok (.iconst 2, 1) := by decide +kernel
theorem dL_law_743 : decode cL_law 743 = .ok (.iadd, 1) := by decide +kernel
theorem dL_law_744 : decode cL_law 744 = .ok (.iaload, 1) := by decide +kernel
theorem dL_law_745 : decode cL_law 745 = .ok (.aload_n 0, 1) := by decide +kernel
theorem dL_law_746 : decode cL_law 746 = .ok (.iload 4, 2) := by decide +kernel
theorem dL_law_748 : decode cL_law 748 = .ok (.iconst 3, 1) := by decide +kernel
theorem dL_law_749 : decode cL_law 749 = .ok (.iadd, 1) := by decide +kernel
theorem dL_law_750 : decode cL_law 750 = .ok (.iaload, 1) := by decide +kernel
theorem dL_law_751 : decode cL_law 751 = .ok (.invokevirtual 90, 3) := by decide +kernel
theorem dL_law_754 : decode cL_law 754 = .ok (.aload_n 2, 1) := by decide +kernel
theorem dL_law_755 : decode cL_law 755 = .ok (.aload_n 0, 1) := by decide +kernel
theorem dL_law_756 : decode cL_law 756 = .ok (.iload 4, 2) := by decide +kernel
theorem dL_law_758 : decode cL_law 758 = .ok (.iconst 1, 1) := by decide +kernel
theorem dL_law_759 : decode cL_law 759 = .ok (.iadd, 1) := by decide +kernel
theorem dL_law_760 : decode cL_law 760 = .ok (.iaload, 1) := by decide +kernel
theorem dL_law_761 : decode cL_law 761 = .ok (.aload_n 0, 1) := by decide +kernel
theorem dL_law_762 : decode cL_law 762 = .ok (.iload 4, 2) := by decide +kernel
theorem dL_law_764 : decode cL_law 764 = .ok (.iconst 2, 1) := by decide +kernel
theorem dL_law_765 : decode cL_law 765 = .ok (.iadd, 1) := by decide +kernel
theorem dL_law_766 : decode cL_law 766 = .ok (.iaload, 1) := by decide +kernel
theorem dL_law_767 : decode cL_law 767 = .ok (.aload_n 0, 1) := by decide +kernel
theorem dL_law_768 : decode cL_law 768 = .ok (.iload 4, 2) := by decide +kernel
theorem dL_law_770 : decode cL_law 770 = .ok (.iconst 3, 1) := by decide +kernel
theorem dL_law_771 : decode cL_law 771 = .ok (.iadd, 1) := by decide +kernel
theorem dL_law_772 : decode cL_law 772 = .ok (.iaload, 1) := by decide +kernel
theorem dL_law_773 : decode cL_law 773 = .ok (.invokevirtual 93, 3) := by decide +kernel
theorem dL_law_776 : decode cL_law 776 = .ok (.if_icmp .eq 528, 3) := by decide +kernel
theorem dL_law_779 : decode cL_law 779 = .ok (.iconst 0, 1) := by decide +kernel
theorem dL_law_780 : decode cL_law 780 = .ok (.ireturn, 1) := by decide +kernel
theorem dL_law_781 : decode cL_law 781 = .ok (.aload_n 1, 1) := by decide +kernel
theorem dL_law_782 : decode cL_law 782 = .ok (.aload_n 0, 1) := by decide +kernel
theorem dL_law_783 : decode cL_law 783 = .ok (.iload 4, 2) := by decide +kernel
theorem dL_law_785 : decode cL_law 785 = .ok (.iconst 1, 1) := by decide +kernel
theorem dL_law_786 : decode cL_law 786 = .ok (.iadd, 1) := by decide +kernel
theorem dL_law_787 : decode cL_law 787 = .ok (.iaload, 1) := by decide +kernel
theorem dL_law_788 : decode cL_law 788 = .ok (.aload_n 0, 1) := by decide +kernel
theorem dL_law_789 : decode cL_law 789 = .ok (.iload 4, 2) := by decide +kernel
theorem dL_law_791 : decode cL_law 791 = .ok (.iconst 2, 1) := by decide +kernel
theorem dL_law_792 : decode cL_law 792 = .ok (.iadd, 1) := by decide +kernel
theorem dL_law_793 : decode cL_law 793 = .ok (.iaload, 1) := by decide +kernel
theorem dL_law_794 : decode cL_law 794 = .ok (.aload_n 0, 1) := by decide +kernel
theorem dL_law_795 : decode cL_law 795 = .ok (.iload 4, 2) := by decide +kernel
theorem dL_law_797 : decode cL_law 797 = .ok (.iconst 3, 1) := by decide +kernel
theorem dL_law_798 : decode cL_law 798 = .ok (.iadd, 1) := by decide +kernel
theorem dL_law_799 : decode cL_law 799 = .ok (.iaload, 1) := by decide +kernel
theorem dL_law_800 : decode cL_law 800 = .ok (.invokevirtual 94, 3) := by decide +kernel
theorem dL_law_803 : decode cL_law 803 = .ok (.aload_n 2, 1) := by decide +kernel
theorem dL_law_804 : decode cL_law 804 = .ok (.aload_n 0, 1) := by decide +kernel
theorem dL_law_805 : decode cL_law 805 = .ok (.iload 4, 2) := by decide +kernel
theorem dL_law_807 : decode cL_law 807 = .ok (.iconst 1, 1) := by decide +kernel
theorem dL_law_808 : decode cL_law 808 = .ok (.iadd, 1) := by decide +kernel
theorem dL_law_809 : decode cL_law 809 = .ok (.iaload, 1) := by decide +kernel
theorem dL_law_810 : decode cL_law 810 = .ok (.aload_n 0, 1) := by decide +kernel
theorem dL_law_811 : decode cL_law 811 = .ok (.iload 4, 2) := by decide +kernel
theorem dL_law_813 : decode cL_law 813 = .ok (.iconst 2, 1) := by decide +kernel
theorem dL_law_814 : decode cL_law 814 = .ok (.iadd, 1) := by decide +kernel
theorem dL_law_815 : decode cL_law 815 = .ok (.iaload, 1) := by decide +kernel
theorem dL_law_816 : decode cL_law 816 = .ok (.aload_n 0, 1) := by decide +kernel
theorem dL_law_817 : decode cL_law 817 = .ok (.iload 4, 2) := by decide +kernel
theorem dL_law_819 : decode cL_law 819 = .ok (.iconst 3, 1) := by decide +kernel
theorem dL_law_820 : decode cL_law 820 = .ok (.iadd, 1) := by decide +kernel
theorem dL_law_821 : decode cL_law 821 = .ok (.iaload, 1) := by decide +kernel
theorem dL_law_822 : decode cL_law 822 = .ok (.invokevirtual 97, 3) := by decide +kernel
theorem dL_law_825 : decode cL_law 825 = .ok (.if_icmp .eq 479, 3) := by decide +kernel
theorem dL_law_828 : decode cL_law 828 = .ok (.iconst 0, 1) := by decide +kernel
theorem dL_law_829 : decode cL_law 829 = .ok (.ireturn, 1) := by decide +kernel
theorem dL_law_830 : decode cL_law 830 = .ok (.aload_n 1, 1) := by decide +kernel
theorem dL_law_831 : decode cL_law 831 = .ok (.aload_n 0, 1) := by decide +kernel
theorem dL_law_832 : decode cL_law 832 = .ok (.iload 4, 2) := by decide +kernel
theorem dL_law_834 : decode cL_law 834 = .ok (.iconst 1, 1) := by decide +kernel
theorem dL_law_835 : decode cL_law 835 = .ok (.iadd, 1) := by decide +kernel
theorem dL_law_836 : decode cL_law 836 = .ok (.iaload, 1) := by decide +kernel
theorem dL_law_837 : decode cL_law 837 = .ok (.aload_n 0, 1) := by decide +kernel
theorem dL_law_838 : decode cL_law 838 = .ok (.iload 4, 2) := by decide +kernel
theorem dL_law_840 : decode cL_law 840 = .ok (.iconst 2, 1) := by decide +kernel
theorem dL_law_841 : decode cL_law 841 = .ok (.iadd, 1) := by decide +kernel
theorem dL_law_842 : decode cL_law 842 = .ok (.iaload, 1) := by decide +kernel
theorem dL_law_843 : decode cL_law 843 = .ok (.aload_n 0, 1) := by decide +kernel
theorem dL_law_844 : decode cL_law 844 = .ok (.iload 4, 2) := by decide +kernel
theorem dL_law_846 : decode cL_law 846 = .ok (.iconst 3, 1) := by decide +kernel
theorem dL_law_847 : decode cL_law 847 = .ok (.iadd, 1) := by decide +kernel
theorem dL_law_848 : decode cL_law 848 = .ok (.iaload, 1) := by decide +kernel
theorem dL_law_849 : decode cL_law 849 = .ok (.invokevirtual 98, 3) := by decide +kernel
theorem dL_law_852 : decode cL_law 852 = .ok (.aload_n 2, 1) := by decide +kernel
theorem dL_law_853 : decode cL_law 853 = .ok (.aload_n 0, 1) := by decide +kernel
theorem dL_law_854 : decode cL_law 854 = .ok (.iload 4, 2) := by decide +kernel
theorem dL_law_856 : decode cL_law 856 = .ok (.iconst 1, 1) := by decide +kernel
theorem dL_law_857 : decode cL_law 857 = .ok (.iadd, 1) := by decide +kernel
theorem dL_law_858 : decode cL_law 858 = .ok (.iaload, 1) := by decide +kernel
theorem dL_law_859 : decode cL_law 859 = .ok (.aload_n 0, 1) := by decide +kernel
theorem dL_law_860 : decode cL_law 860 = .ok (.iload 4, 2) := by decide +kernel
theorem dL_law_862 : decode cL_law 862 = .ok (.iconst 2, 1) := by decide +kernel
theorem dL_law_863 : decode cL_law 863 = .ok (.iadd, 1) := by decide +kernel
theorem dL_law_864 : decode cL_law 864 = .ok (.iaload, 1) := by decide +kernel
theorem dL_law_865 : decode cL_law 865 = .ok (.aload_n 0, 1) := by decide +kernel
theorem dL_law_866 : decode cL_law 866 = .ok (.iload 4, 2) := by decide +kernel
theorem dL_law_868 : decode cL_law 868 = .ok (.iconst 3, 1) := by decide +kernel
theorem dL_law_869 : decode cL_law 869 = .ok (.iadd, 1) := by decide +kernel
theorem dL_law_870 : decode cL_law 870 = .ok (.iaload, 1) := by decide +kernel
theorem dL_law_871 : decode cL_law 871 = .ok (.invokevirtual 101, 3) := by decide +kernel
theorem dL_law_874 : decode cL_law 874 = .ok (.if_icmp .eq 430, 3) := by decide +kernel
theorem dL_law_877 : decode cL_law 877 = .ok (.iconst 0, 1) := by decide +kernel
theorem dL_law_878 : decode cL_law 878 = .ok (.ireturn, 1) := by decide +kernel
theorem dL_law_879 : decode cL_law 879 = .ok (.aload_n 1, 1) := by decide +kernel
theorem dL_law_880 : decode cL_law 880 = .ok (.aload_n 0, 1) := by decide +kernel
theorem dL_law_881 : decode cL_law 881 = .ok (.iload 4, 2) := by decide +kernel
theorem dL_law_883 : decode cL_law 883 = .ok (.iconst 1, 1) := by decide +kernel
theorem dL_law_884 : decode cL_law 884 = .ok (.iadd, 1) := by decide +kernel
theorem dL_law_885 : decode cL_law 885 = .ok (.iaload, 1) := by decide +kernel
theorem dL_law_886 : decode cL_law 886 = .ok (.invokevirtual 102, 3) := by decide +kernel
theorem dL_law_889 : decode cL_law 889 = .ok (.aload_n 2, 1) := by decide +kernel
theorem dL_law_890 : decode cL_law 890 = .ok (.aload_n 0, 1) := by decide +kernel
theorem dL_law_891 : decode cL_law 891 = .ok (.iload 4, 2) := by decide +kernel
theorem dL_law_893 : decode cL_law 893 = .ok (.iconst 1, 1) := by decide +kernel
theorem dL_law_894 : decode cL_law 894 = .ok (.iadd, 1) := by decide +kernel
theorem dL_law_895 : decode cL_law 895 = .ok (.iaload, 1) := by decide +kernel
theorem dL_law_896 : decode cL_law 896 = .ok (.invokevirtual 105, 3) := by decide +kernel
theorem dL_law_899 : decode cL_law 899 = .ok (.if_icmp .eq 405, 3) := by decide +kernel
theorem dL_law_902 : decode cL_law 902 = .ok (.iconst 0, 1) := by decide +kernel
theorem dL_law_903 : decode cL_law 903 = .ok (.ireturn, 1) := by decide +kernel
theorem dL_law_904 : decode cL_law 904 = .ok (.aload_n 1, 1) := by decide +kernel
theorem dL_law_905 : decode cL_law 905 = .ok (.invokevirtual 106, 3) := by decide +kernel
theorem dL_law_908 : decode cL_law 908 = .ok (.aload_n 2, 1) := by decide +kernel
theorem dL_law_909 : decode cL_law 909 = .ok (.invokevirtual 109, 3) := by decide +kernel
theorem dL_law_912 : decode cL_law 912 = .ok (.if_icmp .eq 392, 3) := by decide +kernel
theorem dL_law_915 : decode cL_law 915 = .ok (.iconst 0, 1) := by decide +kernel
theorem dL_law_916 : decode cL_law 916 = .ok (.ireturn, 1) := by decide +kernel
theorem dL_law_917 : decode cL_law 917 = .ok (.aload_n 1, 1) := by decide +kernel
theorem dL_law_918 : decode cL_law 918 = .ok (.invokevirtual 110, 3) := by decide +kernel
theorem dL_law_921 : decode cL_law 921 = .ok (.aload_n 2, 1) := by decide +kernel
theorem dL_law_922 : decode cL_law 922 = .ok (.invokevirtual 113, 3) := by decide +kernel
theorem dL_law_925 : decode cL_law 925 = .ok (.if_icmp .eq 379, 3) := by decide +kernel
theorem dL_law_928 : decode cL_law 928 = .ok (.iconst 0, 1) := by decide +kernel
theorem dL_law_929 : decode cL_law 929 = .ok (.ireturn, 1) := by decide +kernel
theorem dL_law_930 : decode cL_law 930 = .ok (.aload_n 1, 1) := by decide +kernel
theorem dL_law_931 : decode cL_law 931 = .ok (.aload_n 0, 1) := by decide +kernel
theorem dL_law_932 : decode cL_law 932 = .ok (.iload 4, 2) := by decide +kernel
theorem dL_law_934 : decode cL_law 934 = .ok (.iconst 1, 1) := by decide +kernel
theorem dL_law_935 : decode cL_law 935 = .ok (.iadd, 1) := by decide +kernel
theorem dL_law_936 : decode cL_law 936 = .ok (.iaload, 1) := by decide +kernel
theorem dL_law_937 : decode cL_law 937 = .ok (.invokevirtual 114, 3) := by decide +kernel
theorem dL_law_940 : decode cL_law 940 = .ok (.aload_n 2, 1) := by decide +kernel
theorem dL_law_941 : decode cL_law 941 = .ok (.aload_n 0, 1) := by decide +kernel
theorem dL_law_942 : decode cL_law 942 = .ok (.iload 4, 2) := by decide +kernel
theorem dL_law_944 : decode cL_law 944 = .ok (.iconst 1, 1) := by decide +kernel
theorem dL_law_945 : decode cL_law 945 = .ok (.iadd, 1) := by decide +kernel
theorem dL_law_946 : decode cL_law 946 = .ok (.iaload, 1) := by decide +kernel
theorem dL_law_947 : decode cL_law 947 = .ok (.invokevirtual 117, 3) := by decide +kernel
theorem dL_law_950 : decode cL_law 950 = .ok (.if_icmp .eq 354, 3) := by decide +kernel
theorem dL_law_953 : decode cL_law 953 = .ok (.iconst 0, 1) := by decide +kernel
theorem dL_law_954 : decode cL_law 954 = .ok (.ireturn, 1) := by decide +kernel
theorem dL_law_955 : decode cL_law 955 = .ok (.aload_n 1, 1) := by decide +kernel
theorem dL_law_956 : decode cL_law 956 = .ok (.aload_n 0, 1) := by decide +kernel
theorem dL_law_957 : decode cL_law 957 = .ok (.iload 4, 2) := by decide +kernel
theorem dL_law_959 : decode cL_law 959 = .ok (.iconst 1, 1) := by decide +kernel
theorem dL_law_960 : decode cL_law 960 = .ok (.iadd, 1) := by decide +kernel
theorem dL_law_961 : decode cL_law 961 = .ok (.iaload, 1) := by decide +kernel
theorem dL_law_962 : decode cL_law 962 = .ok (.aload_n 0, 1) := by decide +kernel
theorem dL_law_963 : decode cL_law 963 = .ok (.iload 4, 2) := by decide +kernel
theorem dL_law_965 : decode cL_law 965 = .ok (.iconst 2, 1) := by decide +kernel
theorem dL_law_966 : decode cL_law 966 = .ok (.iadd, 1) := by decide +kernel
theorem dL_law_967 : decode cL_law 967 = .ok (.iaload, 1) := by decide +kernel
theorem dL_law_968 : decode cL_law 968 = .ok (.aload_n 0, 1) := by decide +kernel
theorem dL_law_969 : decode cL_law 969 = .ok (.iload 4, 2) := by decide +kernel
theorem dL_law_971 : decode cL_law 971 = .ok (.iconst 3, 1) := by decide +kernel
theorem dL_law_972 : decode cL_law 972 = .ok (.iadd, 1) := by decide +kernel
theorem dL_law_973 : decode cL_law 973 = .ok (.iaload, 1) := by decide +kernel
theorem dL_law_974 : decode cL_law 974 = .ok (.aload_n 0, 1) := by decide +kernel
theorem dL_law_975 : decode cL_law 975 = .ok (.iload 4, 2) := by decide +kernel
theorem dL_law_977 : decode cL_law 977 = .ok (.iconst 4, 1) := by decide +kernel
theorem dL_law_978 : decode cL_law 978 = .ok (.iadd, 1) := by decide +kernel
theorem dL_law_979 : decode cL_law 979 = .ok (.iaload, 1) := by decide +kernel
theorem dL_law_980 : decode cL_law 980 = .ok (.invokevirtual 118, 3) := by decide +kernel
theorem dL_law_983 : decode cL_law 983 = .ok (.aload_n 2, 1) := by decide +kernel
theorem dL_law_984 : decode cL_law 984 = .ok (.aload_n 0, 1) := by decide +kernel
theorem dL_law_985 : decode cL_law 985 = .ok (.iload 4, 2) := by decide +kernel
theorem dL_law_987 : decode cL_law 987 = .ok (.iconst 1, 1) := by decide +kernel
theorem dL_law_988 : decode cL_law 988 = .ok (.iadd, 1) := by decide +kernel
theorem dL_law_989 : decode cL_law 989 = .ok (.iaload, 1) := by decide +kernel
theorem dL_law_990 : decode cL_law 990 = .ok (.aload_n 0, 1) := by decide +kernel
theorem dL_law_991 : decode cL_law 991 = .ok (.iload 4, 2) := by decide +kernel
theorem dL_law_993 : decode cL_law 993 = .ok (.iconst 2, 1) := by decide +kernel
theorem dL_law_994 : decode cL_law 994 = .ok (.iadd, 1) := by decide +kernel
theorem dL_law_995 : decode cL_law 995 = .ok (.iaload, 1) := by decide +kernel
theorem dL_law_996 : decode cL_law 996 = .ok (.aload_n 0, 1) := by decide +kernel
theorem dL_law_997 : decode cL_law 997 = .ok (.iload 4, 2) := by decide +kernel
theorem dL_law_999 : decode cL_law 999 = .ok (.iconst 3, 1) := by decide +kernel
theorem dL_law_1000 : decode cL_law 1000 = .ok (.iadd, 1) := by decide +kernel
theorem dL_law_1001 : decode cL_law 1001 = .ok (.iaload, 1) := by decide +kernel
theorem dL_law_1002 : decode cL_law 1002 = .ok (.aload_n 0, 1) := by decide +kernel
theorem dL_law_1003 : decode cL_law 1003 = .ok (.iload 4, 2) := by decide +kernel
theorem dL_law_1005 : decode cL_law 1005 = .ok (.iconst 4, 1) := by decide +kernel
theorem dL_law_1006 : decode cL_law 1006 = .ok (.iadd, 1) := by decide +kernel
theorem dL_law_1007 : decode cL_law 1007 = .ok (.iaload, 1) := by decide +kernel
theorem dL_law_1008 : decode cL_law 1008 = .ok (.invokevirtual 122, 3) := by decide +kernel
theorem dL_law_1011 : decode cL_law 1011 = .ok (.if_icmp .eq 293, 3) := by decide +kernel
theorem dL_law_1014 : decode cL_law 1014 = .ok (.iconst 0, 1) := by decide +kernel
theorem dL_law_1015 : decode cL_law 1015 = .ok (.ireturn, 1) := by decide +kernel
theorem dL_law_1016 : decode cL_law 1016 = .ok (.aload_n 1, 1) := by decide +kernel
theorem dL_law_1017 : decode cL_law 1017 = .ok (.aload_n 0, 1) := by decide +kernel
theorem dL_law_1018 : decode cL_law 1018 = .ok (.iload 4, 2) := by decide +kernel
theorem dL_law_1020 : decode cL_law 1020 = .ok (.iconst 1, 1) := by decide +kernel
theorem dL_law_1021 : decode cL_law 1021 = .ok (.iadd, 1) := by decide +kernel
theorem dL_law_1022 : decode cL_law 1022 = .ok (.iaload, 1) := by decide +kernel
theorem dL_law_1023 : decode cL_law 1023 = .ok (.aload_n 0, 1) := by decide +kernel
theorem dL_law_1024 : decode cL_law 1024 = .ok (.iload 4, 2) := by decide +kernel
theorem dL_law_1026 : decode cL_law 1026 = .ok (.iconst 2, 1) := by decide +kernel
theorem dL_law_1027 : decode cL_law 1027 = .ok (.iadd, 1) := by decide +kernel
theorem dL_law_1028 : decode cL_law 1028 = .ok (.iaload, 1) := by decide +kernel
theorem dL_law_1029 : decode cL_law 1029 = .ok (.aload_n 0, 1) := by decide +kernel
theorem dL_law_1030 : decode cL_law 1030 = .ok (.iload 4, 2) := by decide +kernel
theorem dL_law_1032 : decode cL_law 1032 = .ok (.iconst 3, 1) := by decide +kernel
theorem dL_law_1033 : decode cL_law 1033 = .ok (.iadd, 1) := by decide +kernel
theorem dL_law_1034 : decode cL_law 1034 = .ok (.iaload, 1) := by decide +kernel
theorem dL_law_1035 : decode cL_law 1035 = .ok (.invokevirtual 123, 3) := by decide +kernel
theorem dL_law_1038 : decode cL_law 1038 = .ok (.aload_n 2, 1) := by decide +kernel
theorem dL_law_1039 : decode cL_law 1039 = .ok (.aload_n 0, 1) := by decide +kernel
theorem dL_law_1040 : decode cL_law 1040 = .ok (.iload 4, 2) := by decide +kernel
theorem dL_law_1042 : decode cL_law 1042 = .ok (.iconst 1, 1) := by decide +kernel
theorem dL_law_1043 : decode cL_law 1043 = .ok (.iadd, 1) := by decide +kernel
theorem dL_law_1044 : decode cL_law 1044 = .ok (.iaload, 1) := by decide +kernel
theorem dL_law_1045 : decode cL_law 1045 = .ok (.aload_n 0, 1) := by decide +kernel
theorem dL_law_1046 : decode cL_law 1046 = .ok (.iload 4, 2) := by decide +kernel
theorem dL_law_1048 : decode cL_law 1048 = .ok (.iconst 2, 1) := by decide +kernel
theorem dL_law_1049 : decode cL_law 1049 = .ok (.iadd, 1) := by decide +kernel
theorem dL_law_1050 : decode cL_law 1050 = .ok (.iaload, 1) := by decide +kernel
theorem dL_law_1051 : decode cL_law 1051 = .ok (.aload_n 0, 1) := by decide +kernel
theorem dL_law_1052 : decode cL_law 1052 = .ok (.iload 4, 2) := by decide +kernel
theorem dL_law_1054 : decode cL_law 1054 = .ok (.iconst 3, 1) := by decide +kernel
theorem dL_law_1055 : decode cL_law 1055 = .ok (.iadd, 1) := by decide +kernel
theorem dL_law_1056 : decode cL_law 1056 = .ok (.iaload, 1) := by decide +kernel
theorem dL_law_1057 : decode cL_law 1057 = .ok (.invokevirtual 126, 3) := by decide +kernel
theorem dL_law_1060 : decode cL_law 1060 = .ok (.if_icmp .eq 244, 3) := by decide +kernel
theorem dL_law_1063 : decode cL_law 1063 = .ok (.iconst 0, 1) := by decide +kernel
theorem dL_law_1064 : decode cL_law 1064 = .ok (.ireturn, 1) := by decide +kernel
theorem dL_law_1065 : decode cL_law 1065 = .ok (.aload_n 1, 1) := by decide +kernel
theorem dL_law_1066 : decode cL_law 1066 = .ok (.aload_n 0, 1) := by decide +kernel
theorem dL_law_1067 : decode cL_law 1067 = .ok (.iload 4, 2) := by decide +kernel
theorem dL_law_1069 : decode cL_law 1069 = .ok (.iconst 1, 1) := by decide +kernel
theorem dL_law_1070 : decode cL_law 1070 = .ok (.iadd, 1) := by decide +kernel
theorem dL_law_1071 : decode cL_law 1071 = .ok (.iaload, 1) := by decide +kernel
theorem dL_law_1072 : decode cL_law 1072 = .ok (.aload_n 0, 1) := by decide +kernel
theorem dL_law_1073 : decode cL_law 1073 = .ok (.iload 4, 2) := by decide +kernel
theorem dL_law_1075 : decode cL_law 1075 = .ok (.iconst 2, 1) := by decide +kernel
theorem dL_law_1076 : decode cL_law 1076 = .ok (.iadd, 1) := by decide +kernel
theorem dL_law_1077 : decode cL_law 1077 = .ok (.iaload, 1) := by decide +kernel
theorem dL_law_1078 : decode cL_law 1078 = .ok (.aload_n 0, 1) := by decide +kernel
theorem dL_law_1079 : decode cL_law 1079 = .ok (.iload 4, 2) := by decide +kernel
theorem dL_law_1081 : decode cL_law 1081 = .ok (.iconst 3, 1) := by decide +kernel
theorem dL_law_1082 : decode cL_law 1082 = .ok (.iadd, 1) := by decide +kernel
theorem dL_law_1083 : decode cL_law 1083 = .ok (.iaload, 1) := by decide +kernel
theorem dL_law_1084 : decode cL_law 1084 = .ok (.invokevirtual 127, 3) := by decide +kernel
theorem dL_law_1087 : decode cL_law 1087 = .ok (.aload_n 2, 1) := by decide +kernel
theorem dL_law_1088 : decode cL_law 1088 = .ok (.aload_n 0, 1) := by decide +kernel
theorem dL_law_1089 : decode cL_law 1089 = .ok (.iload 4, 2) := by decide +kernel
theorem dL_law_1091 : decode cL_law 1091 = .ok (.iconst 1, 1) := by decide +kernel
theorem dL_law_1092 : decode cL_law 1092 = .ok (.iadd, 1) := by decide +kernel
theorem dL_law_1093 : decode cL_law 1093 = .ok (.iaload, 1) := by decide +kernel
theorem dL_law_1094 : decode cL_law 1094 = .ok (.aload_n 0, 1) := by decide +kernel
theorem dL_law_1095 : decode cL_law 1095 = .ok (.iload 4, 2) := by decide +kernel
theorem dL_law_1097 : decode cL_law 1097 = .ok (.iconst 2, 1) := by decide +kernel
theorem dL_law_1098 : decode cL_law 1098 = .ok (.iadd, 1) := by decide +kernel
theorem dL_law_1099 : decode cL_law 1099 = .ok (.iaload, 1) := by decide +kernel
theorem dL_law_1100 : decode cL_law 1100 = .ok (.aload_n 0, 1) := by decide +kernel
theorem dL_law_1101 : decode cL_law 1101 = .ok (.iload 4, 2) := by decide +kernel
theorem dL_law_1103 : decode cL_law 1103 = .ok (.iconst 3, 1) := by decide +kernel
theorem dL_law_1104 : decode cL_law 1104 = .ok (.iadd, 1) := by decide +kernel
theorem dL_law_1105 : decode cL_law 1105 = .ok (.iaload, 1) := by decide +kernel
theorem dL_law_1106 : decode cL_law 1106 = .ok (.invokevirtual 130, 3) := by decide +kernel
theorem dL_law_1109 : decode cL_law 1109 = .ok (.if_icmp .eq 195, 3) := by decide +kernel
theorem dL_law_1112 : decode cL_law 1112 = .ok (.iconst 0, 1) := by decide +kernel
theorem dL_law_1113 : decode cL_law 1113 = .ok (.ireturn, 1) := by decide +kernel
theorem dL_law_1114 : decode cL_law 1114 = .ok (.aload_n 1, 1) := by decide +kernel
theorem dL_law_1115 : decode cL_law 1115 = .ok (.aload_n 0, 1) := by decide +kernel
theorem dL_law_1116 : decode cL_law 1116 = .ok (.iload 4, 2) := by decide +kernel
theorem dL_law_1118 : decode cL_law 1118 = .ok (.iconst 1, 1) := by decide +kernel
theorem dL_law_1119 : decode cL_law 1119 = .ok (.iadd, 1) := by decide +kernel
theorem dL_law_1120 : decode cL_law 1120 = .ok (.iaload, 1) := by decide +kernel
theorem dL_law_1121 : decode cL_law 1121 = .ok (.aload_n 0, 1) := by decide +kernel
theorem dL_law_1122 : decode cL_law 1122 = .ok (.iload 4, 2) := by decide +kernel
theorem dL_law_1124 : decode cL_law 1124 = .ok (.iconst 2, 1) := by decide +kernel
theorem dL_law_1125 : decode cL_law 1125 = .ok (.iadd, 1) := by decide +kernel
theorem dL_law_1126 : decode cL_law 1126 = .ok (.iaload, 1) := by decide +kernel
theorem dL_law_1127 : decode cL_law 1127 = .ok (.aload_n 3, 1) := by decide +kernel
theorem dL_law_1128 : decode cL_law 1128 = .ok (.invokestatic 131, 3) := by decide +kernel
theorem dL_law_1131 : decode cL_law 1131 = .ok (.istore 5, 2) := by decide +kernel
theorem dL_law_1133 : decode cL_law 1133 = .ok (.aload_n 2, 1) := by decide +kernel
theorem dL_law_1134 : decode cL_law 1134 = .ok (.aload_n 0, 1) := by decide +kernel
theorem dL_law_1135 : decode cL_law 1135 = .ok (.iload 4, 2) := by decide +kernel
theorem dL_law_1137 : decode cL_law 1137 = .ok (.iconst 1, 1) := by decide +kernel
theorem dL_law_1138 : decode cL_law 1138 = .ok (.iadd, 1) := by decide +kernel
theorem dL_law_1139 : decode cL_law 1139 = .ok (.iaload, 1) := by decide +kernel
theorem dL_law_1140 : decode cL_law 1140 = .ok (.aload_n 0, 1) := by decide +kernel
theorem dL_law_1141 : decode cL_law 1141 = .ok (.iload 4, 2) := by decide +kernel
theorem dL_law_1143 : decode cL_law 1143 = .ok (.iconst 2, 1) := by decide +kernel
theorem dL_law_1144 : decode cL_law 1144 = .ok (.iadd, 1) := by decide +kernel
theorem dL_law_1145 : decode cL_law 1145 = .ok (.iaload, 1) := by decide +kernel
theorem dL_law_1146 : decode cL_law 1146 = .ok (.invokevirtual 136, 3) := by decide +kernel
theorem dL_law_1149 : decode cL_law 1149 = .ok (.lstore 6, 2) := by decide +kernel
theorem dL_law_1151 : decode cL_law 1151 = .ok (.aload_n 2, 1) := by decide +kernel
theorem dL_law_1152 : decode cL_law 1152 = .ok (.invokevirtual 137, 3) := by decide +kernel
theorem dL_law_1155 : decode cL_law 1155 = .ok (.iload 5, 2) := by decide +kernel
theorem dL_law_1157 : decode cL_law 1157 = .ok (.if_icmp .eq 5, 3) := by decide +kernel
theorem dL_law_1160 : decode cL_law 1160 = .ok (.iconst 0, 1) := by decide +kernel
theorem dL_law_1161 : decode cL_law 1161 = .ok (.ireturn, 1) := by decide +kernel
theorem dL_law_1162 : decode cL_law 1162 = .ok (.iload 5, 2) := by decide +kernel
theorem dL_law_1164 : decode cL_law 1164 = .ok (.ifCond .ne 14, 3) := by decide +kernel
theorem dL_law_1167 : decode cL_law 1167 = .ok (.aload_n 3, 1) := by decide +kernel
theorem dL_law_1168 : decode cL_law 1168 = .ok (.iconst 0, 1) := by decide +kernel
theorem dL_law_1169 : decode cL_law 1169 = .ok (.laload, 1) := by decide +kernel
theorem dL_law_1170 : decode cL_law 1170 = .ok (.lload 6, 2) := by decide +kernel
theorem dL_law_1172 : decode cL_law 1172 = .ok (.lcmp, 1) := by decide +kernel
theorem dL_law_1173 : decode cL_law 1173 = .ok (.ifCond .eq 5, 3) := by decide +kernel
theorem dL_law_1176 : decode cL_law 1176 = .ok (.iconst 0, 1) := by decide +kernel
theorem dL_law_1177 : decode cL_law 1177 = .ok (.ireturn, 1) := by decide +kernel
theorem dL_law_1178 : decode cL_law 1178 = .ok (.goto 126, 3) := by decide +kernel
theorem dL_law_1181 : decode cL_law 1181 = .ok (.aload_n 1, 1) := by decide +kernel
theorem dL_law_1182 : decode cL_law 1182 = .ok (.aload_n 0, 1) := by decide +kernel
theorem dL_law_1183 : decode cL_law 1183 = .ok (.iload 4, 2) := by decide +kernel
theorem dL_law_1185 : decode cL_law 1185 = .ok (.iconst 1, 1) := by decide +kernel
theorem dL_law_1186 : decode cL_law 1186 = .ok (.iadd, 1) := by decide +kernel
theorem dL_law_1187 : decode cL_law 1187 = .ok (.iaload, 1) := by decide +kernel
theorem dL_law_1188 : decode cL_law 1188 = .ok (.aload_n 0, 1) := by decide +kernel
theorem dL_law_1189 : decode cL_law 1189 = .ok (.iload 4, 2) := by decide +kernel
theorem dL_law_1191 : decode cL_law 1191 = .ok (.iconst 2, 1) := by decide +kernel
theorem dL_law_1192 : decode cL_law 1192 = .ok (.iadd, 1) := by decide +kernel
theorem dL_law_1193 : decode cL_law 1193 = .ok (.iaload, 1) := by decide +kernel
theorem dL_law_1194 : decode cL_law 1194 = .ok (.aload_n 0, 1) := by decide +kernel
theorem dL_law_1195 : decode cL_law 1195 = .ok (.iload 4, 2) := by decide +kernel
theorem dL_law_1197 : decode cL_law 1197 = .ok (.iconst 3, 1) := by decide +kernel
theorem dL_law_1198 : decode cL_law 1198 = .ok (.iadd, 1) := by decide +kernel
theorem dL_law_1199 : decode cL_law 1199 = .ok (.iaload, 1) := by decide +kernel
theorem dL_law_1200 : decode cL_law 1200 = .ok (.aload_n 0, 1) := by decide +kernel
theorem dL_law_1201 : decode cL_law 1201 = .ok (.iload 4, 2) := by decide +kernel
theorem dL_law_1203 : decode cL_law 1203 = .ok (.iconst 4, 1) := by decide +kernel
theorem dL_law_1204 : decode cL_law 1204 = .ok (.iadd, 1) := by decide +kernel
theorem dL_law_1205 : decode cL_law 1205 = .ok (.iaload, 1) := by decide +kernel
theorem dL_law_1206 : decode cL_law 1206 = .ok (.aload_n 0, 1) := by decide +kernel
theorem dL_law_1207 : decode cL_law 1207 = .ok (.iload 4, 2) := by decide +kernel
theorem dL_law_1209 : decode cL_law 1209 = .ok (.iconst 5, 1) := by decide +kernel
theorem dL_law_1210 : decode cL_law 1210 = .ok (.iadd, 1) := by decide +kernel
theorem dL_law_1211 : decode cL_law 1211 = .ok (.iaload, 1) := by decide +kernel
theorem dL_law_1212 : decode cL_law 1212 = .ok (.invokevirtual 140, 3) := by decide +kernel
theorem dL_law_1215 : decode cL_law 1215 = .ok (.aload_n 2, 1) := by decide +kernel
theorem dL_law_1216 : decode cL_law 1216 = .ok (.aload_n 0, 1) := by decide +kernel
theorem dL_law_1217 : decode cL_law 1217 = .ok (.iload 4, 2) := by decide +kernel
theorem dL_law_1219 : decode cL_law 1219 = .ok (.iconst 1, 1) := by decide +kernel
theorem dL_law_1220 : decode cL_law 1220 = .ok (.iadd, 1) := by decide +kernel
theorem dL_law_1221 : decode cL_law 1221 = .ok (.iaload, 1) := by decide +kernel
theorem dL_law_1222 : decode cL_law 1222 = .ok (.aload_n 0, 1) := by decide +kernel
theorem dL_law_1223 : decode cL_law 1223 = .ok (.iload 4, 2) := by decide +kernel
theorem dL_law_1225 : decode cL_law 1225 = .ok (.iconst 2, 1) := by decide +kernel
theorem dL_law_1226 : decode cL_law 1226 = .ok (.iadd, 1) := by decide +kernel
theorem dL_law_1227 : decode cL_law 1227 = .ok (.iaload, 1) := by decide +kernel
theorem dL_law_1228 : decode cL_law 1228 = .ok (.aload_n 0, 1) := by decide +kernel
theorem dL_law_1229 : decode cL_law 1229 = .ok (.iload 4, 2) := by decide +kernel
theorem dL_law_1231 : decode cL_law 1231 = .ok (.iconst 3, 1) := by decide +kernel
theorem dL_law_1232 : decode cL_law 1232 = .ok (.iadd, 1) := by decide +kernel
theorem dL_law_1233 : decode cL_law 1233 = .ok (.iaload, 1) := by decide +kernel
theorem dL_law_1234 : decode cL_law 1234 = .ok (.aload_n 0, 1) := by decide +kernel
theorem dL_law_1235 : decode cL_law 1235 = .ok (.iload 4, 2) := by decide +kernel
theorem dL_law_1237 : decode cL_law 1237 = .ok (.iconst 4, 1) := by decide +kernel
theorem dL_law_1238 : decode cL_law 1238 = .ok (.iadd, 1) := by decide +kernel
theorem dL_law_1239 : decode cL_law 1239 = .ok (.iaload, 1) := by decide +kernel
theorem dL_law_1240 : decode cL_law 1240 = .ok (.aload_n 0, 1) := by decide +kernel
theorem dL_law_1241 : decode cL_law 1241 = .ok (.iload 4, 2) := by decide +kernel
theorem dL_law_1243 : decode cL_law 1243 = .ok (.iconst 5, 1) := by decide +kernel
theorem dL_law_1244 : decode cL_law 1244 = .ok (.iadd, 1) := by decide +kernel
theorem dL_law_1245 : decode cL_law 1245 = .ok (.iaload, 1) := by decide +kernel
theorem dL_law_1246 : decode cL_law 1246 = .ok (.invokevirtual 143, 3) := by decide +kernel
theorem dL_law_1249 : decode cL_law 1249 = .ok (.if_icmp .eq 55, 3) := by decide +kernel
theorem dL_law_1252 : decode cL_law 1252 = .ok (.iconst 0, 1) := by decide +kernel
theorem dL_law_1253 : decode cL_law 1253 = .ok (.ireturn, 1) := by decide +kernel
theorem dL_law_1254 : decode cL_law 1254 = .ok (.aload_n 1, 1) := by decide +kernel
theorem dL_law_1255 : decode cL_law 1255 = .ok (.aload_n 0, 1) := by decide +kernel
theorem dL_law_1256 : decode cL_law 1256 = .ok (.iload 4, 2) := by decide +kernel
theorem dL_law_1258 : decode cL_law 1258 = .ok (.iconst 1, 1) := by decide +kernel
theorem dL_law_1259 : decode cL_law 1259 = .ok (.iadd, 1) := by decide +kernel
theorem dL_law_1260 : decode cL_law 1260 = .ok (.iaload, 1) := by decide +kernel
theorem dL_law_1261 : decode cL_law 1261 = .ok (.invokevirtual 144, 3) := by decide +kernel
theorem dL_law_1264 : decode cL_law 1264 = .ok (.aload_n 2, 1) := by decide +kernel
theorem dL_law_1265 : decode cL_law 1265 = .ok (.aload_n 0, 1) := by decide +kernel
theorem dL_law_1266 : decode cL_law 1266 = .ok (.iload 4, 2) := by decide +kernel
theorem dL_law_1268 : decode cL_law 1268 = .ok (.iconst 1, 1) := by decide +kernel
theorem dL_law_1269 : decode cL_law 1269 = .ok (.iadd, 1) := by decide +kernel
theorem dL_law_1270 : decode cL_law 1270 = .ok (.iaload, 1) := by decide +kernel
theorem dL_law_1271 : decode cL_law 1271 = .ok (.invokevirtual 147, 3) := by decide +kernel
theorem dL_law_1274 : decode cL_law 1274 = .ok (.if_icmp .eq 30, 3) := by decide +kernel
theorem dL_law_1277 : decode cL_law 1277 = .ok (.iconst 0, 1) := by decide +kernel
theorem dL_law_1278 : decode cL_law 1278 = .ok (.ireturn, 1) := by decide +kernel
theorem dL_law_1279 : decode cL_law 1279 = .ok (.aload_n 1, 1) := by decide +kernel
theorem dL_law_1280 : decode cL_law 1280 = .ok (.aload_n 0, 1) := by decide +kernel
theorem dL_law_1281 : decode cL_law 1281 = .ok (.iload 4, 2) := by decide +kernel
theorem dL_law_1283 : decode cL_law 1283 = .ok (.iconst 1, 1) := by decide +kernel
theorem dL_law_1284 : decode cL_law 1284 = .ok (.iadd, 1) := by decide +kernel
theorem dL_law_1285 : decode cL_law 1285 = .ok (.iaload, 1) := by decide +kernel
theorem dL_law_1286 : decode cL_law 1286 = .ok (.invokevirtual 148, 3) := by decide +kernel
theorem dL_law_1289 : decode cL_law 1289 = .ok (.aload_n 2, 1) := by decide +kernel
theorem dL_law_1290 : decode cL_law 1290 = .ok (.aload_n 0, 1) := by decide +kernel
theorem dL_law_1291 : decode cL_law 1291 = .ok (.iload 4, 2) := by decide +kernel
theorem dL_law_1293 : decode cL_law 1293 = .ok (.iconst 1, 1) := by decide +kernel
theorem dL_law_1294 : decode cL_law 1294 = .ok (.iadd, 1) := by decide +kernel
theorem dL_law_1295 : decode cL_law 1295 = .ok (.iaload, 1) := by decide +kernel
theorem dL_law_1296 : decode cL_law 1296 = .ok (.invokevirtual 151, 3) := by decide +kernel
theorem dL_law_1299 : decode cL_law 1299 = .ok (.if_icmp .eq 5, 3) := by decide +kernel
theorem dL_law_1302 : decode cL_law 1302 = .ok (.iconst 0, 1) := by decide +kernel
theorem dL_law_1303 : decode cL_law 1303 = .ok (.ireturn, 1) := by decide +kernel
theorem dL_law_1304 : decode cL_law 1304 = .ok (.iinc 4 6, 3) := by decide +kernel
theorem dL_law_1307 : decode cL_law 1307 = .ok (.goto (-1284), 3) := by decide +kernel
theorem dL_law_1310 : decode cL_law 1310 = .ok (.iconst 1, 1) := by decide +kernel
theorem dL_law_1311 : decode cL_law 1311 = .ok (.ireturn, 1) := by decide +kernel
end
section
/-! ===== the words: all good ones of the tables in one list ===== -/
def TB : List Cond := lw_tbl.filter goodWord
theorem TB_in {w : Cond} (i : Nat) (h : lw_tbl[i]? = some w) (g : goodWord w = true) : w ∈ TB := List.mem_filter.mpr ⟨List.mem_of_getElem? h, g⟩
theorem TB_good : ∀ w ∈ TB, goodWord w = true := fun _ h => (List.mem_filter.mp h).2
theorem TB_sub {ws : List Cond} (h : ∀ w ∈ ws, w ∈ TB) : GoodIn TB ws := fun w hw => ⟨h w hw, good_of_word (TB_good w (h w hw))⟩
theorem TB_cons {c : Cond} (hc : c ∈ TB) : ∀ w ∈ c :: TB, w ∈ TB := fun w h => (List.mem_cons.mp h).elim (fun e => e ▸ hc) id
/-! ===== a view of the heap: what is known of the cells, by their addresses ===== -/
abbrev HV : Type := Nat → Option va_E
def hvP (D : va_G) (V : HV) (H : Heap) : Prop := ∀ (q : Nat) (e : va_E), V q = some e → va_at D vwCl (q, e) H
def upv (V : HV) (a : Nat) (e : va_E) : HV := fun q => if q = a then some e else V q
theorem upv_eq (V : HV) (a : Nat) (e : va_E) : upv V a e a = some e := if_pos rfl
theorem upv_ne {V : HV} {a q : Nat} {e : va_E} (h : q ≠ a) : upv V a e q = V q := if_neg h
def vI (Z : Nat → ClassId) (t n : Nat) (f : Nat → Int32) : va_E := .inl (Z t, (n, .inl f))
def vL (Z : Nat → ClassId) (t n : Nat) (f : Nat → Int64) : va_E := .inl (Z t, (n, .inr (.inl f)))
def vQ (Z : Nat → ClassId) (t n : Nat) (f : Nat → Option Nat) : va_E := .inl (Z t, (n, .inr (.inr (.inr (.inr f)))))
def vO (ci : Nat) (fs : List Value) : va_E := .inr (ci, fs)
theorem hvP.set {D : va_G} {V : HV} {a : Nat} {e : va_E} {H H1 : Heap} (h : hvP D V H) (he : va_at D vwCl (a, e) H1) (oq : ∀ q : Nat, q ≠ a → H1[q]? = H[q]?) : hvP D (upv V a e) H1 := by
  intro q e' hq
  by_cases hqa : q = a
  · subst hqa
    rw [upv_eq] at hq
    cases hq
    exact he
  · rw [upv_ne hqa] at hq
    exact (h q e' hq).kept (oq q hqa)
theorem hvP.push {D : va_G} {V : HV} {e : va_E} {H H1 : Heap} (h : hvP D V H) (he : va_at D vwCl (H.size, e) H1) (oq : ∀ q : Nat, q < H.size → H1[q]? = H[q]?) : hvP D (upv V H.size e) H1 := by
  intro q e' hq
  by_cases hqa : q = H.size
  · subst hqa
    rw [upv_eq] at hq
    cases hq
    exact he
  · rw [upv_ne hqa] at hq
    exact (h q e' hq).kept (oq q (h q e' hq).lt)
theorem hvP.new {D : va_G} {V : HV} {H : Heap} (h : hvP D V H) : V H.size = none := by
  cases hv : V H.size with
  | none => rfl
  | some e => exact absurd (h _ _ hv).lt (Nat.lt_irrefl _)
theorem hvP.one {D : va_G} {V : HV} {H : Heap} {a : Nat} {e : va_E} (h : hvP D V H) (ha : V a = some e) : va_P D vwCl [(a, e)] H := by
  intro k q hk
  match k, hk with
  | 0, hk => cases hk; exact h a e ha
  | k + 1, hk => simp at hk
theorem va_S.push1 {A : Nat → Prop} {H0 H H1 : Heap} {locs : List Loc} (h : va_S A H0 H locs) (z : H1.size = H.size + 1) (oq : ∀ q : Nat, q < H.size → H1[q]? = H[q]?) : va_S A H0 H1 locs :=
  ⟨Nat.le_trans h.1 (by omega), fun x h1 h2 => (oq x (Nat.lt_of_lt_of_le h1 h.1)).trans (h.2.1 x h1 h2), h.2.2⟩
/-! ===== the world's constants: D the classes' numbers and slots, Z the array classes, b0 the first new cell ===== -/
def kTys (Z : Nat → ClassId) : List (ClassId × FieldType) := [(Z 0, .int), (Z 1, .boolean), (Z 2, .object RX6), (Z 3, .object RX7), (Z 4, .long)]
def kCast : List String := [RX0, RX1, RX2, RX3, RX4, RX8, RX9]
def kNs (U : State) : Prop := va_Nw (.methodLinkNest RX11 34 yX10_init RX11) U ∧ va_Nw (.methodLinkNest RX11 49 yX7_init RX11) U ∧ va_Nw (.methodLinkNest RX5 34 yX11_neighbour RX11) U ∧ va_Nw (.methodLinkNest RX7 29 yX11_isBelow RX11) U ∧ va_Nw (.methodLinkNest RX10 52 yX11_neighbour RX11) U ∧ va_AO RX6 U ∧ va_AO RX7 U ∧ ∀ C ∈ kCast, va_Nw (.castable C RX6) U
def kW (D : va_G) (Z : Nat → ClassId) (U : State) : Prop := va_K D vwCl (kTys Z) U ∧ kNs U
theorem kNs.warm {s U : State} (hW : s.WarmedH U.vm) (h : kNs s) : kNs U := ⟨h.1.warmM hW, h.2.1.warmM hW, h.2.2.1.warmM hW, h.2.2.2.1.warmM hW, h.2.2.2.2.1.warmM hW, h.2.2.2.2.2.1.moved hW.alike, h.2.2.2.2.2.2.1.moved hW.alike, fun C hC => (h.2.2.2.2.2.2.2 C hC).warmC hW⟩
theorem kNs.same {s U : State} (hW : s.vm = U.vm) (h : kNs s) : kNs U := ⟨h.1.same rfl hW, h.2.1.same rfl hW, h.2.2.1.same rfl hW, h.2.2.2.1.same rfl hW, h.2.2.2.2.1.same rfl hW, h.2.2.2.2.2.1.moved (hW ▸ Vm.Alike.refl _), h.2.2.2.2.2.2.1.moved (hW ▸ Vm.Alike.refl _), fun C hC => (h.2.2.2.2.2.2.2 C hC).same rfl hW⟩
theorem kW.warm {D : va_G} {Z : Nat → ClassId} {s U : State} (hW : s.WarmedH U.vm) (h : kW D Z s) : kW D Z U := ⟨va_K.moved hW.alike h.1, h.2.warm hW⟩
/-! ===== the judgement ===== -/
def gX (D : va_G) (Z : Nat → ClassId) (b0 : Nat) (own : String) (cc : ByteArray) (nL : Nat) (p : Program) (s : State) (m : MethodId) (args : Array Value) (meth : Method) (c : Code) : Prop :=
  p.tables.exec = Jvm.exec ∧ c.code = cc ∧ c.maxLocals = nL ∧ s.vm.findClass own = some m.cls ∧ (∀ w ∈ TB, w.before args s = true) ∧ kW D Z s ∧ b0 ≤ s.heap.size ∧ meth.locks = false
def G (l : Launch) (D : va_G) (Z : Nat → ClassId) (b0 : Nat) (R : Room) (own : String) (cc : ByteArray) (nL : Nat) (E : Method → Array Value → State → Prop) (T : List Frame → Array Value → State → State → Prop) (V : HV) (L : List (Nat × Value)) (k n pc : Nat) (st : List Value) : Prop :=
  ∀ (p : Program) (e : Env) (s : State) (m : MethodId) (args : Array Value) (below : List Frame) (meth : Method) (c : Code) (H : Heap) (locs : List Loc) (ls : Array Slot),
    gX D Z b0 own cc nL p s m args meth c → E meth args s → hvP D V H → va_S (fun q => b0 ≤ q) s.heap H locs → lv_has ls nL L → W p l e R s m args below meth c H locs k n (T below args s) (F0 m pc ls st)
section GR
variable {l : Launch} {D : va_G} {Z : Nat → ClassId} {b0 : Nat} {R : Room} {own : String} {cc : ByteArray} {nL : Nat} {E : Method → Array Value → State → Prop} {T : List Frame → Array Value → State → State → Prop} {V : HV} {L : List (Nat × Value)} {k n pc : Nat} {rest : List Value}
theorem G.locals {L' : List (Nat × Value)} {st : List Value} (ks : List Nat) (hl : lv_pick L ks = L') (kk : G l D Z b0 R own cc nL E T V L' k n pc st) : G l D Z b0 R own cc nL E T V L k n pc st := fun p e s m args below meth c H locs ls X hE hV hS hL => kk p e s m args below meth c H locs ls X hE hV hS (lv_sub hL ks hl)
theorem G.widen {k' n' : Nat} {st : List Value} (h1 : k ≤ k') (h2 : n ≤ n') (kk : G l D Z b0 R own cc nL E T V L k' n' pc st) : G l D Z b0 R own cc nL E T V L k n pc st := fun p e s m args below meth c H locs ls X hE hV hS hL => W.widen h1 h2 (kk p e s m args below meth c H locs ls X hE hV hS hL)
theorem G.view {V' : HV} {st : List Value} (h : ∀ q e, V' q = some e → V q = some e) (kk : G l D Z b0 R own cc nL E T V' L k n pc st) : G l D Z b0 R own cc nL E T V L k n pc st := fun p e s m args below meth c H locs ls X hE hV hS hL => kk p e s m args below meth c H locs ls X hE (fun q e' hq => hV q e' (h q e' hq)) hS hL
theorem G.veq {V' : HV} {st : List Value} (h : V = V') (kk : G l D Z b0 R own cc nL E T V' L k n pc st) : G l D Z b0 R own cc nL E T V L k n pc st := h ▸ kk
/-- a loop: a measure that falls -/
theorem g_loop {α : Type} (mu : α → Nat) (Inv : α → Prop) (P : α → Prop) (h : ∀ a, Inv a → (∀ b, Inv b → mu b < mu a → P b) → P a) : ∀ a, Inv a → P a := by
  have key : ∀ (N : Nat) (a : α), mu a < N → Inv a → P a := by
    intro N
    induction N with
    | zero => intro a ha; exact absurd ha (Nat.not_lt_zero _)
    | succ N ih => intro a ha hi; exact h a hi (fun b hb hlt => ih b (by omega) hb)
  exact fun a hi => key (mu a + 1) a (Nat.lt_succ_self _) hi
theorem g_iconst {z : Int} {v : Int32} (hdg : decode cc pc = .ok (.iconst z, 1)) (hv : Int32.ofInt z = v) (kk : G l D Z b0 R own cc nL E T V L k n (pc + 1) (.int v :: rest)) : G l D Z b0 R own cc nL E T V L k n pc (rest) := fun p e s m args below meth c H locs ls X hE hV hS hL => lv_iconst X.1 X.2.1 hdg hv (kk p e s m args below meth c H locs ls X hE hV hS hL)
theorem g_bipush {z : Int} {v : Int32} (hdg : decode cc pc = .ok (.bipush z, 2)) (hv : (Int8.ofInt z).toInt32 = v) (kk : G l D Z b0 R own cc nL E T V L k n (pc + 2) (.int v :: rest)) : G l D Z b0 R own cc nL E T V L k n pc (rest) := fun p e s m args below meth c H locs ls X hE hV hS hL => lv_bipush X.1 X.2.1 hdg hv (kk p e s m args below meth c H locs ls X hE hV hS hL)
theorem g_sipush {z : Int} {v : Int32} (hdg : decode cc pc = .ok (.sipush z, 3)) (hv : (Int16.ofInt z).toInt32 = v) (kk : G l D Z b0 R own cc nL E T V L k n (pc + 3) (.int v :: rest)) : G l D Z b0 R own cc nL E T V L k n pc (rest) := fun p e s m args below meth c H locs ls X hE hV hS hL => lv_sipush X.1 X.2.1 hdg hv (kk p e s m args below meth c H locs ls X hE hV hS hL)
theorem g_lconst {z : Fin 2} {v : Int64} (hdg : decode cc pc = .ok (.lconst z, 1)) (hv : Int64.ofNat (z : Nat) = v) (kk : G l D Z b0 R own cc nL E T V L k n (pc + 1) (.long v :: rest)) : G l D Z b0 R own cc nL E T V L k n pc (rest) := fun p e s m args below meth c H locs ls X hE hV hS hL => lv_lconst X.1 X.2.1 hdg hv (kk p e s m args below meth c H locs ls X hE hV hS hL)
theorem g_iadd {x y : Int32} (hdg : decode cc pc = .ok (.iadd, 1)) (kk : G l D Z b0 R own cc nL E T V L k n (pc + 1) (.int (x + y) :: rest)) : G l D Z b0 R own cc nL E T V L k n pc (.int y :: .int x :: rest) := fun p e s m args below meth c H locs ls X hE hV hS hL => lv_iadd X.1 X.2.1 hdg (kk p e s m args below meth c H locs ls X hE hV hS hL)
theorem g_isub {x y : Int32} (hdg : decode cc pc = .ok (.isub, 1)) (kk : G l D Z b0 R own cc nL E T V L k n (pc + 1) (.int (x - y) :: rest)) : G l D Z b0 R own cc nL E T V L k n pc (.int y :: .int x :: rest) := fun p e s m args below meth c H locs ls X hE hV hS hL => lv_isub X.1 X.2.1 hdg (kk p e s m args below meth c H locs ls X hE hV hS hL)
theorem g_imul {x y : Int32} (hdg : decode cc pc = .ok (.imul, 1)) (kk : G l D Z b0 R own cc nL E T V L k n (pc + 1) (.int (x * y) :: rest)) : G l D Z b0 R own cc nL E T V L k n pc (.int y :: .int x :: rest) := fun p e s m args below meth c H locs ls X hE hV hS hL => lv_imul X.1 X.2.1 hdg (kk p e s m args below meth c H locs ls X hE hV hS hL)
theorem g_iand {x y : Int32} (hdg : decode cc pc = .ok (.iand, 1)) (kk : G l D Z b0 R own cc nL E T V L k n (pc + 1) (.int (x &&& y) :: rest)) : G l D Z b0 R own cc nL E T V L k n pc (.int y :: .int x :: rest) := fun p e s m args below meth c H locs ls X hE hV hS hL => lv_iand X.1 X.2.1 hdg (kk p e s m args below meth c H locs ls X hE hV hS hL)
theorem g_ior {x y : Int32} (hdg : decode cc pc = .ok (.ior, 1)) (kk : G l D Z b0 R own cc nL E T V L k n (pc + 1) (.int (x ||| y) :: rest)) : G l D Z b0 R own cc nL E T V L k n pc (.int y :: .int x :: rest) := fun p e s m args below meth c H locs ls X hE hV hS hL => lv_ior X.1 X.2.1 hdg (kk p e s m args below meth c H locs ls X hE hV hS hL)
theorem g_ixor {x y : Int32} (hdg : decode cc pc = .ok (.ixor, 1)) (kk : G l D Z b0 R own cc nL E T V L k n (pc + 1) (.int (x ^^^ y) :: rest)) : G l D Z b0 R own cc nL E T V L k n pc (.int y :: .int x :: rest) := fun p e s m args below meth c H locs ls X hE hV hS hL => lv_ixor X.1 X.2.1 hdg (kk p e s m args below meth c H locs ls X hE hV hS hL)
theorem g_idiv {x y : Int32} (hdg : decode cc pc = .ok (.idiv, 1)) (hne : ¬ y = 0) (kk : G l D Z b0 R own cc nL E T V L k n (pc + 1) (.int (x / y) :: rest)) : G l D Z b0 R own cc nL E T V L k n pc (.int y :: .int x :: rest) := fun p e s m args below meth c H locs ls X hE hV hS hL => lv_idiv X.1 X.2.1 hdg hne (kk p e s m args below meth c H locs ls X hE hV hS hL)
theorem g_irem {x y : Int32} (hdg : decode cc pc = .ok (.irem, 1)) (hne : ¬ y = 0) (kk : G l D Z b0 R own cc nL E T V L k n (pc + 1) (.int (x - x / y * y) :: rest)) : G l D Z b0 R own cc nL E T V L k n pc (.int y :: .int x :: rest) := fun p e s m args below meth c H locs ls X hE hV hS hL => lv_irem X.1 X.2.1 hdg hne (kk p e s m args below meth c H locs ls X hE hV hS hL)
theorem g_ineg {x : Int32} (hdg : decode cc pc = .ok (.ineg, 1)) (kk : G l D Z b0 R own cc nL E T V L k n (pc + 1) (.int (-x) :: rest)) : G l D Z b0 R own cc nL E T V L k n pc (.int x :: rest) := fun p e s m args below meth c H locs ls X hE hV hS hL => lv_ineg X.1 X.2.1 hdg (kk p e s m args below meth c H locs ls X hE hV hS hL)
theorem g_ladd {x y : Int64} (hdg : decode cc pc = .ok (.ladd, 1)) (kk : G l D Z b0 R own cc nL E T V L k n (pc + 1) (.long (x + y) :: rest)) : G l D Z b0 R own cc nL E T V L k n pc (.long y :: .long x :: rest) := fun p e s m args below meth c H locs ls X hE hV hS hL => lv_ladd X.1 X.2.1 hdg (kk p e s m args below meth c H locs ls X hE hV hS hL)
theorem g_lsub {x y : Int64} (hdg : decode cc pc = .ok (.lsub, 1)) (kk : G l D Z b0 R own cc nL E T V L k n (pc + 1) (.long (x - y) :: rest)) : G l D Z b0 R own cc nL E T V L k n pc (.long y :: .long x :: rest) := fun p e s m args below meth c H locs ls X hE hV hS hL => lv_lsub X.1 X.2.1 hdg (kk p e s m args below meth c H locs ls X hE hV hS hL)
theorem g_ishl {x y : Int32} (hdg : decode cc pc = .ok (.ishl, 1)) (kk : G l D Z b0 R own cc nL E T V L k n (pc + 1) (.int (x <<< (y &&& 31)) :: rest)) : G l D Z b0 R own cc nL E T V L k n pc (.int y :: .int x :: rest) := fun p e s m args below meth c H locs ls X hE hV hS hL => lv_ishl X.1 X.2.1 hdg (kk p e s m args below meth c H locs ls X hE hV hS hL)
theorem g_ishr {x y : Int32} (hdg : decode cc pc = .ok (.ishr, 1)) (kk : G l D Z b0 R own cc nL E T V L k n (pc + 1) (.int (x >>> (y &&& 31)) :: rest)) : G l D Z b0 R own cc nL E T V L k n pc (.int y :: .int x :: rest) := fun p e s m args below meth c H locs ls X hE hV hS hL => lv_ishr X.1 X.2.1 hdg (kk p e s m args below meth c H locs ls X hE hV hS hL)
theorem g_i2l {x : Int32} {v : Int64} (hdg : decode cc pc = .ok (.i2l, 1)) (hv : x.toInt64 = v) (kk : G l D Z b0 R own cc nL E T V L k n (pc + 1) (.long v :: rest)) : G l D Z b0 R own cc nL E T V L k n pc (.int x :: rest) := fun p e s m args below meth c H locs ls X hE hV hS hL => lv_i2l X.1 X.2.1 hdg hv (kk p e s m args below meth c H locs ls X hE hV hS hL)
theorem g_l2i {x : Int64} {v : Int32} (hdg : decode cc pc = .ok (.l2i, 1)) (hv : x.toInt32 = v) (kk : G l D Z b0 R own cc nL E T V L k n (pc + 1) (.int v :: rest)) : G l D Z b0 R own cc nL E T V L k n pc (.long x :: rest) := fun p e s m args below meth c H locs ls X hE hV hS hL => lv_l2i X.1 X.2.1 hdg hv (kk p e s m args below meth c H locs ls X hE hV hS hL)
theorem g_i2b {x : Int32} {v : Int32} (hdg : decode cc pc = .ok (.i2b, 1)) (hv : x.toInt8.toInt32 = v) (kk : G l D Z b0 R own cc nL E T V L k n (pc + 1) (.int v :: rest)) : G l D Z b0 R own cc nL E T V L k n pc (.int x :: rest) := fun p e s m args below meth c H locs ls X hE hV hS hL => lv_i2b X.1 X.2.1 hdg hv (kk p e s m args below meth c H locs ls X hE hV hS hL)
theorem g_i2s {x : Int32} {v : Int32} (hdg : decode cc pc = .ok (.i2s, 1)) (hv : x.toInt16.toInt32 = v) (kk : G l D Z b0 R own cc nL E T V L k n (pc + 1) (.int v :: rest)) : G l D Z b0 R own cc nL E T V L k n pc (.int x :: rest) := fun p e s m args below meth c H locs ls X hE hV hS hL => lv_i2s X.1 X.2.1 hdg hv (kk p e s m args below meth c H locs ls X hE hV hS hL)
theorem g_dup {va : Value} (hdg : decode cc pc = .ok (.dup, 1)) (hva : va.category = 1) (kk : G l D Z b0 R own cc nL E T V L k n (pc + 1) (va :: va :: rest)) : G l D Z b0 R own cc nL E T V L k n pc (va :: rest) := fun p e s m args below meth c H locs ls X hE hV hS hL => lv_dup X.1 X.2.1 hdg hva (kk p e s m args below meth c H locs ls X hE hV hS hL)
theorem g_pop {va : Value} (hdg : decode cc pc = .ok (.pop, 1)) (hva : va.category = 1) (kk : G l D Z b0 R own cc nL E T V L k n (pc + 1) (rest)) : G l D Z b0 R own cc nL E T V L k n pc (va :: rest) := fun p e s m args below meth c H locs ls X hE hV hS hL => lv_pop X.1 X.2.1 hdg hva (kk p e s m args below meth c H locs ls X hE hV hS hL)
theorem g_dup2_11 {va vb : Value} (hdg : decode cc pc = .ok (.dup2, 1)) (hva : va.category = 1) (hvb : vb.category = 1) (kk : G l D Z b0 R own cc nL E T V L k n (pc + 1) (va :: vb :: va :: vb :: rest)) : G l D Z b0 R own cc nL E T V L k n pc (va :: vb :: rest) := fun p e s m args below meth c H locs ls X hE hV hS hL => lv_dup2_11 X.1 X.2.1 hdg hva hvb (kk p e s m args below meth c H locs ls X hE hV hS hL)
theorem g_goto {off : Int} {tgt : Nat} (hdg : decode cc pc = .ok (.goto off, 3)) (ht : (pc : Int) + off = (tgt : Int)) (kk : G l D Z b0 R own cc nL E T V L k n tgt rest) : G l D Z b0 R own cc nL E T V L k n pc rest := fun p e s m args below meth c H locs ls X hE hV hS hL => lv_goto X.1 X.2.1 hdg ht (kk p e s m args below meth c H locs ls X hE hV hS hL)
theorem g_iload_n {j : Fin 4} {i q : Nat} {x : Int32} (hdg : decode cc pc = .ok (.iload_n j, 1)) (hi : (j : Nat) = i) (hl : L[q]? = some (i, .int x)) (kk : G l D Z b0 R own cc nL E T V L k n (pc + 1) (.int x :: rest)) : G l D Z b0 R own cc nL E T V L k n pc rest := fun p e s m args below meth c H locs ls X hE hV hS hL => lv_iload_n X.1 X.2.1 hdg hi (lv_at hL q hl) (kk p e s m args below meth c H locs ls X hE hV hS hL)
theorem g_iload {i q : Nat} {x : Int32} (hdg : decode cc pc = .ok (.iload i, 2)) (hl : L[q]? = some (i, .int x)) (kk : G l D Z b0 R own cc nL E T V L k n (pc + 2) (.int x :: rest)) : G l D Z b0 R own cc nL E T V L k n pc rest := fun p e s m args below meth c H locs ls X hE hV hS hL => lv_iload X.1 X.2.1 hdg (lv_at hL q hl) (kk p e s m args below meth c H locs ls X hE hV hS hL)
theorem g_lload_n {j : Fin 4} {i q : Nat} {x : Int64} (hdg : decode cc pc = .ok (.lload_n j, 1)) (hi : (j : Nat) = i) (hl : L[q]? = some (i, .long x)) (kk : G l D Z b0 R own cc nL E T V L k n (pc + 1) (.long x :: rest)) : G l D Z b0 R own cc nL E T V L k n pc rest := fun p e s m args below meth c H locs ls X hE hV hS hL => lv_lload_n X.1 X.2.1 hdg hi (lv_at hL q hl) (kk p e s m args below meth c H locs ls X hE hV hS hL)
theorem g_lload {i q : Nat} {x : Int64} (hdg : decode cc pc = .ok (.lload i, 2)) (hl : L[q]? = some (i, .long x)) (kk : G l D Z b0 R own cc nL E T V L k n (pc + 2) (.long x :: rest)) : G l D Z b0 R own cc nL E T V L k n pc rest := fun p e s m args below meth c H locs ls X hE hV hS hL => lv_lload X.1 X.2.1 hdg (lv_at hL q hl) (kk p e s m args below meth c H locs ls X hE hV hS hL)
theorem g_aload_n {j : Fin 4} {i q : Nat} {x : Nat} (hdg : decode cc pc = .ok (.aload_n j, 1)) (hi : (j : Nat) = i) (hl : L[q]? = some (i, .ref x)) (kk : G l D Z b0 R own cc nL E T V L k n (pc + 1) (.ref x :: rest)) : G l D Z b0 R own cc nL E T V L k n pc rest := fun p e s m args below meth c H locs ls X hE hV hS hL => lv_aload_n X.1 X.2.1 hdg hi (lv_at hL q hl) (kk p e s m args below meth c H locs ls X hE hV hS hL)
theorem g_aload {i q : Nat} {x : Nat} (hdg : decode cc pc = .ok (.aload i, 2)) (hl : L[q]? = some (i, .ref x)) (kk : G l D Z b0 R own cc nL E T V L k n (pc + 2) (.ref x :: rest)) : G l D Z b0 R own cc nL E T V L k n pc rest := fun p e s m args below meth c H locs ls X hE hV hS hL => lv_aload X.1 X.2.1 hdg (lv_at hL q hl) (kk p e s m args below meth c H locs ls X hE hV hS hL)
theorem g_aload_nN {j : Fin 4} {i q : Nat} (hdg : decode cc pc = .ok (.aload_n j, 1)) (hi : (j : Nat) = i) (hl : L[q]? = some (i, .null)) (kk : G l D Z b0 R own cc nL E T V L k n (pc + 1) (.null :: rest)) : G l D Z b0 R own cc nL E T V L k n pc rest := fun p e s m args below meth c H locs ls X hE hV hS hL => lv_aload_nN X.1 X.2.1 hdg hi (lv_at hL q hl) (kk p e s m args below meth c H locs ls X hE hV hS hL)
theorem g_aloadN {i q : Nat} (hdg : decode cc pc = .ok (.aload i, 2)) (hl : L[q]? = some (i, .null)) (kk : G l D Z b0 R own cc nL E T V L k n (pc + 2) (.null :: rest)) : G l D Z b0 R own cc nL E T V L k n pc rest := fun p e s m args below meth c H locs ls X hE hV hS hL => lv_aloadN X.1 X.2.1 hdg (lv_at hL q hl) (kk p e s m args below meth c H locs ls X hE hV hS hL)
theorem g_istore_n {j : Fin 4} {i : Nat} {x : Int32} {lv' : List (Nat × Value)} (hdg : decode cc pc = .ok (.istore_n j, 1)) (hi : (j : Nat) = i) (hn : i < nL) (hl : (i, Value.int x) :: L.filter (fun q => !(q.1 == i) && !(q.1 + 1 == i && q.2.category == 2)) = lv') (kk : G l D Z b0 R own cc nL E T V lv' k n (pc + 1) rest) : G l D Z b0 R own cc nL E T V L k n pc (.int x :: rest) := fun p e s m args below meth c H locs ls X hE hV hS hL => lv_istore_n X.1 X.2.1 hdg hi hL hn hl (fun ls hL => kk p e s m args below meth c H locs ls X hE hV hS hL)
theorem g_istore {i : Nat} {x : Int32} {lv' : List (Nat × Value)} (hdg : decode cc pc = .ok (.istore i, 2)) (hn : i < nL) (hl : (i, Value.int x) :: L.filter (fun q => !(q.1 == i) && !(q.1 + 1 == i && q.2.category == 2)) = lv') (kk : G l D Z b0 R own cc nL E T V lv' k n (pc + 2) rest) : G l D Z b0 R own cc nL E T V L k n pc (.int x :: rest) := fun p e s m args below meth c H locs ls X hE hV hS hL => lv_istore X.1 X.2.1 hdg hL hn hl (fun ls hL => kk p e s m args below meth c H locs ls X hE hV hS hL)
theorem g_astore_n {j : Fin 4} {i : Nat} {x : Nat} {lv' : List (Nat × Value)} (hdg : decode cc pc = .ok (.astore_n j, 1)) (hi : (j : Nat) = i) (hn : i < nL) (hl : (i, Value.ref x) :: L.filter (fun q => !(q.1 == i) && !(q.1 + 1 == i && q.2.category == 2)) = lv') (kk : G l D Z b0 R own cc nL E T V lv' k n (pc + 1) rest) : G l D Z b0 R own cc nL E T V L k n pc (.ref x :: rest) := fun p e s m args below meth c H locs ls X hE hV hS hL => lv_astore_n X.1 X.2.1 hdg hi hL hn hl (fun ls hL => kk p e s m args below meth c H locs ls X hE hV hS hL)
theorem g_astore {i : Nat} {x : Nat} {lv' : List (Nat × Value)} (hdg : decode cc pc = .ok (.astore i, 2)) (hn : i < nL) (hl : (i, Value.ref x) :: L.filter (fun q => !(q.1 == i) && !(q.1 + 1 == i && q.2.category == 2)) = lv') (kk : G l D Z b0 R own cc nL E T V lv' k n (pc + 2) rest) : G l D Z b0 R own cc nL E T V L k n pc (.ref x :: rest) := fun p e s m args below meth c H locs ls X hE hV hS hL => lv_astore X.1 X.2.1 hdg hL hn hl (fun ls hL => kk p e s m args below meth c H locs ls X hE hV hS hL)
theorem g_astore_nN {j : Fin 4} {i : Nat} {lv' : List (Nat × Value)} (hdg : decode cc pc = .ok (.astore_n j, 1)) (hi : (j : Nat) = i) (hn : i < nL) (hl : (i, Value.null) :: L.filter (fun q => !(q.1 == i) && !(q.1 + 1 == i && q.2.category == 2)) = lv') (kk : G l D Z b0 R own cc nL E T V lv' k n (pc + 1) rest) : G l D Z b0 R own cc nL E T V L k n pc (.null :: rest) := fun p e s m args below meth c H locs ls X hE hV hS hL => lv_astore_nN X.1 X.2.1 hdg hi hL hn hl (fun ls hL => kk p e s m args below meth c H locs ls X hE hV hS hL)
theorem g_astoreN {i : Nat} {lv' : List (Nat × Value)} (hdg : decode cc pc = .ok (.astore i, 2)) (hn : i < nL) (hl : (i, Value.null) :: L.filter (fun q => !(q.1 == i) && !(q.1 + 1 == i && q.2.category == 2)) = lv') (kk : G l D Z b0 R own cc nL E T V lv' k n (pc + 2) rest) : G l D Z b0 R own cc nL E T V L k n pc (.null :: rest) := fun p e s m args below meth c H locs ls X hE hV hS hL => lv_astoreN X.1 X.2.1 hdg hL hn hl (fun ls hL => kk p e s m args below meth c H locs ls X hE hV hS hL)
theorem g_iinc {i q : Nat} {z : Int} {x v : Int32} {lv' : List (Nat × Value)} (hdg : decode cc pc = .ok (.iinc i z, 3)) (hk : L[q]? = some (i, .int x)) (hv : x + Int32.ofInt z = v) (hn : i < nL) (hl : (i, Value.int v) :: L.filter (fun q => !(q.1 == i) && !(q.1 + 1 == i && q.2.category == 2)) = lv') (kk : G l D Z b0 R own cc nL E T V lv' k n (pc + 3) rest) : G l D Z b0 R own cc nL E T V L k n pc rest := fun p e s m args below meth c H locs ls X hE hV hS hL => lv_iinc X.1 X.2.1 hdg hL hk hv hn hl (fun ls hL => kk p e s m args below meth c H locs ls X hE hV hS hL)
theorem g_lstore {i : Nat} {x : Int64} {lv' : List (Nat × Value)} (hdg : decode cc pc = .ok (.lstore i, 2)) (hn : i + 1 < nL) (hl : (i, Value.long x) :: L.filter (fun q => !(q.1 == i) && (!(q.1 == i + 1) && !(q.1 + 1 == i && q.2.category == 2))) = lv') (kk : G l D Z b0 R own cc nL E T V lv' k n (pc + 2) rest) : G l D Z b0 R own cc nL E T V L k n pc (.long x :: rest) := fun p e s m args below meth c H locs ls X hE hV hS hL => lv_lstore X.1 X.2.1 hdg hL hn hl (fun ls hL => kk p e s m args below meth c H locs ls X hE hV hS hL)
theorem g_if_eq {x : Int32} {off : Int} {tgt : Nat} (hdg : decode cc pc = .ok (.ifCond .eq off, 3)) (ht : (pc : Int) + off = (tgt : Int)) (kt : x = 0 → G l D Z b0 R own cc nL E T V L k n tgt rest) (kf : ¬ x = 0 → G l D Z b0 R own cc nL E T V L k n (pc + 3) rest) : G l D Z b0 R own cc nL E T V L k n pc (.int x :: rest) := fun p e s m args below meth c H locs ls X hE hV hS hL => lv_if_eq X.1 X.2.1 hdg ht (fun c0 => kt c0 p e s m args below meth c H locs ls X hE hV hS hL) (fun c0 => kf c0 p e s m args below meth c H locs ls X hE hV hS hL)
theorem g_icmp_eq {x y : Int32} {off : Int} {tgt : Nat} (hdg : decode cc pc = .ok (.if_icmp .eq off, 3)) (ht : (pc : Int) + off = (tgt : Int)) (kt : x = y → G l D Z b0 R own cc nL E T V L k n tgt rest) (kf : ¬ x = y → G l D Z b0 R own cc nL E T V L k n (pc + 3) rest) : G l D Z b0 R own cc nL E T V L k n pc (.int y :: .int x :: rest) := fun p e s m args below meth c H locs ls X hE hV hS hL => lv_icmp_eq X.1 X.2.1 hdg ht (fun c0 => kt c0 p e s m args below meth c H locs ls X hE hV hS hL) (fun c0 => kf c0 p e s m args below meth c H locs ls X hE hV hS hL)
theorem g_if_ne {x : Int32} {off : Int} {tgt : Nat} (hdg : decode cc pc = .ok (.ifCond .ne off, 3)) (ht : (pc : Int) + off = (tgt : Int)) (kt : ¬ x = 0 → G l D Z b0 R own cc nL E T V L k n tgt rest) (kf : x = 0 → G l D Z b0 R own cc nL E T V L k n (pc + 3) rest) : G l D Z b0 R own cc nL E T V L k n pc (.int x :: rest) := fun p e s m args below meth c H locs ls X hE hV hS hL => lv_if_ne X.1 X.2.1 hdg ht (fun c0 => kt c0 p e s m args below meth c H locs ls X hE hV hS hL) (fun c0 => kf c0 p e s m args below meth c H locs ls X hE hV hS hL)
theorem g_icmp_ne {x y : Int32} {off : Int} {tgt : Nat} (hdg : decode cc pc = .ok (.if_icmp .ne off, 3)) (ht : (pc : Int) + off = (tgt : Int)) (kt : ¬ x = y → G l D Z b0 R own cc nL E T V L k n tgt rest) (kf : x = y → G l D Z b0 R own cc nL E T V L k n (pc + 3) rest) : G l D Z b0 R own cc nL E T V L k n pc (.int y :: .int x :: rest) := fun p e s m args below meth c H locs ls X hE hV hS hL => lv_icmp_ne X.1 X.2.1 hdg ht (fun c0 => kt c0 p e s m args below meth c H locs ls X hE hV hS hL) (fun c0 => kf c0 p e s m args below meth c H locs ls X hE hV hS hL)
theorem g_if_lt {x : Int32} {off : Int} {tgt : Nat} (hdg : decode cc pc = .ok (.ifCond .lt off, 3)) (ht : (pc : Int) + off = (tgt : Int)) (kt : x < 0 → G l D Z b0 R own cc nL E T V L k n tgt rest) (kf : ¬ x < 0 → G l D Z b0 R own cc nL E T V L k n (pc + 3) rest) : G l D Z b0 R own cc nL E T V L k n pc (.int x :: rest) := fun p e s m args below meth c H locs ls X hE hV hS hL => lv_if_lt X.1 X.2.1 hdg ht (fun c0 => kt c0 p e s m args below meth c H locs ls X hE hV hS hL) (fun c0 => kf c0 p e s m args below meth c H locs ls X hE hV hS hL)
theorem g_icmp_lt {x y : Int32} {off : Int} {tgt : Nat} (hdg : decode cc pc = .ok (.if_icmp .lt off, 3)) (ht : (pc : Int) + off = (tgt : Int)) (kt : x < y → G l D Z b0 R own cc nL E T V L k n tgt rest) (kf : ¬ x < y → G l D Z b0 R own cc nL E T V L k n (pc + 3) rest) : G l D Z b0 R own cc nL E T V L k n pc (.int y :: .int x :: rest) := fun p e s m args below meth c H locs ls X hE hV hS hL => lv_icmp_lt X.1 X.2.1 hdg ht (fun c0 => kt c0 p e s m args below meth c H locs ls X hE hV hS hL) (fun c0 => kf c0 p e s m args below meth c H locs ls X hE hV hS hL)
theorem g_if_ge {x : Int32} {off : Int} {tgt : Nat} (hdg : decode cc pc = .ok (.ifCond .ge off, 3)) (ht : (pc : Int) + off = (tgt : Int)) (kt : 0 ≤ x → G l D Z b0 R own cc nL E T V L k n tgt rest) (kf : ¬ 0 ≤ x → G l D Z b0 R own cc nL E T V L k n (pc + 3) rest) : G l D Z b0 R own cc nL E T V L k n pc (.int x :: rest) := fun p e s m args below meth c H locs ls X hE hV hS hL => lv_if_ge X.1 X.2.1 hdg ht (fun c0 => kt c0 p e s m args below meth c H locs ls X hE hV hS hL) (fun c0 => kf c0 p e s m args below meth c H locs ls X hE hV hS hL)
theorem g_icmp_ge {x y : Int32} {off : Int} {tgt : Nat} (hdg : decode cc pc = .ok (.if_icmp .ge off, 3)) (ht : (pc : Int) + off = (tgt : Int)) (kt : y ≤ x → G l D Z b0 R own cc nL E T V L k n tgt rest) (kf : ¬ y ≤ x → G l D Z b0 R own cc nL E T V L k n (pc + 3) rest) : G l D Z b0 R own cc nL E T V L k n pc (.int y :: .int x :: rest) := fun p e s m args below meth c H locs ls X hE hV hS hL => lv_icmp_ge X.1 X.2.1 hdg ht (fun c0 => kt c0 p e s m args below meth c H locs ls X hE hV hS hL) (fun c0 => kf c0 p e s m args below meth c H locs ls X hE hV hS hL)
theorem g_if_gt {x : Int32} {off : Int} {tgt : Nat} (hdg : decode cc pc = .ok (.ifCond .gt off, 3)) (ht : (pc : Int) + off = (tgt : Int)) (kt : 0 < x → G l D Z b0 R own cc nL E T V L k n tgt rest) (kf : ¬ 0 < x → G l D Z b0 R own cc nL E T V L k n (pc + 3) rest) : G l D Z b0 R own cc nL E T V L k n pc (.int x :: rest) := fun p e s m args below meth c H locs ls X hE hV hS hL => lv_if_gt X.1 X.2.1 hdg ht (fun c0 => kt c0 p e s m args below meth c H locs ls X hE hV hS hL) (fun c0 => kf c0 p e s m args below meth c H locs ls X hE hV hS hL)
theorem g_icmp_gt {x y : Int32} {off : Int} {tgt : Nat} (hdg : decode cc pc = .ok (.if_icmp .gt off, 3)) (ht : (pc : Int) + off = (tgt : Int)) (kt : y < x → G l D Z b0 R own cc nL E T V L k n tgt rest) (kf : ¬ y < x → G l D Z b0 R own cc nL E T V L k n (pc + 3) rest) : G l D Z b0 R own cc nL E T V L k n pc (.int y :: .int x :: rest) := fun p e s m args below meth c H locs ls X hE hV hS hL => lv_icmp_gt X.1 X.2.1 hdg ht (fun c0 => kt c0 p e s m args below meth c H locs ls X hE hV hS hL) (fun c0 => kf c0 p e s m args below meth c H locs ls X hE hV hS hL)
theorem g_if_le {x : Int32} {off : Int} {tgt : Nat} (hdg : decode cc pc = .ok (.ifCond .le off, 3)) (ht : (pc : Int) + off = (tgt : Int)) (kt : x ≤ 0 → G l D Z b0 R own cc nL E T V L k n tgt rest) (kf : ¬ x ≤ 0 → G l D Z b0 R own cc nL E T V L k n (pc + 3) rest) : G l D Z b0 R own cc nL E T V L k n pc (.int x :: rest) := fun p e s m args below meth c H locs ls X hE hV hS hL => lv_if_le X.1 X.2.1 hdg ht (fun c0 => kt c0 p e s m args below meth c H locs ls X hE hV hS hL) (fun c0 => kf c0 p e s m args below meth c H locs ls X hE hV hS hL)
theorem g_icmp_le {x y : Int32} {off : Int} {tgt : Nat} (hdg : decode cc pc = .ok (.if_icmp .le off, 3)) (ht : (pc : Int) + off = (tgt : Int)) (kt : x ≤ y → G l D Z b0 R own cc nL E T V L k n tgt rest) (kf : ¬ x ≤ y → G l D Z b0 R own cc nL E T V L k n (pc + 3) rest) : G l D Z b0 R own cc nL E T V L k n pc (.int y :: .int x :: rest) := fun p e s m args below meth c H locs ls X hE hV hS hL => lv_icmp_le X.1 X.2.1 hdg ht (fun c0 => kt c0 p e s m args below meth c H locs ls X hE hV hS hL) (fun c0 => kf c0 p e s m args below meth c H locs ls X hE hV hS hL)
theorem g_icmp_eq_N {i j : Nat} {off : Int} {tgt : Nat} (hi : i < 2147483648) (hj : j < 2147483648) (hdg : decode cc pc = .ok (.if_icmp .eq off, 3)) (ht : (pc : Int) + off = (tgt : Int)) (kt : i = j → G l D Z b0 R own cc nL E T V L k n tgt rest) (kf : ¬ i = j → G l D Z b0 R own cc nL E T V L k n (pc + 3) rest) : G l D Z b0 R own cc nL E T V L k n pc (.int (nI j) :: .int (nI i) :: rest) := g_icmp_eq hdg ht (fun c0 => kt (by have h1 := nI_toInt (n := i) (by omega); have h2 := nI_toInt (n := j) (by omega); simp only [← Int32.toInt_inj, Int32.le_iff_toInt_le, Int32.lt_iff_toInt_lt, ge_iff_le, gt_iff_lt, h1, h2] at c0; omega)) (fun c0 => kf (by have h1 := nI_toInt (n := i) (by omega); have h2 := nI_toInt (n := j) (by omega); simp only [← Int32.toInt_inj, Int32.le_iff_toInt_le, Int32.lt_iff_toInt_lt, ge_iff_le, gt_iff_lt, h1, h2] at c0; omega))
theorem g_icmp_ne_N {i j : Nat} {off : Int} {tgt : Nat} (hi : i < 2147483648) (hj : j < 2147483648) (hdg : decode cc pc = .ok (.if_icmp .ne off, 3)) (ht : (pc : Int) + off = (tgt : Int)) (kt : ¬ i = j → G l D Z b0 R own cc nL E T V L k n tgt rest) (kf : i = j → G l D Z b0 R own cc nL E T V L k n (pc + 3) rest) : G l D Z b0 R own cc nL E T V L k n pc (.int (nI j) :: .int (nI i) :: rest) := g_icmp_ne hdg ht (fun c0 => kt (by have h1 := nI_toInt (n := i) (by omega); have h2 := nI_toInt (n := j) (by omega); simp only [← Int32.toInt_inj, Int32.le_iff_toInt_le, Int32.lt_iff_toInt_lt, ge_iff_le, gt_iff_lt, h1, h2] at c0; omega)) (fun c0 => kf (by have h1 := nI_toInt (n := i) (by omega); have h2 := nI_toInt (n := j) (by omega); simp only [← Int32.toInt_inj, Int32.le_iff_toInt_le, Int32.lt_iff_toInt_lt, ge_iff_le, gt_iff_lt, h1, h2] at c0; omega))
theorem g_icmp_lt_N {i j : Nat} {off : Int} {tgt : Nat} (hi : i < 2147483648) (hj : j < 2147483648) (hdg : decode cc pc = .ok (.if_icmp .lt off, 3)) (ht : (pc : Int) + off = (tgt : Int)) (kt : i < j → G l D Z b0 R own cc nL E T V L k n tgt rest) (kf : j ≤ i → G l D Z b0 R own cc nL E T V L k n (pc + 3) rest) : G l D Z b0 R own cc nL E T V L k n pc (.int (nI j) :: .int (nI i) :: rest) := g_icmp_lt hdg ht (fun c0 => kt (by have h1 := nI_toInt (n := i) (by omega); have h2 := nI_toInt (n := j) (by omega); simp only [← Int32.toInt_inj, Int32.le_iff_toInt_le, Int32.lt_iff_toInt_lt, ge_iff_le, gt_iff_lt, h1, h2] at c0; omega)) (fun c0 => kf (by have h1 := nI_toInt (n := i) (by omega); have h2 := nI_toInt (n := j) (by omega); simp only [← Int32.toInt_inj, Int32.le_iff_toInt_le, Int32.lt_iff_toInt_lt, ge_iff_le, gt_iff_lt, h1, h2] at c0; omega))
theorem g_icmp_ge_N {i j : Nat} {off : Int} {tgt : Nat} (hi : i < 2147483648) (hj : j < 2147483648) (hdg : decode cc pc = .ok (.if_icmp .ge off, 3)) (ht : (pc : Int) + off = (tgt : Int)) (kt : j ≤ i → G l D Z b0 R own cc nL E T V L k n tgt rest) (kf : i < j → G l D Z b0 R own cc nL E T V L k n (pc + 3) rest) : G l D Z b0 R own cc nL E T V L k n pc (.int (nI j) :: .int (nI i) :: rest) := g_icmp_ge hdg ht (fun c0 => kt (by have h1 := nI_toInt (n := i) (by omega); have h2 := nI_toInt (n := j) (by omega); simp only [← Int32.toInt_inj, Int32.le_iff_toInt_le, Int32.lt_iff_toInt_lt, ge_iff_le, gt_iff_lt, h1, h2] at c0; omega)) (fun c0 => kf (by have h1 := nI_toInt (n := i) (by omega); have h2 := nI_toInt (n := j) (by omega); simp only [← Int32.toInt_inj, Int32.le_iff_toInt_le, Int32.lt_iff_toInt_lt, ge_iff_le, gt_iff_lt, h1, h2] at c0; omega))
theorem g_icmp_gt_N {i j : Nat} {off : Int} {tgt : Nat} (hi : i < 2147483648) (hj : j < 2147483648) (hdg : decode cc pc = .ok (.if_icmp .gt off, 3)) (ht : (pc : Int) + off = (tgt : Int)) (kt : j < i → G l D Z b0 R own cc nL E T V L k n tgt rest) (kf : i ≤ j → G l D Z b0 R own cc nL E T V L k n (pc + 3) rest) : G l D Z b0 R own cc nL E T V L k n pc (.int (nI j) :: .int (nI i) :: rest) := g_icmp_gt hdg ht (fun c0 => kt (by have h1 := nI_toInt (n := i) (by omega); have h2 := nI_toInt (n := j) (by omega); simp only [← Int32.toInt_inj, Int32.le_iff_toInt_le, Int32.lt_iff_toInt_lt, ge_iff_le, gt_iff_lt, h1, h2] at c0; omega)) (fun c0 => kf (by have h1 := nI_toInt (n := i) (by omega); have h2 := nI_toInt (n := j) (by omega); simp only [← Int32.toInt_inj, Int32.le_iff_toInt_le, Int32.lt_iff_toInt_lt, ge_iff_le, gt_iff_lt, h1, h2] at c0; omega))
theorem g_icmp_le_N {i j : Nat} {off : Int} {tgt : Nat} (hi : i < 2147483648) (hj : j < 2147483648) (hdg : decode cc pc = .ok (.if_icmp .le off, 3)) (ht : (pc : Int) + off = (tgt : Int)) (kt : i ≤ j → G l D Z b0 R own cc nL E T V L k n tgt rest) (kf : j < i → G l D Z b0 R own cc nL E T V L k n (pc + 3) rest) : G l D Z b0 R own cc nL E T V L k n pc (.int (nI j) :: .int (nI i) :: rest) := g_icmp_le hdg ht (fun c0 => kt (by have h1 := nI_toInt (n := i) (by omega); have h2 := nI_toInt (n := j) (by omega); simp only [← Int32.toInt_inj, Int32.le_iff_toInt_le, Int32.lt_iff_toInt_lt, ge_iff_le, gt_iff_lt, h1, h2] at c0; omega)) (fun c0 => kf (by have h1 := nI_toInt (n := i) (by omega); have h2 := nI_toInt (n := j) (by omega); simp only [← Int32.toInt_inj, Int32.le_iff_toInt_le, Int32.lt_iff_toInt_lt, ge_iff_le, gt_iff_lt, h1, h2] at c0; omega))
theorem nI_nneg {i : Nat} (hi : i < 2147483648) : ¬ nI i < 0 := by rw [Int32.lt_iff_toInt_lt, nI_toInt (by omega), Int32.toInt_zero]; omega
theorem nI_0le {i : Nat} (hi : i < 2147483648) : 0 ≤ nI i := by rw [Int32.le_iff_toInt_le, nI_toInt (by omega), Int32.toInt_zero]; omega
theorem g_if_lt_N {i : Nat} {off : Int} {tgt : Nat} (hi : i < 2147483648) (hdg : decode cc pc = .ok (.ifCond .lt off, 3)) (ht : (pc : Int) + off = (tgt : Int)) (kf : G l D Z b0 R own cc nL E T V L k n (pc + 3) rest) : G l D Z b0 R own cc nL E T V L k n pc (.int (nI i) :: rest) := g_if_lt hdg ht (fun c0 => absurd c0 (nI_nneg hi)) (fun _ => kf)
theorem g_if_ge_N {i : Nat} {off : Int} {tgt : Nat} (hi : i < 2147483648) (hdg : decode cc pc = .ok (.ifCond .ge off, 3)) (ht : (pc : Int) + off = (tgt : Int)) (kt : G l D Z b0 R own cc nL E T V L k n tgt rest) : G l D Z b0 R own cc nL E T V L k n pc (.int (nI i) :: rest) := g_if_ge hdg ht (fun _ => kt) (fun c0 => absurd (nI_0le hi) c0)
theorem g_if_eq_N {i : Nat} {off : Int} {tgt : Nat} (hi : i < 2147483648) (hdg : decode cc pc = .ok (.ifCond .eq off, 3)) (ht : (pc : Int) + off = (tgt : Int)) (kt : i = 0 → G l D Z b0 R own cc nL E T V L k n tgt rest) (kf : ¬ i = 0 → G l D Z b0 R own cc nL E T V L k n (pc + 3) rest) : G l D Z b0 R own cc nL E T V L k n pc (.int (nI i) :: rest) := g_if_eq hdg ht (fun c0 => kt (by have h1 := nI_toInt (n := i) (by omega); simp only [← Int32.toInt_inj, Int32.le_iff_toInt_le, Int32.lt_iff_toInt_lt, ge_iff_le, gt_iff_lt, h1, Int32.toInt_zero] at c0; omega)) (fun c0 => kf (by have h1 := nI_toInt (n := i) (by omega); simp only [← Int32.toInt_inj, Int32.le_iff_toInt_le, Int32.lt_iff_toInt_lt, ge_iff_le, gt_iff_lt, h1, Int32.toInt_zero] at c0; omega))
theorem g_if_ne_N {i : Nat} {off : Int} {tgt : Nat} (hi : i < 2147483648) (hdg : decode cc pc = .ok (.ifCond .ne off, 3)) (ht : (pc : Int) + off = (tgt : Int)) (kt : ¬ i = 0 → G l D Z b0 R own cc nL E T V L k n tgt rest) (kf : i = 0 → G l D Z b0 R own cc nL E T V L k n (pc + 3) rest) : G l D Z b0 R own cc nL E T V L k n pc (.int (nI i) :: rest) := g_if_ne hdg ht (fun c0 => kt (by have h1 := nI_toInt (n := i) (by omega); simp only [← Int32.toInt_inj, Int32.le_iff_toInt_le, Int32.lt_iff_toInt_lt, ge_iff_le, gt_iff_lt, h1, Int32.toInt_zero] at c0; omega)) (fun c0 => kf (by have h1 := nI_toInt (n := i) (by omega); simp only [← Int32.toInt_inj, Int32.le_iff_toInt_le, Int32.lt_iff_toInt_lt, ge_iff_le, gt_iff_lt, h1, Int32.toInt_zero] at c0; omega))
theorem g_if_gt_N {i : Nat} {off : Int} {tgt : Nat} (hi : i < 2147483648) (hdg : decode cc pc = .ok (.ifCond .gt off, 3)) (ht : (pc : Int) + off = (tgt : Int)) (kt : 0 < i → G l D Z b0 R own cc nL E T V L k n tgt rest) (kf : i = 0 → G l D Z b0 R own cc nL E T V L k n (pc + 3) rest) : G l D Z b0 R own cc nL E T V L k n pc (.int (nI i) :: rest) := g_if_gt hdg ht (fun c0 => kt (by have h1 := nI_toInt (n := i) (by omega); simp only [← Int32.toInt_inj, Int32.le_iff_toInt_le, Int32.lt_iff_toInt_lt, ge_iff_le, gt_iff_lt, h1, Int32.toInt_zero] at c0; omega)) (fun c0 => kf (by have h1 := nI_toInt (n := i) (by omega); simp only [← Int32.toInt_inj, Int32.le_iff_toInt_le, Int32.lt_iff_toInt_lt, ge_iff_le, gt_iff_lt, h1, Int32.toInt_zero] at c0; omega))
theorem g_if_le_N {i : Nat} {off : Int} {tgt : Nat} (hi : i < 2147483648) (hdg : decode cc pc = .ok (.ifCond .le off, 3)) (ht : (pc : Int) + off = (tgt : Int)) (kt : i = 0 → G l D Z b0 R own cc nL E T V L k n tgt rest) (kf : 0 < i → G l D Z b0 R own cc nL E T V L k n (pc + 3) rest) : G l D Z b0 R own cc nL E T V L k n pc (.int (nI i) :: rest) := g_if_le hdg ht (fun c0 => kt (by have h1 := nI_toInt (n := i) (by omega); simp only [← Int32.toInt_inj, Int32.le_iff_toInt_le, Int32.lt_iff_toInt_lt, ge_iff_le, gt_iff_lt, h1, Int32.toInt_zero] at c0; omega)) (fun c0 => kf (by have h1 := nI_toInt (n := i) (by omega); simp only [← Int32.toInt_inj, Int32.le_iff_toInt_le, Int32.lt_iff_toInt_lt, ge_iff_le, gt_iff_lt, h1, Int32.toInt_zero] at c0; omega))
theorem g_lookup {dflt : Int} {ps : Array (Int × Int)} {len : Nat} {x : Int32} {off : Int} {tgt : Nat} (hdg : decode cc pc = .ok (.lookupswitch dflt ps, len)) (hp : (ps.toList.zip (ps.toList.drop 1)).all (fun (a, next) => a.1 < next.1) = true) (ho : Op.lookupswitch.offset ps.toList dflt x.toInt = off) (ht : (pc : Int) + off = (tgt : Int)) (kk : G l D Z b0 R own cc nL E T V L k n tgt rest) : G l D Z b0 R own cc nL E T V L k n pc (.int x :: rest) := fun p e s m args below meth c H locs ls X hE hV hS hL => lv_lookup X.1 X.2.1 hdg hp ho ht (kk p e s m args below meth c H locs ls X hE hV hS hL)
theorem g_tableOut {dflt lo hi : Int} {offs : Array Int} {len : Nat} {x : Int32} {tgt : Nat} (hdg : decode cc pc = .ok (.tableswitch dflt lo hi offs, len)) (h : x.toInt < lo ∨ hi < x.toInt) (ht : (pc : Int) + dflt = (tgt : Int)) (kk : G l D Z b0 R own cc nL E T V L k n tgt rest) : G l D Z b0 R own cc nL E T V L k n pc (.int x :: rest) := fun p e s m args below meth c H locs ls X hE hV hS hL => lv_tableOut X.1 X.2.1 hdg h ht (kk p e s m args below meth c H locs ls X hE hV hS hL)
theorem g_tableIn {dflt lo hi : Int} {offs : Array Int} {len : Nat} {x : Int32} {off : Int} {tgt : Nat} (hdg : decode cc pc = .ok (.tableswitch dflt lo hi offs, len)) (h1 : ¬ x.toInt < lo) (h2 : ¬ hi < x.toInt) (ho : offs[(x.toInt - lo).toNat]? = some off) (ht : (pc : Int) + off = (tgt : Int)) (kk : G l D Z b0 R own cc nL E T V L k n tgt rest) : G l D Z b0 R own cc nL E T V L k n pc (.int x :: rest) := fun p e s m args below meth c H locs ls X hE hV hS hL => lv_tableIn X.1 X.2.1 hdg h1 h2 ho ht (kk p e s m args below meth c H locs ls X hE hV hS hL)
theorem g_ifnonnull {x : Nat} {off : Int} {tgt : Nat} (hdg : decode cc pc = .ok (.ifnonnull off, 3)) (ht : (pc : Int) + off = (tgt : Int)) (kk : G l D Z b0 R own cc nL E T V L k n (tgt) rest) : G l D Z b0 R own cc nL E T V L k n pc (.ref x :: rest) := fun p e s m args below meth c H locs ls X hE hV hS hL => lv_ifnonnull X.1 X.2.1 hdg ht (kk p e s m args below meth c H locs ls X hE hV hS hL)
theorem g_ifnull {x : Nat} {off : Int} (hdg : decode cc pc = .ok (.ifnull off, 3)) (kk : G l D Z b0 R own cc nL E T V L k n (pc + 3) rest) : G l D Z b0 R own cc nL E T V L k n pc (.ref x :: rest) := fun p e s m args below meth c H locs ls X hE hV hS hL => lv_ifnull X.1 X.2.1 hdg (kk p e s m args below meth c H locs ls X hE hV hS hL)
theorem g_ifnullN {off : Int} {tgt : Nat} (hdg : decode cc pc = .ok (.ifnull off, 3)) (ht : (pc : Int) + off = (tgt : Int)) (kk : G l D Z b0 R own cc nL E T V L k n (tgt) rest) : G l D Z b0 R own cc nL E T V L k n pc (.null :: rest) := fun p e s m args below meth c H locs ls X hE hV hS hL => lv_ifnullN X.1 X.2.1 hdg ht (kk p e s m args below meth c H locs ls X hE hV hS hL)
theorem g_ifnonnullN {off : Int} (hdg : decode cc pc = .ok (.ifnonnull off, 3)) (kk : G l D Z b0 R own cc nL E T V L k n (pc + 3) rest) : G l D Z b0 R own cc nL E T V L k n pc (.null :: rest) := fun p e s m args below meth c H locs ls X hE hV hS hL => lv_ifnonnullN X.1 X.2.1 hdg (kk p e s m args below meth c H locs ls X hE hV hS hL)
theorem g_null (hdg : decode cc pc = .ok (.aconst_null, 1)) (kk : G l D Z b0 R own cc nL E T V L k n (pc + 1) (.null :: rest)) : G l D Z b0 R own cc nL E T V L k n pc rest := fun p e s m args below meth c H locs ls X hE hV hS hL => lv_null X.1 X.2.1 hdg (kk p e s m args below meth c H locs ls X hE hV hS hL)
theorem g_lcmp {x y : Int64} (hdg : decode cc pc = .ok (.lcmp, 1)) (kk : G l D Z b0 R own cc nL E T V L k n (pc + 1) (.int (lg_cmp x y) :: rest)) : G l D Z b0 R own cc nL E T V L k n pc (.long y :: .long x :: rest) := fun p e s m args below meth c H locs ls X hE hV hS hL => W.lcmp X.1 X.2.1 hdg (kk p e s m args below meth c H locs ls X hE hV hS hL)
theorem g_ldc {index : Nat} {v : Int32} (hc : Jvm.Cond.constant own index v ∈ TB) (hdg : decode cc pc = .ok (.ldc index, 2)) (kk : G l D Z b0 R own cc nL E T V L k n (pc + 2) (.int v :: rest)) : G l D Z b0 R own cc nL E T V L k n pc rest := fun p e s m args below meth c H locs ls X hE hV hS hL => lv_ldc X.1 X.2.1 X.2.2.2.1 (X.2.2.2.2.1 _ hc) hdg (kk p e s m args below meth c H locs ls X hE hV hS hL)
theorem g_ldcw {index : Nat} {v : Int32} (hc : Jvm.Cond.constant own index v ∈ TB) (hdg : decode cc pc = .ok (.ldc_w index, 3)) (kk : G l D Z b0 R own cc nL E T V L k n (pc + 3) (.int v :: rest)) : G l D Z b0 R own cc nL E T V L k n pc rest := fun p e s m args below meth c H locs ls X hE hV hS hL => lv_ldcw X.1 X.2.1 X.2.2.2.1 (X.2.2.2.2.1 _ hc) hdg (kk p e s m args below meth c H locs ls X hE hV hS hL)
theorem g_ldc2 {index : Nat} {v : Int64} (hc : Jvm.Cond.constantLong own index v ∈ TB) (hdg : decode cc pc = .ok (.ldc2_w index, 3)) (kk : G l D Z b0 R own cc nL E T V L k n (pc + 3) (.long v :: rest)) : G l D Z b0 R own cc nL E T V L k n pc rest := fun p e s m args below meth c H locs ls X hE hV hS hL => lv_ldc2 X.1 X.2.1 X.2.2.2.1 (X.2.2.2.2.1 _ hc) hdg (kk p e s m args below meth c H locs ls X hE hV hS hL)
theorem g_get {ref C : String} {F : u_T} {N ci index a : Nat} {fs : List Value} {v : Value} (ha : V a = some (vO ci fs)) (hc : vwCl[ci]? = some (C, F, N)) (hin : ∀ w ∈ u_ws C F N, w ∈ TB) (j : Nat) (hj : j < N) (hlink : Cond.fieldLink own index ref (F j).2.1 (F j).2.2.1 ∈ TB) (hsame : ref = (F j).1 ∨ Cond.sameField ref (F j).1 (F j).2.1 (F j).2.2.1 ∈ TB) (hv : fs[j]? = some v) (hdg : decode cc pc = .ok (.getfield index, 3)) (kk : G l D Z b0 R own cc nL E T V L k n (pc + 3) (v :: rest)) : G l D Z b0 R own cc nL E T V L k n pc (.ref a :: rest) := fun p e s m args below meth c H locs ls X hE hV hS hL => va_get (D := D) (ci := ci) (v := v) (C := C) (T := F) (N := N) X.1 X.2.1 X.2.2.2.2.1 hin X.2.2.2.1 X.2.2.2.2.2.1.1 (hV.one ha) 0 rfl hc j hj (X.2.2.2.2.1 _ hlink) (fun x hx => by
    rcases hsame with h | h
    · rw [h]; exact hx
    · exact u_same (X.2.2.2.2.1 _ h) x hx) hv hdg (kk p e s m args below meth c H locs ls X hE hV hS hL)
theorem g_put {ref C : String} {F : u_T} {N ci index a : Nat} {fs : List Value} {v : Value} {ty : FieldType} (ha : V a = some (vO ci fs)) (hc : vwCl[ci]? = some (C, F, N)) (hin : ∀ w ∈ u_ws C F N, w ∈ TB) (ty0 : Nat → FieldType) (hty : ∀ j, j < N → parseFieldDescriptor (F j).2.2.1 = some (ty0 j)) (hnm : ∀ a, a < N → ∀ b, b < N → a ≠ b → (F a).2.1 ≠ (F b).2.1) (j : Nat) (hj : j < N) (hlink : Cond.fieldLink own index ref (F j).2.1 (F j).2.2.1 ∈ TB) (hsame : ref = (F j).1) (hfin : (F j).2.2.2 = false) (hd : parseFieldDescriptor (F j).2.2.1 = some ty) (hn : narrow ty v = v) (hfit : fits ty v = true) (hl : j < fs.length) (hb0 : b0 ≤ a) (hdg : decode cc pc = .ok (.putfield index, 3)) (kk : G l D Z b0 R own cc nL E T (upv V a (vO ci (fs.set j v))) L k n (pc + 3) rest) : G l D Z b0 R own cc nL E T V L k n pc (v :: .ref a :: rest) := by
  intro p e s m args below meth c H locs ls X hE hV hS hL
  have hP := hV.one ha
  have hap := va_apart (own := own) X.2.2.2.2.1 hin ty0 hty hnm X.2.2.2.2.2.1.1 hc
  obtain ⟨r, h1, cell, q1, q2, q3, q4⟩ := hP 0 _ rfl
  have hr : r = (C, F, N) := Option.some.inj (h1.symm.trans hc)
  subst hr
  obtain ⟨hS9, hfc, kC, hkC, hkind⟩ := X.2.2.2.2.2.1.1.1 ci _ hc
  obtain ⟨cf, kf, fi, f, hi, hsl⟩ := hS9 j hj
  have hlay := X.2.2.2.2.1 _ (hin _ (u_in_lay hj))
  unfold u_lay at hlay
  rw [if_neg (by rw [hfin]; decide)] at hlay
  have hst := (u_facts hfc hkC (u_lays X.2.2.2.2.1 hin hj) hi).1
  have h6 := u_store hfc hkC hkind hlay hi hd hn hfit
  refine W.putK X.1 X.2.1 (f := f) ⟨X.2.2.2.1, X.2.2.2.2.1 _ hlink, ⟨_, _, _, by rw [hsame]; exact hi⟩, hst⟩ (by rw [q2]; exact h6) q1 q3 (by rw [hsl]; exact k2_hasslot (q4 j hj)) rfl rfl hdg fun H' e1 e2 e3 => ?_
  rw [hsl] at e1 ⊢
  exact kk p e s m args below meth c H' _ ls X hE (hV.set ⟨_, hc, t_OB.to (V := updV (vp_V fs) j v) ⟨_, e1, q2, q3, t_set q4 hap hj v⟩ (fun i _ => vp_updV_set hl v i)⟩ e3) (hS.put e2 e3 hb0) hL
theorem g_putF {ref C : String} {F : u_T} {N ci index a : Nat} {fs : List Value} {v : Value} {ty : FieldType} (ha : V a = some (vO ci fs)) (hc : vwCl[ci]? = some (C, F, N)) (hin : ∀ w ∈ u_ws C F N, w ∈ TB) (ty0 : Nat → FieldType) (hty : ∀ j, j < N → parseFieldDescriptor (F j).2.2.1 = some (ty0 j)) (hnm : ∀ a, a < N → ∀ b, b < N → a ≠ b → (F a).2.1 ≠ (F b).2.1) (j : Nat) (hj : j < N) (hlink : Cond.fieldLink own index ref (F j).2.1 (F j).2.2.1 ∈ TB) (hsame : ref = (F j).1) (hfin : (F j).2.2.2 = true) (hdecl : (F j).1 = own) (hini : ∀ meth args s, E meth args s → meth.name = "<init>") (hd : parseFieldDescriptor (F j).2.2.1 = some ty) (hn : narrow ty v = v) (hfit : fits ty v = true) (hl : j < fs.length) (hb0 : b0 ≤ a) (hdg : decode cc pc = .ok (.putfield index, 3)) (kk : G l D Z b0 R own cc nL E T (upv V a (vO ci (fs.set j v))) L k n (pc + 3) rest) : G l D Z b0 R own cc nL E T V L k n pc (v :: .ref a :: rest) := by
  intro p e s m args below meth c H locs ls X hE hV hS hL
  have hP := hV.one ha
  have hap := va_apart (own := own) X.2.2.2.2.1 hin ty0 hty hnm X.2.2.2.2.2.1.1 hc
  obtain ⟨r, h1, cell, q1, q2, q3, q4⟩ := hP 0 _ rfl
  have hr : r = (C, F, N) := Option.some.inj (h1.symm.trans hc)
  subst hr
  obtain ⟨hS9, hfc, kC, hkC, hkind⟩ := X.2.2.2.2.2.1.1.1 ci _ hc
  obtain ⟨cf, kf, fi, f, hi, hsl⟩ := hS9 j hj
  have hlay := X.2.2.2.2.1 _ (hin _ (u_in_lay hj))
  unfold u_lay at hlay
  rw [if_pos hfin] at hlay
  have hst := (u_facts hfc hkC (u_lays X.2.2.2.2.1 hin hj) hi).1
  have hcf : m.cls = cf := by
    obtain ⟨_, _, c', _, _, _, -, -, hf', -, -, -, hown2, -⟩ := Cond.laysFinal_spec hlay
    have e1 : c' = cf := by have := hi.symm.trans hf'; simp at this; exact this.1.symm
    rw [hdecl] at hown2
    rw [← e1]; exact Option.some.inj (X.2.2.2.1.symm.trans hown2)
  have h6 := u_fits hfc hkC hkind (Or.inr hlay) hi hd hn hfit
  refine W.putFinK X.1 X.2.1 X.2.2.2.1 (X.2.2.2.2.1 _ hlink) (by rw [hsame]; exact hi) hst hcf (hini _ _ _ hE) (by rw [q2]; exact h6) q1 q3 (by rw [hsl]; exact k2_hasslot (q4 j hj)) rfl rfl hdg fun H' e1 e2 e3 => ?_
  rw [hsl] at e1 ⊢
  exact kk p e s m args below meth c H' _ ls X hE (hV.set ⟨_, hc, t_OB.to (V := updV (vp_V fs) j v) ⟨_, e1, q2, q3, t_set q4 hap hj v⟩ (fun i _ => vp_updV_set hl v i)⟩ e3) (hS.put e2 e3 hb0) hL
theorem g_iald {N : Nat} {a : Nat} {f : Nat → Int32} {i : Int32} (ha : V a = some (vI Z 0 N f)) (hin : vp_in i N) (hdg : decode cc pc = .ok (.iaload, 1)) (kk : G l D Z b0 R own cc nL E T V L k n (pc + 1) (.int (f i.toNatClampNeg) :: rest)) : G l D Z b0 R own cc nL E T V L k n pc (.int i :: .ref a :: rest) := fun p e s m args below meth c H locs ls X hE hV hS hL => va_iald X.1 X.2.1 X.2.2.2.2.2.1.1 (hV.one ha) 0 0 rfl rfl hin hdg (kk p e s m args below meth c H locs ls X hE hV hS hL)
theorem g_zald {N : Nat} {a : Nat} {f : Nat → Int32} {i : Int32} (ha : V a = some (vI Z 1 N f)) (hin : vp_in i N) (hdg : decode cc pc = .ok (.baload, 1)) (kk : G l D Z b0 R own cc nL E T V L k n (pc + 1) (.int (f i.toNatClampNeg) :: rest)) : G l D Z b0 R own cc nL E T V L k n pc (.int i :: .ref a :: rest) := fun p e s m args below meth c H locs ls X hE hV hS hL => va_zald X.1 X.2.1 X.2.2.2.2.2.1.1 (hV.one ha) 0 1 rfl rfl hin hdg (kk p e s m args below meth c H locs ls X hE hV hS hL)
theorem g_lald {N : Nat} {a : Nat} {f : Nat → Int64} {i : Int32} (ha : V a = some (vL Z 4 N f)) (hin : vp_in i N) (hdg : decode cc pc = .ok (.laload, 1)) (kk : G l D Z b0 R own cc nL E T V L k n (pc + 1) (.long (f i.toNatClampNeg) :: rest)) : G l D Z b0 R own cc nL E T V L k n pc (.int i :: .ref a :: rest) := fun p e s m args below meth c H locs ls X hE hV hS hL => va_lald X.1 X.2.1 X.2.2.2.2.2.1.1 (hV.one ha) 0 4 rfl rfl hin hdg (kk p e s m args below meth c H locs ls X hE hV hS hL)
theorem g_aald2 {N : Nat} {a : Nat} {f : Nat → Option Nat} {i : Int32} (ha : V a = some (vQ Z 2 N f)) (hin : vp_in i N) (hdg : decode cc pc = .ok (.aaload, 1)) (kk : G l D Z b0 R own cc nL E T V L k n (pc + 1) (va_rf (f i.toNatClampNeg) :: rest)) : G l D Z b0 R own cc nL E T V L k n pc (.int i :: .ref a :: rest) := fun p e s m args below meth c H locs ls X hE hV hS hL => va_aldq X.1 X.2.1 X.2.2.2.2.2.1.1 (hV.one ha) 0 2 rfl rfl hin hdg (kk p e s m args below meth c H locs ls X hE hV hS hL)
theorem g_aald3 {N : Nat} {a : Nat} {f : Nat → Option Nat} {i : Int32} (ha : V a = some (vQ Z 3 N f)) (hin : vp_in i N) (hdg : decode cc pc = .ok (.aaload, 1)) (kk : G l D Z b0 R own cc nL E T V L k n (pc + 1) (va_rf (f i.toNatClampNeg) :: rest)) : G l D Z b0 R own cc nL E T V L k n pc (.int i :: .ref a :: rest) := fun p e s m args below meth c H locs ls X hE hV hS hL => va_aldq X.1 X.2.1 X.2.2.2.2.2.1.1 (hV.one ha) 0 3 rfl rfl hin hdg (kk p e s m args below meth c H locs ls X hE hV hS hL)
theorem g_iast {N : Nat} {a : Nat} {f : Nat → Int32} {i : Int32} {x : Int32} (ha : V a = some (vI Z 0 N f)) (hin : vp_in i N) (hb0 : b0 ≤ a) (hdg : decode cc pc = .ok (.iastore, 1)) (kk : G l D Z b0 R own cc nL E T (upv V a (vI Z 0 N (upd f i.toNatClampNeg x))) L k n (pc + 1) rest) : G l D Z b0 R own cc nL E T V L k n pc (.int x :: .int i :: .ref a :: rest) := by
  intro p e s m args below meth c H locs ls X hE hV hS hL
  have hq := hV a _ ha
  refine W.iast X.1 X.2.1 hq ((X.2.2.2.2.2.1.1.2 0 _ rfl).1 N (fun j => .int (f j))) (fun q => by cases q) (by show ¬ (i < 0 ∨ (arrV _ _ _).slots.size ≤ _); rw [arrV_size]; exact hin) rfl rfl hdg fun H1 e z oq => ?_
  refine kk p _ s m args below meth c H1 _ ls X hE (hV.set ?_ oq) (hS.put z oq hb0) hL
  show H1[a]? = some (vp_cell _ _)
  rw [e]
  rw [vp_cell_i, vp_cell_i, arrV_store]
  congr 2
  funext q
  by_cases hq : q = i.toNatClampNeg
  · subst hq
    simp [updV, upd]
  · simp [updV, upd, hq]
theorem g_zast {N : Nat} {a : Nat} {f : Nat → Int32} {i : Int32} {x : Int32} (ha : V a = some (vI Z 1 N f)) (hin : vp_in i N) (hb0 : b0 ≤ a) (hdg : decode cc pc = .ok (.bastore, 1)) (kk : G l D Z b0 R own cc nL E T (upv V a (vI Z 1 N (upd f i.toNatClampNeg (vp_nar .boolean x)))) L k n (pc + 1) rest) : G l D Z b0 R own cc nL E T V L k n pc (.int x :: .int i :: .ref a :: rest) := by
  intro p e s m args below meth c H locs ls X hE hV hS hL
  have hq := hV a _ ha
  refine W.zast X.1 X.2.1 hq ((X.2.2.2.2.2.1.1.2 1 _ rfl).1 N (fun j => .int (f j))) (fun q => by cases q) (by show ¬ (i < 0 ∨ (arrV _ _ _).slots.size ≤ _); rw [arrV_size]; exact hin) rfl rfl hdg fun H1 e z oq => ?_
  refine kk p _ s m args below meth c H1 _ ls X hE (hV.set ?_ oq) (hS.put z oq hb0) hL
  show H1[a]? = some (vp_cell _ _)
  rw [e]
  rw [vp_cell_i, vp_cell_i, arrV_store]
  congr 2
  funext q
  by_cases hq : q = i.toNatClampNeg
  · subst hq
    simp [updV, upd, vp_nar]
    try rfl
  · simp [updV, upd, hq]
theorem g_last {N : Nat} {a : Nat} {f : Nat → Int64} {i : Int32} {x : Int64} (ha : V a = some (vL Z 4 N f)) (hin : vp_in i N) (hb0 : b0 ≤ a) (hdg : decode cc pc = .ok (.lastore, 1)) (kk : G l D Z b0 R own cc nL E T (upv V a (vL Z 4 N (vp_updL f i.toNatClampNeg x))) L k n (pc + 1) rest) : G l D Z b0 R own cc nL E T V L k n pc (.long x :: .int i :: .ref a :: rest) := by
  intro p e s m args below meth c H locs ls X hE hV hS hL
  have hq := hV a _ ha
  refine W.last X.1 X.2.1 hq ((X.2.2.2.2.2.1.1.2 4 _ rfl).1 N (fun j => .long (f j))) (fun q => by cases q) (by show ¬ (i < 0 ∨ (arrV _ _ _).slots.size ≤ _); rw [arrV_size]; exact hin) rfl rfl hdg fun H1 e z oq => ?_
  refine kk p _ s m args below meth c H1 _ ls X hE (hV.set ?_ oq) (hS.put z oq hb0) hL
  show H1[a]? = some (vp_cell _ _)
  rw [e]
  rw [vp_cell_l, vp_cell_l, arrV_store]
  congr 2
  funext q
  by_cases hq : q = i.toNatClampNeg
  · subst hq
    simp [updV, vp_updL]
  · simp [updV, vp_updL, hq]
theorem g_aast3 {C : String} {F : u_T} {N N1 ci : Nat} {vs : List Value} {a v : Nat} {f : Nat → Option Nat} {i : Int32} (ha : V a = some (vQ Z 3 N f)) (hv : V v = some (vO ci vs)) (hc : vwCl[ci]? = some (RX7, F, N1)) (hin : vp_in i N) (hb0 : b0 ≤ a) (hdg : decode cc pc = .ok (.aastore, 1)) (kk : G l D Z b0 R own cc nL E T (upv V a (vQ Z 3 N (va_up f i.toNatClampNeg (some v)))) L k n (pc + 1) rest) : G l D Z b0 R own cc nL E T V L k n pc (.ref v :: .int i :: .ref a :: rest) := by
  intro p e s m args below meth c H locs ls X hE hV hS hL
  have hK := X.2.2.2.2.2.1.1
  have hlt : i.toNatClampNeg < N := Nat.not_le.mp fun q => hin (Or.inr q)
  have h0 : ¬ i < 0 := fun q => hin (Or.inl q)
  obtain ⟨r', hr', cellV, g1, g2, g3, -⟩ := hV v _ hv
  have hcls := (hK.1 ci _ hc).2
  obtain ⟨kA, comp, k1, k2, k3, -⟩ := (hK.2 3 _ rfl).2
  have hcomp : comp = D.1 ci := Option.some.inj (k3.symm.trans hcls.1)
  subst hcomp
  obtain ⟨kC, hkC, -⟩ := hcls.2
  refine W.aast X.1 X.2.1 (hV a _ ha) (fun q h => by cases h) (fun h => by cases h) k1 k2 rfl hkC ⟨h0, by show _ < (arrV _ _ _).slots.size; rw [arrV_size]; exact hlt⟩ g1 (fun q h => by rw [g3] at h; cases h) (by rw [g2]; exact hkC) (by rw [g2]; exact va_assign hcls) rfl rfl hdg fun H1 e z oq => ?_
  refine kk p _ s m args below meth c H1 _ ls X hE (hV.set ?_ oq) (hS.put z oq hb0) hL
  show H1[a]? = some (vp_cell _ _)
  rw [e]
  rw [vp_cell_q, vp_cell_q, arrV_store]
  congr 2
  funext q
  by_cases hq : q = i.toNatClampNeg
  · subst hq
    simp [updV, va_up, va_rf]
  · simp [updV, va_up, hq]
theorem g_aast2 {C : String} {F : u_T} {N N1 ci : Nat} {vs : List Value} {a v : Nat} {f : Nat → Option Nat} {i : Int32} (ha : V a = some (vQ Z 2 N f)) (hv : V v = some (vO ci vs)) (hc : vwCl[ci]? = some (RX6, F, N1)) (hin : vp_in i N) (hb0 : b0 ≤ a) (hdg : decode cc pc = .ok (.aastore, 1)) (kk : G l D Z b0 R own cc nL E T (upv V a (vQ Z 2 N (va_up f i.toNatClampNeg (some v)))) L k n (pc + 1) rest) : G l D Z b0 R own cc nL E T V L k n pc (.ref v :: .int i :: .ref a :: rest) := by
  intro p e s m args below meth c H locs ls X hE hV hS hL
  have hK := X.2.2.2.2.2.1.1
  have hlt : i.toNatClampNeg < N := Nat.not_le.mp fun q => hin (Or.inr q)
  have h0 : ¬ i < 0 := fun q => hin (Or.inl q)
  obtain ⟨r', hr', cellV, g1, g2, g3, -⟩ := hV v _ hv
  have hcls := (hK.1 ci _ hc).2
  obtain ⟨kA, comp, k1, k2, k3, -⟩ := (hK.2 2 _ rfl).2
  have hcomp : comp = D.1 ci := Option.some.inj (k3.symm.trans hcls.1)
  subst hcomp
  obtain ⟨kC, hkC, -⟩ := hcls.2
  refine W.aast X.1 X.2.1 (hV a _ ha) (fun q h => by cases h) (fun h => by cases h) k1 k2 rfl hkC ⟨h0, by show _ < (arrV _ _ _).slots.size; rw [arrV_size]; exact hlt⟩ g1 (fun q h => by rw [g3] at h; cases h) (by rw [g2]; exact hkC) (by rw [g2]; exact va_assign hcls) rfl rfl hdg fun H1 e z oq => ?_
  refine kk p _ s m args below meth c H1 _ ls X hE (hV.set ?_ oq) (hS.put z oq hb0) hL
  show H1[a]? = some (vp_cell _ _)
  rw [e]
  rw [vp_cell_q, vp_cell_q, arrV_store]
  congr 2
  funext q
  by_cases hq : q = i.toNatClampNeg
  · subst hq
    simp [updV, va_up, va_rf]
  · simp [updV, va_up, hq]
theorem g_aast2c {C : String} (hca : C ∈ kCast) {F : u_T} {N N1 ci : Nat} {vs : List Value} {a v : Nat} {f : Nat → Option Nat} {i : Int32} (ha : V a = some (vQ Z 2 N f)) (hv : V v = some (vO ci vs)) (hc : vwCl[ci]? = some (C, F, N1)) (hin : vp_in i N) (hb0 : b0 ≤ a) (hdg : decode cc pc = .ok (.aastore, 1)) (kk : G l D Z b0 R own cc nL E T (upv V a (vQ Z 2 N (va_up f i.toNatClampNeg (some v)))) L k n (pc + 1) rest) : G l D Z b0 R own cc nL E T V L k n pc (.ref v :: .int i :: .ref a :: rest) := by
  intro p e s m args below meth c H locs ls X hE hV hS hL
  have hK := X.2.2.2.2.2.1.1
  have hlt : i.toNatClampNeg < N := Nat.not_le.mp fun q => hin (Or.inr q)
  have h0 : ¬ i < 0 := fun q => hin (Or.inl q)
  obtain ⟨r', hr', cellV, g1, g2, g3, -⟩ := hV v _ hv
  have hcls := (hK.1 ci _ hc).2
  obtain ⟨kA, comp, k1, k2, k3, -⟩ := (hK.2 2 _ rfl).2
  obtain ⟨kE, hkE, -⟩ := Vm.findClass_spec k3
  obtain ⟨c0, t1, f1, f2, f3⟩ := Cond.castable_spec (va_Nw.use (A := args) rfl (X.2.2.2.2.2.1.2.2.2.2.2.2.2.2 C hca))
  cases hcls.1.symm.trans f1
  cases k3.symm.trans f2
  obtain ⟨kC, hkC, -⟩ := hcls.2
  refine W.aast X.1 X.2.1 (hV a _ ha) (fun q h => by cases h) (fun h => by cases h) k1 k2 rfl hkE ⟨h0, by show _ < (arrV _ _ _).slots.size; rw [arrV_size]; exact hlt⟩ g1 (fun q h => by rw [g3] at h; cases h) (by rw [g2]; exact hkC) (by rw [g2]; exact f3) rfl rfl hdg fun H1 e z oq => ?_
  refine kk p _ s m args below meth c H1 _ ls X hE (hV.set ?_ oq) (hS.put z oq hb0) hL
  show H1[a]? = some (vp_cell _ _)
  rw [e]
  rw [vp_cell_q, vp_cell_q, arrV_store]
  congr 2
  funext q
  by_cases hq : q = i.toNatClampNeg
  · subst hq
    simp [updV, va_up, va_rf]
  · simp [updV, va_up, hq]
theorem g_newa0 {x : Int32} {N : Nat} (hw : Cond.arrayClass (newarray.typeOf .int) ∈ TB) (hn : ¬ x < 0) (hN : x.toNatClampNeg = N) (hbytes : N * componentBytes (newarray.typeOf .int) ≤ 536870912) (hc : k + 1 ≤ R.cells) (hs : n + N ≤ R.slots) (hdg : decode cc pc = .ok (.newarray .int, 2)) (kk : ∀ a, b0 ≤ a → V a = none → (∀ q e, V q = some e → q < a) → G l D Z b0 R own cc nL E T (upv V a (vI Z 0 N (fun _ => 0))) L (k + 1) (n + N) (pc + 2) (.ref a :: rest)) : G l D Z b0 R own cc nL E T V L k n pc (.int x :: rest) := by
  intro p e s m args below meth c H locs ls X hE hV hS hL
  refine va_newaK X.1 X.2.1 (X.2.2.2.2.1 _ hw) rfl hdg rfl hn hN hbytes hc hs rfl fun H1 cA e1 z1 o1 hAr hNm => ?_
  have hcA : cA = Z 0 := by
    have h2 := (X.2.2.2.2.2.1.1.2 0 _ rfl).2
    exact (Option.some.inj ((show s.vm.findClass _ = some (Z 0) from h2).symm.trans hNm)).symm
  subst hcA
  have hsz : b0 ≤ H.size := Nat.le_trans X.2.2.2.2.2.2.1 hS.1
  exact kk H.size hsz hV.new (fun q e' hq => (hV q e' hq).lt) p _ s m args below meth c H1 _ ls X hE (hV.push (by show H1[H.size]? = some (vp_cell _ _); rw [vp_cell_i]; exact e1) o1) (hS.push1 z1 o1) hL
theorem g_newa1 {x : Int32} {N : Nat} (hw : Cond.arrayClass (newarray.typeOf .boolean) ∈ TB) (hn : ¬ x < 0) (hN : x.toNatClampNeg = N) (hbytes : N * componentBytes (newarray.typeOf .boolean) ≤ 536870912) (hc : k + 1 ≤ R.cells) (hs : n + N ≤ R.slots) (hdg : decode cc pc = .ok (.newarray .boolean, 2)) (kk : ∀ a, b0 ≤ a → V a = none → (∀ q e, V q = some e → q < a) → G l D Z b0 R own cc nL E T (upv V a (vI Z 1 N (fun _ => 0))) L (k + 1) (n + N) (pc + 2) (.ref a :: rest)) : G l D Z b0 R own cc nL E T V L k n pc (.int x :: rest) := by
  intro p e s m args below meth c H locs ls X hE hV hS hL
  refine va_newaK X.1 X.2.1 (X.2.2.2.2.1 _ hw) rfl hdg rfl hn hN hbytes hc hs rfl fun H1 cA e1 z1 o1 hAr hNm => ?_
  have hcA : cA = Z 1 := by
    have h2 := (X.2.2.2.2.2.1.1.2 1 _ rfl).2
    exact (Option.some.inj ((show s.vm.findClass _ = some (Z 1) from h2).symm.trans hNm)).symm
  subst hcA
  have hsz : b0 ≤ H.size := Nat.le_trans X.2.2.2.2.2.2.1 hS.1
  exact kk H.size hsz hV.new (fun q e' hq => (hV q e' hq).lt) p _ s m args below meth c H1 _ ls X hE (hV.push (by show H1[H.size]? = some (vp_cell _ _); rw [vp_cell_i]; exact e1) o1) (hS.push1 z1 o1) hL
theorem g_newa4 {x : Int32} {N : Nat} (hw : Cond.arrayClass (newarray.typeOf .long) ∈ TB) (hn : ¬ x < 0) (hN : x.toNatClampNeg = N) (hbytes : N * componentBytes (newarray.typeOf .long) ≤ 536870912) (hc : k + 1 ≤ R.cells) (hs : n + N ≤ R.slots) (hdg : decode cc pc = .ok (.newarray .long, 2)) (kk : ∀ a, b0 ≤ a → V a = none → (∀ q e, V q = some e → q < a) → G l D Z b0 R own cc nL E T (upv V a (vL Z 4 N (fun _ => 0))) L (k + 1) (n + N) (pc + 2) (.ref a :: rest)) : G l D Z b0 R own cc nL E T V L k n pc (.int x :: rest) := by
  intro p e s m args below meth c H locs ls X hE hV hS hL
  refine va_newaK X.1 X.2.1 (X.2.2.2.2.1 _ hw) rfl hdg rfl hn hN hbytes hc hs rfl fun H1 cA e1 z1 o1 hAr hNm => ?_
  have hcA : cA = Z 4 := by
    have h2 := (X.2.2.2.2.2.1.1.2 4 _ rfl).2
    exact (Option.some.inj ((show s.vm.findClass _ = some (Z 4) from h2).symm.trans hNm)).symm
  subst hcA
  have hsz : b0 ≤ H.size := Nat.le_trans X.2.2.2.2.2.2.1 hS.1
  exact kk H.size hsz hV.new (fun q e' hq => (hV q e' hq).lt) p _ s m args below meth c H1 _ ls X hE (hV.push (by show H1[H.size]? = some (vp_cell _ _); rw [vp_cell_l]; exact e1) o1) (hS.push1 z1 o1) hL
theorem g_anew2 {x : Int32} {N index : Nat} (hl : Cond.classLink own index RX6 ∈ TB) (hn : ¬ x < 0) (hN : x.toNatClampNeg = N) (hbytes : N * 4 ≤ 536870912) (hc : k + 1 ≤ R.cells) (hs : n + N ≤ R.slots) (hdg : decode cc pc = .ok (.anewarray index, 3)) (kk : ∀ a, b0 ≤ a → V a = none → (∀ q e, V q = some e → q < a) → G l D Z b0 R own cc nL E T (upv V a (vQ Z 2 N (fun _ => none))) L (k + 1) (n + N) (pc + 3) (.ref a :: rest)) : G l D Z b0 R own cc nL E T V L k n pc (.int x :: rest) := by
  intro p e s m args below meth c H locs ls X hE hV hS hL
  subst hN
  refine W.anew X.1 X.2.1 X.2.2.2.1 (X.2.2.2.2.1 _ hl) (va_AO.use X.2.2.2.2.2.1.2.2.2.2.2.2.1) rfl hdg rfl hn hbytes hc hs fun cA kA comp f1 f2 f3 f4 => ?_
  generalize hH1 : H.push ({ cls := cA, slots := Array.replicate x.toNatClampNeg .null, vm := .none } : Cell) = H1
  have z1 : H1.size = H.size + 1 := by rw [← hH1, Array.size_push]
  have e1 : H1[H.size]? = some (arrV cA x.toNatClampNeg (fun _ => .null)) := by rw [← hH1, Array.getElem?_push_size, ← arrV_new]
  have o1 : ∀ q : Nat, q < H.size → H1[q]? = H[q]? := fun q hq => by rw [← hH1, Array.getElem?_push, if_neg (Nat.ne_of_lt hq)]
  have hcA : cA = Z 2 := by
    obtain ⟨_, _, _, _, _, h4⟩ := (X.2.2.2.2.2.1.1.2 2 _ rfl).2
    exact (Option.some.inj (h4.symm.trans f1)).symm
  subst hcA
  have hsz : b0 ≤ H.size := Nat.le_trans X.2.2.2.2.2.2.1 hS.1
  exact kk H.size hsz hV.new (fun q e' hq => (hV q e' hq).lt) p _ s m args below meth c H1 _ ls X hE (hV.push (by show H1[H.size]? = some (vp_cell _ _); rw [vp_cell_q]; exact e1) o1) (hS.push1 z1 o1) hL
theorem g_anew3 {x : Int32} {N index : Nat} (hl : Cond.classLink own index RX7 ∈ TB) (hn : ¬ x < 0) (hN : x.toNatClampNeg = N) (hbytes : N * 4 ≤ 536870912) (hc : k + 1 ≤ R.cells) (hs : n + N ≤ R.slots) (hdg : decode cc pc = .ok (.anewarray index, 3)) (kk : ∀ a, b0 ≤ a → V a = none → (∀ q e, V q = some e → q < a) → G l D Z b0 R own cc nL E T (upv V a (vQ Z 3 N (fun _ => none))) L (k + 1) (n + N) (pc + 3) (.ref a :: rest)) : G l D Z b0 R own cc nL E T V L k n pc (.int x :: rest) := by
  intro p e s m args below meth c H locs ls X hE hV hS hL
  subst hN
  refine W.anew X.1 X.2.1 X.2.2.2.1 (X.2.2.2.2.1 _ hl) (va_AO.use X.2.2.2.2.2.1.2.2.2.2.2.2.2.1) rfl hdg rfl hn hbytes hc hs fun cA kA comp f1 f2 f3 f4 => ?_
  generalize hH1 : H.push ({ cls := cA, slots := Array.replicate x.toNatClampNeg .null, vm := .none } : Cell) = H1
  have z1 : H1.size = H.size + 1 := by rw [← hH1, Array.size_push]
  have e1 : H1[H.size]? = some (arrV cA x.toNatClampNeg (fun _ => .null)) := by rw [← hH1, Array.getElem?_push_size, ← arrV_new]
  have o1 : ∀ q : Nat, q < H.size → H1[q]? = H[q]? := fun q hq => by rw [← hH1, Array.getElem?_push, if_neg (Nat.ne_of_lt hq)]
  have hcA : cA = Z 3 := by
    obtain ⟨_, _, _, _, _, h4⟩ := (X.2.2.2.2.2.1.1.2 3 _ rfl).2
    exact (Option.some.inj (h4.symm.trans f1)).symm
  subst hcA
  have hsz : b0 ≤ H.size := Nat.le_trans X.2.2.2.2.2.2.1 hS.1
  exact kk H.size hsz hV.new (fun q e' hq => (hV q e' hq).lt) p _ s m args below meth c H1 _ ls X hE (hV.push (by show H1[H.size]? = some (vp_cell _ _); rw [vp_cell_q]; exact e1) o1) (hS.push1 z1 o1) hL
theorem g_new {C : String} {F : u_T} {N ci index : Nat} {fs : List Value} (hin : ∀ w ∈ u_ws C F N, w ∈ TB) (ty : Nat → FieldType) (hty : ∀ j, j < N → parseFieldDescriptor (F j).2.2.1 = some (ty j)) (hcl : Cond.classLink own index C ∈ TB) (hinst : Cond.instantiable C N ∈ TB) (hini : Cond.initialized C ∈ TB) (hc : vwCl[ci]? = some (C, F, N)) (hfs : ∀ j, j < N → defaultValue (ty j) = vp_V fs j) (hk : k + 1 ≤ R.cells) (hs : n + N ≤ R.slots) (hdg : decode cc pc = .ok (.new index, 3)) (kk : ∀ a, b0 ≤ a → V a = none → (∀ q e, V q = some e → q < a) → G l D Z b0 R own cc nL E T (upv V a (vO ci fs)) L (k + 1) (n + N) (pc + 3) (.ref a :: rest)) : G l D Z b0 R own cc nL E T V L k n pc rest := by
  intro p e s m args below meth c H locs ls X hE hV hS hL
  have hKn := X.2.2.2.2.2.1.1.1 ci _ hc
  refine W.newcK X.1 X.2.1 X.2.2.2.1 (X.2.2.2.2.1 _ hcl) (X.2.2.2.2.1 _ hinst) (X.2.2.2.2.1 _ hini) rfl hdg hk hs hKn.2.1 rfl fun H1 kC hkC e1 z1 o1 => ?_
  have hsz : b0 ≤ H.size := Nat.le_trans X.2.2.2.2.2.2.1 hS.1
  exact kk H.size hsz hV.new (fun q e' hq => (hV q e' hq).lt) p _ s m args below meth c H1 _ ls X hE (hV.push ⟨_, hc, (u_born ty X.2.2.2.2.1 hin hKn hkC e1 hty).to hfs⟩ o1) (hS.push1 z1 o1) hL
theorem g_objInit {index a : Nat} (hlink : Cond.methodLink own index objectInit ∈ TB) (hinst : Cond.instanceMethod objectInit ∈ TB) (hcode : Cond.code objectInit ⟨#[0xb1]⟩ 1 none ∈ TB) (hR : 1 ≤ R.frames ∧ (rest.map fun v => v.category).sum + 12 ≤ R.locals) (hdg : decode cc pc = .ok (.invokespecial index, 3)) (kk : G l D Z b0 R own cc nL E T V L k n (pc + 3) rest) : G l D Z b0 R own cc nL E T V L k n pc (.ref a :: rest) := by
  intro p e s m args below meth c H locs ls X hE hV hS hL
  refine W.objInit X.1 X.2.1 X.2.2.2.1 (X.2.2.2.2.1 _ hlink) (X.2.2.2.2.1 _ hinst) (X.2.2.2.2.1 _ hcode) rfl (hL.1.trans X.2.2.1.symm) rfl hdg hR.1 (by show 2 * 0 + _ + 12 ≤ _; omega) ?_
  exact kk p _ s m args below meth c H _ ls X hE hV hS hL
/-! ===== contracts ===== -/
def kP (D : va_G) (Z : Nat → ClassId) (b0 : Nat) (av : List Value) (V : HV) : Array Value → State → Prop := va_Pc av (fun U => hvP D V U.heap ∧ kW D Z U ∧ b0 ≤ U.heap.size)
def kQ (D : va_G) (b0 : Nat) (Po : Option Value → HV → Prop) : Array Value → State → Outcome → State → Prop := fun _ st oc t => (∃ (v : Option Value) (V' : HV), oc = .returned v ∧ Po v V' ∧ hvP D V' t.heap) ∧ va_F (fun q => b0 ≤ q) st t
def gE (ret : Option FieldType) (nm : String) : Method → Array Value → State → Prop := fun meth _ _ => meth.sig.returnType = ret ∧ meth.name = nm
def gT (D : va_G) (b0 : Nat) (Po : Option Value → HV → Prop) (mc ms : Nat) : List Frame → Array Value → State → State → Prop := fun below args s => MQ below (kQ D b0 Po) args s mc ms (fun q => b0 ≤ q)
def KM (l : Launch) (D : va_G) (Z : Nat → ClassId) (b0 : Nat) (y : MethodName) (bytes : ByteArray) (maxL : Nat) (ret : Option FieldType) (rm : Room) (av : List Value) (V : HV) (Po : Option Value → HV → Prop) : Prop :=
  Met l y (.code y bytes maxL ret :: TB) rm (kP D Z b0 av V) (kQ D b0 Po) rm.cells rm.slots (fun q => b0 ≤ q)
theorem kP.blind {av : List Value} : FrameBlind (kP D Z b0 av V) := fun a U g mk q => by
  obtain ⟨q0, q1, q2, q3⟩ := q
  exact ⟨q0, q1, ⟨va_K.moved (u := U) (U := U.calling g mk a) (Vm.Alike.refl U.vm) q2.1, q2.2.same rfl⟩, q3⟩
theorem KM.of {y : MethodName} {bytes : ByteArray} {maxL : Nat} {ret : Option FieldType} {rm : Room} {av : List Value} {Po : Option Value → HV → Prop} (hy : plainName y.cls = true) (hav : (lg_sl av).length ≤ maxL) (g : G l D Z b0 rm y.cls bytes maxL (gE ret y.name) (gT D b0 Po rm.cells rm.slots) V (lv_args 0 av) 0 0 0 []) : KM l D Z b0 y bytes maxL ret rm av V Po := by
  refine Met.ofW (cc := bytes) (maxL := maxL) (ret := ret) hy rfl ?_
  intro p e s m args below meth c s₁ B hml hv
  obtain ⟨rfl, hV, hK, hb0⟩ := hv
  have hts := atoms_spec (ws := .code y bytes maxL ret :: TB) B.pre
  rw [lg_entry_eq]
  exact g p e s m _ below meth c s.heap [] _ ⟨B.exec, B.bytes, hml, findClass_of_methodNamed B.named, fun w h => hts w (List.mem_cons_of_mem _ h), hK, hb0, B.notSynchronized⟩ ⟨B.returns, (name_of_methodNamed B.named B.method).1⟩ hV va_S.rf (lv_entry av hav)
theorem KM.weak {y : MethodName} {bytes : ByteArray} {maxL : Nat} {ret : Option FieldType} {rm : Room} {av : List Value} {Po Po' : Option Value → HV → Prop} (h : ∀ v V', Po v V' → Po' v V') (hM : KM l D Z b0 y bytes maxL ret rm av V Po) : KM l D Z b0 y bytes maxL ret rm av V Po' := by
  unfold KM Met at hM ⊢
  exact MetFree.mono hM (fun _ _ q => q) (fun _ _ _ _ _ q => q) (fun a st o t _ q9 => by
    obtain ⟨⟨⟨v, V', q1, q2, q3⟩, q4⟩, q5⟩ := q9
    exact ⟨⟨⟨v, V', q1, h v V' q2, q3⟩, q4⟩, q5⟩)
/-- the words that calls of a method ask -/
def mV (y : MethodName) (bytes : ByteArray) (maxL : Nat) (ret : Option FieldType) (n0 : Nat) : Prop := (Cond.instanceMethod y ∈ TB ∧ Cond.initialized y.cls ∈ TB ∧ Cond.code y bytes maxL ret ∈ TB) ∧ (y.cls ≠ "java/lang/invoke/MethodHandle" ∧ y.cls ≠ "java/lang/invoke/VarHandle" ∧ (parseMethodDescriptor y.desc).map (fun d => d.parameters.length) = some n0)
def mS (y : MethodName) (bytes : ByteArray) (maxL : Nat) (ret : Option FieldType) (n0 : Nat) : Prop := (Cond.static y ∈ TB ∧ Cond.initialized y.cls ∈ TB ∧ Cond.code y bytes maxL ret ∈ TB) ∧ (y.cls ≠ "java/lang/invoke/MethodHandle" ∧ y.cls ≠ "java/lang/invoke/VarHandle" ∧ (parseMethodDescriptor y.desc).map (fun d => d.parameters.length) = some n0)
theorem gU_ws {C owner : String} {x y : MethodName} {index maxL : Nat} {bytes : ByteArray} {ret : Option FieldType} (h1 : Cond.methodLink own index x ∈ TB) (h2 : Cond.sameMethod x.cls owner x.name x.desc ∈ TB) (h3 : Cond.selects C x y ∈ TB) (h4 : Cond.instanceMethod y ∈ TB) (h5 : Cond.initialized y.cls ∈ TB) (h6 : Cond.code y bytes maxL ret ∈ TB) : GoodIn TB (va_wsU own index C owner x y (.code y bytes maxL ret :: TB)) := TB_sub (by
  intro w hw
  simp only [va_wsU, List.cons_append, List.nil_append, List.mem_cons] at hw
  rcases hw with rfl | rfl | rfl | rfl | rfl | rfl | hw <;> assumption)
theorem gP_ws {y : MethodName} {index maxL : Nat} {bytes : ByteArray} {ret : Option FieldType} (h1 : Cond.methodLink own index y ∈ TB) (h2 : Cond.sameMethod y.cls y.cls y.name y.desc ∈ TB) (h3 : Cond.superclass own y.cls ∈ TB) (h4 : Cond.instanceMethod y ∈ TB) (h5 : Cond.initialized y.cls ∈ TB) (h6 : Cond.code y bytes maxL ret ∈ TB) : GoodIn TB (va_wsSU own index y (.code y bytes maxL ret :: TB)) := TB_sub (by
  intro w hw
  simp only [va_wsSU, List.cons_append, List.nil_append, List.mem_cons] at hw
  rcases hw with rfl | rfl | rfl | rfl | rfl | rfl | hw <;> assumption)
theorem g_callS {y : MethodName} {bytes : ByteArray} {maxL n0 index : Nat} {ret : Option FieldType} {rm : Room} {Po : Option Value → HV → Prop} {As st : List Value} (hM : KM l D Z b0 y bytes maxL ret rm (As) V Po) (hl : Cond.methodLink own index y ∈ TB) (hm : mS y bytes maxL ret n0) (hR : rm.frames + 1 ≤ R.frames ∧ 8 + (maxL + 11) + rm.locals ≤ R.locals) (hn : As.length = n0) (hst : st = As.reverse ++ rest) (hcat : (rest.map fun v => v.category).sum ≤ 8) (hdg : decode cc pc = .ok (.invokestatic index, 3)) (hf : k + rm.cells ≤ R.cells ∧ n + rm.slots ≤ R.slots) (kk : ∀ (v : Option Value) (V' : HV), Po v V' → G l D Z b0 R own cc nL E T V' L (k + rm.cells) (n + rm.slots) (pc + 3) (v.toList ++ rest)) : G l D Z b0 R own cc nL E T V L k n pc st := by
  intro p e s m args below meth c H locs ls X hE hV hS hL T9 hT X9
  have hG : GoodIn TB (.code y bytes maxL ret :: TB) := TB_sub (TB_cons hm.1.2.2)
  have hts := X.2.2.2.2.1
  obtain ⟨v, st₀, t, T', L9, h0, X', hL9, e1, e2, ⟨⟨v', V', hv, hp, hb⟩, hz, hk⟩, stp⟩ := va_runS ⟨X.1, X.2.1, X.2.2.1, X.2.2.2.1, hts⟩ hM ⟨callB_of n0 hts hG rfl rfl rfl (hts _ hm.1.2.1) (hts _ hl) hm.2 hR, hts _ hm.1.1⟩ ⟨kP.blind, fun U hU hW => ⟨rfl, by rw [hU]; exact hV, X.2.2.2.2.2.1.warm hW, by rw [hU]; exact Nat.le_trans X.2.2.2.2.2.2.1 hS.1⟩⟩ (g := F0 m pc ls st) (rest := rest) (cells := k) (slots := n) rfl hn hL.1 hst (lv_room (ls := ls) (rest := st) hcat) hdg hf T9 hT X9
  cases hv
  rw [h0] at hz hk
  obtain ⟨t2, a1, b1⟩ := kk v V' hp p e s m args below meth c T'.heap (locs ++ L9) ls X hE (by rw [e1]; exact hb) ⟨Nat.le_trans hS.1 (by rw [e1]; exact hz), fun q h1 h2 => by rw [e1, hk q (Nat.lt_of_lt_of_le h1 hS.1) h2]; exact hS.2.1 q h1 h2, fun q hq => by
      rcases List.mem_append.mp hq with h | h
      · exact hS.2.2 q h
      · exact hL9 q h⟩ hL T' rfl X'
  exact ⟨t2, stp t2 a1, b1⟩
theorem g_callV {y : MethodName} {bytes : ByteArray} {maxL n0 index : Nat} {ret : Option FieldType} {rm : Room} {Po : Option Value → HV → Prop} {As st : List Value} {b ci N : Nat} {F : u_T} {fs : List Value} (hb : V b = some (vO ci fs)) (hc : vwCl[ci]? = some (y.cls, F, N)) (hM : KM l D Z b0 y bytes maxL ret rm (.ref b :: As) V Po) (hl : Cond.methodLink own index y ∈ TB) (hsel : Cond.selects y.cls y y ∈ TB) (hm : mV y bytes maxL ret n0) (hR : rm.frames + 1 ≤ R.frames ∧ 8 + (maxL + 11) + rm.locals ≤ R.locals) (hn : As.length = n0) (hst : st = As.reverse ++ .ref b :: rest) (hcat : (rest.map fun v => v.category).sum ≤ 8) (hdg : decode cc pc = .ok (.invokevirtual index, 3)) (hf : k + rm.cells ≤ R.cells ∧ n + rm.slots ≤ R.slots) (kk : ∀ (v : Option Value) (V' : HV), Po v V' → G l D Z b0 R own cc nL E T V' L (k + rm.cells) (n + rm.slots) (pc + 3) (v.toList ++ rest)) : G l D Z b0 R own cc nL E T V L k n pc st := by
  intro p e s m args below meth c H locs ls X hE hV hS hL T9 hT X9
  have hG : GoodIn TB (.code y bytes maxL ret :: TB) := TB_sub (TB_cons hm.1.2.2)
  have hts := X.2.2.2.2.1
  obtain ⟨v, st₀, t, T', L9, h0, X', hL9, e1, e2, ⟨⟨v', V', hv, hp, hb⟩, hz, hk⟩, stp⟩ := va_runV ⟨X.1, X.2.1, X.2.2.1, X.2.2.2.1, hts⟩ hM ⟨callB_of n0 hts hG rfl rfl rfl (hts _ hm.1.2.1) (hts _ hl) hm.2 hR, hts _ hm.1.1, hts _ hsel⟩ ⟨kP.blind, va_recv X.2.2.2.2.2.1.1 (hV.one hb) (ci := ci) (q0 := 0) hc rfl, fun U hU hW => ⟨rfl, by rw [hU]; exact hV, X.2.2.2.2.2.1.warm hW, by rw [hU]; exact Nat.le_trans X.2.2.2.2.2.2.1 hS.1⟩⟩ (g := F0 m pc ls st) (rest := rest) (cells := k) (slots := n) rfl hn hL.1 hst (lv_room (ls := ls) (rest := st) hcat) hdg hf T9 hT X9
  cases hv
  rw [h0] at hz hk
  obtain ⟨t2, a1, b1⟩ := kk v V' hp p e s m args below meth c T'.heap (locs ++ L9) ls X hE (by rw [e1]; exact hb) ⟨Nat.le_trans hS.1 (by rw [e1]; exact hz), fun q h1 h2 => by rw [e1, hk q (Nat.lt_of_lt_of_le h1 hS.1) h2]; exact hS.2.1 q h1 h2, fun q hq => by
      rcases List.mem_append.mp hq with h | h
      · exact hS.2.2 q h
      · exact hL9 q h⟩ hL T' rfl X'
  exact ⟨t2, stp t2 a1, b1⟩
theorem g_callI {y : MethodName} {bytes : ByteArray} {maxL n0 index : Nat} {ret : Option FieldType} {rm : Room} {Po : Option Value → HV → Prop} {As st : List Value} {b : Nat} (hy : y.name = "<init>") (hM : KM l D Z b0 y bytes maxL none rm (.ref b :: As) V Po) (hl : Cond.methodLink own index y ∈ TB) (hm : mV y bytes maxL none n0) (hR : rm.frames + 1 ≤ R.frames ∧ 8 + (maxL + 11) + rm.locals ≤ R.locals) (hn : As.length = n0) (hst : st = As.reverse ++ .ref b :: rest) (hcat : (rest.map fun v => v.category).sum ≤ 8) (hdg : decode cc pc = .ok (.invokespecial index, 3)) (hf : k + rm.cells ≤ R.cells ∧ n + rm.slots ≤ R.slots) (kk : ∀ (v : Option Value) (V' : HV), Po v V' → G l D Z b0 R own cc nL E T V' L (k + rm.cells) (n + rm.slots) (pc + 3) (v.toList ++ rest)) : G l D Z b0 R own cc nL E T V L k n pc st := by
  intro p e s m args below meth c H locs ls X hE hV hS hL T9 hT X9
  have hG : GoodIn TB (.code y bytes maxL none :: TB) := TB_sub (TB_cons hm.1.2.2)
  have hts := X.2.2.2.2.1
  obtain ⟨v, st₀, t, T', L9, h0, X', hL9, e1, e2, ⟨⟨v', V', hv, hp, hb⟩, hz, hk⟩, stp⟩ := va_runI ⟨X.1, X.2.1, X.2.2.1, X.2.2.2.1, hts⟩ hM ⟨callB_of n0 hts hG rfl rfl rfl (hts _ hm.1.2.1) (hts _ hl) hm.2 hR, hy, hts _ hm.1.1⟩ ⟨kP.blind, fun U hU hW => ⟨rfl, by rw [hU]; exact hV, X.2.2.2.2.2.1.warm hW, by rw [hU]; exact Nat.le_trans X.2.2.2.2.2.2.1 hS.1⟩⟩ (g := F0 m pc ls st) (rest := rest) (cells := k) (slots := n) rfl hn hL.1 hst (lv_room (ls := ls) (rest := st) hcat) hdg hf T9 hT X9
  cases hv
  rw [h0] at hz hk
  obtain ⟨t2, a1, b1⟩ := kk v V' hp p e s m args below meth c T'.heap (locs ++ L9) ls X hE (by rw [e1]; exact hb) ⟨Nat.le_trans hS.1 (by rw [e1]; exact hz), fun q h1 h2 => by rw [e1, hk q (Nat.lt_of_lt_of_le h1 hS.1) h2]; exact hS.2.1 q h1 h2, fun q hq => by
      rcases List.mem_append.mp hq with h | h
      · exact hS.2.2 q h
      · exact hL9 q h⟩ hL T' rfl X'
  exact ⟨t2, stp t2 a1, b1⟩
theorem g_callSN {y : MethodName} {bytes : ByteArray} {maxL n0 index : Nat} {ret : Option FieldType} {rm : Room} {Po : Option Value → HV → Prop} {As st : List Value} (hM : KM l D Z b0 y bytes maxL ret rm (As) V Po) {host : String} (hl : ∀ U, kNs U → va_Nw (.methodLinkNest own index y host) U) (hm : mS y bytes maxL ret n0) (hR : rm.frames + 1 ≤ R.frames ∧ 8 + (maxL + 11) + rm.locals ≤ R.locals) (hn : As.length = n0) (hst : st = As.reverse ++ rest) (hcat : (rest.map fun v => v.category).sum ≤ 8) (hdg : decode cc pc = .ok (.invokestatic index, 3)) (hf : k + rm.cells ≤ R.cells ∧ n + rm.slots ≤ R.slots) (kk : ∀ (v : Option Value) (V' : HV), Po v V' → G l D Z b0 R own cc nL E T V' L (k + rm.cells) (n + rm.slots) (pc + 3) (v.toList ++ rest)) : G l D Z b0 R own cc nL E T V L k n pc st := by
  intro p e s m args below meth c H locs ls X hE hV hS hL T9 hT X9
  have hG : GoodIn TB (.code y bytes maxL ret :: TB) := TB_sub (TB_cons hm.1.2.2)
  have hts := X.2.2.2.2.1
  obtain ⟨v, st₀, t, T', L9, h0, X', hL9, e1, e2, ⟨⟨v', V', hv, hp, hb⟩, hz, hk⟩, stp⟩ := va_runSN ⟨X.1, X.2.1, X.2.2.1, X.2.2.2.1, hts⟩ hM ⟨va_cnB n0 hts hG rfl rfl rfl (hl s X.2.2.2.2.2.1.2) (hts _ hm.1.2.1) hm.2 hR, hts _ hm.1.1, trivial⟩ ⟨kP.blind, fun U hU hW => ⟨rfl, by rw [hU]; exact hV, X.2.2.2.2.2.1.warm hW, by rw [hU]; exact Nat.le_trans X.2.2.2.2.2.2.1 hS.1⟩⟩ (g := F0 m pc ls st) (rest := rest) (cells := k) (slots := n) rfl hn hL.1 hst (lv_room (ls := ls) (rest := st) hcat) hdg hf T9 hT X9
  cases hv
  rw [h0] at hz hk
  obtain ⟨t2, a1, b1⟩ := kk v V' hp p e s m args below meth c T'.heap (locs ++ L9) ls X hE (by rw [e1]; exact hb) ⟨Nat.le_trans hS.1 (by rw [e1]; exact hz), fun q h1 h2 => by rw [e1, hk q (Nat.lt_of_lt_of_le h1 hS.1) h2]; exact hS.2.1 q h1 h2, fun q hq => by
      rcases List.mem_append.mp hq with h | h
      · exact hS.2.2 q h
      · exact hL9 q h⟩ hL T' rfl X'
  exact ⟨t2, stp t2 a1, b1⟩
theorem g_callIN {y : MethodName} {bytes : ByteArray} {maxL n0 index : Nat} {ret : Option FieldType} {rm : Room} {Po : Option Value → HV → Prop} {As st : List Value} {b : Nat} (hy : y.name = "<init>") (hM : KM l D Z b0 y bytes maxL none rm (.ref b :: As) V Po) {host : String} (hl : ∀ U, kNs U → va_Nw (.methodLinkNest own index y host) U) (hm : mV y bytes maxL none n0) (hR : rm.frames + 1 ≤ R.frames ∧ 8 + (maxL + 11) + rm.locals ≤ R.locals) (hn : As.length = n0) (hst : st = As.reverse ++ .ref b :: rest) (hcat : (rest.map fun v => v.category).sum ≤ 8) (hdg : decode cc pc = .ok (.invokespecial index, 3)) (hf : k + rm.cells ≤ R.cells ∧ n + rm.slots ≤ R.slots) (kk : ∀ (v : Option Value) (V' : HV), Po v V' → G l D Z b0 R own cc nL E T V' L (k + rm.cells) (n + rm.slots) (pc + 3) (v.toList ++ rest)) : G l D Z b0 R own cc nL E T V L k n pc st := by
  intro p e s m args below meth c H locs ls X hE hV hS hL T9 hT X9
  have hG : GoodIn TB (.code y bytes maxL none :: TB) := TB_sub (TB_cons hm.1.2.2)
  have hts := X.2.2.2.2.1
  obtain ⟨v, st₀, t, T', L9, h0, X', hL9, e1, e2, ⟨⟨v', V', hv, hp, hb⟩, hz, hk⟩, stp⟩ := va_runIN ⟨X.1, X.2.1, X.2.2.1, X.2.2.2.1, hts⟩ hM ⟨va_cnB n0 hts hG rfl rfl rfl (hl s X.2.2.2.2.2.1.2) (hts _ hm.1.2.1) hm.2 hR, hy, hts _ hm.1.1⟩ ⟨kP.blind, fun U hU hW => ⟨rfl, by rw [hU]; exact hV, X.2.2.2.2.2.1.warm hW, by rw [hU]; exact Nat.le_trans X.2.2.2.2.2.2.1 hS.1⟩⟩ (g := F0 m pc ls st) (rest := rest) (cells := k) (slots := n) rfl hn hL.1 hst (lv_room (ls := ls) (rest := st) hcat) hdg hf T9 hT X9
  cases hv
  rw [h0] at hz hk
  obtain ⟨t2, a1, b1⟩ := kk v V' hp p e s m args below meth c T'.heap (locs ++ L9) ls X hE (by rw [e1]; exact hb) ⟨Nat.le_trans hS.1 (by rw [e1]; exact hz), fun q h1 h2 => by rw [e1, hk q (Nat.lt_of_lt_of_le h1 hS.1) h2]; exact hS.2.1 q h1 h2, fun q hq => by
      rcases List.mem_append.mp hq with h | h
      · exact hS.2.2 q h
      · exact hL9 q h⟩ hL T' rfl X'
  exact ⟨t2, stp t2 a1, b1⟩
theorem g_callU {y : MethodName} {bytes : ByteArray} {maxL n0 index : Nat} {ret : Option FieldType} {rm : Room} {Po : Option Value → HV → Prop} {As st : List Value} {x : MethodName} {C owner : String} {b ci N : Nat} {F : u_T} {fs : List Value} (hb : V b = some (vO ci fs)) (hc : vwCl[ci]? = some (C, F, N)) (hyx : y = ⟨owner, x.name, x.desc⟩) (hx : owner ≠ "java/lang/invoke/MethodHandle" ∧ owner ≠ "java/lang/invoke/VarHandle" ∧ (parseMethodDescriptor x.desc).map (fun d => d.parameters.length) = some n0) (hM : KM l D Z b0 y bytes maxL ret rm (.ref b :: As) V Po) (hl : Cond.methodLink own index x ∈ TB) (hsm : Cond.sameMethod x.cls owner x.name x.desc ∈ TB) (hsel : Cond.selects C x y ∈ TB) (hm : mV y bytes maxL ret n0) (hR : rm.frames + 1 ≤ R.frames ∧ 8 + (maxL + 11) + rm.locals ≤ R.locals) (hn : As.length = n0) (hst : st = As.reverse ++ .ref b :: rest) (hcat : (rest.map fun v => v.category).sum ≤ 8) (hdg : decode cc pc = .ok (.invokevirtual index, 3)) (hf : k + rm.cells ≤ R.cells ∧ n + rm.slots ≤ R.slots) (kk : ∀ (v : Option Value) (V' : HV), Po v V' → G l D Z b0 R own cc nL E T V' L (k + rm.cells) (n + rm.slots) (pc + 3) (v.toList ++ rest)) : G l D Z b0 R own cc nL E T V L k n pc st := by
  intro p e s m args below meth c H locs ls X hE hV hS hL T9 hT X9
  have hG : GoodIn TB (.code y bytes maxL ret :: TB) := TB_sub (TB_cons hm.1.2.2)
  have hts := X.2.2.2.2.1
  obtain ⟨v, st₀, t, T', L9, h0, X', hL9, e1, e2, ⟨⟨v', V', hv, hp, hb⟩, hz, hk⟩, stp⟩ := va_runU ⟨X.1, X.2.1, X.2.2.1, X.2.2.2.1, hts⟩ hM (va_cwU n0 hts (gU_ws hl hsm hsel hm.1.1 hm.1.2.1 hm.1.2.2) rfl rfl rfl hyx hx hR) ⟨kP.blind, va_recv X.2.2.2.2.2.1.1 (hV.one hb) (ci := ci) (q0 := 0) hc rfl, fun U hU hW => ⟨rfl, by rw [hU]; exact hV, X.2.2.2.2.2.1.warm hW, by rw [hU]; exact Nat.le_trans X.2.2.2.2.2.2.1 hS.1⟩⟩ (g := F0 m pc ls st) (rest := rest) (cells := k) (slots := n) rfl hn hL.1 hst (lv_room (ls := ls) (rest := st) hcat) hdg hf T9 hT X9
  cases hv
  rw [h0] at hz hk
  obtain ⟨t2, a1, b1⟩ := kk v V' hp p e s m args below meth c T'.heap (locs ++ L9) ls X hE (by rw [e1]; exact hb) ⟨Nat.le_trans hS.1 (by rw [e1]; exact hz), fun q h1 h2 => by rw [e1, hk q (Nat.lt_of_lt_of_le h1 hS.1) h2]; exact hS.2.1 q h1 h2, fun q hq => by
      rcases List.mem_append.mp hq with h | h
      · exact hS.2.2 q h
      · exact hL9 q h⟩ hL T' rfl X'
  exact ⟨t2, stp t2 a1, b1⟩
theorem g_callP {y : MethodName} {bytes : ByteArray} {maxL n0 index : Nat} {ret : Option FieldType} {rm : Room} {Po : Option Value → HV → Prop} {As st : List Value} {C : String} {b ci N : Nat} {F : u_T} {fs : List Value} (hb : V b = some (vO ci fs)) (hc : vwCl[ci]? = some (C, F, N)) (hx : y.name ≠ "<init>") (hM : KM l D Z b0 y bytes maxL ret rm (.ref b :: As) V Po) (hl : Cond.methodLink own index y ∈ TB) (hsm : Cond.sameMethod y.cls y.cls y.name y.desc ∈ TB) (hsup : Cond.superclass own y.cls ∈ TB) (hm : mV y bytes maxL ret n0) (hR : rm.frames + 1 ≤ R.frames ∧ 8 + (maxL + 11) + rm.locals ≤ R.locals) (hn : As.length = n0) (hst : st = As.reverse ++ .ref b :: rest) (hcat : (rest.map fun v => v.category).sum ≤ 8) (hdg : decode cc pc = .ok (.invokespecial index, 3)) (hf : k + rm.cells ≤ R.cells ∧ n + rm.slots ≤ R.slots) (kk : ∀ (v : Option Value) (V' : HV), Po v V' → G l D Z b0 R own cc nL E T V' L (k + rm.cells) (n + rm.slots) (pc + 3) (v.toList ++ rest)) : G l D Z b0 R own cc nL E T V L k n pc st := by
  intro p e s m args below meth c H locs ls X hE hV hS hL T9 hT X9
  have hG : GoodIn TB (.code y bytes maxL ret :: TB) := TB_sub (TB_cons hm.1.2.2)
  have hts := X.2.2.2.2.1
  obtain ⟨v, st₀, t, T', L9, h0, X', hL9, e1, e2, ⟨⟨v', V', hv, hp, hb⟩, hz, hk⟩, stp⟩ := va_runSU ((X.2.2.2.2.2.1.1.1 ci _ hc).2) ⟨X.1, X.2.1, X.2.2.1, X.2.2.2.1, hts⟩ hM (va_cwSU n0 hts (gP_ws hl hsm hsup hm.1.1 hm.1.2.1 hm.1.2.2) rfl rfl rfl ⟨hx, hm.2.2.2⟩ hR) ⟨kP.blind, va_recv X.2.2.2.2.2.1.1 (hV.one hb) (ci := ci) (q0 := 0) hc rfl, fun U hU hW => ⟨rfl, by rw [hU]; exact hV, X.2.2.2.2.2.1.warm hW, by rw [hU]; exact Nat.le_trans X.2.2.2.2.2.2.1 hS.1⟩⟩ (g := F0 m pc ls st) (rest := rest) (cells := k) (slots := n) rfl hn hL.1 hst (lv_room (ls := ls) (rest := st) hcat) hdg hf T9 hT X9
  cases hv
  rw [h0] at hz hk
  obtain ⟨t2, a1, b1⟩ := kk v V' hp p e s m args below meth c T'.heap (locs ++ L9) ls X hE (by rw [e1]; exact hb) ⟨Nat.le_trans hS.1 (by rw [e1]; exact hz), fun q h1 h2 => by rw [e1, hk q (Nat.lt_of_lt_of_le h1 hS.1) h2]; exact hS.2.1 q h1 h2, fun q hq => by
      rcases List.mem_append.mp hq with h | h
      · exact hS.2.2 q h
      · exact hL9 q h⟩ hL T' rfl X'
  exact ⟨t2, stp t2 a1, b1⟩
theorem g_iret {Po : Option Value → HV → Prop} {nm : String} {mc ms : Nat} {v : Int32} (hk : k ≤ mc) (hn : n ≤ ms) (hp : Po (some (.int v)) V) (hdg : decode cc pc = .ok (.ireturn, 1)) : G l D Z b0 R own cc nL (gE (some .int) nm) (gT D b0 Po mc ms) V L k n pc [.int v] := fun p e s m args below meth c H locs ls X hE hV hS hL => W.widen hk hn (W.iret X.1 X.2.1 hE.1 (fun t ht hW => ⟨⟨_, V, rfl, hp, by rw [ht]; exact hV⟩, hS.F ht⟩) hS.2.2 hdg X.2.2.2.2.2.2.2)
theorem g_zret {Po : Option Value → HV → Prop} {nm : String} {mc ms : Nat} {v : Int32} (hz : narrow .boolean (.int v) = .int v) (hk : k ≤ mc) (hn : n ≤ ms) (hp : Po (some (.int v)) V) (hdg : decode cc pc = .ok (.ireturn, 1)) : G l D Z b0 R own cc nL (gE (some .boolean) nm) (gT D b0 Po mc ms) V L k n pc [.int v] := fun p e s m args below meth c H locs ls X hE hV hS hL => W.widen hk hn (W.zret X.1 X.2.1 hE.1 hz (fun t ht hW => ⟨⟨_, V, rfl, hp, by rw [ht]; exact hV⟩, hS.F ht⟩) hS.2.2 hdg X.2.2.2.2.2.2.2)
theorem g_vret {Po : Option Value → HV → Prop} {nm : String} {mc ms : Nat} (hk : k ≤ mc) (hn : n ≤ ms) (hp : Po (none) V) (hdg : decode cc pc = .ok (.return_, 1)) : G l D Z b0 R own cc nL (gE (none) nm) (gT D b0 Po mc ms) V L k n pc [] := fun p e s m args below meth c H locs ls X hE hV hS hL => W.widen hk hn (W.vret X.1 X.2.1 hE.1 (fun t ht hW => ⟨⟨_, V, rfl, hp, by rw [ht]; exact hV⟩, hS.F ht⟩) hS.2.2 hdg X.2.2.2.2.2.2.2)
theorem g_lret {Po : Option Value → HV → Prop} {nm : String} {mc ms : Nat} {v : Int64} (hk : k ≤ mc) (hn : n ≤ ms) (hp : Po (some (.long v)) V) (hdg : decode cc pc = .ok (.lreturn, 1)) : G l D Z b0 R own cc nL (gE (some .long) nm) (gT D b0 Po mc ms) V L k n pc [.long v] := fun p e s m args below meth c H locs ls X hE hV hS hL => W.widen hk hn (W.lret X.1 X.2.1 hE.1 (fun t ht hW => ⟨⟨_, V, rfl, hp, by rw [ht]; exact hV⟩, hS.F ht⟩) hS.2.2 hdg X.2.2.2.2.2.2.2)
theorem g_aret {Po : Option Value → HV → Prop} {nm : String} {mc ms : Nat} {v : Value} {C : String} (hv : v = .null ∨ ∃ a, v = .ref a) (hk : k ≤ mc) (hn : n ≤ ms) (hp : Po (some v) V) (hdg : decode cc pc = .ok (.areturn, 1)) : G l D Z b0 R own cc nL (gE (some (.object C)) nm) (gT D b0 Po mc ms) V L k n pc [v] := fun p e s m args below meth c H locs ls X hE hV hS hL => W.widen hk hn (W.aret X.1 X.2.1 hE.1 (Or.inl ⟨C, rfl⟩) hv (fun t ht hW => ⟨⟨_, V, rfl, hp, by rw [ht]; exact hV⟩, hS.F ht⟩) hS.2.2 hdg X.2.2.2.2.2.2.2)
end GR
end
section
theorem mX0_init : mV yX0_init cX0_init 2 none 1 := ⟨⟨TB_in 290 (by decide +kernel) (by decide +kernel), TB_in 59 (by decide +kernel) (by decide +kernel), TB_in 291 (by decide +kernel) (by decide +kernel)⟩, by decide +kernel⟩
theorem mX0_kind : mV yX0_kind cX0_kind 1 (some .int) 0 := ⟨⟨TB_in 380 (by decide +kernel) (by decide +kernel), TB_in 59 (by decide +kernel) (by decide +kernel), TB_in 381 (by decide +kernel) (by decide +kernel)⟩, by decide +kernel⟩
theorem mX0_slow : mV yX0_slow cX0_slow 1 (some .int) 0 := ⟨⟨TB_in 406 (by decide +kernel) (by decide +kernel), TB_in 59 (by decide +kernel) (by decide +kernel), TB_in 407 (by decide +kernel) (by decide +kernel)⟩, by decide +kernel⟩
theorem mX0_loss : mV yX0_loss cX0_loss 1 (some .int) 0 := ⟨⟨TB_in 436 (by decide +kernel) (by decide +kernel), TB_in 59 (by decide +kernel) (by decide +kernel), TB_in 437 (by decide +kernel) (by decide +kernel)⟩, by decide +kernel⟩
theorem mX0_toil : mV yX0_toil cX0_toil 1 (some .int) 0 := ⟨⟨TB_in 344 (by decide +kernel) (by decide +kernel), TB_in 59 (by decide +kernel) (by decide +kernel), TB_in 345 (by decide +kernel) (by decide +kernel)⟩, by decide +kernel⟩
theorem mX0_worth : mV yX0_worth cX0_worth 1 (some .int) 0 := ⟨⟨TB_in 697 (by decide +kernel) (by decide +kernel), TB_in 59 (by decide +kernel) (by decide +kernel), TB_in 698 (by decide +kernel) (by decide +kernel)⟩, by decide +kernel⟩
theorem mX1_init : mV yX1_init cX1_init 2 none 1 := ⟨⟨TB_in 91 (by decide +kernel) (by decide +kernel), TB_in 54 (by decide +kernel) (by decide +kernel), TB_in 92 (by decide +kernel) (by decide +kernel)⟩, by decide +kernel⟩
theorem mX1_kind : mV yX1_kind cX1_kind 1 (some .int) 0 := ⟨⟨TB_in 383 (by decide +kernel) (by decide +kernel), TB_in 54 (by decide +kernel) (by decide +kernel), TB_in 384 (by decide +kernel) (by decide +kernel)⟩, by decide +kernel⟩
theorem mX1_loss : mV yX1_loss cX1_loss 1 (some .int) 0 := ⟨⟨TB_in 440 (by decide +kernel) (by decide +kernel), TB_in 54 (by decide +kernel) (by decide +kernel), TB_in 441 (by decide +kernel) (by decide +kernel)⟩, by decide +kernel⟩
theorem mX1_toil : mV yX1_toil cX1_toil 1 (some .int) 0 := ⟨⟨TB_in 348 (by decide +kernel) (by decide +kernel), TB_in 54 (by decide +kernel) (by decide +kernel), TB_in 349 (by decide +kernel) (by decide +kernel)⟩, by decide +kernel⟩
theorem mX1_worth : mV yX1_worth cX1_worth 1 (some .int) 0 := ⟨⟨TB_in 701 (by decide +kernel) (by decide +kernel), TB_in 54 (by decide +kernel) (by decide +kernel), TB_in 702 (by decide +kernel) (by decide +kernel)⟩, by decide +kernel⟩
theorem mX1_fail : mV yX1_fail cX1_fail 1 none 0 := ⟨⟨TB_in 737 (by decide +kernel) (by decide +kernel), TB_in 54 (by decide +kernel) (by decide +kernel), TB_in 738 (by decide +kernel) (by decide +kernel)⟩, by decide +kernel⟩
theorem mX2_init : mV yX2_init cX2_init 2 none 1 := ⟨⟨TB_in 319 (by decide +kernel) (by decide +kernel), TB_in 62 (by decide +kernel) (by decide +kernel), TB_in 320 (by decide +kernel) (by decide +kernel)⟩, by decide +kernel⟩
theorem mX2_kind : mV yX2_kind cX2_kind 1 (some .int) 0 := ⟨⟨TB_in 386 (by decide +kernel) (by decide +kernel), TB_in 62 (by decide +kernel) (by decide +kernel), TB_in 387 (by decide +kernel) (by decide +kernel)⟩, by decide +kernel⟩
theorem mX2_slow : mV yX2_slow cX2_slow 1 (some .int) 0 := ⟨⟨TB_in 414 (by decide +kernel) (by decide +kernel), TB_in 62 (by decide +kernel) (by decide +kernel), TB_in 415 (by decide +kernel) (by decide +kernel)⟩, by decide +kernel⟩
theorem mX2_loss : mV yX2_loss cX2_loss 1 (some .int) 0 := ⟨⟨TB_in 446 (by decide +kernel) (by decide +kernel), TB_in 62 (by decide +kernel) (by decide +kernel), TB_in 447 (by decide +kernel) (by decide +kernel)⟩, by decide +kernel⟩
theorem mX2_toil : mV yX2_toil cX2_toil 1 (some .int) 0 := ⟨⟨TB_in 351 (by decide +kernel) (by decide +kernel), TB_in 62 (by decide +kernel) (by decide +kernel), TB_in 352 (by decide +kernel) (by decide +kernel)⟩, by decide +kernel⟩
theorem mX2_worth : mV yX2_worth cX2_worth 1 (some .int) 0 := ⟨⟨TB_in 707 (by decide +kernel) (by decide +kernel), TB_in 62 (by decide +kernel) (by decide +kernel), TB_in 708 (by decide +kernel) (by decide +kernel)⟩, by decide +kernel⟩
theorem mX3_init : mV yX3_init cX3_init 2 none 1 := ⟨⟨TB_in 282 (by decide +kernel) (by decide +kernel), TB_in 58 (by decide +kernel) (by decide +kernel), TB_in 283 (by decide +kernel) (by decide +kernel)⟩, by decide +kernel⟩
theorem mX3_kind : mV yX3_kind cX3_kind 1 (some .int) 0 := ⟨⟨TB_in 389 (by decide +kernel) (by decide +kernel), TB_in 58 (by decide +kernel) (by decide +kernel), TB_in 390 (by decide +kernel) (by decide +kernel)⟩, by decide +kernel⟩
theorem mX3_slow : mV yX3_slow cX3_slow 1 (some .int) 0 := ⟨⟨TB_in 418 (by decide +kernel) (by decide +kernel), TB_in 58 (by decide +kernel) (by decide +kernel), TB_in 419 (by decide +kernel) (by decide +kernel)⟩, by decide +kernel⟩
theorem mX3_loss : mV yX3_loss cX3_loss 1 (some .int) 0 := ⟨⟨TB_in 450 (by decide +kernel) (by decide +kernel), TB_in 58 (by decide +kernel) (by decide +kernel), TB_in 451 (by decide +kernel) (by decide +kernel)⟩, by decide +kernel⟩
theorem mX3_toil : mV yX3_toil cX3_toil 1 (some .int) 0 := ⟨⟨TB_in 355 (by decide +kernel) (by decide +kernel), TB_in 58 (by decide +kernel) (by decide +kernel), TB_in 356 (by decide +kernel) (by decide +kernel)⟩, by decide +kernel⟩
theorem mX3_worth : mV yX3_worth cX3_worth 1 (some .int) 0 := ⟨⟨TB_in 711 (by decide +kernel) (by decide +kernel), TB_in 58 (by decide +kernel) (by decide +kernel), TB_in 712 (by decide +kernel) (by decide +kernel)⟩, by decide +kernel⟩
theorem mX4_init : mV yX4_init cX4_init 2 none 1 := ⟨⟨TB_in 94 (by decide +kernel) (by decide +kernel), TB_in 53 (by decide +kernel) (by decide +kernel), TB_in 95 (by decide +kernel) (by decide +kernel)⟩, by decide +kernel⟩
theorem mX4_kind : mV yX4_kind cX4_kind 1 (some .int) 0 := ⟨⟨TB_in 392 (by decide +kernel) (by decide +kernel), TB_in 53 (by decide +kernel) (by decide +kernel), TB_in 393 (by decide +kernel) (by decide +kernel)⟩, by decide +kernel⟩
theorem mX4_slow : mV yX4_slow cX4_slow 1 (some .int) 0 := ⟨⟨TB_in 410 (by decide +kernel) (by decide +kernel), TB_in 53 (by decide +kernel) (by decide +kernel), TB_in 411 (by decide +kernel) (by decide +kernel)⟩, by decide +kernel⟩
theorem mX4_toil : mV yX4_toil cX4_toil 1 (some .int) 0 := ⟨⟨TB_in 359 (by decide +kernel) (by decide +kernel), TB_in 53 (by decide +kernel) (by decide +kernel), TB_in 360 (by decide +kernel) (by decide +kernel)⟩, by decide +kernel⟩
theorem mX5_init : mV yX5_init cX5_init 3 none 0 := ⟨⟨TB_in 83 (by decide +kernel) (by decide +kernel), TB_in 51 (by decide +kernel) (by decide +kernel), TB_in 84 (by decide +kernel) (by decide +kernel)⟩, by decide +kernel⟩
theorem mX5_become : mV yX5_become cX5_become 3 none 1 := ⟨⟨TB_in 261 (by decide +kernel) (by decide +kernel), TB_in 51 (by decide +kernel) (by decide +kernel), TB_in 263 (by decide +kernel) (by decide +kernel)⟩, by decide +kernel⟩
theorem mX5_advance : mV yX5_advance cX5_advance 5 (some .int) 2 := ⟨⟨TB_in 333 (by decide +kernel) (by decide +kernel), TB_in 51 (by decide +kernel) (by decide +kernel), TB_in 335 (by decide +kernel) (by decide +kernel)⟩, by decide +kernel⟩
theorem mX5_gangsMet : mV yX5_gangsMet cX5_gangsMet 2 (some .boolean) 0 := ⟨⟨TB_in 487 (by decide +kernel) (by decide +kernel), TB_in 51 (by decide +kernel) (by decide +kernel), TB_in 489 (by decide +kernel) (by decide +kernel)⟩, by decide +kernel⟩
theorem mX5_allHours : mV yX5_allHours cX5_allHours 1 (some .int) 0 := ⟨⟨TB_in 632 (by decide +kernel) (by decide +kernel), TB_in 51 (by decide +kernel) (by decide +kernel), TB_in 634 (by decide +kernel) (by decide +kernel)⟩, by decide +kernel⟩
theorem mX6_init : mV yX6_init cX6_init 2 none 1 := ⟨⟨TB_in 97 (by decide +kernel) (by decide +kernel), TB_in 52 (by decide +kernel) (by decide +kernel), TB_in 98 (by decide +kernel) (by decide +kernel)⟩, by decide +kernel⟩
theorem mX6_kind : mV yX6_kind cX6_kind 1 (some .int) 0 := ⟨⟨TB_in 376 (by decide +kernel) (by decide +kernel), TB_in 52 (by decide +kernel) (by decide +kernel), TB_in 400 (by decide +kernel) (by decide +kernel)⟩, by decide +kernel⟩
theorem mX6_slow : mV yX6_slow cX6_slow 1 (some .int) 0 := ⟨⟨TB_in 402 (by decide +kernel) (by decide +kernel), TB_in 52 (by decide +kernel) (by decide +kernel), TB_in 430 (by decide +kernel) (by decide +kernel)⟩, by decide +kernel⟩
theorem mX6_loss : mV yX6_loss cX6_loss 1 (some .int) 0 := ⟨⟨TB_in 432 (by decide +kernel) (by decide +kernel), TB_in 52 (by decide +kernel) (by decide +kernel), TB_in 464 (by decide +kernel) (by decide +kernel)⟩, by decide +kernel⟩
theorem mX6_toil : mV yX6_toil cX6_toil 1 (some .int) 0 := ⟨⟨TB_in 340 (by decide +kernel) (by decide +kernel), TB_in 52 (by decide +kernel) (by decide +kernel), TB_in 370 (by decide +kernel) (by decide +kernel)⟩, by decide +kernel⟩
theorem mX6_worth : mV yX6_worth cX6_worth 1 (some .int) 0 := ⟨⟨TB_in 693 (by decide +kernel) (by decide +kernel), TB_in 52 (by decide +kernel) (by decide +kernel), TB_in 723 (by decide +kernel) (by decide +kernel)⟩, by decide +kernel⟩
theorem mX6_fail : mV yX6_fail cX6_fail 1 none 0 := ⟨⟨TB_in 732 (by decide +kernel) (by decide +kernel), TB_in 52 (by decide +kernel) (by decide +kernel), TB_in 832 (by decide +kernel) (by decide +kernel)⟩, by decide +kernel⟩
theorem mX7_init : mV yX7_init cX7_init 1 none 0 := ⟨⟨TB_in 173 (by decide +kernel) (by decide +kernel), TB_in 56 (by decide +kernel) (by decide +kernel), TB_in 174 (by decide +kernel) (by decide +kernel)⟩, by decide +kernel⟩
theorem mX7_isEmpty : mV yX7_isEmpty cX7_isEmpty 1 (some .boolean) 0 := ⟨⟨TB_in 241 (by decide +kernel) (by decide +kernel), TB_in 56 (by decide +kernel) (by decide +kernel), TB_in 243 (by decide +kernel) (by decide +kernel)⟩, by decide +kernel⟩
theorem mX7_clear : mV yX7_clear cX7_clear 1 none 0 := ⟨⟨TB_in 656 (by decide +kernel) (by decide +kernel), TB_in 56 (by decide +kernel) (by decide +kernel), TB_in 658 (by decide +kernel) (by decide +kernel)⟩, by decide +kernel⟩
theorem mX7_holdRock : mV yX7_holdRock cX7_holdRock 2 none 1 := ⟨⟨TB_in 660 (by decide +kernel) (by decide +kernel), TB_in 56 (by decide +kernel) (by decide +kernel), TB_in 662 (by decide +kernel) (by decide +kernel)⟩, by decide +kernel⟩
theorem mX7_holdRow : mV yX7_holdRow cX7_holdRow 4 none 2 := ⟨⟨TB_in 669 (by decide +kernel) (by decide +kernel), TB_in 56 (by decide +kernel) (by decide +kernel), TB_in 671 (by decide +kernel) (by decide +kernel)⟩, by decide +kernel⟩
theorem mX7_spans : mV yX7_spans cX7_spans 3 (some .boolean) 2 := ⟨⟨TB_in 685 (by decide +kernel) (by decide +kernel), TB_in 56 (by decide +kernel) (by decide +kernel), TB_in 687 (by decide +kernel) (by decide +kernel)⟩, by decide +kernel⟩
theorem mX7_set : mV yX7_set cX7_set 3 none 2 := ⟨⟨TB_in 677 (by decide +kernel) (by decide +kernel), TB_in 56 (by decide +kernel) (by decide +kernel), TB_in 679 (by decide +kernel) (by decide +kernel)⟩, by decide +kernel⟩
theorem mX7_at : mV yX7_at cX7_at 2 (some .int) 1 := ⟨⟨TB_in 248 (by decide +kernel) (by decide +kernel), TB_in 56 (by decide +kernel) (by decide +kernel), TB_in 250 (by decide +kernel) (by decide +kernel)⟩, by decide +kernel⟩
theorem mX7_digit : mV yX7_digit cX7_digit 2 (some .int) 1 := ⟨⟨TB_in 256 (by decide +kernel) (by decide +kernel), TB_in 56 (by decide +kernel) (by decide +kernel), TB_in 258 (by decide +kernel) (by decide +kernel)⟩, by decide +kernel⟩
theorem mX8_init : mV yX8_init cX8_init 2 none 1 := ⟨⟨TB_in 306 (by decide +kernel) (by decide +kernel), TB_in 61 (by decide +kernel) (by decide +kernel), TB_in 307 (by decide +kernel) (by decide +kernel)⟩, by decide +kernel⟩
theorem mX8_kind : mV yX8_kind cX8_kind 1 (some .int) 0 := ⟨⟨TB_in 395 (by decide +kernel) (by decide +kernel), TB_in 61 (by decide +kernel) (by decide +kernel), TB_in 396 (by decide +kernel) (by decide +kernel)⟩, by decide +kernel⟩
theorem mX8_slow : mV yX8_slow cX8_slow 1 (some .int) 0 := ⟨⟨TB_in 423 (by decide +kernel) (by decide +kernel), TB_in 61 (by decide +kernel) (by decide +kernel), TB_in 424 (by decide +kernel) (by decide +kernel)⟩, by decide +kernel⟩
theorem mX8_loss : mV yX8_loss cX8_loss 1 (some .int) 0 := ⟨⟨TB_in 455 (by decide +kernel) (by decide +kernel), TB_in 61 (by decide +kernel) (by decide +kernel), TB_in 456 (by decide +kernel) (by decide +kernel)⟩, by decide +kernel⟩
theorem mX8_toil : mV yX8_toil cX8_toil 1 (some .int) 0 := ⟨⟨TB_in 363 (by decide +kernel) (by decide +kernel), TB_in 61 (by decide +kernel) (by decide +kernel), TB_in 364 (by decide +kernel) (by decide +kernel)⟩, by decide +kernel⟩
theorem mX8_worth : mV yX8_worth cX8_worth 1 (some .int) 0 := ⟨⟨TB_in 716 (by decide +kernel) (by decide +kernel), TB_in 61 (by decide +kernel) (by decide +kernel), TB_in 717 (by decide +kernel) (by decide +kernel)⟩, by decide +kernel⟩
theorem mX8_fail : mV yX8_fail cX8_fail 1 none 0 := ⟨⟨TB_in 743 (by decide +kernel) (by decide +kernel), TB_in 61 (by decide +kernel) (by decide +kernel), TB_in 744 (by decide +kernel) (by decide +kernel)⟩, by decide +kernel⟩
theorem mX9_init : mV yX9_init cX9_init 2 none 1 := ⟨⟨TB_in 298 (by decide +kernel) (by decide +kernel), TB_in 60 (by decide +kernel) (by decide +kernel), TB_in 299 (by decide +kernel) (by decide +kernel)⟩, by decide +kernel⟩
theorem mX9_kind : mV yX9_kind cX9_kind 1 (some .int) 0 := ⟨⟨TB_in 398 (by decide +kernel) (by decide +kernel), TB_in 60 (by decide +kernel) (by decide +kernel), TB_in 399 (by decide +kernel) (by decide +kernel)⟩, by decide +kernel⟩
theorem mX9_slow : mV yX9_slow cX9_slow 1 (some .int) 0 := ⟨⟨TB_in 427 (by decide +kernel) (by decide +kernel), TB_in 60 (by decide +kernel) (by decide +kernel), TB_in 428 (by decide +kernel) (by decide +kernel)⟩, by decide +kernel⟩
theorem mX9_loss : mV yX9_loss cX9_loss 1 (some .int) 0 := ⟨⟨TB_in 458 (by decide +kernel) (by decide +kernel), TB_in 60 (by decide +kernel) (by decide +kernel), TB_in 459 (by decide +kernel) (by decide +kernel)⟩, by decide +kernel⟩
theorem mX9_toil : mV yX9_toil cX9_toil 1 (some .int) 0 := ⟨⟨TB_in 367 (by decide +kernel) (by decide +kernel), TB_in 60 (by decide +kernel) (by decide +kernel), TB_in 368 (by decide +kernel) (by decide +kernel)⟩, by decide +kernel⟩
theorem mX9_worth : mV yX9_worth cX9_worth 1 (some .int) 0 := ⟨⟨TB_in 720 (by decide +kernel) (by decide +kernel), TB_in 60 (by decide +kernel) (by decide +kernel), TB_in 721 (by decide +kernel) (by decide +kernel)⟩, by decide +kernel⟩
theorem mX9_fail : mV yX9_fail cX9_fail 1 none 0 := ⟨⟨TB_in 814 (by decide +kernel) (by decide +kernel), TB_in 60 (by decide +kernel) (by decide +kernel), TB_in 815 (by decide +kernel) (by decide +kernel)⟩, by decide +kernel⟩
theorem mX10_init : mV yX10_init cX10_init 1 none 0 := ⟨⟨TB_in 144 (by decide +kernel) (by decide +kernel), TB_in 55 (by decide +kernel) (by decide +kernel), TB_in 145 (by decide +kernel) (by decide +kernel)⟩, by decide +kernel⟩
theorem mX10_byKnocks : mV yX10_byKnocks cX10_byKnocks 3 none 1 := ⟨⟨TB_in 499 (by decide +kernel) (by decide +kernel), TB_in 55 (by decide +kernel) (by decide +kernel), TB_in 501 (by decide +kernel) (by decide +kernel)⟩, by decide +kernel⟩
theorem mX10_byToil : mV yX10_byToil cX10_byToil 3 none 1 := ⟨⟨TB_in 575 (by decide +kernel) (by decide +kernel), TB_in 55 (by decide +kernel) (by decide +kernel), TB_in 577 (by decide +kernel) (by decide +kernel)⟩, by decide +kernel⟩
theorem mX10_spread : mV yX10_spread cX10_spread 5 none 1 := ⟨⟨TB_in 505 (by decide +kernel) (by decide +kernel), TB_in 55 (by decide +kernel) (by decide +kernel), TB_in 507 (by decide +kernel) (by decide +kernel)⟩, by decide +kernel⟩
theorem mX10_nearest : mV yX10_nearest cX10_nearest 4 (some .int) 0 := ⟨⟨TB_in 511 (by decide +kernel) (by decide +kernel), TB_in 55 (by decide +kernel) (by decide +kernel), TB_in 512 (by decide +kernel) (by decide +kernel)⟩, by decide +kernel⟩
theorem mX10_enter : mV yX10_enter cX10_enter 5 none 2 := ⟨⟨TB_in 517 (by decide +kernel) (by decide +kernel), TB_in 55 (by decide +kernel) (by decide +kernel), TB_in 518 (by decide +kernel) (by decide +kernel)⟩, by decide +kernel⟩
theorem mX11_init : mV yX11_init cX11_init 2 none 0 := ⟨⟨TB_in 75 (by decide +kernel) (by decide +kernel), TB_in 50 (by decide +kernel) (by decide +kernel), TB_in 76 (by decide +kernel) (by decide +kernel)⟩, by decide +kernel⟩
theorem mX11_mountain : mV yX11_mountain cX11_mountain 5 (some .int) 1 := ⟨⟨TB_in 222 (by decide +kernel) (by decide +kernel), TB_in 50 (by decide +kernel) (by decide +kernel), TB_in 224 (by decide +kernel) (by decide +kernel)⟩, by decide +kernel⟩
theorem mX11_cell : mV yX11_cell cX11_cell 4 (some .int) 2 := ⟨⟨TB_in 372 (by decide +kernel) (by decide +kernel), TB_in 50 (by decide +kernel) (by decide +kernel), TB_in 374 (by decide +kernel) (by decide +kernel)⟩, by decide +kernel⟩
theorem mX11_lay : mV yX11_lay cX11_lay 5 (some .int) 2 := ⟨⟨TB_in 467 (by decide +kernel) (by decide +kernel), TB_in 50 (by decide +kernel) (by decide +kernel), TB_in 469 (by decide +kernel) (by decide +kernel)⟩, by decide +kernel⟩
theorem mX11_gang : mV yX11_gang cX11_gang 3 (some .int) 2 := ⟨⟨TB_in 475 (by decide +kernel) (by decide +kernel), TB_in 50 (by decide +kernel) (by decide +kernel), TB_in 477 (by decide +kernel) (by decide +kernel)⟩, by decide +kernel⟩
theorem mX11_dig : mV yX11_dig cX11_dig 4 (some .int) 2 := ⟨⟨TB_in 479 (by decide +kernel) (by decide +kernel), TB_in 50 (by decide +kernel) (by decide +kernel), TB_in 481 (by decide +kernel) (by decide +kernel)⟩, by decide +kernel⟩
theorem mX11_met : mV yX11_met cX11_met 1 (some .int) 0 := ⟨⟨TB_in 483 (by decide +kernel) (by decide +kernel), TB_in 50 (by decide +kernel) (by decide +kernel), TB_in 485 (by decide +kernel) (by decide +kernel)⟩, by decide +kernel⟩
theorem mX11_time : mV yX11_time cX11_time 3 (some .int) 2 := ⟨⟨TB_in 491 (by decide +kernel) (by decide +kernel), TB_in 50 (by decide +kernel) (by decide +kernel), TB_in 493 (by decide +kernel) (by decide +kernel)⟩, by decide +kernel⟩
theorem mX11_loud : mV yX11_loud cX11_loud 4 (some .int) 3 := ⟨⟨TB_in 523 (by decide +kernel) (by decide +kernel), TB_in 50 (by decide +kernel) (by decide +kernel), TB_in 525 (by decide +kernel) (by decide +kernel)⟩, by decide +kernel⟩
theorem mX11_paths : mV yX11_paths cX11_paths 3 (some .int) 2 := ⟨⟨TB_in 528 (by decide +kernel) (by decide +kernel), TB_in 50 (by decide +kernel) (by decide +kernel), TB_in 530 (by decide +kernel) (by decide +kernel)⟩, by decide +kernel⟩
theorem mX11_reaches : mV yX11_reaches cX11_reaches 5 (some .int) 2 := ⟨⟨TB_in 532 (by decide +kernel) (by decide +kernel), TB_in 50 (by decide +kernel) (by decide +kernel), TB_in 534 (by decide +kernel) (by decide +kernel)⟩, by decide +kernel⟩
theorem mX11_from : mV yX11_from cX11_from 7 (some .int) 2 := ⟨⟨TB_in 536 (by decide +kernel) (by decide +kernel), TB_in 50 (by decide +kernel) (by decide +kernel), TB_in 538 (by decide +kernel) (by decide +kernel)⟩, by decide +kernel⟩
theorem mX11_listen : mV yX11_listen cX11_listen 8 (some .int) 2 := ⟨⟨TB_in 551 (by decide +kernel) (by decide +kernel), TB_in 50 (by decide +kernel) (by decide +kernel), TB_in 553 (by decide +kernel) (by decide +kernel)⟩, by decide +kernel⟩
theorem mX11_rocks : mV yX11_rocks cX11_rocks 8 (some .int) 5 := ⟨⟨TB_in 567 (by decide +kernel) (by decide +kernel), TB_in 50 (by decide +kernel) (by decide +kernel), TB_in 569 (by decide +kernel) (by decide +kernel)⟩, by decide +kernel⟩
theorem mX11_toils : mV yX11_toils cX11_toils 3 (some .int) 0 := ⟨⟨TB_in 571 (by decide +kernel) (by decide +kernel), TB_in 50 (by decide +kernel) (by decide +kernel), TB_in 573 (by decide +kernel) (by decide +kernel)⟩, by decide +kernel⟩
theorem mX11_soon : mV yX11_soon cX11_soon 1 (some .int) 0 := ⟨⟨TB_in 580 (by decide +kernel) (by decide +kernel), TB_in 50 (by decide +kernel) (by decide +kernel), TB_in 582 (by decide +kernel) (by decide +kernel)⟩, by decide +kernel⟩
theorem mX11_side : mV yX11_side cX11_side 7 (some .int) 2 := ⟨⟨TB_in 590 (by decide +kernel) (by decide +kernel), TB_in 50 (by decide +kernel) (by decide +kernel), TB_in 592 (by decide +kernel) (by decide +kernel)⟩, by decide +kernel⟩
theorem mX11_taken : mV yX11_taken cX11_taken 4 (some .int) 3 := ⟨⟨TB_in 594 (by decide +kernel) (by decide +kernel), TB_in 50 (by decide +kernel) (by decide +kernel), TB_in 596 (by decide +kernel) (by decide +kernel)⟩, by decide +kernel⟩
theorem mX11_safe : mV yX11_safe cX11_safe 9 (some .int) 3 := ⟨⟨TB_in 607 (by decide +kernel) (by decide +kernel), TB_in 50 (by decide +kernel) (by decide +kernel), TB_in 609 (by decide +kernel) (by decide +kernel)⟩, by decide +kernel⟩
theorem mX11_seeded : mV yX11_seeded cX11_seeded 8 (some .int) 3 := ⟨⟨TB_in 619 (by decide +kernel) (by decide +kernel), TB_in 50 (by decide +kernel) (by decide +kernel), TB_in 621 (by decide +kernel) (by decide +kernel)⟩, by decide +kernel⟩
theorem mX11_judge : mV yX11_judge cX11_judge 5 (some .int) 1 := ⟨⟨TB_in 636 (by decide +kernel) (by decide +kernel), TB_in 50 (by decide +kernel) (by decide +kernel), TB_in 638 (by decide +kernel) (by decide +kernel)⟩, by decide +kernel⟩
theorem mX11_image : mV yX11_image cX11_image 1 (some .int) 0 := ⟨⟨TB_in 640 (by decide +kernel) (by decide +kernel), TB_in 50 (by decide +kernel) (by decide +kernel), TB_in 642 (by decide +kernel) (by decide +kernel)⟩, by decide +kernel⟩
theorem mX11_restore : mV yX11_restore cX11_restore 1 (some .int) 0 := ⟨⟨TB_in 644 (by decide +kernel) (by decide +kernel), TB_in 50 (by decide +kernel) (by decide +kernel), TB_in 646 (by decide +kernel) (by decide +kernel)⟩, by decide +kernel⟩
theorem mX11_count : mV yX11_count cX11_count 5 (some .int) 1 := ⟨⟨TB_in 648 (by decide +kernel) (by decide +kernel), TB_in 50 (by decide +kernel) (by decide +kernel), TB_in 650 (by decide +kernel) (by decide +kernel)⟩, by decide +kernel⟩
theorem mX11_keep : mV yX11_keep cX11_keep 5 (some .int) 4 := ⟨⟨TB_in 652 (by decide +kernel) (by decide +kernel), TB_in 50 (by decide +kernel) (by decide +kernel), TB_in 654 (by decide +kernel) (by decide +kernel)⟩, by decide +kernel⟩
theorem mX11_row : mV yX11_row cX11_row 4 (some .int) 3 := ⟨⟨TB_in 665 (by decide +kernel) (by decide +kernel), TB_in 50 (by decide +kernel) (by decide +kernel), TB_in 667 (by decide +kernel) (by decide +kernel)⟩, by decide +kernel⟩
theorem mX11_put : mV yX11_put cX11_put 5 (some .int) 3 := ⟨⟨TB_in 673 (by decide +kernel) (by decide +kernel), TB_in 50 (by decide +kernel) (by decide +kernel), TB_in 675 (by decide +kernel) (by decide +kernel)⟩, by decide +kernel⟩
theorem mX11_element : mV yX11_element cX11_element 4 (some .long) 2 := ⟨⟨TB_in 855 (by decide +kernel) (by decide +kernel), TB_in 50 (by decide +kernel) (by decide +kernel), TB_in 857 (by decide +kernel) (by decide +kernel)⟩, by decide +kernel⟩
theorem mX11_copy : mV yX11_copy cX11_copy 8 (some .int) 5 := ⟨⟨TB_in 681 (by decide +kernel) (by decide +kernel), TB_in 50 (by decide +kernel) (by decide +kernel), TB_in 683 (by decide +kernel) (by decide +kernel)⟩, by decide +kernel⟩
theorem mX11_pay : mV yX11_pay cX11_pay 3 (some .int) 1 := ⟨⟨TB_in 689 (by decide +kernel) (by decide +kernel), TB_in 50 (by decide +kernel) (by decide +kernel), TB_in 691 (by decide +kernel) (by decide +kernel)⟩, by decide +kernel⟩
theorem mX11_isBelow : mS yX11_isBelow cX11_isBelow 2 (some .boolean) 2 := ⟨⟨TB_in 234 (by decide +kernel) (by decide +kernel), TB_in 50 (by decide +kernel) (by decide +kernel), TB_in 235 (by decide +kernel) (by decide +kernel)⟩, by decide +kernel⟩
theorem mX11_neighbour : mS yX11_neighbour cX11_neighbour 4 (some .int) 2 := ⟨⟨TB_in 337 (by decide +kernel) (by decide +kernel), TB_in 50 (by decide +kernel) (by decide +kernel), TB_in 338 (by decide +kernel) (by decide +kernel)⟩, by decide +kernel⟩
theorem mX11_rockOf : mS yX11_rockOf cX11_rockOf 2 (some (.object "KnocksThroughRock$Rock")) 2 := ⟨⟨TB_in 277 (by decide +kernel) (by decide +kernel), TB_in 50 (by decide +kernel) (by decide +kernel), TB_in 278 (by decide +kernel) (by decide +kernel)⟩, by decide +kernel⟩
theorem mX11_rockOn : mV yX11_rockOn cX11_rockOn 2 (some (.object "KnocksThroughRock$Rock")) 1 := ⟨⟨TB_in 472 (by decide +kernel) (by decide +kernel), TB_in 50 (by decide +kernel) (by decide +kernel), TB_in 473 (by decide +kernel) (by decide +kernel)⟩, by decide +kernel⟩
theorem mX11_rowOn : mV yX11_rowOn cX11_rowOn 2 (some (.object "KnocksThroughRock$Shelf")) 1 := ⟨⟨TB_in 231 (by decide +kernel) (by decide +kernel), TB_in 50 (by decide +kernel) (by decide +kernel), TB_in 232 (by decide +kernel) (by decide +kernel)⟩, by decide +kernel⟩
theorem mX11_rowOn_ : mV yX11_rowOn_ cX11_rowOn_ 4 (some (.object "KnocksThroughRock$Shelf")) 2 := ⟨⟨TB_in 227 (by decide +kernel) (by decide +kernel), TB_in 50 (by decide +kernel) (by decide +kernel), TB_in 228 (by decide +kernel) (by decide +kernel)⟩, by decide +kernel⟩
theorem mX11_whyNot : mV yX11_whyNot cX11_whyNot 2 (some .int) 1 := ⟨⟨TB_in 238 (by decide +kernel) (by decide +kernel), TB_in 50 (by decide +kernel) (by decide +kernel), TB_in 239 (by decide +kernel) (by decide +kernel)⟩, by decide +kernel⟩
theorem mX11_digitsBehind : mS yX11_digitsBehind cX11_digitsBehind 1 (some .int) 1 := ⟨⟨TB_in 253 (by decide +kernel) (by decide +kernel), TB_in 50 (by decide +kernel) (by decide +kernel), TB_in 254 (by decide +kernel) (by decide +kernel)⟩, by decide +kernel⟩
theorem mX11_strayByte : mS yX11_strayByte cX11_strayByte 3 (some .int) 1 := ⟨⟨TB_in 245 (by decide +kernel) (by decide +kernel), TB_in 50 (by decide +kernel) (by decide +kernel), TB_in 246 (by decide +kernel) (by decide +kernel)⟩, by decide +kernel⟩
theorem mX11_obeyAll : mV yX11_obeyAll cX11_obeyAll 4 (some .int) 1 := ⟨⟨TB_in 266 (by decide +kernel) (by decide +kernel), TB_in 50 (by decide +kernel) (by decide +kernel), TB_in 267 (by decide +kernel) (by decide +kernel)⟩, by decide +kernel⟩
theorem mX11_obey : mV yX11_obey cX11_obey 6 (some .boolean) 2 := ⟨⟨TB_in 270 (by decide +kernel) (by decide +kernel), TB_in 50 (by decide +kernel) (by decide +kernel), TB_in 271 (by decide +kernel) (by decide +kernel)⟩, by decide +kernel⟩
theorem mX11_obeyKind : mV yX11_obeyKind cX11_obeyKind 4 (some .boolean) 3 := ⟨⟨TB_in 274 (by decide +kernel) (by decide +kernel), TB_in 50 (by decide +kernel) (by decide +kernel), TB_in 275 (by decide +kernel) (by decide +kernel)⟩, by decide +kernel⟩
theorem mX11_obeyGang : mV yX11_obeyGang cX11_obeyGang 3 (some .boolean) 2 := ⟨⟨TB_in 330 (by decide +kernel) (by decide +kernel), TB_in 50 (by decide +kernel) (by decide +kernel), TB_in 331 (by decide +kernel) (by decide +kernel)⟩, by decide +kernel⟩
theorem mX11_knockFrom : mV yX11_knockFrom cX11_knockFrom 2 none 1 := ⟨⟨TB_in 496 (by decide +kernel) (by decide +kernel), TB_in 50 (by decide +kernel) (by decide +kernel), TB_in 497 (by decide +kernel) (by decide +kernel)⟩, by decide +kernel⟩
theorem mX11_tellsCells : mS yX11_tellsCells cX11_tellsCells 3 (some .boolean) 2 := ⟨⟨TB_in 540 (by decide +kernel) (by decide +kernel), TB_in 50 (by decide +kernel) (by decide +kernel), TB_in 541 (by decide +kernel) (by decide +kernel)⟩, by decide +kernel⟩
theorem mX11_mayHaveKnocked : mV yX11_mayHaveKnocked cX11_mayHaveKnocked 3 (some .boolean) 1 := ⟨⟨TB_in 544 (by decide +kernel) (by decide +kernel), TB_in 50 (by decide +kernel) (by decide +kernel), TB_in 545 (by decide +kernel) (by decide +kernel)⟩, by decide +kernel⟩
theorem mX11_hourOfKnock : mV yX11_hourOfKnock cX11_hourOfKnock 3 (some .long) 2 := ⟨⟨TB_in 548 (by decide +kernel) (by decide +kernel), TB_in 50 (by decide +kernel) (by decide +kernel), TB_in 549 (by decide +kernel) (by decide +kernel)⟩, by decide +kernel⟩
theorem mX11_takeTimes : mV yX11_takeTimes cX11_takeTimes 2 none 0 := ⟨⟨TB_in 556 (by decide +kernel) (by decide +kernel), TB_in 50 (by decide +kernel) (by decide +kernel), TB_in 557 (by decide +kernel) (by decide +kernel)⟩, by decide +kernel⟩
theorem mX11_mostAlike : mV yX11_mostAlike cX11_mostAlike 8 (some .int) 2 := ⟨⟨TB_in 564 (by decide +kernel) (by decide +kernel), TB_in 50 (by decide +kernel) (by decide +kernel), TB_in 565 (by decide +kernel) (by decide +kernel)⟩, by decide +kernel⟩
theorem mX11_soonIn : mV yX11_soonIn cX11_soonIn 6 (some .int) 1 := ⟨⟨TB_in 585 (by decide +kernel) (by decide +kernel), TB_in 50 (by decide +kernel) (by decide +kernel), TB_in 586 (by decide +kernel) (by decide +kernel)⟩, by decide +kernel⟩
theorem mX11_areAlike : mS yX11_areAlike cX11_areAlike 3 (some .boolean) 3 := ⟨⟨TB_in 598 (by decide +kernel) (by decide +kernel), TB_in 50 (by decide +kernel) (by decide +kernel), TB_in 599 (by decide +kernel) (by decide +kernel)⟩, by decide +kernel⟩
theorem mX11_findClashes : mV yX11_findClashes cX11_findClashes 5 none 2 := ⟨⟨TB_in 612 (by decide +kernel) (by decide +kernel), TB_in 50 (by decide +kernel) (by decide +kernel), TB_in 613 (by decide +kernel) (by decide +kernel)⟩, by decide +kernel⟩
theorem mX11_isWithoutClash : mV yX11_isWithoutClash cX11_isWithoutClash 3 (some .boolean) 1 := ⟨⟨TB_in 616 (by decide +kernel) (by decide +kernel), TB_in 50 (by decide +kernel) (by decide +kernel), TB_in 617 (by decide +kernel) (by decide +kernel)⟩, by decide +kernel⟩
theorem mX11_nextSeed : mS yX11_nextSeed cX11_nextSeed 1 (some .int) 1 := ⟨⟨TB_in 623 (by decide +kernel) (by decide +kernel), TB_in 50 (by decide +kernel) (by decide +kernel), TB_in 624 (by decide +kernel) (by decide +kernel)⟩, by decide +kernel⟩
theorem mX11_draw : mS yX11_draw cX11_draw 3 (some .int) 2 := ⟨⟨TB_in 627 (by decide +kernel) (by decide +kernel), TB_in 50 (by decide +kernel) (by decide +kernel), TB_in 628 (by decide +kernel) (by decide +kernel)⟩, by decide +kernel⟩
theorem mX12_init : mV yX12_init cX12_init 1 none 0 := ⟨⟨TB_in 866 (by decide +kernel) (by decide +kernel), TB_in 57 (by decide +kernel) (by decide +kernel), TB_in 867 (by decide +kernel) (by decide +kernel)⟩, by decide +kernel⟩
theorem mX12_thrown : mV yX12_thrown cX12_thrown 1 (some .int) 0 := ⟨⟨TB_in 940 (by decide +kernel) (by decide +kernel), TB_in 57 (by decide +kernel) (by decide +kernel), TB_in 942 (by decide +kernel) (by decide +kernel)⟩, by decide +kernel⟩
theorem mX12_isIn : mS yX12_isIn cX12_isIn 6 (some .boolean) 3 := ⟨⟨TB_in 956 (by decide +kernel) (by decide +kernel), TB_in 57 (by decide +kernel) (by decide +kernel), TB_in 957 (by decide +kernel) (by decide +kernel)⟩, by decide +kernel⟩
theorem mX12_isShelf : mS yX12_isShelf cX12_isShelf 1 (some .boolean) 1 := ⟨⟨TB_in 952 (by decide +kernel) (by decide +kernel), TB_in 57 (by decide +kernel) (by decide +kernel), TB_in 953 (by decide +kernel) (by decide +kernel)⟩, by decide +kernel⟩
theorem mX12_isCell : mS yX12_isCell cX12_isCell 1 (some .boolean) 1 := ⟨⟨TB_in 980 (by decide +kernel) (by decide +kernel), TB_in 57 (by decide +kernel) (by decide +kernel), TB_in 981 (by decide +kernel) (by decide +kernel)⟩, by decide +kernel⟩
theorem mX12_isGang : mS yX12_isGang cX12_isGang 1 (some .boolean) 1 := ⟨⟨TB_in 988 (by decide +kernel) (by decide +kernel), TB_in 57 (by decide +kernel) (by decide +kernel), TB_in 989 (by decide +kernel) (by decide +kernel)⟩, by decide +kernel⟩
theorem mX12_lays : mS yX12_lays cX12_lays 3 none 2 := ⟨⟨TB_in 973 (by decide +kernel) (by decide +kernel), TB_in 57 (by decide +kernel) (by decide +kernel), TB_in 974 (by decide +kernel) (by decide +kernel)⟩, by decide +kernel⟩
theorem mX12_begins : mV yX12_begins cX12_begins 1 none 0 := ⟨⟨TB_in 1120 (by decide +kernel) (by decide +kernel), TB_in 57 (by decide +kernel) (by decide +kernel), TB_in 1121 (by decide +kernel) (by decide +kernel)⟩, by decide +kernel⟩
theorem mX12_ends : mV yX12_ends cX12_ends 1 none 0 := ⟨⟨TB_in 1124 (by decide +kernel) (by decide +kernel), TB_in 57 (by decide +kernel) (by decide +kernel), TB_in 1125 (by decide +kernel) (by decide +kernel)⟩, by decide +kernel⟩
theorem mX12_kind : mV yX12_kind cX12_kind 2 (some .int) 1 := ⟨⟨TB_in 1007 (by decide +kernel) (by decide +kernel), TB_in 57 (by decide +kernel) (by decide +kernel), TB_in 1008 (by decide +kernel) (by decide +kernel)⟩, by decide +kernel⟩
theorem mX12_figure : mV yX12_figure cX12_figure 2 (some .int) 1 := ⟨⟨TB_in 1011 (by decide +kernel) (by decide +kernel), TB_in 57 (by decide +kernel) (by decide +kernel), TB_in 1012 (by decide +kernel) (by decide +kernel)⟩, by decide +kernel⟩
theorem mX12_setCell : mV yX12_setCell cX12_setCell 4 none 3 := ⟨⟨TB_in 985 (by decide +kernel) (by decide +kernel), TB_in 57 (by decide +kernel) (by decide +kernel), TB_in 986 (by decide +kernel) (by decide +kernel)⟩, by decide +kernel⟩
theorem mX12_gangCell : mV yX12_gangCell cX12_gangCell 2 (some .int) 1 := ⟨⟨TB_in 996 (by decide +kernel) (by decide +kernel), TB_in 57 (by decide +kernel) (by decide +kernel), TB_in 997 (by decide +kernel) (by decide +kernel)⟩, by decide +kernel⟩
theorem mX12_slowBy : mS yX12_slowBy cX12_slowBy 2 (some .int) 2 := ⟨⟨TB_in 1025 (by decide +kernel) (by decide +kernel), TB_in 57 (by decide +kernel) (by decide +kernel), TB_in 1026 (by decide +kernel) (by decide +kernel)⟩, by decide +kernel⟩
theorem mX12_lossBy : mS yX12_lossBy cX12_lossBy 2 (some .int) 2 := ⟨⟨TB_in 1032 (by decide +kernel) (by decide +kernel), TB_in 57 (by decide +kernel) (by decide +kernel), TB_in 1033 (by decide +kernel) (by decide +kernel)⟩, by decide +kernel⟩
theorem mX12_toilBy : mS yX12_toilBy cX12_toilBy 2 (some .int) 2 := ⟨⟨TB_in 1014 (by decide +kernel) (by decide +kernel), TB_in 57 (by decide +kernel) (by decide +kernel), TB_in 1015 (by decide +kernel) (by decide +kernel)⟩, by decide +kernel⟩
theorem mX12_slow : mV yX12_slow cX12_slow 2 (some .int) 1 := ⟨⟨TB_in 1022 (by decide +kernel) (by decide +kernel), TB_in 57 (by decide +kernel) (by decide +kernel), TB_in 1023 (by decide +kernel) (by decide +kernel)⟩, by decide +kernel⟩
theorem mX12_loss : mV yX12_loss cX12_loss 2 (some .int) 1 := ⟨⟨TB_in 1029 (by decide +kernel) (by decide +kernel), TB_in 57 (by decide +kernel) (by decide +kernel), TB_in 1030 (by decide +kernel) (by decide +kernel)⟩, by decide +kernel⟩
theorem mX12_toil : mV yX12_toil cX12_toil 2 (some .int) 1 := ⟨⟨TB_in 1003 (by decide +kernel) (by decide +kernel), TB_in 57 (by decide +kernel) (by decide +kernel), TB_in 1004 (by decide +kernel) (by decide +kernel)⟩, by decide +kernel⟩
theorem mX12_beside : mS yX12_beside cX12_beside 2 (some .int) 2 := ⟨⟨TB_in 999 (by decide +kernel) (by decide +kernel), TB_in 57 (by decide +kernel) (by decide +kernel), TB_in 1000 (by decide +kernel) (by decide +kernel)⟩, by decide +kernel⟩
theorem mX12_digs : mV yX12_digs cX12_digs 4 (some .boolean) 2 := ⟨⟨TB_in 992 (by decide +kernel) (by decide +kernel), TB_in 57 (by decide +kernel) (by decide +kernel), TB_in 993 (by decide +kernel) (by decide +kernel)⟩, by decide +kernel⟩
theorem mX12_haveMet : mV yX12_haveMet cX12_haveMet 5 (some .boolean) 0 := ⟨⟨TB_in 1057 (by decide +kernel) (by decide +kernel), TB_in 57 (by decide +kernel) (by decide +kernel), TB_in 1058 (by decide +kernel) (by decide +kernel)⟩, by decide +kernel⟩
theorem mX12_isBetter : mV yX12_isBetter cX12_isBetter 5 (some .boolean) 2 := ⟨⟨TB_in 1074 (by decide +kernel) (by decide +kernel), TB_in 57 (by decide +kernel) (by decide +kernel), TB_in 1075 (by decide +kernel) (by decide +kernel)⟩, by decide +kernel⟩
theorem mX12_finds : mV yX12_finds cX12_finds 6 none 1 := ⟨⟨TB_in 1069 (by decide +kernel) (by decide +kernel), TB_in 57 (by decide +kernel) (by decide +kernel), TB_in 1070 (by decide +kernel) (by decide +kernel)⟩, by decide +kernel⟩
theorem mX12_countsWays : mV yX12_countsWays cX12_countsWays 7 none 1 := ⟨⟨TB_in 1087 (by decide +kernel) (by decide +kernel), TB_in 57 (by decide +kernel) (by decide +kernel), TB_in 1088 (by decide +kernel) (by decide +kernel)⟩, by decide +kernel⟩
theorem mX12_timeOf : mV yX12_timeOf cX12_timeOf 3 (some .int) 2 := ⟨⟨TB_in 1065 (by decide +kernel) (by decide +kernel), TB_in 57 (by decide +kernel) (by decide +kernel), TB_in 1066 (by decide +kernel) (by decide +kernel)⟩, by decide +kernel⟩
theorem mX12_here : mV yX12_here cX12_here 1 (some .int) 0 := ⟨⟨TB_in 964 (by decide +kernel) (by decide +kernel), TB_in 57 (by decide +kernel) (by decide +kernel), TB_in 965 (by decide +kernel) (by decide +kernel)⟩, by decide +kernel⟩
theorem mX12_readsDigits : mV yX12_readsDigits cX12_readsDigits 3 (some .boolean) 1 := ⟨⟨TB_in 968 (by decide +kernel) (by decide +kernel), TB_in 57 (by decide +kernel) (by decide +kernel), TB_in 969 (by decide +kernel) (by decide +kernel)⟩, by decide +kernel⟩
theorem mX12_readsStatement : mV yX12_readsStatement cX12_readsStatement 3 (some .boolean) 0 := ⟨⟨TB_in 960 (by decide +kernel) (by decide +kernel), TB_in 57 (by decide +kernel) (by decide +kernel), TB_in 961 (by decide +kernel) (by decide +kernel)⟩, by decide +kernel⟩
theorem mX12_comesTold : mV yX12_comesTold cX12_comesTold 3 (some .boolean) 1 := ⟨⟨TB_in 977 (by decide +kernel) (by decide +kernel), TB_in 57 (by decide +kernel) (by decide +kernel), TB_in 978 (by decide +kernel) (by decide +kernel)⟩, by decide +kernel⟩
theorem mX12_wrongRow : mV yX12_wrongRow cX12_wrongRow 3 (some .int) 2 := ⟨⟨TB_in 949 (by decide +kernel) (by decide +kernel), TB_in 57 (by decide +kernel) (by decide +kernel), TB_in 950 (by decide +kernel) (by decide +kernel)⟩, by decide +kernel⟩
theorem mX12_mountain : mV yX12_mountain cX12_mountain 7 (some .int) 1 := ⟨⟨TB_in 944 (by decide +kernel) (by decide +kernel), TB_in 57 (by decide +kernel) (by decide +kernel), TB_in 946 (by decide +kernel) (by decide +kernel)⟩, by decide +kernel⟩
theorem mX12_cell : mV yX12_cell cX12_cell 3 (some .int) 2 := ⟨⟨TB_in 1017 (by decide +kernel) (by decide +kernel), TB_in 57 (by decide +kernel) (by decide +kernel), TB_in 1019 (by decide +kernel) (by decide +kernel)⟩, by decide +kernel⟩
theorem mX12_wrongKept : mV yX12_wrongKept cX12_wrongKept 2 (some .int) 1 := ⟨⟨TB_in 1040 (by decide +kernel) (by decide +kernel), TB_in 57 (by decide +kernel) (by decide +kernel), TB_in 1041 (by decide +kernel) (by decide +kernel)⟩, by decide +kernel⟩
theorem mX12_lay : mV yX12_lay cX12_lay 5 (some .int) 2 := ⟨⟨TB_in 1035 (by decide +kernel) (by decide +kernel), TB_in 57 (by decide +kernel) (by decide +kernel), TB_in 1037 (by decide +kernel) (by decide +kernel)⟩, by decide +kernel⟩
theorem mX12_gang : mV yX12_gang cX12_gang 3 (some .int) 2 := ⟨⟨TB_in 1043 (by decide +kernel) (by decide +kernel), TB_in 57 (by decide +kernel) (by decide +kernel), TB_in 1045 (by decide +kernel) (by decide +kernel)⟩, by decide +kernel⟩
theorem mX12_dig : mV yX12_dig cX12_dig 4 (some .int) 2 := ⟨⟨TB_in 1047 (by decide +kernel) (by decide +kernel), TB_in 57 (by decide +kernel) (by decide +kernel), TB_in 1049 (by decide +kernel) (by decide +kernel)⟩, by decide +kernel⟩
theorem mX12_met : mV yX12_met cX12_met 1 (some .int) 0 := ⟨⟨TB_in 1052 (by decide +kernel) (by decide +kernel), TB_in 57 (by decide +kernel) (by decide +kernel), TB_in 1054 (by decide +kernel) (by decide +kernel)⟩, by decide +kernel⟩
theorem mX12_time : mV yX12_time cX12_time 3 (some .int) 2 := ⟨⟨TB_in 1060 (by decide +kernel) (by decide +kernel), TB_in 57 (by decide +kernel) (by decide +kernel), TB_in 1062 (by decide +kernel) (by decide +kernel)⟩, by decide +kernel⟩
theorem mX12_loud : mV yX12_loud cX12_loud 4 (some .int) 3 := ⟨⟨TB_in 1077 (by decide +kernel) (by decide +kernel), TB_in 57 (by decide +kernel) (by decide +kernel), TB_in 1079 (by decide +kernel) (by decide +kernel)⟩, by decide +kernel⟩
theorem mX12_paths : mV yX12_paths cX12_paths 3 (some .int) 2 := ⟨⟨TB_in 1082 (by decide +kernel) (by decide +kernel), TB_in 57 (by decide +kernel) (by decide +kernel), TB_in 1084 (by decide +kernel) (by decide +kernel)⟩, by decide +kernel⟩
theorem mX12_reaches : mV yX12_reaches cX12_reaches 5 (some .int) 2 := ⟨⟨TB_in 1090 (by decide +kernel) (by decide +kernel), TB_in 57 (by decide +kernel) (by decide +kernel), TB_in 1092 (by decide +kernel) (by decide +kernel)⟩, by decide +kernel⟩
theorem mX12_told : mV yX12_told cX12_told 3 (some .int) 2 := ⟨⟨TB_in 1099 (by decide +kernel) (by decide +kernel), TB_in 57 (by decide +kernel) (by decide +kernel), TB_in 1100 (by decide +kernel) (by decide +kernel)⟩, by decide +kernel⟩
theorem mX12_isFrom : mV yX12_isFrom cX12_isFrom 4 (some .boolean) 2 := ⟨⟨TB_in 1103 (by decide +kernel) (by decide +kernel), TB_in 57 (by decide +kernel) (by decide +kernel), TB_in 1104 (by decide +kernel) (by decide +kernel)⟩, by decide +kernel⟩
theorem mX12_from : mV yX12_from cX12_from 7 (some .int) 2 := ⟨⟨TB_in 1094 (by decide +kernel) (by decide +kernel), TB_in 57 (by decide +kernel) (by decide +kernel), TB_in 1096 (by decide +kernel) (by decide +kernel)⟩, by decide +kernel⟩
theorem mX12_alikeAt : mV yX12_alikeAt cX12_alikeAt 7 (some .int) 2 := ⟨⟨TB_in 1111 (by decide +kernel) (by decide +kernel), TB_in 57 (by decide +kernel) (by decide +kernel), TB_in 1112 (by decide +kernel) (by decide +kernel)⟩, by decide +kernel⟩
theorem mX12_listen : mV yX12_listen cX12_listen 6 (some .int) 2 := ⟨⟨TB_in 1106 (by decide +kernel) (by decide +kernel), TB_in 57 (by decide +kernel) (by decide +kernel), TB_in 1108 (by decide +kernel) (by decide +kernel)⟩, by decide +kernel⟩
theorem mX12_rocks : mV yX12_rocks cX12_rocks 8 (some .int) 5 := ⟨⟨TB_in 1114 (by decide +kernel) (by decide +kernel), TB_in 57 (by decide +kernel) (by decide +kernel), TB_in 1116 (by decide +kernel) (by decide +kernel)⟩, by decide +kernel⟩
theorem mX12_findsToils : mV yX12_findsToils cX12_findsToils 6 none 1 := ⟨⟨TB_in 1132 (by decide +kernel) (by decide +kernel), TB_in 57 (by decide +kernel) (by decide +kernel), TB_in 1133 (by decide +kernel) (by decide +kernel)⟩, by decide +kernel⟩
theorem mX12_toils : mV yX12_toils cX12_toils 3 (some .int) 0 := ⟨⟨TB_in 1127 (by decide +kernel) (by decide +kernel), TB_in 57 (by decide +kernel) (by decide +kernel), TB_in 1129 (by decide +kernel) (by decide +kernel)⟩, by decide +kernel⟩
theorem mX12_soonNow : mV yX12_soonNow cX12_soonNow 6 (some .int) 0 := ⟨⟨TB_in 1140 (by decide +kernel) (by decide +kernel), TB_in 57 (by decide +kernel) (by decide +kernel), TB_in 1141 (by decide +kernel) (by decide +kernel)⟩, by decide +kernel⟩
theorem mX12_soon : mV yX12_soon cX12_soon 1 (some .int) 0 := ⟨⟨TB_in 1135 (by decide +kernel) (by decide +kernel), TB_in 57 (by decide +kernel) (by decide +kernel), TB_in 1137 (by decide +kernel) (by decide +kernel)⟩, by decide +kernel⟩
theorem mX12_side : mV yX12_side cX12_side 7 (some .int) 2 := ⟨⟨TB_in 1143 (by decide +kernel) (by decide +kernel), TB_in 57 (by decide +kernel) (by decide +kernel), TB_in 1145 (by decide +kernel) (by decide +kernel)⟩, by decide +kernel⟩
theorem mX12_bits : mS yX12_bits cX12_bits 3 (some .int) 1 := ⟨⟨TB_in 1156 (by decide +kernel) (by decide +kernel), TB_in 57 (by decide +kernel) (by decide +kernel), TB_in 1157 (by decide +kernel) (by decide +kernel)⟩, by decide +kernel⟩
theorem mX12_areTaken : mS yX12_areTaken cX12_areTaken 3 (some .boolean) 3 := ⟨⟨TB_in 1153 (by decide +kernel) (by decide +kernel), TB_in 57 (by decide +kernel) (by decide +kernel), TB_in 1154 (by decide +kernel) (by decide +kernel)⟩, by decide +kernel⟩
theorem mX12_taken : mV yX12_taken cX12_taken 4 (some .int) 3 := ⟨⟨TB_in 1147 (by decide +kernel) (by decide +kernel), TB_in 57 (by decide +kernel) (by decide +kernel), TB_in 1149 (by decide +kernel) (by decide +kernel)⟩, by decide +kernel⟩
theorem mX12_isSafe : mV yX12_isSafe cX12_isSafe 6 (some .boolean) 3 := ⟨⟨TB_in 1164 (by decide +kernel) (by decide +kernel), TB_in 57 (by decide +kernel) (by decide +kernel), TB_in 1165 (by decide +kernel) (by decide +kernel)⟩, by decide +kernel⟩
theorem mX12_safe : mV yX12_safe cX12_safe 7 (some .int) 3 := ⟨⟨TB_in 1159 (by decide +kernel) (by decide +kernel), TB_in 57 (by decide +kernel) (by decide +kernel), TB_in 1161 (by decide +kernel) (by decide +kernel)⟩, by decide +kernel⟩
theorem mX12_drawn : mV yX12_drawn cX12_drawn 2 (some .int) 1 := ⟨⟨TB_in 1173 (by decide +kernel) (by decide +kernel), TB_in 57 (by decide +kernel) (by decide +kernel), TB_in 1174 (by decide +kernel) (by decide +kernel)⟩, by decide +kernel⟩
theorem mX12_hours : mV yX12_hours cX12_hours 1 (some .int) 0 := ⟨⟨TB_in 1180 (by decide +kernel) (by decide +kernel), TB_in 57 (by decide +kernel) (by decide +kernel), TB_in 1181 (by decide +kernel) (by decide +kernel)⟩, by decide +kernel⟩
theorem mX12_seeded : mV yX12_seeded cX12_seeded 8 (some .int) 3 := ⟨⟨TB_in 1167 (by decide +kernel) (by decide +kernel), TB_in 57 (by decide +kernel) (by decide +kernel), TB_in 1169 (by decide +kernel) (by decide +kernel)⟩, by decide +kernel⟩
theorem mX12_wrongThree : mV yX12_wrongThree cX12_wrongThree 5 (some .int) 2 := ⟨⟨TB_in 1188 (by decide +kernel) (by decide +kernel), TB_in 57 (by decide +kernel) (by decide +kernel), TB_in 1189 (by decide +kernel) (by decide +kernel)⟩, by decide +kernel⟩
theorem mX12_judge : mV yX12_judge cX12_judge 5 (some .int) 1 := ⟨⟨TB_in 1183 (by decide +kernel) (by decide +kernel), TB_in 57 (by decide +kernel) (by decide +kernel), TB_in 1185 (by decide +kernel) (by decide +kernel)⟩, by decide +kernel⟩
theorem mX12_image : mV yX12_image cX12_image 1 (some .int) 0 := ⟨⟨TB_in 1191 (by decide +kernel) (by decide +kernel), TB_in 57 (by decide +kernel) (by decide +kernel), TB_in 1193 (by decide +kernel) (by decide +kernel)⟩, by decide +kernel⟩
theorem mX12_restore : mV yX12_restore cX12_restore 1 (some .int) 0 := ⟨⟨TB_in 1195 (by decide +kernel) (by decide +kernel), TB_in 57 (by decide +kernel) (by decide +kernel), TB_in 1197 (by decide +kernel) (by decide +kernel)⟩, by decide +kernel⟩
theorem mX12_count : mV yX12_count cX12_count 4 (some .int) 1 := ⟨⟨TB_in 1199 (by decide +kernel) (by decide +kernel), TB_in 57 (by decide +kernel) (by decide +kernel), TB_in 1201 (by decide +kernel) (by decide +kernel)⟩, by decide +kernel⟩
theorem mX12_payBy : mS yX12_payBy cX12_payBy 2 (some .int) 2 := ⟨⟨TB_in 1228 (by decide +kernel) (by decide +kernel), TB_in 57 (by decide +kernel) (by decide +kernel), TB_in 1229 (by decide +kernel) (by decide +kernel)⟩, by decide +kernel⟩
theorem mX12_keep : mV yX12_keep cX12_keep 5 (some .int) 4 := ⟨⟨TB_in 1203 (by decide +kernel) (by decide +kernel), TB_in 57 (by decide +kernel) (by decide +kernel), TB_in 1205 (by decide +kernel) (by decide +kernel)⟩, by decide +kernel⟩
theorem mX12_row : mV yX12_row cX12_row 5 (some .int) 3 := ⟨⟨TB_in 1207 (by decide +kernel) (by decide +kernel), TB_in 57 (by decide +kernel) (by decide +kernel), TB_in 1209 (by decide +kernel) (by decide +kernel)⟩, by decide +kernel⟩
theorem mX12_put : mV yX12_put cX12_put 5 (some .int) 3 := ⟨⟨TB_in 1212 (by decide +kernel) (by decide +kernel), TB_in 57 (by decide +kernel) (by decide +kernel), TB_in 1214 (by decide +kernel) (by decide +kernel)⟩, by decide +kernel⟩
theorem mX12_element : mV yX12_element cX12_element 3 (some .long) 2 := ⟨⟨TB_in 1216 (by decide +kernel) (by decide +kernel), TB_in 57 (by decide +kernel) (by decide +kernel), TB_in 1218 (by decide +kernel) (by decide +kernel)⟩, by decide +kernel⟩
theorem mX12_copy : mV yX12_copy cX12_copy 8 (some .int) 5 := ⟨⟨TB_in 1220 (by decide +kernel) (by decide +kernel), TB_in 57 (by decide +kernel) (by decide +kernel), TB_in 1222 (by decide +kernel) (by decide +kernel)⟩, by decide +kernel⟩
theorem mX12_pay : mV yX12_pay cX12_pay 3 (some .int) 1 := ⟨⟨TB_in 1224 (by decide +kernel) (by decide +kernel), TB_in 57 (by decide +kernel) (by decide +kernel), TB_in 1226 (by decide +kernel) (by decide +kernel)⟩, by decide +kernel⟩
theorem mX12_toss : mV yX12_toss cX12_toss 5 (some .int) 1 := ⟨⟨TB_in 1231 (by decide +kernel) (by decide +kernel), TB_in 57 (by decide +kernel) (by decide +kernel), TB_in 1233 (by decide +kernel) (by decide +kernel)⟩, by decide +kernel⟩
theorem mJ6_bitCount_0f7a4 : mS yJ6_bitCount_0f7a4 cJ6_bitCount_0f7a4 1 (some .int) 1 := ⟨⟨TB_in 601 (by decide +kernel) (by decide +kernel), TB_in 65 (by decide +kernel) (by decide +kernel), TB_in 602 (by decide +kernel) (by decide +kernel)⟩, by decide +kernel⟩
theorem mJ9_max_7cf53 : mS yJ9_max_7cf53 cJ9_max_7cf53 2 (some .int) 2 := ⟨⟨TB_in 462 (by decide +kernel) (by decide +kernel), TB_in 63 (by decide +kernel) (by decide +kernel), TB_in 463 (by decide +kernel) (by decide +kernel)⟩, by decide +kernel⟩
theorem mJ9_min_7cf53 : mS yJ9_min_7cf53 cJ9_min_7cf53 2 (some .int) 2 := ⟨⟨TB_in 520 (by decide +kernel) (by decide +kernel), TB_in 63 (by decide +kernel) (by decide +kernel), TB_in 521 (by decide +kernel) (by decide +kernel)⟩, by decide +kernel⟩
theorem selX11_X11_rowOn__X11_rowOn_ : Cond.selects RX11 yX11_rowOn_ yX11_rowOn_ ∈ TB := TB_in 0 (by decide +kernel) (by decide +kernel)
theorem selX11_X11_rowOn_X11_rowOn : Cond.selects RX11 yX11_rowOn yX11_rowOn ∈ TB := TB_in 1 (by decide +kernel) (by decide +kernel)
theorem selX11_X11_whyNot_X11_whyNot : Cond.selects RX11 yX11_whyNot yX11_whyNot ∈ TB := TB_in 2 (by decide +kernel) (by decide +kernel)
theorem selX11_X11_obeyAll_X11_obeyAll : Cond.selects RX11 yX11_obeyAll yX11_obeyAll ∈ TB := TB_in 3 (by decide +kernel) (by decide +kernel)
theorem selX11_X11_obey_X11_obey : Cond.selects RX11 yX11_obey yX11_obey ∈ TB := TB_in 4 (by decide +kernel) (by decide +kernel)
theorem selX11_X11_obeyKind_X11_obeyKind : Cond.selects RX11 yX11_obeyKind yX11_obeyKind ∈ TB := TB_in 5 (by decide +kernel) (by decide +kernel)
theorem selX11_X11_obeyGang_X11_obeyGang : Cond.selects RX11 yX11_obeyGang yX11_obeyGang ∈ TB := TB_in 6 (by decide +kernel) (by decide +kernel)
theorem selX11_X11_rockOn_X11_rockOn : Cond.selects RX11 yX11_rockOn yX11_rockOn ∈ TB := TB_in 7 (by decide +kernel) (by decide +kernel)
theorem selX11_X11_knockFrom_X11_knockFrom : Cond.selects RX11 yX11_knockFrom yX11_knockFrom ∈ TB := TB_in 8 (by decide +kernel) (by decide +kernel)
theorem selX10_X10_nearest_X10_nearest : Cond.selects RX10 yX10_nearest yX10_nearest ∈ TB := TB_in 9 (by decide +kernel) (by decide +kernel)
theorem selX10_X10_enter_X10_enter : Cond.selects RX10 yX10_enter yX10_enter ∈ TB := TB_in 10 (by decide +kernel) (by decide +kernel)
theorem selX11_X11_mayHaveKnocked_X11_mayHaveKnocked : Cond.selects RX11 yX11_mayHaveKnocked yX11_mayHaveKnocked ∈ TB := TB_in 11 (by decide +kernel) (by decide +kernel)
theorem selX11_X11_hourOfKnock_X11_hourOfKnock : Cond.selects RX11 yX11_hourOfKnock yX11_hourOfKnock ∈ TB := TB_in 12 (by decide +kernel) (by decide +kernel)
theorem selX11_X11_takeTimes_X11_takeTimes : Cond.selects RX11 yX11_takeTimes yX11_takeTimes ∈ TB := TB_in 13 (by decide +kernel) (by decide +kernel)
theorem selX11_X11_mostAlike_X11_mostAlike : Cond.selects RX11 yX11_mostAlike yX11_mostAlike ∈ TB := TB_in 14 (by decide +kernel) (by decide +kernel)
theorem selX11_X11_soonIn_X11_soonIn : Cond.selects RX11 yX11_soonIn yX11_soonIn ∈ TB := TB_in 15 (by decide +kernel) (by decide +kernel)
theorem selX11_X11_findClashes_X11_findClashes : Cond.selects RX11 yX11_findClashes yX11_findClashes ∈ TB := TB_in 16 (by decide +kernel) (by decide +kernel)
theorem selX11_X11_isWithoutClash_X11_isWithoutClash : Cond.selects RX11 yX11_isWithoutClash yX11_isWithoutClash ∈ TB := TB_in 17 (by decide +kernel) (by decide +kernel)
theorem selX12_X12_wrongRow_X12_wrongRow : Cond.selects RX12 yX12_wrongRow yX12_wrongRow ∈ TB := TB_in 19 (by decide +kernel) (by decide +kernel)
theorem selX12_X12_readsStatement_X12_readsStatement : Cond.selects RX12 yX12_readsStatement yX12_readsStatement ∈ TB := TB_in 20 (by decide +kernel) (by decide +kernel)
theorem selX12_X12_here_X12_here : Cond.selects RX12 yX12_here yX12_here ∈ TB := TB_in 21 (by decide +kernel) (by decide +kernel)
theorem selX12_X12_readsDigits_X12_readsDigits : Cond.selects RX12 yX12_readsDigits yX12_readsDigits ∈ TB := TB_in 22 (by decide +kernel) (by decide +kernel)
theorem selX12_X12_comesTold_X12_comesTold : Cond.selects RX12 yX12_comesTold yX12_comesTold ∈ TB := TB_in 23 (by decide +kernel) (by decide +kernel)
theorem selX12_X12_setCell_X12_setCell : Cond.selects RX12 yX12_setCell yX12_setCell ∈ TB := TB_in 24 (by decide +kernel) (by decide +kernel)
theorem selX12_X12_digs_X12_digs : Cond.selects RX12 yX12_digs yX12_digs ∈ TB := TB_in 25 (by decide +kernel) (by decide +kernel)
theorem selX12_X12_gangCell_X12_gangCell : Cond.selects RX12 yX12_gangCell yX12_gangCell ∈ TB := TB_in 26 (by decide +kernel) (by decide +kernel)
theorem selX12_X12_toil_X12_toil : Cond.selects RX12 yX12_toil yX12_toil ∈ TB := TB_in 27 (by decide +kernel) (by decide +kernel)
theorem selX12_X12_kind_X12_kind : Cond.selects RX12 yX12_kind yX12_kind ∈ TB := TB_in 28 (by decide +kernel) (by decide +kernel)
theorem selX12_X12_figure_X12_figure : Cond.selects RX12 yX12_figure yX12_figure ∈ TB := TB_in 29 (by decide +kernel) (by decide +kernel)
theorem selX12_X12_slow_X12_slow : Cond.selects RX12 yX12_slow yX12_slow ∈ TB := TB_in 30 (by decide +kernel) (by decide +kernel)
theorem selX12_X12_loss_X12_loss : Cond.selects RX12 yX12_loss yX12_loss ∈ TB := TB_in 31 (by decide +kernel) (by decide +kernel)
theorem selX12_X12_wrongKept_X12_wrongKept : Cond.selects RX12 yX12_wrongKept yX12_wrongKept ∈ TB := TB_in 32 (by decide +kernel) (by decide +kernel)
theorem selX12_X12_haveMet_X12_haveMet : Cond.selects RX12 yX12_haveMet yX12_haveMet ∈ TB := TB_in 33 (by decide +kernel) (by decide +kernel)
theorem selX12_X12_timeOf_X12_timeOf : Cond.selects RX12 yX12_timeOf yX12_timeOf ∈ TB := TB_in 34 (by decide +kernel) (by decide +kernel)
theorem selX12_X12_finds_X12_finds : Cond.selects RX12 yX12_finds yX12_finds ∈ TB := TB_in 35 (by decide +kernel) (by decide +kernel)
theorem selX12_X12_isBetter_X12_isBetter : Cond.selects RX12 yX12_isBetter yX12_isBetter ∈ TB := TB_in 36 (by decide +kernel) (by decide +kernel)
theorem selX12_X12_countsWays_X12_countsWays : Cond.selects RX12 yX12_countsWays yX12_countsWays ∈ TB := TB_in 37 (by decide +kernel) (by decide +kernel)
theorem selX12_X12_told_X12_told : Cond.selects RX12 yX12_told yX12_told ∈ TB := TB_in 38 (by decide +kernel) (by decide +kernel)
theorem selX12_X12_isFrom_X12_isFrom : Cond.selects RX12 yX12_isFrom yX12_isFrom ∈ TB := TB_in 39 (by decide +kernel) (by decide +kernel)
theorem selX12_X12_alikeAt_X12_alikeAt : Cond.selects RX12 yX12_alikeAt yX12_alikeAt ∈ TB := TB_in 40 (by decide +kernel) (by decide +kernel)
theorem selX12_X12_begins_X12_begins : Cond.selects RX12 yX12_begins yX12_begins ∈ TB := TB_in 41 (by decide +kernel) (by decide +kernel)
theorem selX12_X12_ends_X12_ends : Cond.selects RX12 yX12_ends yX12_ends ∈ TB := TB_in 42 (by decide +kernel) (by decide +kernel)
theorem selX12_X12_findsToils_X12_findsToils : Cond.selects RX12 yX12_findsToils yX12_findsToils ∈ TB := TB_in 43 (by decide +kernel) (by decide +kernel)
theorem selX12_X12_soonNow_X12_soonNow : Cond.selects RX12 yX12_soonNow yX12_soonNow ∈ TB := TB_in 44 (by decide +kernel) (by decide +kernel)
theorem selX12_X12_isSafe_X12_isSafe : Cond.selects RX12 yX12_isSafe yX12_isSafe ∈ TB := TB_in 45 (by decide +kernel) (by decide +kernel)
theorem selX12_X12_drawn_X12_drawn : Cond.selects RX12 yX12_drawn yX12_drawn ∈ TB := TB_in 46 (by decide +kernel) (by decide +kernel)
theorem selX12_X12_hours_X12_hours : Cond.selects RX12 yX12_hours yX12_hours ∈ TB := TB_in 47 (by decide +kernel) (by decide +kernel)
theorem selX12_X12_wrongThree_X12_wrongThree : Cond.selects RX12 yX12_wrongThree yX12_wrongThree ∈ TB := TB_in 48 (by decide +kernel) (by decide +kernel)
theorem iniL : Cond.initialized "KnocksThroughRockLaw" ∈ TB := TB_in 49 (by decide +kernel) (by decide +kernel)
theorem iniX11 : Cond.initialized "KnocksThroughRock" ∈ TB := TB_in 50 (by decide +kernel) (by decide +kernel)
theorem iniX5 : Cond.initialized "KnocksThroughRock$Mountain" ∈ TB := TB_in 51 (by decide +kernel) (by decide +kernel)
theorem iniX6 : Cond.initialized "KnocksThroughRock$Rock" ∈ TB := TB_in 52 (by decide +kernel) (by decide +kernel)
theorem iniX4 : Cond.initialized "KnocksThroughRock$Hollow" ∈ TB := TB_in 53 (by decide +kernel) (by decide +kernel)
theorem iniX1 : Cond.initialized "KnocksThroughRock$Dug" ∈ TB := TB_in 54 (by decide +kernel) (by decide +kernel)
theorem iniX10 : Cond.initialized "KnocksThroughRock$Ways" ∈ TB := TB_in 55 (by decide +kernel) (by decide +kernel)
theorem iniX7 : Cond.initialized "KnocksThroughRock$Shelf" ∈ TB := TB_in 56 (by decide +kernel) (by decide +kernel)
theorem iniX12 : Cond.initialized "KnocksThroughRockModel" ∈ TB := TB_in 57 (by decide +kernel) (by decide +kernel)
theorem iniX3 : Cond.initialized "KnocksThroughRock$Granite" ∈ TB := TB_in 58 (by decide +kernel) (by decide +kernel)
theorem iniX0 : Cond.initialized "KnocksThroughRock$Clay" ∈ TB := TB_in 59 (by decide +kernel) (by decide +kernel)
theorem iniX9 : Cond.initialized "KnocksThroughRock$Water" ∈ TB := TB_in 60 (by decide +kernel) (by decide +kernel)
theorem iniX8 : Cond.initialized "KnocksThroughRock$Vein" ∈ TB := TB_in 61 (by decide +kernel) (by decide +kernel)
theorem iniX2 : Cond.initialized "KnocksThroughRock$Fault" ∈ TB := TB_in 62 (by decide +kernel) (by decide +kernel)
theorem iniJ9 : Cond.initialized "java/lang/Math" ∈ TB := TB_in 63 (by decide +kernel) (by decide +kernel)
theorem iniJ10 : Cond.initialized "java/lang/System" ∈ TB := TB_in 64 (by decide +kernel) (by decide +kernel)
theorem iniJ6 : Cond.initialized "java/lang/Integer" ∈ TB := TB_in 65 (by decide +kernel) (by decide +kernel)
theorem clL_8 : Cond.classLink "KnocksThroughRockLaw" 8 "KnocksThroughRock" ∈ TB := TB_in 72 (by decide +kernel) (by decide +kernel)
theorem insX11 : Cond.instantiable "KnocksThroughRock" 9 ∈ TB := TB_in 73 (by decide +kernel) (by decide +kernel)
theorem mlL_17 : Cond.methodLink RL 17 yX11_init ∈ TB := TB_in 74 (by decide +kernel) (by decide +kernel)
theorem clX11_9 : Cond.classLink "KnocksThroughRock" 9 "KnocksThroughRock$Mountain" ∈ TB := TB_in 80 (by decide +kernel) (by decide +kernel)
theorem insX5 : Cond.instantiable "KnocksThroughRock$Mountain" 4 ∈ TB := TB_in 81 (by decide +kernel) (by decide +kernel)
theorem mlX11_11 : Cond.methodLink RX11 11 yX5_init ∈ TB := TB_in 82 (by decide +kernel) (by decide +kernel)
theorem clX5_9 : Cond.classLink "KnocksThroughRock$Mountain" 9 "KnocksThroughRock$Rock" ∈ TB := TB_in 86 (by decide +kernel) (by decide +kernel)
theorem clX5_24 : Cond.classLink "KnocksThroughRock$Mountain" 24 "KnocksThroughRock$Dug" ∈ TB := TB_in 88 (by decide +kernel) (by decide +kernel)
theorem insX1 : Cond.instantiable "KnocksThroughRock$Dug" 1 ∈ TB := TB_in 89 (by decide +kernel) (by decide +kernel)
theorem mlX5_26 : Cond.methodLink RX5 26 yX1_init ∈ TB := TB_in 90 (by decide +kernel) (by decide +kernel)
theorem mlX1_3 : Cond.methodLink RX1 3 yX4_init ∈ TB := TB_in 93 (by decide +kernel) (by decide +kernel)
theorem mlX4_3 : Cond.methodLink RX4 3 yX6_init ∈ TB := TB_in 96 (by decide +kernel) (by decide +kernel)
theorem flX6_9 : Cond.fieldLink RX6 9 "KnocksThroughRock$Rock" "figure" "I" ∈ TB := TB_in 100 (by decide +kernel) (by decide +kernel)
theorem flX0_13 : Cond.fieldLink RX0 13 "KnocksThroughRock$Clay" "figure" "I" ∈ TB := TB_in 101 (by decide +kernel) (by decide +kernel)
theorem sfX0_figure : Cond.sameField "KnocksThroughRock$Clay" "KnocksThroughRock$Rock" "figure" "I" ∈ TB := TB_in 102 (by decide +kernel) (by decide +kernel)
theorem flX11_83 : Cond.fieldLink RX11 83 "KnocksThroughRock$Rock" "figure" "I" ∈ TB := TB_in 103 (by decide +kernel) (by decide +kernel)
theorem flX2_16 : Cond.fieldLink RX2 16 "KnocksThroughRock$Fault" "figure" "I" ∈ TB := TB_in 104 (by decide +kernel) (by decide +kernel)
theorem sfX2_figure : Cond.sameField "KnocksThroughRock$Fault" "KnocksThroughRock$Rock" "figure" "I" ∈ TB := TB_in 105 (by decide +kernel) (by decide +kernel)
theorem flX9_16 : Cond.fieldLink RX9 16 "KnocksThroughRock$Water" "figure" "I" ∈ TB := TB_in 106 (by decide +kernel) (by decide +kernel)
theorem sfX9_figure : Cond.sameField "KnocksThroughRock$Water" "KnocksThroughRock$Rock" "figure" "I" ∈ TB := TB_in 107 (by decide +kernel) (by decide +kernel)
theorem flX8_16 : Cond.fieldLink RX8 16 "KnocksThroughRock$Vein" "figure" "I" ∈ TB := TB_in 108 (by decide +kernel) (by decide +kernel)
theorem sfX8_figure : Cond.sameField "KnocksThroughRock$Vein" "KnocksThroughRock$Rock" "figure" "I" ∈ TB := TB_in 109 (by decide +kernel) (by decide +kernel)
theorem flX1_16 : Cond.fieldLink RX1 16 "KnocksThroughRock$Dug" "figure" "I" ∈ TB := TB_in 110 (by decide +kernel) (by decide +kernel)
theorem sfX1_figure : Cond.sameField "KnocksThroughRock$Dug" "KnocksThroughRock$Rock" "figure" "I" ∈ TB := TB_in 111 (by decide +kernel) (by decide +kernel)
theorem flX3_22 : Cond.fieldLink RX3 22 "KnocksThroughRock$Granite" "figure" "I" ∈ TB := TB_in 112 (by decide +kernel) (by decide +kernel)
theorem sfX3_figure : Cond.sameField "KnocksThroughRock$Granite" "KnocksThroughRock$Rock" "figure" "I" ∈ TB := TB_in 113 (by decide +kernel) (by decide +kernel)
theorem suX1_X4 : Cond.superclass "KnocksThroughRock$Dug" "KnocksThroughRock$Hollow" ∈ TB := TB_in 116 (by decide +kernel) (by decide +kernel)
theorem ac_int : Cond.arrayClass (newarray.typeOf .int) ∈ TB := TB_in 117 (by decide +kernel) (by decide +kernel)
theorem insX6 : Cond.instantiable "KnocksThroughRock$Rock" 1 ∈ TB := TB_in 118 (by decide +kernel) (by decide +kernel)
theorem mlX5_33 : Cond.methodLink RX5 33 yX6_init ∈ TB := TB_in 119 (by decide +kernel) (by decide +kernel)
theorem flX5_11 : Cond.fieldLink RX5 11 "KnocksThroughRock$Mountain" "cells" "[LKnocksThroughRock$Rock;" ∈ TB := TB_in 122 (by decide +kernel) (by decide +kernel)
theorem flX10_31 : Cond.fieldLink RX10 31 "KnocksThroughRock$Mountain" "cells" "[LKnocksThroughRock$Rock;" ∈ TB := TB_in 123 (by decide +kernel) (by decide +kernel)
theorem flX11_73 : Cond.fieldLink RX11 73 "KnocksThroughRock$Mountain" "cells" "[LKnocksThroughRock$Rock;" ∈ TB := TB_in 124 (by decide +kernel) (by decide +kernel)
theorem flX5_17 : Cond.fieldLink RX5 17 "KnocksThroughRock$Mountain" "places" "[I" ∈ TB := TB_in 125 (by decide +kernel) (by decide +kernel)
theorem flX11_100 : Cond.fieldLink RX11 100 "KnocksThroughRock$Mountain" "places" "[I" ∈ TB := TB_in 126 (by decide +kernel) (by decide +kernel)
theorem flX5_21 : Cond.fieldLink RX5 21 "KnocksThroughRock$Mountain" "hours" "[I" ∈ TB := TB_in 127 (by decide +kernel) (by decide +kernel)
theorem flX11_103 : Cond.fieldLink RX11 103 "KnocksThroughRock$Mountain" "hours" "[I" ∈ TB := TB_in 128 (by decide +kernel) (by decide +kernel)
theorem flX5_29 : Cond.fieldLink RX5 29 "KnocksThroughRock$Mountain" "dug" "LKnocksThroughRock$Rock;" ∈ TB := TB_in 129 (by decide +kernel) (by decide +kernel)
theorem clX11_26 : Cond.classLink "KnocksThroughRock" 26 "KnocksThroughRock$Shelf" ∈ TB := TB_in 139 (by decide +kernel) (by decide +kernel)
theorem clX11_32 : Cond.classLink "KnocksThroughRock" 32 "KnocksThroughRock$Ways" ∈ TB := TB_in 141 (by decide +kernel) (by decide +kernel)
theorem insX10 : Cond.instantiable "KnocksThroughRock$Ways" 6 ∈ TB := TB_in 142 (by decide +kernel) (by decide +kernel)
theorem flX10_9 : Cond.fieldLink RX10 9 "KnocksThroughRock$Ways" "cost" "[I" ∈ TB := TB_in 147 (by decide +kernel) (by decide +kernel)
theorem flX11_164 : Cond.fieldLink RX11 164 "KnocksThroughRock$Ways" "cost" "[I" ∈ TB := TB_in 148 (by decide +kernel) (by decide +kernel)
theorem flX10_15 : Cond.fieldLink RX10 15 "KnocksThroughRock$Ways" "least" "[I" ∈ TB := TB_in 149 (by decide +kernel) (by decide +kernel)
theorem flX11_118 : Cond.fieldLink RX11 118 "KnocksThroughRock$Ways" "least" "[I" ∈ TB := TB_in 150 (by decide +kernel) (by decide +kernel)
theorem flX10_18 : Cond.fieldLink RX10 18 "KnocksThroughRock$Ways" "lost" "[I" ∈ TB := TB_in 151 (by decide +kernel) (by decide +kernel)
theorem flX11_121 : Cond.fieldLink RX11 121 "KnocksThroughRock$Ways" "lost" "[I" ∈ TB := TB_in 152 (by decide +kernel) (by decide +kernel)
theorem flX10_21 : Cond.fieldLink RX10 21 "KnocksThroughRock$Ways" "number" "[I" ∈ TB := TB_in 153 (by decide +kernel) (by decide +kernel)
theorem flX11_129 : Cond.fieldLink RX11 129 "KnocksThroughRock$Ways" "number" "[I" ∈ TB := TB_in 154 (by decide +kernel) (by decide +kernel)
theorem flX10_24 : Cond.fieldLink RX10 24 "KnocksThroughRock$Ways" "loss" "[I" ∈ TB := TB_in 155 (by decide +kernel) (by decide +kernel)
theorem flX10_27 : Cond.fieldLink RX10 27 "KnocksThroughRock$Ways" "isSettled" "[Z" ∈ TB := TB_in 156 (by decide +kernel) (by decide +kernel)
theorem ac_boolean : Cond.arrayClass (newarray.typeOf .boolean) ∈ TB := TB_in 170 (by decide +kernel) (by decide +kernel)
theorem insX7 : Cond.instantiable "KnocksThroughRock$Shelf" 4 ∈ TB := TB_in 171 (by decide +kernel) (by decide +kernel)
theorem flX7_9 : Cond.fieldLink RX7 9 "KnocksThroughRock$Shelf" "rock" "LKnocksThroughRock$Rock;" ∈ TB := TB_in 176 (by decide +kernel) (by decide +kernel)
theorem flX11_280 : Cond.fieldLink RX11 280 "KnocksThroughRock$Shelf" "rock" "LKnocksThroughRock$Rock;" ∈ TB := TB_in 177 (by decide +kernel) (by decide +kernel)
theorem flX7_15 : Cond.fieldLink RX7 15 "KnocksThroughRock$Shelf" "sort" "I" ∈ TB := TB_in 178 (by decide +kernel) (by decide +kernel)
theorem flX11_234 : Cond.fieldLink RX11 234 "KnocksThroughRock$Shelf" "sort" "I" ∈ TB := TB_in 179 (by decide +kernel) (by decide +kernel)
theorem flX7_19 : Cond.fieldLink RX7 19 "KnocksThroughRock$Shelf" "size" "I" ∈ TB := TB_in 180 (by decide +kernel) (by decide +kernel)
theorem flX11_132 : Cond.fieldLink RX11 132 "KnocksThroughRock$Shelf" "size" "I" ∈ TB := TB_in 181 (by decide +kernel) (by decide +kernel)
theorem flX7_22 : Cond.fieldLink RX7 22 "KnocksThroughRock$Shelf" "elements" "[I" ∈ TB := TB_in 182 (by decide +kernel) (by decide +kernel)
theorem flX11_240 : Cond.fieldLink RX11 240 "KnocksThroughRock$Shelf" "elements" "[I" ∈ TB := TB_in 183 (by decide +kernel) (by decide +kernel)
theorem flX11_12 : Cond.fieldLink RX11 12 "KnocksThroughRock" "now" "LKnocksThroughRock$Mountain;" ∈ TB := TB_in 193 (by decide +kernel) (by decide +kernel)
theorem flX11_16 : Cond.fieldLink RX11 16 "KnocksThroughRock" "mind" "LKnocksThroughRock$Mountain;" ∈ TB := TB_in 194 (by decide +kernel) (by decide +kernel)
theorem flX11_19 : Cond.fieldLink RX11 19 "KnocksThroughRock" "kept" "LKnocksThroughRock$Mountain;" ∈ TB := TB_in 195 (by decide +kernel) (by decide +kernel)
theorem flX11_22 : Cond.fieldLink RX11 22 "KnocksThroughRock" "isKept" "Z" ∈ TB := TB_in 196 (by decide +kernel) (by decide +kernel)
theorem flX11_28 : Cond.fieldLink RX11 28 "KnocksThroughRock" "shelves" "[LKnocksThroughRock$Shelf;" ∈ TB := TB_in 197 (by decide +kernel) (by decide +kernel)
theorem flX11_35 : Cond.fieldLink RX11 35 "KnocksThroughRock" "ways" "LKnocksThroughRock$Ways;" ∈ TB := TB_in 198 (by decide +kernel) (by decide +kernel)
theorem flX11_39 : Cond.fieldLink RX11 39 "KnocksThroughRock" "otherWays" "LKnocksThroughRock$Ways;" ∈ TB := TB_in 199 (by decide +kernel) (by decide +kernel)
theorem flX11_42 : Cond.fieldLink RX11 42 "KnocksThroughRock" "times" "[I" ∈ TB := TB_in 200 (by decide +kernel) (by decide +kernel)
theorem flX11_46 : Cond.fieldLink RX11 46 "KnocksThroughRock" "clashes" "[I" ∈ TB := TB_in 201 (by decide +kernel) (by decide +kernel)
theorem mlL_21 : Cond.methodLink RL 21 yX11_mountain ∈ TB := TB_in 221 (by decide +kernel) (by decide +kernel)
theorem selX11_X11_mountain_X11_mountain : Cond.selects RX11 yX11_mountain yX11_mountain ∈ TB := TB_in 223 (by decide +kernel) (by decide +kernel)
theorem mlX11_50 : Cond.methodLink RX11 50 yX11_rowOn_ ∈ TB := TB_in 225 (by decide +kernel) (by decide +kernel)
theorem mlX11_197 : Cond.methodLink RX11 197 yX11_rowOn ∈ TB := TB_in 229 (by decide +kernel) (by decide +kernel)
theorem mlX11_69 : Cond.methodLink RX11 69 yX11_isBelow ∈ TB := TB_in 233 (by decide +kernel) (by decide +kernel)
theorem mlX11_54 : Cond.methodLink RX11 54 yX11_whyNot ∈ TB := TB_in 236 (by decide +kernel) (by decide +kernel)
theorem mlX11_231 : Cond.methodLink RX11 231 yX7_isEmpty ∈ TB := TB_in 240 (by decide +kernel) (by decide +kernel)
theorem selX7_X7_isEmpty_X7_isEmpty : Cond.selects RX7 yX7_isEmpty yX7_isEmpty ∈ TB := TB_in 242 (by decide +kernel) (by decide +kernel)
theorem mlX11_58 : Cond.methodLink RX11 58 yX11_strayByte ∈ TB := TB_in 244 (by decide +kernel) (by decide +kernel)
theorem mlX11_200 : Cond.methodLink RX11 200 yX7_at ∈ TB := TB_in 247 (by decide +kernel) (by decide +kernel)
theorem selX7_X7_at_X7_at : Cond.selects RX7 yX7_at yX7_at ∈ TB := TB_in 249 (by decide +kernel) (by decide +kernel)
theorem mlX11_284 : Cond.methodLink RX11 284 yX11_digitsBehind ∈ TB := TB_in 252 (by decide +kernel) (by decide +kernel)
theorem mlX11_287 : Cond.methodLink RX11 287 yX7_digit ∈ TB := TB_in 255 (by decide +kernel) (by decide +kernel)
theorem selX7_X7_digit_X7_digit : Cond.selects RX7 yX7_digit yX7_digit ∈ TB := TB_in 257 (by decide +kernel) (by decide +kernel)
theorem mlX7_33 : Cond.methodLink RX7 33 yX7_at ∈ TB := TB_in 259 (by decide +kernel) (by decide +kernel)
theorem mlX11_62 : Cond.methodLink RX11 62 yX5_become ∈ TB := TB_in 260 (by decide +kernel) (by decide +kernel)
theorem selX5_X5_become_X5_become : Cond.selects RX5 yX5_become yX5_become ∈ TB := TB_in 262 (by decide +kernel) (by decide +kernel)
theorem mlX11_66 : Cond.methodLink RX11 66 yX11_obeyAll ∈ TB := TB_in 264 (by decide +kernel) (by decide +kernel)
theorem mlX11_290 : Cond.methodLink RX11 290 yX11_obey ∈ TB := TB_in 268 (by decide +kernel) (by decide +kernel)
theorem mlX11_293 : Cond.methodLink RX11 293 yX11_obeyKind ∈ TB := TB_in 272 (by decide +kernel) (by decide +kernel)
theorem mlX11_157 : Cond.methodLink RX11 157 yX11_rockOf ∈ TB := TB_in 276 (by decide +kernel) (by decide +kernel)
theorem clX11_257 : Cond.classLink "KnocksThroughRock" 257 "KnocksThroughRock$Granite" ∈ TB := TB_in 279 (by decide +kernel) (by decide +kernel)
theorem insX3 : Cond.instantiable "KnocksThroughRock$Granite" 1 ∈ TB := TB_in 280 (by decide +kernel) (by decide +kernel)
theorem mlX11_259 : Cond.methodLink RX11 259 yX3_init ∈ TB := TB_in 281 (by decide +kernel) (by decide +kernel)
theorem mlX3_3 : Cond.methodLink RX3 3 yX6_init ∈ TB := TB_in 284 (by decide +kernel) (by decide +kernel)
theorem suX3_X6 : Cond.superclass "KnocksThroughRock$Granite" "KnocksThroughRock$Rock" ∈ TB := TB_in 286 (by decide +kernel) (by decide +kernel)
theorem clX11_261 : Cond.classLink "KnocksThroughRock" 261 "KnocksThroughRock$Clay" ∈ TB := TB_in 287 (by decide +kernel) (by decide +kernel)
theorem insX0 : Cond.instantiable "KnocksThroughRock$Clay" 1 ∈ TB := TB_in 288 (by decide +kernel) (by decide +kernel)
theorem mlX11_263 : Cond.methodLink RX11 263 yX0_init ∈ TB := TB_in 289 (by decide +kernel) (by decide +kernel)
theorem mlX0_3 : Cond.methodLink RX0 3 yX6_init ∈ TB := TB_in 292 (by decide +kernel) (by decide +kernel)
theorem suX0_X6 : Cond.superclass "KnocksThroughRock$Clay" "KnocksThroughRock$Rock" ∈ TB := TB_in 294 (by decide +kernel) (by decide +kernel)
theorem clX11_264 : Cond.classLink "KnocksThroughRock" 264 "KnocksThroughRock$Water" ∈ TB := TB_in 295 (by decide +kernel) (by decide +kernel)
theorem insX9 : Cond.instantiable "KnocksThroughRock$Water" 1 ∈ TB := TB_in 296 (by decide +kernel) (by decide +kernel)
theorem mlX11_266 : Cond.methodLink RX11 266 yX9_init ∈ TB := TB_in 297 (by decide +kernel) (by decide +kernel)
theorem mlX9_3 : Cond.methodLink RX9 3 yX0_init ∈ TB := TB_in 300 (by decide +kernel) (by decide +kernel)
theorem suX9_X0 : Cond.superclass "KnocksThroughRock$Water" "KnocksThroughRock$Clay" ∈ TB := TB_in 302 (by decide +kernel) (by decide +kernel)
theorem clX11_267 : Cond.classLink "KnocksThroughRock" 267 "KnocksThroughRock$Vein" ∈ TB := TB_in 303 (by decide +kernel) (by decide +kernel)
theorem insX8 : Cond.instantiable "KnocksThroughRock$Vein" 1 ∈ TB := TB_in 304 (by decide +kernel) (by decide +kernel)
theorem mlX11_269 : Cond.methodLink RX11 269 yX8_init ∈ TB := TB_in 305 (by decide +kernel) (by decide +kernel)
theorem mlX8_3 : Cond.methodLink RX8 3 yX3_init ∈ TB := TB_in 308 (by decide +kernel) (by decide +kernel)
theorem suX8_X3 : Cond.superclass "KnocksThroughRock$Vein" "KnocksThroughRock$Granite" ∈ TB := TB_in 310 (by decide +kernel) (by decide +kernel)
theorem clX11_270 : Cond.classLink "KnocksThroughRock" 270 "KnocksThroughRock$Hollow" ∈ TB := TB_in 311 (by decide +kernel) (by decide +kernel)
theorem insX4 : Cond.instantiable "KnocksThroughRock$Hollow" 1 ∈ TB := TB_in 312 (by decide +kernel) (by decide +kernel)
theorem mlX11_272 : Cond.methodLink RX11 272 yX4_init ∈ TB := TB_in 313 (by decide +kernel) (by decide +kernel)
theorem suX4_X6 : Cond.superclass "KnocksThroughRock$Hollow" "KnocksThroughRock$Rock" ∈ TB := TB_in 315 (by decide +kernel) (by decide +kernel)
theorem clX11_273 : Cond.classLink "KnocksThroughRock" 273 "KnocksThroughRock$Fault" ∈ TB := TB_in 316 (by decide +kernel) (by decide +kernel)
theorem insX2 : Cond.instantiable "KnocksThroughRock$Fault" 1 ∈ TB := TB_in 317 (by decide +kernel) (by decide +kernel)
theorem mlX11_275 : Cond.methodLink RX11 275 yX2_init ∈ TB := TB_in 318 (by decide +kernel) (by decide +kernel)
theorem mlX2_3 : Cond.methodLink RX2 3 yX0_init ∈ TB := TB_in 321 (by decide +kernel) (by decide +kernel)
theorem suX2_X0 : Cond.superclass "KnocksThroughRock$Fault" "KnocksThroughRock$Clay" ∈ TB := TB_in 323 (by decide +kernel) (by decide +kernel)
theorem clX11_276 : Cond.classLink "KnocksThroughRock" 276 "KnocksThroughRock$Dug" ∈ TB := TB_in 324 (by decide +kernel) (by decide +kernel)
theorem mlX11_278 : Cond.methodLink RX11 278 yX1_init ∈ TB := TB_in 325 (by decide +kernel) (by decide +kernel)
theorem clX11_78 : Cond.classLink "KnocksThroughRock" 78 "KnocksThroughRock$Rock" ∈ TB := TB_in 326 (by decide +kernel) (by decide +kernel)
theorem mlX11_279 : Cond.methodLink RX11 279 yX6_init ∈ TB := TB_in 327 (by decide +kernel) (by decide +kernel)
theorem mlX11_296 : Cond.methodLink RX11 296 yX11_obeyGang ∈ TB := TB_in 328 (by decide +kernel) (by decide +kernel)
theorem mlX11_106 : Cond.methodLink RX11 106 yX5_advance ∈ TB := TB_in 332 (by decide +kernel) (by decide +kernel)
theorem selX5_X5_advance_X5_advance : Cond.selects RX5 yX5_advance yX5_advance ∈ TB := TB_in 334 (by decide +kernel) (by decide +kernel)
theorem mlX5_38 : Cond.methodLink RX5 38 yX6_toil ∈ TB := TB_in 339 (by decide +kernel) (by decide +kernel)
theorem selX6_X6_toil_X6_toil : Cond.selects RX6 yX6_toil yX6_toil ∈ TB := TB_in 341 (by decide +kernel) (by decide +kernel)
theorem smX6_X6_toil : Cond.sameMethod "KnocksThroughRock$Rock" "KnocksThroughRock$Rock" "toil" "()I" ∈ TB := TB_in 342 (by decide +kernel) (by decide +kernel)
theorem selX0_X6_toil_X0_toil : Cond.selects RX0 yX6_toil yX0_toil ∈ TB := TB_in 343 (by decide +kernel) (by decide +kernel)
theorem mlX0_22 : Cond.methodLink RX0 22 yX6_toil ∈ TB := TB_in 346 (by decide +kernel) (by decide +kernel)
theorem selX1_X6_toil_X1_toil : Cond.selects RX1 yX6_toil yX1_toil ∈ TB := TB_in 347 (by decide +kernel) (by decide +kernel)
theorem selX2_X6_toil_X2_toil : Cond.selects RX2 yX6_toil yX2_toil ∈ TB := TB_in 350 (by decide +kernel) (by decide +kernel)
theorem mlX2_22 : Cond.methodLink RX2 22 yX0_toil ∈ TB := TB_in 353 (by decide +kernel) (by decide +kernel)
theorem selX3_X6_toil_X3_toil : Cond.selects RX3 yX6_toil yX3_toil ∈ TB := TB_in 354 (by decide +kernel) (by decide +kernel)
theorem mlX3_16 : Cond.methodLink RX3 16 yX6_toil ∈ TB := TB_in 357 (by decide +kernel) (by decide +kernel)
theorem selX4_X6_toil_X4_toil : Cond.selects RX4 yX6_toil yX4_toil ∈ TB := TB_in 358 (by decide +kernel) (by decide +kernel)
theorem mlX4_13 : Cond.methodLink RX4 13 yX6_toil ∈ TB := TB_in 361 (by decide +kernel) (by decide +kernel)
theorem selX8_X6_toil_X8_toil : Cond.selects RX8 yX6_toil yX8_toil ∈ TB := TB_in 362 (by decide +kernel) (by decide +kernel)
theorem mlX8_13 : Cond.methodLink RX8 13 yX3_toil ∈ TB := TB_in 365 (by decide +kernel) (by decide +kernel)
theorem selX9_X6_toil_X9_toil : Cond.selects RX9 yX6_toil yX9_toil ∈ TB := TB_in 366 (by decide +kernel) (by decide +kernel)
theorem mlX9_28 : Cond.methodLink RX9 28 yX0_toil ∈ TB := TB_in 369 (by decide +kernel) (by decide +kernel)
theorem mlL_26 : Cond.methodLink RL 26 yX11_cell ∈ TB := TB_in 371 (by decide +kernel) (by decide +kernel)
theorem selX11_X11_cell_X11_cell : Cond.selects RX11 yX11_cell yX11_cell ∈ TB := TB_in 373 (by decide +kernel) (by decide +kernel)
theorem mlX11_77 : Cond.methodLink RX11 77 yX6_kind ∈ TB := TB_in 375 (by decide +kernel) (by decide +kernel)
theorem selX6_X6_kind_X6_kind : Cond.selects RX6 yX6_kind yX6_kind ∈ TB := TB_in 377 (by decide +kernel) (by decide +kernel)
theorem smX6_X6_kind : Cond.sameMethod "KnocksThroughRock$Rock" "KnocksThroughRock$Rock" "kind" "()I" ∈ TB := TB_in 378 (by decide +kernel) (by decide +kernel)
theorem selX0_X6_kind_X0_kind : Cond.selects RX0 yX6_kind yX0_kind ∈ TB := TB_in 379 (by decide +kernel) (by decide +kernel)
theorem selX1_X6_kind_X1_kind : Cond.selects RX1 yX6_kind yX1_kind ∈ TB := TB_in 382 (by decide +kernel) (by decide +kernel)
theorem selX2_X6_kind_X2_kind : Cond.selects RX2 yX6_kind yX2_kind ∈ TB := TB_in 385 (by decide +kernel) (by decide +kernel)
theorem selX3_X6_kind_X3_kind : Cond.selects RX3 yX6_kind yX3_kind ∈ TB := TB_in 388 (by decide +kernel) (by decide +kernel)
theorem selX4_X6_kind_X4_kind : Cond.selects RX4 yX6_kind yX4_kind ∈ TB := TB_in 391 (by decide +kernel) (by decide +kernel)
theorem selX8_X6_kind_X8_kind : Cond.selects RX8 yX6_kind yX8_kind ∈ TB := TB_in 394 (by decide +kernel) (by decide +kernel)
theorem selX9_X6_kind_X9_kind : Cond.selects RX9 yX6_kind yX9_kind ∈ TB := TB_in 397 (by decide +kernel) (by decide +kernel)
theorem mlX11_87 : Cond.methodLink RX11 87 yX6_slow ∈ TB := TB_in 401 (by decide +kernel) (by decide +kernel)
theorem selX6_X6_slow_X6_slow : Cond.selects RX6 yX6_slow yX6_slow ∈ TB := TB_in 403 (by decide +kernel) (by decide +kernel)
theorem smX6_X6_slow : Cond.sameMethod "KnocksThroughRock$Rock" "KnocksThroughRock$Rock" "slow" "()I" ∈ TB := TB_in 404 (by decide +kernel) (by decide +kernel)
theorem selX0_X6_slow_X0_slow : Cond.selects RX0 yX6_slow yX0_slow ∈ TB := TB_in 405 (by decide +kernel) (by decide +kernel)
theorem mlX0_9 : Cond.methodLink RX0 9 yX6_slow ∈ TB := TB_in 408 (by decide +kernel) (by decide +kernel)
theorem selX1_X6_slow_X4_slow : Cond.selects RX1 yX6_slow yX4_slow ∈ TB := TB_in 409 (by decide +kernel) (by decide +kernel)
theorem mlX4_9 : Cond.methodLink RX4 9 yX6_slow ∈ TB := TB_in 412 (by decide +kernel) (by decide +kernel)
theorem selX2_X6_slow_X2_slow : Cond.selects RX2 yX6_slow yX2_slow ∈ TB := TB_in 413 (by decide +kernel) (by decide +kernel)
theorem mlX2_9 : Cond.methodLink RX2 9 yX0_slow ∈ TB := TB_in 416 (by decide +kernel) (by decide +kernel)
theorem selX3_X6_slow_X3_slow : Cond.selects RX3 yX6_slow yX3_slow ∈ TB := TB_in 417 (by decide +kernel) (by decide +kernel)
theorem mlX3_9 : Cond.methodLink RX3 9 yX6_slow ∈ TB := TB_in 420 (by decide +kernel) (by decide +kernel)
theorem selX4_X6_slow_X4_slow : Cond.selects RX4 yX6_slow yX4_slow ∈ TB := TB_in 421 (by decide +kernel) (by decide +kernel)
theorem selX8_X6_slow_X8_slow : Cond.selects RX8 yX6_slow yX8_slow ∈ TB := TB_in 422 (by decide +kernel) (by decide +kernel)
theorem mlX8_9 : Cond.methodLink RX8 9 yX3_slow ∈ TB := TB_in 425 (by decide +kernel) (by decide +kernel)
theorem selX9_X6_slow_X9_slow : Cond.selects RX9 yX6_slow yX9_slow ∈ TB := TB_in 426 (by decide +kernel) (by decide +kernel)
theorem mlX9_9 : Cond.methodLink RX9 9 yX0_slow ∈ TB := TB_in 429 (by decide +kernel) (by decide +kernel)
theorem mlX11_90 : Cond.methodLink RX11 90 yX6_loss ∈ TB := TB_in 431 (by decide +kernel) (by decide +kernel)
theorem selX6_X6_loss_X6_loss : Cond.selects RX6 yX6_loss yX6_loss ∈ TB := TB_in 433 (by decide +kernel) (by decide +kernel)
theorem smX6_X6_loss : Cond.sameMethod "KnocksThroughRock$Rock" "KnocksThroughRock$Rock" "loss" "()I" ∈ TB := TB_in 434 (by decide +kernel) (by decide +kernel)
theorem selX0_X6_loss_X0_loss : Cond.selects RX0 yX6_loss yX0_loss ∈ TB := TB_in 435 (by decide +kernel) (by decide +kernel)
theorem mlX0_19 : Cond.methodLink RX0 19 yX6_loss ∈ TB := TB_in 438 (by decide +kernel) (by decide +kernel)
theorem selX1_X6_loss_X1_loss : Cond.selects RX1 yX6_loss yX1_loss ∈ TB := TB_in 439 (by decide +kernel) (by decide +kernel)
theorem smX4_X6_loss : Cond.sameMethod "KnocksThroughRock$Hollow" "KnocksThroughRock$Rock" "loss" "()I" ∈ TB := TB_in 443 (by decide +kernel) (by decide +kernel)
theorem selX2_X6_loss_X2_loss : Cond.selects RX2 yX6_loss yX2_loss ∈ TB := TB_in 445 (by decide +kernel) (by decide +kernel)
theorem mlX2_13 : Cond.methodLink RX2 13 yX0_loss ∈ TB := TB_in 448 (by decide +kernel) (by decide +kernel)
theorem selX3_X6_loss_X3_loss : Cond.selects RX3 yX6_loss yX3_loss ∈ TB := TB_in 449 (by decide +kernel) (by decide +kernel)
theorem mlX3_13 : Cond.methodLink RX3 13 yX6_loss ∈ TB := TB_in 452 (by decide +kernel) (by decide +kernel)
theorem selX4_X6_loss_X6_loss : Cond.selects RX4 yX6_loss yX6_loss ∈ TB := TB_in 453 (by decide +kernel) (by decide +kernel)
theorem selX8_X6_loss_X8_loss : Cond.selects RX8 yX6_loss yX8_loss ∈ TB := TB_in 454 (by decide +kernel) (by decide +kernel)
theorem selX9_X6_loss_X9_loss : Cond.selects RX9 yX6_loss yX9_loss ∈ TB := TB_in 457 (by decide +kernel) (by decide +kernel)
theorem mlX9_13 : Cond.methodLink RX9 13 yX0_loss ∈ TB := TB_in 460 (by decide +kernel) (by decide +kernel)
theorem mlX9_22 : Cond.methodLink RX9 22 yJ9_max_7cf53 ∈ TB := TB_in 461 (by decide +kernel) (by decide +kernel)
theorem mlX11_93 : Cond.methodLink RX11 93 yX6_toil ∈ TB := TB_in 465 (by decide +kernel) (by decide +kernel)
theorem mlL_31 : Cond.methodLink RL 31 yX11_lay ∈ TB := TB_in 466 (by decide +kernel) (by decide +kernel)
theorem selX11_X11_lay_X11_lay : Cond.selects RX11 yX11_lay yX11_lay ∈ TB := TB_in 468 (by decide +kernel) (by decide +kernel)
theorem mlX11_96 : Cond.methodLink RX11 96 yX11_rockOn ∈ TB := TB_in 470 (by decide +kernel) (by decide +kernel)
theorem mlL_35 : Cond.methodLink RL 35 yX11_gang ∈ TB := TB_in 474 (by decide +kernel) (by decide +kernel)
theorem selX11_X11_gang_X11_gang : Cond.selects RX11 yX11_gang yX11_gang ∈ TB := TB_in 476 (by decide +kernel) (by decide +kernel)
theorem mlL_39 : Cond.methodLink RL 39 yX11_dig ∈ TB := TB_in 478 (by decide +kernel) (by decide +kernel)
theorem selX11_X11_dig_X11_dig : Cond.selects RX11 yX11_dig yX11_dig ∈ TB := TB_in 480 (by decide +kernel) (by decide +kernel)
theorem mlL_43 : Cond.methodLink RL 43 yX11_met ∈ TB := TB_in 482 (by decide +kernel) (by decide +kernel)
theorem selX11_X11_met_X11_met : Cond.selects RX11 yX11_met yX11_met ∈ TB := TB_in 484 (by decide +kernel) (by decide +kernel)
theorem mlX11_110 : Cond.methodLink RX11 110 yX5_gangsMet ∈ TB := TB_in 486 (by decide +kernel) (by decide +kernel)
theorem selX5_X5_gangsMet_X5_gangsMet : Cond.selects RX5 yX5_gangsMet yX5_gangsMet ∈ TB := TB_in 488 (by decide +kernel) (by decide +kernel)
theorem mlL_48 : Cond.methodLink RL 48 yX11_time ∈ TB := TB_in 490 (by decide +kernel) (by decide +kernel)
theorem selX11_X11_time_X11_time : Cond.selects RX11 yX11_time yX11_time ∈ TB := TB_in 492 (by decide +kernel) (by decide +kernel)
theorem mlX11_114 : Cond.methodLink RX11 114 yX11_knockFrom ∈ TB := TB_in 494 (by decide +kernel) (by decide +kernel)
theorem mlX11_139 : Cond.methodLink RX11 139 yX10_byKnocks ∈ TB := TB_in 498 (by decide +kernel) (by decide +kernel)
theorem selX10_X10_byKnocks_X10_byKnocks : Cond.selects RX10 yX10_byKnocks yX10_byKnocks ∈ TB := TB_in 500 (by decide +kernel) (by decide +kernel)
theorem mlX10_37 : Cond.methodLink RX10 37 yX6_slow ∈ TB := TB_in 502 (by decide +kernel) (by decide +kernel)
theorem mlX10_43 : Cond.methodLink RX10 43 yX6_loss ∈ TB := TB_in 503 (by decide +kernel) (by decide +kernel)
theorem mlX11_142 : Cond.methodLink RX11 142 yX10_spread ∈ TB := TB_in 504 (by decide +kernel) (by decide +kernel)
theorem selX10_X10_spread_X10_spread : Cond.selects RX10 yX10_spread yX10_spread ∈ TB := TB_in 506 (by decide +kernel) (by decide +kernel)
theorem ctX10_48 : Cond.constant "KnocksThroughRock$Ways" 48 (1000000) ∈ TB := TB_in 508 (by decide +kernel) (by decide +kernel)
theorem mlX10_49 : Cond.methodLink RX10 49 yX10_nearest ∈ TB := TB_in 509 (by decide +kernel) (by decide +kernel)
theorem ctX10_60 : Cond.constant "KnocksThroughRock$Ways" 60 (1000001) ∈ TB := TB_in 513 (by decide +kernel) (by decide +kernel)
theorem mlX10_56 : Cond.methodLink RX10 56 yX10_enter ∈ TB := TB_in 515 (by decide +kernel) (by decide +kernel)
theorem mlX10_61 : Cond.methodLink RX10 61 yJ9_min_7cf53 ∈ TB := TB_in 519 (by decide +kernel) (by decide +kernel)
theorem mlL_52 : Cond.methodLink RL 52 yX11_loud ∈ TB := TB_in 522 (by decide +kernel) (by decide +kernel)
theorem selX11_X11_loud_X11_loud : Cond.selects RX11 yX11_loud yX11_loud ∈ TB := TB_in 524 (by decide +kernel) (by decide +kernel)
theorem mlX11_124 : Cond.methodLink RX11 124 yJ9_max_7cf53 ∈ TB := TB_in 526 (by decide +kernel) (by decide +kernel)
theorem mlL_57 : Cond.methodLink RL 57 yX11_paths ∈ TB := TB_in 527 (by decide +kernel) (by decide +kernel)
theorem selX11_X11_paths_X11_paths : Cond.selects RX11 yX11_paths yX11_paths ∈ TB := TB_in 529 (by decide +kernel) (by decide +kernel)
theorem mlL_61 : Cond.methodLink RL 61 yX11_reaches ∈ TB := TB_in 531 (by decide +kernel) (by decide +kernel)
theorem selX11_X11_reaches_X11_reaches : Cond.selects RX11 yX11_reaches yX11_reaches ∈ TB := TB_in 533 (by decide +kernel) (by decide +kernel)
theorem mlL_65 : Cond.methodLink RL 65 yX11_from ∈ TB := TB_in 535 (by decide +kernel) (by decide +kernel)
theorem selX11_X11_from_X11_from : Cond.selects RX11 yX11_from yX11_from ∈ TB := TB_in 537 (by decide +kernel) (by decide +kernel)
theorem mlX11_135 : Cond.methodLink RX11 135 yX11_tellsCells ∈ TB := TB_in 539 (by decide +kernel) (by decide +kernel)
theorem mlX11_145 : Cond.methodLink RX11 145 yX11_mayHaveKnocked ∈ TB := TB_in 542 (by decide +kernel) (by decide +kernel)
theorem mlX11_299 : Cond.methodLink RX11 299 yX11_hourOfKnock ∈ TB := TB_in 546 (by decide +kernel) (by decide +kernel)
theorem mlL_69 : Cond.methodLink RL 69 yX11_listen ∈ TB := TB_in 550 (by decide +kernel) (by decide +kernel)
theorem selX11_X11_listen_X11_listen : Cond.selects RX11 yX11_listen yX11_listen ∈ TB := TB_in 552 (by decide +kernel) (by decide +kernel)
theorem mlX11_149 : Cond.methodLink RX11 149 yX11_takeTimes ∈ TB := TB_in 554 (by decide +kernel) (by decide +kernel)
theorem ctX11_152 : Cond.constant "KnocksThroughRock" 152 (1000000) ∈ TB := TB_in 561 (by decide +kernel) (by decide +kernel)
theorem mlX11_153 : Cond.methodLink RX11 153 yX11_mostAlike ∈ TB := TB_in 562 (by decide +kernel) (by decide +kernel)
theorem mlL_73 : Cond.methodLink RL 73 yX11_rocks ∈ TB := TB_in 566 (by decide +kernel) (by decide +kernel)
theorem selX11_X11_rocks_X11_rocks : Cond.selects RX11 yX11_rocks yX11_rocks ∈ TB := TB_in 568 (by decide +kernel) (by decide +kernel)
theorem mlL_78 : Cond.methodLink RL 78 yX11_toils ∈ TB := TB_in 570 (by decide +kernel) (by decide +kernel)
theorem selX11_X11_toils_X11_toils : Cond.selects RX11 yX11_toils yX11_toils ∈ TB := TB_in 572 (by decide +kernel) (by decide +kernel)
theorem mlX11_161 : Cond.methodLink RX11 161 yX10_byToil ∈ TB := TB_in 574 (by decide +kernel) (by decide +kernel)
theorem selX10_X10_byToil_X10_byToil : Cond.selects RX10 yX10_byToil yX10_byToil ∈ TB := TB_in 576 (by decide +kernel) (by decide +kernel)
theorem mlX10_45 : Cond.methodLink RX10 45 yX6_toil ∈ TB := TB_in 578 (by decide +kernel) (by decide +kernel)
theorem mlL_82 : Cond.methodLink RL 82 yX11_soon ∈ TB := TB_in 579 (by decide +kernel) (by decide +kernel)
theorem selX11_X11_soon_X11_soon : Cond.selects RX11 yX11_soon yX11_soon ∈ TB := TB_in 581 (by decide +kernel) (by decide +kernel)
theorem mlX11_167 : Cond.methodLink RX11 167 yX11_soonIn ∈ TB := TB_in 583 (by decide +kernel) (by decide +kernel)
theorem mlX11_303 : Cond.methodLink RX11 303 yX11_neighbour ∈ TB := TB_in 587 (by decide +kernel) (by decide +kernel)
theorem mlX11_306 : Cond.methodLink RX11 306 yJ9_min_7cf53 ∈ TB := TB_in 588 (by decide +kernel) (by decide +kernel)
theorem mlL_86 : Cond.methodLink RL 86 yX11_side ∈ TB := TB_in 589 (by decide +kernel) (by decide +kernel)
theorem selX11_X11_side_X11_side : Cond.selects RX11 yX11_side yX11_side ∈ TB := TB_in 591 (by decide +kernel) (by decide +kernel)
theorem mlL_90 : Cond.methodLink RL 90 yX11_taken ∈ TB := TB_in 593 (by decide +kernel) (by decide +kernel)
theorem selX11_X11_taken_X11_taken : Cond.selects RX11 yX11_taken yX11_taken ∈ TB := TB_in 595 (by decide +kernel) (by decide +kernel)
theorem mlX11_171 : Cond.methodLink RX11 171 yX11_areAlike ∈ TB := TB_in 597 (by decide +kernel) (by decide +kernel)
theorem mlX11_179 : Cond.methodLink RX11 179 yJ6_bitCount_0f7a4 ∈ TB := TB_in 600 (by decide +kernel) (by decide +kernel)
theorem mlL_94 : Cond.methodLink RL 94 yX11_safe ∈ TB := TB_in 606 (by decide +kernel) (by decide +kernel)
theorem selX11_X11_safe_X11_safe : Cond.selects RX11 yX11_safe yX11_safe ∈ TB := TB_in 608 (by decide +kernel) (by decide +kernel)
theorem mlX11_175 : Cond.methodLink RX11 175 yX11_findClashes ∈ TB := TB_in 610 (by decide +kernel) (by decide +kernel)
theorem mlX11_184 : Cond.methodLink RX11 184 yX11_isWithoutClash ∈ TB := TB_in 614 (by decide +kernel) (by decide +kernel)
theorem mlL_98 : Cond.methodLink RL 98 yX11_seeded ∈ TB := TB_in 618 (by decide +kernel) (by decide +kernel)
theorem selX11_X11_seeded_X11_seeded : Cond.selects RX11 yX11_seeded yX11_seeded ∈ TB := TB_in 620 (by decide +kernel) (by decide +kernel)
theorem mlX11_188 : Cond.methodLink RX11 188 yX11_nextSeed ∈ TB := TB_in 622 (by decide +kernel) (by decide +kernel)
theorem ctX11_309 : Cond.constant "KnocksThroughRock" 309 (1103515245) ∈ TB := TB_in 625 (by decide +kernel) (by decide +kernel)
theorem mlX11_191 : Cond.methodLink RX11 191 yX11_draw ∈ TB := TB_in 626 (by decide +kernel) (by decide +kernel)
theorem ctX11_310 : Cond.constant "KnocksThroughRock" 310 (2147483647) ∈ TB := TB_in 629 (by decide +kernel) (by decide +kernel)
theorem ctX11_311 : Cond.constant "KnocksThroughRock" 311 (65536) ∈ TB := TB_in 630 (by decide +kernel) (by decide +kernel)
theorem mlX11_194 : Cond.methodLink RX11 194 yX5_allHours ∈ TB := TB_in 631 (by decide +kernel) (by decide +kernel)
theorem selX5_X5_allHours_X5_allHours : Cond.selects RX5 yX5_allHours yX5_allHours ∈ TB := TB_in 633 (by decide +kernel) (by decide +kernel)
theorem mlL_102 : Cond.methodLink RL 102 yX11_judge ∈ TB := TB_in 635 (by decide +kernel) (by decide +kernel)
theorem selX11_X11_judge_X11_judge : Cond.selects RX11 yX11_judge yX11_judge ∈ TB := TB_in 637 (by decide +kernel) (by decide +kernel)
theorem mlL_106 : Cond.methodLink RL 106 yX11_image ∈ TB := TB_in 639 (by decide +kernel) (by decide +kernel)
theorem selX11_X11_image_X11_image : Cond.selects RX11 yX11_image yX11_image ∈ TB := TB_in 641 (by decide +kernel) (by decide +kernel)
theorem mlL_110 : Cond.methodLink RL 110 yX11_restore ∈ TB := TB_in 643 (by decide +kernel) (by decide +kernel)
theorem selX11_X11_restore_X11_restore : Cond.selects RX11 yX11_restore yX11_restore ∈ TB := TB_in 645 (by decide +kernel) (by decide +kernel)
theorem mlL_114 : Cond.methodLink RL 114 yX11_count ∈ TB := TB_in 647 (by decide +kernel) (by decide +kernel)
theorem selX11_X11_count_X11_count : Cond.selects RX11 yX11_count yX11_count ∈ TB := TB_in 649 (by decide +kernel) (by decide +kernel)
theorem mlL_118 : Cond.methodLink RL 118 yX11_keep ∈ TB := TB_in 651 (by decide +kernel) (by decide +kernel)
theorem selX11_X11_keep_X11_keep : Cond.selects RX11 yX11_keep yX11_keep ∈ TB := TB_in 653 (by decide +kernel) (by decide +kernel)
theorem mlX11_203 : Cond.methodLink RX11 203 yX7_clear ∈ TB := TB_in 655 (by decide +kernel) (by decide +kernel)
theorem selX7_X7_clear_X7_clear : Cond.selects RX7 yX7_clear yX7_clear ∈ TB := TB_in 657 (by decide +kernel) (by decide +kernel)
theorem mlX11_206 : Cond.methodLink RX11 206 yX7_holdRock ∈ TB := TB_in 659 (by decide +kernel) (by decide +kernel)
theorem selX7_X7_holdRock_X7_holdRock : Cond.selects RX7 yX7_holdRock yX7_holdRock ∈ TB := TB_in 661 (by decide +kernel) (by decide +kernel)
theorem mlX7_26 : Cond.methodLink RX7 26 yX7_clear ∈ TB := TB_in 663 (by decide +kernel) (by decide +kernel)
theorem mlL_123 : Cond.methodLink RL 123 yX11_row ∈ TB := TB_in 664 (by decide +kernel) (by decide +kernel)
theorem selX11_X11_row_X11_row : Cond.selects RX11 yX11_row yX11_row ∈ TB := TB_in 666 (by decide +kernel) (by decide +kernel)
theorem mlX11_210 : Cond.methodLink RX11 210 yX7_holdRow ∈ TB := TB_in 668 (by decide +kernel) (by decide +kernel)
theorem selX7_X7_holdRow_X7_holdRow : Cond.selects RX7 yX7_holdRow yX7_holdRow ∈ TB := TB_in 670 (by decide +kernel) (by decide +kernel)
theorem mlL_127 : Cond.methodLink RL 127 yX11_put ∈ TB := TB_in 672 (by decide +kernel) (by decide +kernel)
theorem selX11_X11_put_X11_put : Cond.selects RX11 yX11_put yX11_put ∈ TB := TB_in 674 (by decide +kernel) (by decide +kernel)
theorem mlX11_214 : Cond.methodLink RX11 214 yX7_set ∈ TB := TB_in 676 (by decide +kernel) (by decide +kernel)
theorem selX7_X7_set_X7_set : Cond.selects RX7 yX7_set yX7_set ∈ TB := TB_in 678 (by decide +kernel) (by decide +kernel)
theorem mlL_140 : Cond.methodLink RL 140 yX11_copy ∈ TB := TB_in 680 (by decide +kernel) (by decide +kernel)
theorem selX11_X11_copy_X11_copy : Cond.selects RX11 yX11_copy yX11_copy ∈ TB := TB_in 682 (by decide +kernel) (by decide +kernel)
theorem mlX11_237 : Cond.methodLink RX11 237 yX7_spans ∈ TB := TB_in 684 (by decide +kernel) (by decide +kernel)
theorem selX7_X7_spans_X7_spans : Cond.selects RX7 yX7_spans yX7_spans ∈ TB := TB_in 686 (by decide +kernel) (by decide +kernel)
theorem mlL_144 : Cond.methodLink RL 144 yX11_pay ∈ TB := TB_in 688 (by decide +kernel) (by decide +kernel)
theorem selX11_X11_pay_X11_pay : Cond.selects RX11 yX11_pay yX11_pay ∈ TB := TB_in 690 (by decide +kernel) (by decide +kernel)
theorem mlX11_249 : Cond.methodLink RX11 249 yX6_worth ∈ TB := TB_in 692 (by decide +kernel) (by decide +kernel)
theorem selX6_X6_worth_X6_worth : Cond.selects RX6 yX6_worth yX6_worth ∈ TB := TB_in 694 (by decide +kernel) (by decide +kernel)
theorem smX6_X6_worth : Cond.sameMethod "KnocksThroughRock$Rock" "KnocksThroughRock$Rock" "worth" "()I" ∈ TB := TB_in 695 (by decide +kernel) (by decide +kernel)
theorem selX0_X6_worth_X0_worth : Cond.selects RX0 yX6_worth yX0_worth ∈ TB := TB_in 696 (by decide +kernel) (by decide +kernel)
theorem mlX0_25 : Cond.methodLink RX0 25 yX6_worth ∈ TB := TB_in 699 (by decide +kernel) (by decide +kernel)
theorem selX1_X6_worth_X1_worth : Cond.selects RX1 yX6_worth yX1_worth ∈ TB := TB_in 700 (by decide +kernel) (by decide +kernel)
theorem smX4_X6_worth : Cond.sameMethod "KnocksThroughRock$Hollow" "KnocksThroughRock$Rock" "worth" "()I" ∈ TB := TB_in 704 (by decide +kernel) (by decide +kernel)
theorem selX2_X6_worth_X2_worth : Cond.selects RX2 yX6_worth yX2_worth ∈ TB := TB_in 706 (by decide +kernel) (by decide +kernel)
theorem mlX2_25 : Cond.methodLink RX2 25 yX0_worth ∈ TB := TB_in 709 (by decide +kernel) (by decide +kernel)
theorem selX3_X6_worth_X3_worth : Cond.selects RX3 yX6_worth yX3_worth ∈ TB := TB_in 710 (by decide +kernel) (by decide +kernel)
theorem mlX3_19 : Cond.methodLink RX3 19 yX6_worth ∈ TB := TB_in 713 (by decide +kernel) (by decide +kernel)
theorem selX4_X6_worth_X6_worth : Cond.selects RX4 yX6_worth yX6_worth ∈ TB := TB_in 714 (by decide +kernel) (by decide +kernel)
theorem selX8_X6_worth_X8_worth : Cond.selects RX8 yX6_worth yX8_worth ∈ TB := TB_in 715 (by decide +kernel) (by decide +kernel)
theorem mlX8_22 : Cond.methodLink RX8 22 yX3_worth ∈ TB := TB_in 718 (by decide +kernel) (by decide +kernel)
theorem selX9_X6_worth_X9_worth : Cond.selects RX9 yX6_worth yX9_worth ∈ TB := TB_in 719 (by decide +kernel) (by decide +kernel)
theorem mlX9_31 : Cond.methodLink RX9 31 yX0_worth ∈ TB := TB_in 722 (by decide +kernel) (by decide +kernel)
theorem mlL_148 : Cond.methodLink RL 148 yX11_toss ∈ TB := TB_in 724 (by decide +kernel) (by decide +kernel)
theorem selX11_X11_toss_X11_toss : Cond.selects RX11 yX11_toss yX11_toss ∈ TB := TB_in 726 (by decide +kernel) (by decide +kernel)
theorem clX11_224 : Cond.classLink "KnocksThroughRock" 224 "java/lang/IllegalStateException" ∈ TB := TB_in 728 (by decide +kernel) (by decide +kernel)
theorem clX11_255 : Cond.classLink "KnocksThroughRock" 255 "java/lang/UnsupportedOperationException" ∈ TB := TB_in 729 (by decide +kernel) (by decide +kernel)
theorem clX11_217 : Cond.classLink "KnocksThroughRock" 217 "java/lang/IllegalArgumentException" ∈ TB := TB_in 730 (by decide +kernel) (by decide +kernel)
theorem mlX11_252 : Cond.methodLink RX11 252 yX6_fail ∈ TB := TB_in 731 (by decide +kernel) (by decide +kernel)
theorem selX6_X6_fail_X6_fail : Cond.selects RX6 yX6_fail yX6_fail ∈ TB := TB_in 733 (by decide +kernel) (by decide +kernel)
theorem smX6_X6_fail : Cond.sameMethod "KnocksThroughRock$Rock" "KnocksThroughRock$Rock" "fail" "()V" ∈ TB := TB_in 734 (by decide +kernel) (by decide +kernel)
theorem selX0_X6_fail_X6_fail : Cond.selects RX0 yX6_fail yX6_fail ∈ TB := TB_in 735 (by decide +kernel) (by decide +kernel)
theorem selX1_X6_fail_X1_fail : Cond.selects RX1 yX6_fail yX1_fail ∈ TB := TB_in 736 (by decide +kernel) (by decide +kernel)
theorem selX2_X6_fail_X6_fail : Cond.selects RX2 yX6_fail yX6_fail ∈ TB := TB_in 739 (by decide +kernel) (by decide +kernel)
theorem selX3_X6_fail_X6_fail : Cond.selects RX3 yX6_fail yX6_fail ∈ TB := TB_in 740 (by decide +kernel) (by decide +kernel)
theorem selX4_X6_fail_X6_fail : Cond.selects RX4 yX6_fail yX6_fail ∈ TB := TB_in 741 (by decide +kernel) (by decide +kernel)
theorem selX8_X6_fail_X8_fail : Cond.selects RX8 yX6_fail yX8_fail ∈ TB := TB_in 742 (by decide +kernel) (by decide +kernel)
theorem clX8_25 : Cond.classLink "KnocksThroughRock$Vein" 25 "java/lang/IllegalArgumentException" ∈ TB := TB_in 745 (by decide +kernel) (by decide +kernel)
theorem ac_byte : Cond.arrayClass (newarray.typeOf .byte) ∈ TB := TB_in 812 (by decide +kernel) (by decide +kernel)
theorem selX9_X6_fail_X9_fail : Cond.selects RX9 yX6_fail yX9_fail ∈ TB := TB_in 813 (by decide +kernel) (by decide +kernel)
theorem clX9_34 : Cond.classLink "KnocksThroughRock$Water" 34 "java/lang/UnsupportedOperationException" ∈ TB := TB_in 816 (by decide +kernel) (by decide +kernel)
theorem clX6_15 : Cond.classLink "KnocksThroughRock$Rock" 15 "java/lang/IllegalStateException" ∈ TB := TB_in 833 (by decide +kernel) (by decide +kernel)
theorem mlL_131 : Cond.methodLink RL 131 yL_element ∈ TB := TB_in 849 (by decide +kernel) (by decide +kernel)
theorem clL_13 : Cond.classLink "KnocksThroughRockLaw" 13 "java/lang/IllegalArgumentException" ∈ TB := TB_in 852 (by decide +kernel) (by decide +kernel)
theorem clL_15 : Cond.classLink "KnocksThroughRockLaw" 15 "java/lang/IllegalStateException" ∈ TB := TB_in 853 (by decide +kernel) (by decide +kernel)
theorem mlL_7 : Cond.methodLink RL 7 yX11_element ∈ TB := TB_in 854 (by decide +kernel) (by decide +kernel)
theorem selX11_X11_element_X11_element : Cond.selects RX11 yX11_element yX11_element ∈ TB := TB_in 856 (by decide +kernel) (by decide +kernel)
theorem clL_18 : Cond.classLink "KnocksThroughRockLaw" 18 "KnocksThroughRockModel" ∈ TB := TB_in 863 (by decide +kernel) (by decide +kernel)
theorem insX12 : Cond.instantiable "KnocksThroughRockModel" 23 ∈ TB := TB_in 864 (by decide +kernel) (by decide +kernel)
theorem mlL_20 : Cond.methodLink RL 20 yX12_init ∈ TB := TB_in 865 (by decide +kernel) (by decide +kernel)
theorem flX12_9 : Cond.fieldLink RX12 9 "KnocksThroughRockModel" "s" "[I" ∈ TB := TB_in 869 (by decide +kernel) (by decide +kernel)
theorem flX12_13 : Cond.fieldLink RX12 13 "KnocksThroughRockModel" "image" "[I" ∈ TB := TB_in 870 (by decide +kernel) (by decide +kernel)
theorem flX12_16 : Cond.fieldLink RX12 16 "KnocksThroughRockModel" "read" "[I" ∈ TB := TB_in 871 (by decide +kernel) (by decide +kernel)
theorem flX12_19 : Cond.fieldLink RX12 19 "KnocksThroughRockModel" "mind" "[I" ∈ TB := TB_in 872 (by decide +kernel) (by decide +kernel)
theorem flX12_22 : Cond.fieldLink RX12 22 "KnocksThroughRockModel" "kept" "[I" ∈ TB := TB_in 873 (by decide +kernel) (by decide +kernel)
theorem flX12_25 : Cond.fieldLink RX12 25 "KnocksThroughRockModel" "sort" "[I" ∈ TB := TB_in 874 (by decide +kernel) (by decide +kernel)
theorem flX12_28 : Cond.fieldLink RX12 28 "KnocksThroughRockModel" "size" "[I" ∈ TB := TB_in 875 (by decide +kernel) (by decide +kernel)
theorem flX12_31 : Cond.fieldLink RX12 31 "KnocksThroughRockModel" "element" "[I" ∈ TB := TB_in 876 (by decide +kernel) (by decide +kernel)
theorem flX12_34 : Cond.fieldLink RX12 34 "KnocksThroughRockModel" "keptKind" "[I" ∈ TB := TB_in 877 (by decide +kernel) (by decide +kernel)
theorem flX12_37 : Cond.fieldLink RX12 37 "KnocksThroughRockModel" "keptFigure" "[I" ∈ TB := TB_in 878 (by decide +kernel) (by decide +kernel)
theorem flX12_235 : Cond.fieldLink RX12 235 "KnocksThroughRockModel" "hasImage" "Z" ∈ TB := TB_in 879 (by decide +kernel) (by decide +kernel)
theorem flX12_61 : Cond.fieldLink RX12 61 "KnocksThroughRockModel" "thrown" "I" ∈ TB := TB_in 880 (by decide +kernel) (by decide +kernel)
theorem flX12_40 : Cond.fieldLink RX12 40 "KnocksThroughRockModel" "times" "[I" ∈ TB := TB_in 881 (by decide +kernel) (by decide +kernel)
theorem flX12_43 : Cond.fieldLink RX12 43 "KnocksThroughRockModel" "losses" "[I" ∈ TB := TB_in 882 (by decide +kernel) (by decide +kernel)
theorem flX12_46 : Cond.fieldLink RX12 46 "KnocksThroughRockModel" "ways" "[I" ∈ TB := TB_in 883 (by decide +kernel) (by decide +kernel)
theorem flX12_122 : Cond.fieldLink RX12 122 "KnocksThroughRockModel" "pos" "I" ∈ TB := TB_in 884 (by decide +kernel) (by decide +kernel)
theorem flX12_128 : Cond.fieldLink RX12 128 "KnocksThroughRockModel" "base" "I" ∈ TB := TB_in 885 (by decide +kernel) (by decide +kernel)
theorem flX12_125 : Cond.fieldLink RX12 125 "KnocksThroughRockModel" "end" "I" ∈ TB := TB_in 886 (by decide +kernel) (by decide +kernel)
theorem flX12_49 : Cond.fieldLink RX12 49 "KnocksThroughRockModel" "numbers" "[I" ∈ TB := TB_in 887 (by decide +kernel) (by decide +kernel)
theorem flX12_52 : Cond.fieldLink RX12 52 "KnocksThroughRockModel" "listened" "[I" ∈ TB := TB_in 888 (by decide +kernel) (by decide +kernel)
theorem flX12_55 : Cond.fieldLink RX12 55 "KnocksThroughRockModel" "toils" "[I" ∈ TB := TB_in 889 (by decide +kernel) (by decide +kernel)
theorem flX12_58 : Cond.fieldLink RX12 58 "KnocksThroughRockModel" "other" "[I" ∈ TB := TB_in 890 (by decide +kernel) (by decide +kernel)
theorem flX12_218 : Cond.fieldLink RX12 218 "KnocksThroughRockModel" "seed" "I" ∈ TB := TB_in 891 (by decide +kernel) (by decide +kernel)
theorem mlL_137 : Cond.methodLink RL 137 yX12_thrown ∈ TB := TB_in 939 (by decide +kernel) (by decide +kernel)
theorem selX12_X12_thrown_X12_thrown : Cond.selects RX12 yX12_thrown yX12_thrown ∈ TB := TB_in 941 (by decide +kernel) (by decide +kernel)
theorem mlL_25 : Cond.methodLink RL 25 yX12_mountain ∈ TB := TB_in 943 (by decide +kernel) (by decide +kernel)
theorem selX12_X12_mountain_X12_mountain : Cond.selects RX12 yX12_mountain yX12_mountain ∈ TB := TB_in 945 (by decide +kernel) (by decide +kernel)
theorem mlX12_155 : Cond.methodLink RX12 155 yX12_wrongRow ∈ TB := TB_in 947 (by decide +kernel) (by decide +kernel)
theorem mlX12_152 : Cond.methodLink RX12 152 yX12_isShelf ∈ TB := TB_in 951 (by decide +kernel) (by decide +kernel)
theorem klX12_65 : Cond.constantLong "KnocksThroughRockModel" 65 (7) ∈ TB := TB_in 954 (by decide +kernel) (by decide +kernel)
theorem mlX12_67 : Cond.methodLink RX12 67 yX12_isIn ∈ TB := TB_in 955 (by decide +kernel) (by decide +kernel)
theorem mlX12_158 : Cond.methodLink RX12 158 yX12_readsStatement ∈ TB := TB_in 958 (by decide +kernel) (by decide +kernel)
theorem mlX12_131 : Cond.methodLink RX12 131 yX12_here ∈ TB := TB_in 962 (by decide +kernel) (by decide +kernel)
theorem mlX12_139 : Cond.methodLink RX12 139 yX12_readsDigits ∈ TB := TB_in 966 (by decide +kernel) (by decide +kernel)
theorem klX12_135 : Cond.constantLong "KnocksThroughRockModel" 135 (48) ∈ TB := TB_in 970 (by decide +kernel) (by decide +kernel)
theorem klX12_137 : Cond.constantLong "KnocksThroughRockModel" 137 (57) ∈ TB := TB_in 971 (by decide +kernel) (by decide +kernel)
theorem mlX12_73 : Cond.methodLink RX12 73 yX12_lays ∈ TB := TB_in 972 (by decide +kernel) (by decide +kernel)
theorem mlX12_162 : Cond.methodLink RX12 162 yX12_comesTold ∈ TB := TB_in 975 (by decide +kernel) (by decide +kernel)
theorem mlX12_143 : Cond.methodLink RX12 143 yX12_isCell ∈ TB := TB_in 979 (by decide +kernel) (by decide +kernel)
theorem klX12_71 : Cond.constantLong "KnocksThroughRockModel" 71 (19) ∈ TB := TB_in 982 (by decide +kernel) (by decide +kernel)
theorem mlX12_103 : Cond.methodLink RX12 103 yX12_setCell ∈ TB := TB_in 983 (by decide +kernel) (by decide +kernel)
theorem mlX12_146 : Cond.methodLink RX12 146 yX12_isGang ∈ TB := TB_in 987 (by decide +kernel) (by decide +kernel)
theorem mlX12_149 : Cond.methodLink RX12 149 yX12_digs ∈ TB := TB_in 990 (by decide +kernel) (by decide +kernel)
theorem mlX12_94 : Cond.methodLink RX12 94 yX12_gangCell ∈ TB := TB_in 994 (by decide +kernel) (by decide +kernel)
theorem mlX12_97 : Cond.methodLink RX12 97 yX12_beside ∈ TB := TB_in 998 (by decide +kernel) (by decide +kernel)
theorem mlX12_100 : Cond.methodLink RX12 100 yX12_toil ∈ TB := TB_in 1001 (by decide +kernel) (by decide +kernel)
theorem mlX12_77 : Cond.methodLink RX12 77 yX12_kind ∈ TB := TB_in 1005 (by decide +kernel) (by decide +kernel)
theorem mlX12_81 : Cond.methodLink RX12 81 yX12_figure ∈ TB := TB_in 1009 (by decide +kernel) (by decide +kernel)
theorem mlX12_91 : Cond.methodLink RX12 91 yX12_toilBy ∈ TB := TB_in 1013 (by decide +kernel) (by decide +kernel)
theorem mlL_30 : Cond.methodLink RL 30 yX12_cell ∈ TB := TB_in 1016 (by decide +kernel) (by decide +kernel)
theorem selX12_X12_cell_X12_cell : Cond.selects RX12 yX12_cell yX12_cell ∈ TB := TB_in 1018 (by decide +kernel) (by decide +kernel)
theorem mlX12_107 : Cond.methodLink RX12 107 yX12_slow ∈ TB := TB_in 1020 (by decide +kernel) (by decide +kernel)
theorem mlX12_84 : Cond.methodLink RX12 84 yX12_slowBy ∈ TB := TB_in 1024 (by decide +kernel) (by decide +kernel)
theorem mlX12_110 : Cond.methodLink RX12 110 yX12_loss ∈ TB := TB_in 1027 (by decide +kernel) (by decide +kernel)
theorem mlX12_88 : Cond.methodLink RX12 88 yX12_lossBy ∈ TB := TB_in 1031 (by decide +kernel) (by decide +kernel)
theorem mlL_34 : Cond.methodLink RL 34 yX12_lay ∈ TB := TB_in 1034 (by decide +kernel) (by decide +kernel)
theorem selX12_X12_lay_X12_lay : Cond.selects RX12 yX12_lay yX12_lay ∈ TB := TB_in 1036 (by decide +kernel) (by decide +kernel)
theorem mlX12_165 : Cond.methodLink RX12 165 yX12_wrongKept ∈ TB := TB_in 1038 (by decide +kernel) (by decide +kernel)
theorem mlL_38 : Cond.methodLink RL 38 yX12_gang ∈ TB := TB_in 1042 (by decide +kernel) (by decide +kernel)
theorem selX12_X12_gang_X12_gang : Cond.selects RX12 yX12_gang yX12_gang ∈ TB := TB_in 1044 (by decide +kernel) (by decide +kernel)
theorem mlL_42 : Cond.methodLink RL 42 yX12_dig ∈ TB := TB_in 1046 (by decide +kernel) (by decide +kernel)
theorem selX12_X12_dig_X12_dig : Cond.selects RX12 yX12_dig yX12_dig ∈ TB := TB_in 1048 (by decide +kernel) (by decide +kernel)
theorem klX12_168 : Cond.constantLong "KnocksThroughRockModel" 168 (3) ∈ TB := TB_in 1050 (by decide +kernel) (by decide +kernel)
theorem mlL_47 : Cond.methodLink RL 47 yX12_met ∈ TB := TB_in 1051 (by decide +kernel) (by decide +kernel)
theorem selX12_X12_met_X12_met : Cond.selects RX12 yX12_met yX12_met ∈ TB := TB_in 1053 (by decide +kernel) (by decide +kernel)
theorem mlX12_170 : Cond.methodLink RX12 170 yX12_haveMet ∈ TB := TB_in 1055 (by decide +kernel) (by decide +kernel)
theorem mlL_51 : Cond.methodLink RL 51 yX12_time ∈ TB := TB_in 1059 (by decide +kernel) (by decide +kernel)
theorem selX12_X12_time_X12_time : Cond.selects RX12 yX12_time yX12_time ∈ TB := TB_in 1061 (by decide +kernel) (by decide +kernel)
theorem mlX12_173 : Cond.methodLink RX12 173 yX12_timeOf ∈ TB := TB_in 1063 (by decide +kernel) (by decide +kernel)
theorem mlX12_118 : Cond.methodLink RX12 118 yX12_finds ∈ TB := TB_in 1067 (by decide +kernel) (by decide +kernel)
theorem ctX12_113 : Cond.constant "KnocksThroughRockModel" 113 (1000000) ∈ TB := TB_in 1071 (by decide +kernel) (by decide +kernel)
theorem mlX12_114 : Cond.methodLink RX12 114 yX12_isBetter ∈ TB := TB_in 1072 (by decide +kernel) (by decide +kernel)
theorem mlL_56 : Cond.methodLink RL 56 yX12_loud ∈ TB := TB_in 1076 (by decide +kernel) (by decide +kernel)
theorem selX12_X12_loud_X12_loud : Cond.selects RX12 yX12_loud yX12_loud ∈ TB := TB_in 1078 (by decide +kernel) (by decide +kernel)
theorem klX12_176 : Cond.constantLong "KnocksThroughRockModel" 176 (99) ∈ TB := TB_in 1080 (by decide +kernel) (by decide +kernel)
theorem mlL_60 : Cond.methodLink RL 60 yX12_paths ∈ TB := TB_in 1081 (by decide +kernel) (by decide +kernel)
theorem selX12_X12_paths_X12_paths : Cond.selects RX12 yX12_paths yX12_paths ∈ TB := TB_in 1083 (by decide +kernel) (by decide +kernel)
theorem mlX12_178 : Cond.methodLink RX12 178 yX12_countsWays ∈ TB := TB_in 1085 (by decide +kernel) (by decide +kernel)
theorem mlL_64 : Cond.methodLink RL 64 yX12_reaches ∈ TB := TB_in 1089 (by decide +kernel) (by decide +kernel)
theorem selX12_X12_reaches_X12_reaches : Cond.selects RX12 yX12_reaches yX12_reaches ∈ TB := TB_in 1091 (by decide +kernel) (by decide +kernel)
theorem mlL_68 : Cond.methodLink RL 68 yX12_from ∈ TB := TB_in 1093 (by decide +kernel) (by decide +kernel)
theorem selX12_X12_from_X12_from : Cond.selects RX12 yX12_from yX12_from ∈ TB := TB_in 1095 (by decide +kernel) (by decide +kernel)
theorem mlX12_181 : Cond.methodLink RX12 181 yX12_told ∈ TB := TB_in 1097 (by decide +kernel) (by decide +kernel)
theorem mlX12_184 : Cond.methodLink RX12 184 yX12_isFrom ∈ TB := TB_in 1101 (by decide +kernel) (by decide +kernel)
theorem mlL_72 : Cond.methodLink RL 72 yX12_listen ∈ TB := TB_in 1105 (by decide +kernel) (by decide +kernel)
theorem selX12_X12_listen_X12_listen : Cond.selects RX12 yX12_listen yX12_listen ∈ TB := TB_in 1107 (by decide +kernel) (by decide +kernel)
theorem mlX12_187 : Cond.methodLink RX12 187 yX12_alikeAt ∈ TB := TB_in 1109 (by decide +kernel) (by decide +kernel)
theorem mlL_77 : Cond.methodLink RL 77 yX12_rocks ∈ TB := TB_in 1113 (by decide +kernel) (by decide +kernel)
theorem selX12_X12_rocks_X12_rocks : Cond.selects RX12 yX12_rocks yX12_rocks ∈ TB := TB_in 1115 (by decide +kernel) (by decide +kernel)
theorem klX12_190 : Cond.constantLong "KnocksThroughRockModel" 190 (9) ∈ TB := TB_in 1117 (by decide +kernel) (by decide +kernel)
theorem mlX12_192 : Cond.methodLink RX12 192 yX12_begins ∈ TB := TB_in 1118 (by decide +kernel) (by decide +kernel)
theorem mlX12_195 : Cond.methodLink RX12 195 yX12_ends ∈ TB := TB_in 1122 (by decide +kernel) (by decide +kernel)
theorem mlL_81 : Cond.methodLink RL 81 yX12_toils ∈ TB := TB_in 1126 (by decide +kernel) (by decide +kernel)
theorem selX12_X12_toils_X12_toils : Cond.selects RX12 yX12_toils yX12_toils ∈ TB := TB_in 1128 (by decide +kernel) (by decide +kernel)
theorem mlX12_198 : Cond.methodLink RX12 198 yX12_findsToils ∈ TB := TB_in 1130 (by decide +kernel) (by decide +kernel)
theorem mlL_85 : Cond.methodLink RL 85 yX12_soon ∈ TB := TB_in 1134 (by decide +kernel) (by decide +kernel)
theorem selX12_X12_soon_X12_soon : Cond.selects RX12 yX12_soon yX12_soon ∈ TB := TB_in 1136 (by decide +kernel) (by decide +kernel)
theorem mlX12_201 : Cond.methodLink RX12 201 yX12_soonNow ∈ TB := TB_in 1138 (by decide +kernel) (by decide +kernel)
theorem mlL_89 : Cond.methodLink RL 89 yX12_side ∈ TB := TB_in 1142 (by decide +kernel) (by decide +kernel)
theorem selX12_X12_side_X12_side : Cond.selects RX12 yX12_side yX12_side ∈ TB := TB_in 1144 (by decide +kernel) (by decide +kernel)
theorem mlL_93 : Cond.methodLink RL 93 yX12_taken ∈ TB := TB_in 1146 (by decide +kernel) (by decide +kernel)
theorem selX12_X12_taken_X12_taken : Cond.selects RX12 yX12_taken yX12_taken ∈ TB := TB_in 1148 (by decide +kernel) (by decide +kernel)
theorem klX12_207 : Cond.constantLong "KnocksThroughRockModel" 207 (255) ∈ TB := TB_in 1150 (by decide +kernel) (by decide +kernel)
theorem klX12_209 : Cond.constantLong "KnocksThroughRockModel" 209 (8) ∈ TB := TB_in 1151 (by decide +kernel) (by decide +kernel)
theorem mlX12_211 : Cond.methodLink RX12 211 yX12_areTaken ∈ TB := TB_in 1152 (by decide +kernel) (by decide +kernel)
theorem mlX12_204 : Cond.methodLink RX12 204 yX12_bits ∈ TB := TB_in 1155 (by decide +kernel) (by decide +kernel)
theorem mlL_97 : Cond.methodLink RL 97 yX12_safe ∈ TB := TB_in 1158 (by decide +kernel) (by decide +kernel)
theorem selX12_X12_safe_X12_safe : Cond.selects RX12 yX12_safe yX12_safe ∈ TB := TB_in 1160 (by decide +kernel) (by decide +kernel)
theorem mlX12_215 : Cond.methodLink RX12 215 yX12_isSafe ∈ TB := TB_in 1162 (by decide +kernel) (by decide +kernel)
theorem mlL_101 : Cond.methodLink RL 101 yX12_seeded ∈ TB := TB_in 1166 (by decide +kernel) (by decide +kernel)
theorem selX12_X12_seeded_X12_seeded : Cond.selects RX12 yX12_seeded yX12_seeded ∈ TB := TB_in 1168 (by decide +kernel) (by decide +kernel)
theorem klX12_224 : Cond.constantLong "KnocksThroughRockModel" 224 (40) ∈ TB := TB_in 1170 (by decide +kernel) (by decide +kernel)
theorem mlX12_226 : Cond.methodLink RX12 226 yX12_drawn ∈ TB := TB_in 1171 (by decide +kernel) (by decide +kernel)
theorem ctX12_221 : Cond.constant "KnocksThroughRockModel" 221 (1103515245) ∈ TB := TB_in 1175 (by decide +kernel) (by decide +kernel)
theorem ctX12_222 : Cond.constant "KnocksThroughRockModel" 222 (2147483647) ∈ TB := TB_in 1176 (by decide +kernel) (by decide +kernel)
theorem ctX12_223 : Cond.constant "KnocksThroughRockModel" 223 (65536) ∈ TB := TB_in 1177 (by decide +kernel) (by decide +kernel)
theorem mlX12_229 : Cond.methodLink RX12 229 yX12_hours ∈ TB := TB_in 1178 (by decide +kernel) (by decide +kernel)
theorem mlL_105 : Cond.methodLink RL 105 yX12_judge ∈ TB := TB_in 1182 (by decide +kernel) (by decide +kernel)
theorem selX12_X12_judge_X12_judge : Cond.selects RX12 yX12_judge yX12_judge ∈ TB := TB_in 1184 (by decide +kernel) (by decide +kernel)
theorem mlX12_232 : Cond.methodLink RX12 232 yX12_wrongThree ∈ TB := TB_in 1186 (by decide +kernel) (by decide +kernel)
theorem mlL_109 : Cond.methodLink RL 109 yX12_image ∈ TB := TB_in 1190 (by decide +kernel) (by decide +kernel)
theorem selX12_X12_image_X12_image : Cond.selects RX12 yX12_image yX12_image ∈ TB := TB_in 1192 (by decide +kernel) (by decide +kernel)
theorem mlL_113 : Cond.methodLink RL 113 yX12_restore ∈ TB := TB_in 1194 (by decide +kernel) (by decide +kernel)
theorem selX12_X12_restore_X12_restore : Cond.selects RX12 yX12_restore yX12_restore ∈ TB := TB_in 1196 (by decide +kernel) (by decide +kernel)
theorem mlL_117 : Cond.methodLink RL 117 yX12_count ∈ TB := TB_in 1198 (by decide +kernel) (by decide +kernel)
theorem selX12_X12_count_X12_count : Cond.selects RX12 yX12_count yX12_count ∈ TB := TB_in 1200 (by decide +kernel) (by decide +kernel)
theorem mlL_122 : Cond.methodLink RL 122 yX12_keep ∈ TB := TB_in 1202 (by decide +kernel) (by decide +kernel)
theorem selX12_X12_keep_X12_keep : Cond.selects RX12 yX12_keep yX12_keep ∈ TB := TB_in 1204 (by decide +kernel) (by decide +kernel)
theorem mlL_126 : Cond.methodLink RL 126 yX12_row ∈ TB := TB_in 1206 (by decide +kernel) (by decide +kernel)
theorem selX12_X12_row_X12_row : Cond.selects RX12 yX12_row yX12_row ∈ TB := TB_in 1208 (by decide +kernel) (by decide +kernel)
theorem klX12_239 : Cond.constantLong "KnocksThroughRockModel" 239 (2) ∈ TB := TB_in 1210 (by decide +kernel) (by decide +kernel)
theorem mlL_130 : Cond.methodLink RL 130 yX12_put ∈ TB := TB_in 1211 (by decide +kernel) (by decide +kernel)
theorem selX12_X12_put_X12_put : Cond.selects RX12 yX12_put yX12_put ∈ TB := TB_in 1213 (by decide +kernel) (by decide +kernel)
theorem mlL_136 : Cond.methodLink RL 136 yX12_element ∈ TB := TB_in 1215 (by decide +kernel) (by decide +kernel)
theorem selX12_X12_element_X12_element : Cond.selects RX12 yX12_element yX12_element ∈ TB := TB_in 1217 (by decide +kernel) (by decide +kernel)
theorem mlL_143 : Cond.methodLink RL 143 yX12_copy ∈ TB := TB_in 1219 (by decide +kernel) (by decide +kernel)
theorem selX12_X12_copy_X12_copy : Cond.selects RX12 yX12_copy yX12_copy ∈ TB := TB_in 1221 (by decide +kernel) (by decide +kernel)
theorem mlL_147 : Cond.methodLink RL 147 yX12_pay ∈ TB := TB_in 1223 (by decide +kernel) (by decide +kernel)
theorem selX12_X12_pay_X12_pay : Cond.selects RX12 yX12_pay yX12_pay ∈ TB := TB_in 1225 (by decide +kernel) (by decide +kernel)
theorem mlX12_241 : Cond.methodLink RX12 241 yX12_payBy ∈ TB := TB_in 1227 (by decide +kernel) (by decide +kernel)
theorem mlL_151 : Cond.methodLink RL 151 yX12_toss ∈ TB := TB_in 1230 (by decide +kernel) (by decide +kernel)
theorem selX12_X12_toss_X12_toss : Cond.selects RX12 yX12_toss yX12_toss ∈ TB := TB_in 1232 (by decide +kernel) (by decide +kernel)
theorem ac_long : Cond.arrayClass (newarray.typeOf .long) ∈ TB := TB_in 1234 (by decide +kernel) (by decide +kernel)
theorem smX0_X0_toil : Cond.sameMethod "KnocksThroughRock$Clay" "KnocksThroughRock$Clay" "toil" "()I" ∈ TB := TB_in 1235 (by decide +kernel) (by decide +kernel)
theorem smX3_X3_toil : Cond.sameMethod "KnocksThroughRock$Granite" "KnocksThroughRock$Granite" "toil" "()I" ∈ TB := TB_in 1236 (by decide +kernel) (by decide +kernel)
theorem smX0_X0_slow : Cond.sameMethod "KnocksThroughRock$Clay" "KnocksThroughRock$Clay" "slow" "()I" ∈ TB := TB_in 1237 (by decide +kernel) (by decide +kernel)
theorem smX3_X3_slow : Cond.sameMethod "KnocksThroughRock$Granite" "KnocksThroughRock$Granite" "slow" "()I" ∈ TB := TB_in 1238 (by decide +kernel) (by decide +kernel)
theorem smX0_X0_loss : Cond.sameMethod "KnocksThroughRock$Clay" "KnocksThroughRock$Clay" "loss" "()I" ∈ TB := TB_in 1239 (by decide +kernel) (by decide +kernel)
theorem smX0_X0_worth : Cond.sameMethod "KnocksThroughRock$Clay" "KnocksThroughRock$Clay" "worth" "()I" ∈ TB := TB_in 1240 (by decide +kernel) (by decide +kernel)
theorem smX3_X3_worth : Cond.sameMethod "KnocksThroughRock$Granite" "KnocksThroughRock$Granite" "worth" "()I" ∈ TB := TB_in 1241 (by decide +kernel) (by decide +kernel)
theorem oi_i : Cond.instanceMethod objectInit ∈ TB := TB_in 78 (by decide +kernel) (by decide +kernel)
theorem oi_c : Cond.code objectInit ⟨#[0xb1]⟩ 1 none ∈ TB := TB_in 79 (by decide +kernel) (by decide +kernel)
theorem oiX11_3 : Cond.methodLink RX11 3 objectInit ∈ TB := TB_in 77 (by decide +kernel) (by decide +kernel)
theorem oiX5_3 : Cond.methodLink RX5 3 objectInit ∈ TB := TB_in 85 (by decide +kernel) (by decide +kernel)
theorem oiX6_3 : Cond.methodLink RX6 3 objectInit ∈ TB := TB_in 99 (by decide +kernel) (by decide +kernel)
theorem oiX10_3 : Cond.methodLink RX10 3 objectInit ∈ TB := TB_in 146 (by decide +kernel) (by decide +kernel)
theorem oiX7_3 : Cond.methodLink RX7 3 objectInit ∈ TB := TB_in 175 (by decide +kernel) (by decide +kernel)
theorem oiX12_1 : Cond.methodLink RX12 1 objectInit ∈ TB := TB_in 868 (by decide +kernel) (by decide +kernel)
theorem inX0 : ∀ w ∈ u_ws RX0 TX0 1, w ∈ TB := List.forall_mem_cons.mpr ⟨TB_in 293 (by decide +kernel) (by decide +kernel), fun _ h => absurd h List.not_mem_nil⟩
theorem inX1 : ∀ w ∈ u_ws RX1 TX1 1, w ∈ TB := List.forall_mem_cons.mpr ⟨TB_in 114 (by decide +kernel) (by decide +kernel), fun _ h => absurd h List.not_mem_nil⟩
theorem inX2 : ∀ w ∈ u_ws RX2 TX2 1, w ∈ TB := List.forall_mem_cons.mpr ⟨TB_in 322 (by decide +kernel) (by decide +kernel), fun _ h => absurd h List.not_mem_nil⟩
theorem inX3 : ∀ w ∈ u_ws RX3 TX3 1, w ∈ TB := List.forall_mem_cons.mpr ⟨TB_in 285 (by decide +kernel) (by decide +kernel), fun _ h => absurd h List.not_mem_nil⟩
theorem inX4 : ∀ w ∈ u_ws RX4 TX4 1, w ∈ TB := List.forall_mem_cons.mpr ⟨TB_in 314 (by decide +kernel) (by decide +kernel), fun _ h => absurd h List.not_mem_nil⟩
theorem inX5 : ∀ w ∈ u_ws RX5 TX5 4, w ∈ TB := List.forall_mem_cons.mpr ⟨TB_in 130 (by decide +kernel) (by decide +kernel), List.forall_mem_cons.mpr ⟨TB_in 132 (by decide +kernel) (by decide +kernel), List.forall_mem_cons.mpr ⟨TB_in 134 (by decide +kernel) (by decide +kernel), List.forall_mem_cons.mpr ⟨TB_in 136 (by decide +kernel) (by decide +kernel), fun _ h => absurd h List.not_mem_nil⟩⟩⟩⟩
theorem inX6 : ∀ w ∈ u_ws RX6 TX6 1, w ∈ TB := List.forall_mem_cons.mpr ⟨TB_in 120 (by decide +kernel) (by decide +kernel), fun _ h => absurd h List.not_mem_nil⟩
theorem inX7 : ∀ w ∈ u_ws RX7 TX7 4, w ∈ TB := List.forall_mem_cons.mpr ⟨TB_in 184 (by decide +kernel) (by decide +kernel), List.forall_mem_cons.mpr ⟨TB_in 186 (by decide +kernel) (by decide +kernel), List.forall_mem_cons.mpr ⟨TB_in 188 (by decide +kernel) (by decide +kernel), List.forall_mem_cons.mpr ⟨TB_in 190 (by decide +kernel) (by decide +kernel), fun _ h => absurd h List.not_mem_nil⟩⟩⟩⟩
theorem inX8 : ∀ w ∈ u_ws RX8 TX8 1, w ∈ TB := List.forall_mem_cons.mpr ⟨TB_in 309 (by decide +kernel) (by decide +kernel), fun _ h => absurd h List.not_mem_nil⟩
theorem inX9 : ∀ w ∈ u_ws RX9 TX9 1, w ∈ TB := List.forall_mem_cons.mpr ⟨TB_in 301 (by decide +kernel) (by decide +kernel), fun _ h => absurd h List.not_mem_nil⟩
theorem inX10 : ∀ w ∈ u_ws RX10 TX10 6, w ∈ TB := List.forall_mem_cons.mpr ⟨TB_in 157 (by decide +kernel) (by decide +kernel), List.forall_mem_cons.mpr ⟨TB_in 159 (by decide +kernel) (by decide +kernel), List.forall_mem_cons.mpr ⟨TB_in 161 (by decide +kernel) (by decide +kernel), List.forall_mem_cons.mpr ⟨TB_in 163 (by decide +kernel) (by decide +kernel), List.forall_mem_cons.mpr ⟨TB_in 165 (by decide +kernel) (by decide +kernel), List.forall_mem_cons.mpr ⟨TB_in 167 (by decide +kernel) (by decide +kernel), fun _ h => absurd h List.not_mem_nil⟩⟩⟩⟩⟩⟩
theorem inX11 : ∀ w ∈ u_ws RX11 TX11 9, w ∈ TB := List.forall_mem_cons.mpr ⟨TB_in 202 (by decide +kernel) (by decide +kernel), List.forall_mem_cons.mpr ⟨TB_in 204 (by decide +kernel) (by decide +kernel), List.forall_mem_cons.mpr ⟨TB_in 206 (by decide +kernel) (by decide +kernel), List.forall_mem_cons.mpr ⟨TB_in 208 (by decide +kernel) (by decide +kernel), List.forall_mem_cons.mpr ⟨TB_in 210 (by decide +kernel) (by decide +kernel), List.forall_mem_cons.mpr ⟨TB_in 212 (by decide +kernel) (by decide +kernel), List.forall_mem_cons.mpr ⟨TB_in 214 (by decide +kernel) (by decide +kernel), List.forall_mem_cons.mpr ⟨TB_in 216 (by decide +kernel) (by decide +kernel), List.forall_mem_cons.mpr ⟨TB_in 218 (by decide +kernel) (by decide +kernel), fun _ h => absurd h List.not_mem_nil⟩⟩⟩⟩⟩⟩⟩⟩⟩
theorem inX12 : ∀ w ∈ u_ws RX12 TX12 23, w ∈ TB := List.forall_mem_cons.mpr ⟨TB_in 892 (by decide +kernel) (by decide +kernel), List.forall_mem_cons.mpr ⟨TB_in 894 (by decide +kernel) (by decide +kernel), List.forall_mem_cons.mpr ⟨TB_in 896 (by decide +kernel) (by decide +kernel), List.forall_mem_cons.mpr ⟨TB_in 898 (by decide +kernel) (by decide +kernel), List.forall_mem_cons.mpr ⟨TB_in 900 (by decide +kernel) (by decide +kernel), List.forall_mem_cons.mpr ⟨TB_in 902 (by decide +kernel) (by decide +kernel), List.forall_mem_cons.mpr ⟨TB_in 904 (by decide +kernel) (by decide +kernel), List.forall_mem_cons.mpr ⟨TB_in 906 (by decide +kernel) (by decide +kernel), List.forall_mem_cons.mpr ⟨TB_in 908 (by decide +kernel) (by decide +kernel), List.forall_mem_cons.mpr ⟨TB_in 910 (by decide +kernel) (by decide +kernel), List.forall_mem_cons.mpr ⟨TB_in 912 (by decide +kernel) (by decide +kernel), List.forall_mem_cons.mpr ⟨TB_in 914 (by decide +kernel) (by decide +kernel), List.forall_mem_cons.mpr ⟨TB_in 916 (by decide +kernel) (by decide +kernel), List.forall_mem_cons.mpr ⟨TB_in 918 (by decide +kernel) (by decide +kernel), List.forall_mem_cons.mpr ⟨TB_in 920 (by decide +kernel) (by decide +kernel), List.forall_mem_cons.mpr ⟨TB_in 922 (by decide +kernel) (by decide +kernel), List.forall_mem_cons.mpr ⟨TB_in 924 (by decide +kernel) (by decide +kernel), List.forall_mem_cons.mpr ⟨TB_in 926 (by decide +kernel) (by decide +kernel), List.forall_mem_cons.mpr ⟨TB_in 928 (by decide +kernel) (by decide +kernel), List.forall_mem_cons.mpr ⟨TB_in 930 (by decide +kernel) (by decide +kernel), List.forall_mem_cons.mpr ⟨TB_in 932 (by decide +kernel) (by decide +kernel), List.forall_mem_cons.mpr ⟨TB_in 934 (by decide +kernel) (by decide +kernel), List.forall_mem_cons.mpr ⟨TB_in 936 (by decide +kernel) (by decide +kernel), fun _ h => absurd h List.not_mem_nil⟩⟩⟩⟩⟩⟩⟩⟩⟩⟩⟩⟩⟩⟩⟩⟩⟩⟩⟩⟩⟩⟩⟩
end
section
def updN (f : Nat → Nat) (k x : Nat) : Nat → Nat := fun j => if j = k then x else f j
theorem updN_eq (f : Nat → Nat) (k x : Nat) : updN f k x k = x := if_pos rfl
theorem updN_ne {f : Nat → Nat} {k x j : Nat} (h : j ≠ k) : updN f k x j = f j := if_neg h
theorem upd_eq (f : Nat → Int32) (k : Nat) (x : Int32) : upd f k x k = x := if_pos rfl
theorem upd_ne {f : Nat → Int32} {k j : Nat} {x : Int32} (h : j ≠ k) : upd f k x j = f j := if_neg h
def nf (f : Nat → Nat) : Nat → Int32 := fun j => nI (f j)
theorem upd_nf (f : Nat → Nat) (k x : Nat) : upd (nf f) k (nI x) = nf (updN f k x) := by
  funext j
  by_cases h : j = k
  · subst h; simp [upd, nf, updN]
  · simp [upd, nf, updN, h]
/-! ===== a block of cells at the addresses ad 0, ad 1 .. ===== -/
def bk (ad : Nat → Nat) : Nat → (Nat → va_E) → HV → HV
  | 0, _, V => V
  | n + 1, f, V => upv (bk ad n f V) (ad n) (f n)
def inj (ad : Nat → Nat) (n : Nat) : Prop := ∀ i, i < n → ∀ j, j < n → ad i = ad j → i = j
theorem bk_get {ad : Nat → Nat} {f : Nat → va_E} {V : HV} {m : Nat} : ∀ {n : Nat}, inj ad m → n ≤ m → ∀ {k : Nat}, k < n → bk ad n f V (ad k) = some (f k)
  | 0, _, _, _, hk => absurd hk (Nat.not_lt_zero _)
  | n + 1, hi, hm, k, hk => by
    by_cases h : k = n
    · subst h; exact upv_eq _ _ _
    · have h2 : ad k ≠ ad n := fun q => h (hi k (by omega) n (by omega) q)
      exact (upv_ne h2).trans (bk_get hi (by omega) (by omega))
theorem bk_congr {ad : Nat → Nat} {f g : Nat → va_E} {V : HV} : ∀ {n : Nat}, (∀ k, k < n → f k = g k) → bk ad n f V = bk ad n g V
  | 0, _ => rfl
  | n + 1, h => by
    show upv _ _ _ = upv _ _ _
    rw [bk_congr (n := n) (fun k hk => h k (by omega)), h n (by omega)]
theorem upv_upv (V : HV) (a : Nat) (e e' : va_E) : upv (upv V a e) a e' = upv V a e' := by
  funext q
  by_cases h : q = a <;> simp [upv, h]
theorem upv_comm {V : HV} {a b : Nat} (h : a ≠ b) (e e' : va_E) : upv (upv V a e) b e' = upv (upv V b e') a e := by
  funext q
  by_cases h1 : q = a
  · subst h1; simp [upv, h]
  · by_cases h2 : q = b
    · subst h2; simp [upv, h1]
    · simp [upv, h1, h2]
theorem bk_set {ad : Nat → Nat} {f g : Nat → va_E} {V : HV} {m : Nat} {e : va_E} {k : Nat} : ∀ {n : Nat}, inj ad m → n ≤ m → k < n → (∀ j, j < n → g j = if j = k then e else f j) → upv (bk ad n f V) (ad k) e = bk ad n g V
  | 0, _, _, hk, _ => absurd hk (Nat.not_lt_zero _)
  | n + 1, hi, hm, hk, hg => by
    show upv (upv (bk ad n f V) (ad n) (f n)) (ad k) e = upv (bk ad n g V) (ad n) (g n)
    by_cases h : k = n
    · subst h
      rw [upv_upv, hg k (by omega), if_pos rfl, bk_congr (f := f) (g := g) (fun j hj => by rw [hg j (by omega), if_neg (by omega)])]
    · have h2 : ad n ≠ ad k := fun q => h (hi k (by omega) n (by omega) q.symm)
      rw [upv_comm h2, bk_set (n := n) (g := g) hi (by omega) (by omega) (fun j hj => hg j (by omega)), hg n (by omega), if_neg (by omega)]
theorem bk_out {ad : Nat → Nat} {f : Nat → va_E} {V : HV} {q : Nat} : ∀ {n : Nat}, (∀ k, k < n → q ≠ ad k) → bk ad n f V q = V q
  | 0, _ => rfl
  | n + 1, h => (upv_ne (h n (by omega))).trans (bk_out (fun k hk => h k (by omega)))
theorem bk_upv {ad : Nat → Nat} {f : Nat → va_E} {V : HV} {a : Nat} {e : va_E} : ∀ {n : Nat}, (∀ k, k < n → a ≠ ad k) → upv (bk ad n f V) a e = bk ad n f (upv V a e)
  | 0, _ => rfl
  | n + 1, h => by
    show upv (upv (bk ad n f V) (ad n) (f n)) a e = upv (bk ad n f (upv V a e)) (ad n) (f n)
    rw [upv_comm (fun q => h n (by omega) q.symm), bk_upv (fun k hk => h k (by omega))]
/-- the addresses of a block: apart, and new -/
def aB (b0 n : Nat) (ad : Nat → Nat) : Prop := inj ad n ∧ ∀ k, k < n → b0 ≤ ad k
/-! ===== a mountain as the reference has it: kinds, figures, the gangs' cells, hours ===== -/
def enc (kd fg pl : Nat → Nat) (hr : Nat → Int32) : Nat → Int32 := fun j => if j < 40 then (if j % 2 = 0 then nI (kd (j / 2)) else nI (fg (j / 2))) else (if j % 2 = 0 then nI (pl ((j - 40) / 2)) else hr ((j - 40) / 2))
theorem enc_k {kd fg pl : Nat → Nat} {hr : Nat → Int32} {c : Nat} (h : c < 20) : enc kd fg pl hr (2 * c) = nI (kd c) := by
  unfold enc; rw [if_pos (by omega), if_pos (by omega), show 2 * c / 2 = c by omega]
theorem enc_f {kd fg pl : Nat → Nat} {hr : Nat → Int32} {c : Nat} (h : c < 20) : enc kd fg pl hr (2 * c + 1) = nI (fg c) := by
  unfold enc; rw [if_pos (by omega), if_neg (by omega), show (2 * c + 1) / 2 = c by omega]
theorem enc_p {kd fg pl : Nat → Nat} {hr : Nat → Int32} {g : Nat} : enc kd fg pl hr (40 + 2 * g) = nI (pl g) := by
  unfold enc; rw [if_neg (by omega), if_pos (by omega), show (40 + 2 * g - 40) / 2 = g by omega]
theorem enc_h {kd fg pl : Nat → Nat} {hr : Nat → Int32} {g : Nat} : enc kd fg pl hr (40 + 2 * g + 1) = hr g := by
  unfold enc; rw [if_neg (by omega), if_neg (by omega), show (40 + 2 * g + 1 - 40) / 2 = g by omega]
theorem enc_sk {kd fg pl : Nat → Nat} {hr : Nat → Int32} {c x : Nat} (h : c < 20) : upd (enc kd fg pl hr) (2 * c) (nI x) = enc (updN kd c x) fg pl hr := by
  funext j; unfold upd enc updN
  by_cases h1 : j = 2 * c
  · subst h1; rw [if_pos rfl, if_pos (by omega), if_pos (by omega), if_pos (by omega)]
  · rw [if_neg h1]
    by_cases h2 : j < 40 <;> by_cases h3 : j % 2 = 0 <;> simp only [h2, h3, if_true, if_false]
    rw [if_neg (by omega)]
theorem enc_sf {kd fg pl : Nat → Nat} {hr : Nat → Int32} {c x : Nat} (h : c < 20) : upd (enc kd fg pl hr) (2 * c + 1) (nI x) = enc kd (updN fg c x) pl hr := by
  funext j; unfold upd enc updN
  by_cases h1 : j = 2 * c + 1
  · subst h1; rw [if_pos rfl, if_pos (by omega), if_neg (by omega), if_pos (by omega)]
  · rw [if_neg h1]
    by_cases h2 : j < 40 <;> by_cases h3 : j % 2 = 0 <;> simp only [h2, h3, if_true, if_false]
    rw [if_neg (by omega)]
theorem enc_sp {kd fg pl : Nat → Nat} {hr : Nat → Int32} {g x : Nat} : upd (enc kd fg pl hr) (40 + 2 * g) (nI x) = enc kd fg (updN pl g x) hr := by
  funext j; unfold upd enc updN
  by_cases h1 : j = 40 + 2 * g
  · subst h1; rw [if_pos rfl, if_neg (by omega), if_pos (by omega), if_pos (by omega)]
  · rw [if_neg h1]
    by_cases h2 : j < 40 <;> by_cases h3 : j % 2 = 0 <;> simp only [h2, h3, if_true, if_false]
    rw [if_neg (by omega)]
theorem enc_sh {kd fg pl : Nat → Nat} {hr : Nat → Int32} {g : Nat} {x : Int32} : upd (enc kd fg pl hr) (40 + 2 * g + 1) x = enc kd fg pl (upd hr g x) := by
  funext j; unfold upd enc
  by_cases h1 : j = 40 + 2 * g + 1
  · subst h1; rw [if_pos rfl, if_neg (by omega), if_neg (by omega)]; show x = if _ then x else _; rw [if_pos (by omega)]
  · rw [if_neg h1]
    by_cases h2 : j < 40 <;> by_cases h3 : j % 2 = 0 <;> simp only [h2, h3, if_true, if_false]
    rw [if_neg (by omega)]
def bI (b : Bool) : Int32 := bif b then nI 1 else nI 0
/-! ===== the memory of the reference ===== -/
def pM (Z : Nat → ClassId) (ad : Nat → Nat) (hi th po ba en se : Int32) (s im rd mi kp so sz el kk kf ti lo wa nu li to ot : Nat → Int32) : Nat → va_E
  | 0 => vO 12 [.ref (ad 1), .ref (ad 2), .ref (ad 3), .ref (ad 4), .ref (ad 5), .ref (ad 6), .ref (ad 7), .ref (ad 8), .ref (ad 9), .ref (ad 10), .int hi, .int th, .ref (ad 11), .ref (ad 12), .ref (ad 13), .int po, .int ba, .int en, .ref (ad 14), .ref (ad 15), .ref (ad 16), .ref (ad 17), .int se]
  | 1 => vI Z 0 44 s
  | 2 => vI Z 0 44 im
  | 3 => vI Z 0 44 rd
  | 4 => vI Z 0 44 mi
  | 5 => vI Z 0 8 kp
  | 6 => vI Z 0 8 so
  | 7 => vI Z 0 8 sz
  | 8 => vI Z 0 800 el
  | 9 => vI Z 0 8 kk
  | 10 => vI Z 0 8 kf
  | 11 => vI Z 0 20 ti
  | 12 => vI Z 0 20 lo
  | 13 => vI Z 0 20 wa
  | 14 => vI Z 0 4 nu
  | 15 => vI Z 0 400 li
  | 16 => vI Z 0 20 to
  | _ => vI Z 0 20 ot
def wM (Z : Nat → ClassId) (ad : Nat → Nat) (hi th po ba en se : Int32) (s im rd mi kp so sz el kk kf ti lo wa nu li to ot : Nat → Int32) (V : HV) : HV := bk ad 18 (pM Z ad hi th po ba en se s im rd mi kp so sz el kk kf ti lo wa nu li to ot) V
section MR
variable {b0 : Nat} {Z : Nat → ClassId} {ad : Nat → Nat} {hi th po ba en se : Int32} {s im rd mi kp so sz el kk kf ti lo wa nu li to ot : Nat → Int32} {V : HV}
theorem wM_0 (h : aB b0 18 ad) : wM Z ad hi th po ba en se s im rd mi kp so sz el kk kf ti lo wa nu li to ot V (ad 0) = some (vO 12 [.ref (ad 1), .ref (ad 2), .ref (ad 3), .ref (ad 4), .ref (ad 5), .ref (ad 6), .ref (ad 7), .ref (ad 8), .ref (ad 9), .ref (ad 10), .int hi, .int th, .ref (ad 11), .ref (ad 12), .ref (ad 13), .int po, .int ba, .int en, .ref (ad 14), .ref (ad 15), .ref (ad 16), .ref (ad 17), .int se]) := bk_get (k := 0) h.1 (Nat.le_refl _) (by decide)
theorem wM_s (h : aB b0 18 ad) : wM Z ad hi th po ba en se s im rd mi kp so sz el kk kf ti lo wa nu li to ot V (ad 1) = some (vI Z 0 44 s) := bk_get (k := 1) h.1 (Nat.le_refl _) (by decide)
theorem wMs_s {x9 : Nat → Int32} (h : aB b0 18 ad) : upv (wM Z ad hi th po ba en se s im rd mi kp so sz el kk kf ti lo wa nu li to ot V) (ad 1) (vI Z 0 44 x9) = wM Z ad hi th po ba en se x9 im rd mi kp so sz el kk kf ti lo wa nu li to ot V := bk_set (k := 1) h.1 (Nat.le_refl _) (by decide) (fun j hj => by
    match j, hj with
    | 0, _ => rfl
    | 1, _ => rfl
    | 2, _ => rfl
    | 3, _ => rfl
    | 4, _ => rfl
    | 5, _ => rfl
    | 6, _ => rfl
    | 7, _ => rfl
    | 8, _ => rfl
    | 9, _ => rfl
    | 10, _ => rfl
    | 11, _ => rfl
    | 12, _ => rfl
    | 13, _ => rfl
    | 14, _ => rfl
    | 15, _ => rfl
    | 16, _ => rfl
    | 17, _ => rfl
    | n + 18, hn => exact absurd hn (by omega))
theorem wM_im (h : aB b0 18 ad) : wM Z ad hi th po ba en se s im rd mi kp so sz el kk kf ti lo wa nu li to ot V (ad 2) = some (vI Z 0 44 im) := bk_get (k := 2) h.1 (Nat.le_refl _) (by decide)
theorem wMs_im {x9 : Nat → Int32} (h : aB b0 18 ad) : upv (wM Z ad hi th po ba en se s im rd mi kp so sz el kk kf ti lo wa nu li to ot V) (ad 2) (vI Z 0 44 x9) = wM Z ad hi th po ba en se s x9 rd mi kp so sz el kk kf ti lo wa nu li to ot V := bk_set (k := 2) h.1 (Nat.le_refl _) (by decide) (fun j hj => by
    match j, hj with
    | 0, _ => rfl
    | 1, _ => rfl
    | 2, _ => rfl
    | 3, _ => rfl
    | 4, _ => rfl
    | 5, _ => rfl
    | 6, _ => rfl
    | 7, _ => rfl
    | 8, _ => rfl
    | 9, _ => rfl
    | 10, _ => rfl
    | 11, _ => rfl
    | 12, _ => rfl
    | 13, _ => rfl
    | 14, _ => rfl
    | 15, _ => rfl
    | 16, _ => rfl
    | 17, _ => rfl
    | n + 18, hn => exact absurd hn (by omega))
theorem wM_rd (h : aB b0 18 ad) : wM Z ad hi th po ba en se s im rd mi kp so sz el kk kf ti lo wa nu li to ot V (ad 3) = some (vI Z 0 44 rd) := bk_get (k := 3) h.1 (Nat.le_refl _) (by decide)
theorem wMs_rd {x9 : Nat → Int32} (h : aB b0 18 ad) : upv (wM Z ad hi th po ba en se s im rd mi kp so sz el kk kf ti lo wa nu li to ot V) (ad 3) (vI Z 0 44 x9) = wM Z ad hi th po ba en se s im x9 mi kp so sz el kk kf ti lo wa nu li to ot V := bk_set (k := 3) h.1 (Nat.le_refl _) (by decide) (fun j hj => by
    match j, hj with
    | 0, _ => rfl
    | 1, _ => rfl
    | 2, _ => rfl
    | 3, _ => rfl
    | 4, _ => rfl
    | 5, _ => rfl
    | 6, _ => rfl
    | 7, _ => rfl
    | 8, _ => rfl
    | 9, _ => rfl
    | 10, _ => rfl
    | 11, _ => rfl
    | 12, _ => rfl
    | 13, _ => rfl
    | 14, _ => rfl
    | 15, _ => rfl
    | 16, _ => rfl
    | 17, _ => rfl
    | n + 18, hn => exact absurd hn (by omega))
theorem wM_mi (h : aB b0 18 ad) : wM Z ad hi th po ba en se s im rd mi kp so sz el kk kf ti lo wa nu li to ot V (ad 4) = some (vI Z 0 44 mi) := bk_get (k := 4) h.1 (Nat.le_refl _) (by decide)
theorem wMs_mi {x9 : Nat → Int32} (h : aB b0 18 ad) : upv (wM Z ad hi th po ba en se s im rd mi kp so sz el kk kf ti lo wa nu li to ot V) (ad 4) (vI Z 0 44 x9) = wM Z ad hi th po ba en se s im rd x9 kp so sz el kk kf ti lo wa nu li to ot V := bk_set (k := 4) h.1 (Nat.le_refl _) (by decide) (fun j hj => by
    match j, hj with
    | 0, _ => rfl
    | 1, _ => rfl
    | 2, _ => rfl
    | 3, _ => rfl
    | 4, _ => rfl
    | 5, _ => rfl
    | 6, _ => rfl
    | 7, _ => rfl
    | 8, _ => rfl
    | 9, _ => rfl
    | 10, _ => rfl
    | 11, _ => rfl
    | 12, _ => rfl
    | 13, _ => rfl
    | 14, _ => rfl
    | 15, _ => rfl
    | 16, _ => rfl
    | 17, _ => rfl
    | n + 18, hn => exact absurd hn (by omega))
theorem wM_kp (h : aB b0 18 ad) : wM Z ad hi th po ba en se s im rd mi kp so sz el kk kf ti lo wa nu li to ot V (ad 5) = some (vI Z 0 8 kp) := bk_get (k := 5) h.1 (Nat.le_refl _) (by decide)
theorem wMs_kp {x9 : Nat → Int32} (h : aB b0 18 ad) : upv (wM Z ad hi th po ba en se s im rd mi kp so sz el kk kf ti lo wa nu li to ot V) (ad 5) (vI Z 0 8 x9) = wM Z ad hi th po ba en se s im rd mi x9 so sz el kk kf ti lo wa nu li to ot V := bk_set (k := 5) h.1 (Nat.le_refl _) (by decide) (fun j hj => by
    match j, hj with
    | 0, _ => rfl
    | 1, _ => rfl
    | 2, _ => rfl
    | 3, _ => rfl
    | 4, _ => rfl
    | 5, _ => rfl
    | 6, _ => rfl
    | 7, _ => rfl
    | 8, _ => rfl
    | 9, _ => rfl
    | 10, _ => rfl
    | 11, _ => rfl
    | 12, _ => rfl
    | 13, _ => rfl
    | 14, _ => rfl
    | 15, _ => rfl
    | 16, _ => rfl
    | 17, _ => rfl
    | n + 18, hn => exact absurd hn (by omega))
theorem wM_so (h : aB b0 18 ad) : wM Z ad hi th po ba en se s im rd mi kp so sz el kk kf ti lo wa nu li to ot V (ad 6) = some (vI Z 0 8 so) := bk_get (k := 6) h.1 (Nat.le_refl _) (by decide)
theorem wMs_so {x9 : Nat → Int32} (h : aB b0 18 ad) : upv (wM Z ad hi th po ba en se s im rd mi kp so sz el kk kf ti lo wa nu li to ot V) (ad 6) (vI Z 0 8 x9) = wM Z ad hi th po ba en se s im rd mi kp x9 sz el kk kf ti lo wa nu li to ot V := bk_set (k := 6) h.1 (Nat.le_refl _) (by decide) (fun j hj => by
    match j, hj with
    | 0, _ => rfl
    | 1, _ => rfl
    | 2, _ => rfl
    | 3, _ => rfl
    | 4, _ => rfl
    | 5, _ => rfl
    | 6, _ => rfl
    | 7, _ => rfl
    | 8, _ => rfl
    | 9, _ => rfl
    | 10, _ => rfl
    | 11, _ => rfl
    | 12, _ => rfl
    | 13, _ => rfl
    | 14, _ => rfl
    | 15, _ => rfl
    | 16, _ => rfl
    | 17, _ => rfl
    | n + 18, hn => exact absurd hn (by omega))
theorem wM_sz (h : aB b0 18 ad) : wM Z ad hi th po ba en se s im rd mi kp so sz el kk kf ti lo wa nu li to ot V (ad 7) = some (vI Z 0 8 sz) := bk_get (k := 7) h.1 (Nat.le_refl _) (by decide)
theorem wMs_sz {x9 : Nat → Int32} (h : aB b0 18 ad) : upv (wM Z ad hi th po ba en se s im rd mi kp so sz el kk kf ti lo wa nu li to ot V) (ad 7) (vI Z 0 8 x9) = wM Z ad hi th po ba en se s im rd mi kp so x9 el kk kf ti lo wa nu li to ot V := bk_set (k := 7) h.1 (Nat.le_refl _) (by decide) (fun j hj => by
    match j, hj with
    | 0, _ => rfl
    | 1, _ => rfl
    | 2, _ => rfl
    | 3, _ => rfl
    | 4, _ => rfl
    | 5, _ => rfl
    | 6, _ => rfl
    | 7, _ => rfl
    | 8, _ => rfl
    | 9, _ => rfl
    | 10, _ => rfl
    | 11, _ => rfl
    | 12, _ => rfl
    | 13, _ => rfl
    | 14, _ => rfl
    | 15, _ => rfl
    | 16, _ => rfl
    | 17, _ => rfl
    | n + 18, hn => exact absurd hn (by omega))
theorem wM_el (h : aB b0 18 ad) : wM Z ad hi th po ba en se s im rd mi kp so sz el kk kf ti lo wa nu li to ot V (ad 8) = some (vI Z 0 800 el) := bk_get (k := 8) h.1 (Nat.le_refl _) (by decide)
theorem wMs_el {x9 : Nat → Int32} (h : aB b0 18 ad) : upv (wM Z ad hi th po ba en se s im rd mi kp so sz el kk kf ti lo wa nu li to ot V) (ad 8) (vI Z 0 800 x9) = wM Z ad hi th po ba en se s im rd mi kp so sz x9 kk kf ti lo wa nu li to ot V := bk_set (k := 8) h.1 (Nat.le_refl _) (by decide) (fun j hj => by
    match j, hj with
    | 0, _ => rfl
    | 1, _ => rfl
    | 2, _ => rfl
    | 3, _ => rfl
    | 4, _ => rfl
    | 5, _ => rfl
    | 6, _ => rfl
    | 7, _ => rfl
    | 8, _ => rfl
    | 9, _ => rfl
    | 10, _ => rfl
    | 11, _ => rfl
    | 12, _ => rfl
    | 13, _ => rfl
    | 14, _ => rfl
    | 15, _ => rfl
    | 16, _ => rfl
    | 17, _ => rfl
    | n + 18, hn => exact absurd hn (by omega))
theorem wM_kk (h : aB b0 18 ad) : wM Z ad hi th po ba en se s im rd mi kp so sz el kk kf ti lo wa nu li to ot V (ad 9) = some (vI Z 0 8 kk) := bk_get (k := 9) h.1 (Nat.le_refl _) (by decide)
theorem wMs_kk {x9 : Nat → Int32} (h : aB b0 18 ad) : upv (wM Z ad hi th po ba en se s im rd mi kp so sz el kk kf ti lo wa nu li to ot V) (ad 9) (vI Z 0 8 x9) = wM Z ad hi th po ba en se s im rd mi kp so sz el x9 kf ti lo wa nu li to ot V := bk_set (k := 9) h.1 (Nat.le_refl _) (by decide) (fun j hj => by
    match j, hj with
    | 0, _ => rfl
    | 1, _ => rfl
    | 2, _ => rfl
    | 3, _ => rfl
    | 4, _ => rfl
    | 5, _ => rfl
    | 6, _ => rfl
    | 7, _ => rfl
    | 8, _ => rfl
    | 9, _ => rfl
    | 10, _ => rfl
    | 11, _ => rfl
    | 12, _ => rfl
    | 13, _ => rfl
    | 14, _ => rfl
    | 15, _ => rfl
    | 16, _ => rfl
    | 17, _ => rfl
    | n + 18, hn => exact absurd hn (by omega))
theorem wM_kf (h : aB b0 18 ad) : wM Z ad hi th po ba en se s im rd mi kp so sz el kk kf ti lo wa nu li to ot V (ad 10) = some (vI Z 0 8 kf) := bk_get (k := 10) h.1 (Nat.le_refl _) (by decide)
theorem wMs_kf {x9 : Nat → Int32} (h : aB b0 18 ad) : upv (wM Z ad hi th po ba en se s im rd mi kp so sz el kk kf ti lo wa nu li to ot V) (ad 10) (vI Z 0 8 x9) = wM Z ad hi th po ba en se s im rd mi kp so sz el kk x9 ti lo wa nu li to ot V := bk_set (k := 10) h.1 (Nat.le_refl _) (by decide) (fun j hj => by
    match j, hj with
    | 0, _ => rfl
    | 1, _ => rfl
    | 2, _ => rfl
    | 3, _ => rfl
    | 4, _ => rfl
    | 5, _ => rfl
    | 6, _ => rfl
    | 7, _ => rfl
    | 8, _ => rfl
    | 9, _ => rfl
    | 10, _ => rfl
    | 11, _ => rfl
    | 12, _ => rfl
    | 13, _ => rfl
    | 14, _ => rfl
    | 15, _ => rfl
    | 16, _ => rfl
    | 17, _ => rfl
    | n + 18, hn => exact absurd hn (by omega))
theorem wM_ti (h : aB b0 18 ad) : wM Z ad hi th po ba en se s im rd mi kp so sz el kk kf ti lo wa nu li to ot V (ad 11) = some (vI Z 0 20 ti) := bk_get (k := 11) h.1 (Nat.le_refl _) (by decide)
theorem wMs_ti {x9 : Nat → Int32} (h : aB b0 18 ad) : upv (wM Z ad hi th po ba en se s im rd mi kp so sz el kk kf ti lo wa nu li to ot V) (ad 11) (vI Z 0 20 x9) = wM Z ad hi th po ba en se s im rd mi kp so sz el kk kf x9 lo wa nu li to ot V := bk_set (k := 11) h.1 (Nat.le_refl _) (by decide) (fun j hj => by
    match j, hj with
    | 0, _ => rfl
    | 1, _ => rfl
    | 2, _ => rfl
    | 3, _ => rfl
    | 4, _ => rfl
    | 5, _ => rfl
    | 6, _ => rfl
    | 7, _ => rfl
    | 8, _ => rfl
    | 9, _ => rfl
    | 10, _ => rfl
    | 11, _ => rfl
    | 12, _ => rfl
    | 13, _ => rfl
    | 14, _ => rfl
    | 15, _ => rfl
    | 16, _ => rfl
    | 17, _ => rfl
    | n + 18, hn => exact absurd hn (by omega))
theorem wM_lo (h : aB b0 18 ad) : wM Z ad hi th po ba en se s im rd mi kp so sz el kk kf ti lo wa nu li to ot V (ad 12) = some (vI Z 0 20 lo) := bk_get (k := 12) h.1 (Nat.le_refl _) (by decide)
theorem wMs_lo {x9 : Nat → Int32} (h : aB b0 18 ad) : upv (wM Z ad hi th po ba en se s im rd mi kp so sz el kk kf ti lo wa nu li to ot V) (ad 12) (vI Z 0 20 x9) = wM Z ad hi th po ba en se s im rd mi kp so sz el kk kf ti x9 wa nu li to ot V := bk_set (k := 12) h.1 (Nat.le_refl _) (by decide) (fun j hj => by
    match j, hj with
    | 0, _ => rfl
    | 1, _ => rfl
    | 2, _ => rfl
    | 3, _ => rfl
    | 4, _ => rfl
    | 5, _ => rfl
    | 6, _ => rfl
    | 7, _ => rfl
    | 8, _ => rfl
    | 9, _ => rfl
    | 10, _ => rfl
    | 11, _ => rfl
    | 12, _ => rfl
    | 13, _ => rfl
    | 14, _ => rfl
    | 15, _ => rfl
    | 16, _ => rfl
    | 17, _ => rfl
    | n + 18, hn => exact absurd hn (by omega))
theorem wM_wa (h : aB b0 18 ad) : wM Z ad hi th po ba en se s im rd mi kp so sz el kk kf ti lo wa nu li to ot V (ad 13) = some (vI Z 0 20 wa) := bk_get (k := 13) h.1 (Nat.le_refl _) (by decide)
theorem wMs_wa {x9 : Nat → Int32} (h : aB b0 18 ad) : upv (wM Z ad hi th po ba en se s im rd mi kp so sz el kk kf ti lo wa nu li to ot V) (ad 13) (vI Z 0 20 x9) = wM Z ad hi th po ba en se s im rd mi kp so sz el kk kf ti lo x9 nu li to ot V := bk_set (k := 13) h.1 (Nat.le_refl _) (by decide) (fun j hj => by
    match j, hj with
    | 0, _ => rfl
    | 1, _ => rfl
    | 2, _ => rfl
    | 3, _ => rfl
    | 4, _ => rfl
    | 5, _ => rfl
    | 6, _ => rfl
    | 7, _ => rfl
    | 8, _ => rfl
    | 9, _ => rfl
    | 10, _ => rfl
    | 11, _ => rfl
    | 12, _ => rfl
    | 13, _ => rfl
    | 14, _ => rfl
    | 15, _ => rfl
    | 16, _ => rfl
    | 17, _ => rfl
    | n + 18, hn => exact absurd hn (by omega))
theorem wM_nu (h : aB b0 18 ad) : wM Z ad hi th po ba en se s im rd mi kp so sz el kk kf ti lo wa nu li to ot V (ad 14) = some (vI Z 0 4 nu) := bk_get (k := 14) h.1 (Nat.le_refl _) (by decide)
theorem wMs_nu {x9 : Nat → Int32} (h : aB b0 18 ad) : upv (wM Z ad hi th po ba en se s im rd mi kp so sz el kk kf ti lo wa nu li to ot V) (ad 14) (vI Z 0 4 x9) = wM Z ad hi th po ba en se s im rd mi kp so sz el kk kf ti lo wa x9 li to ot V := bk_set (k := 14) h.1 (Nat.le_refl _) (by decide) (fun j hj => by
    match j, hj with
    | 0, _ => rfl
    | 1, _ => rfl
    | 2, _ => rfl
    | 3, _ => rfl
    | 4, _ => rfl
    | 5, _ => rfl
    | 6, _ => rfl
    | 7, _ => rfl
    | 8, _ => rfl
    | 9, _ => rfl
    | 10, _ => rfl
    | 11, _ => rfl
    | 12, _ => rfl
    | 13, _ => rfl
    | 14, _ => rfl
    | 15, _ => rfl
    | 16, _ => rfl
    | 17, _ => rfl
    | n + 18, hn => exact absurd hn (by omega))
theorem wM_li (h : aB b0 18 ad) : wM Z ad hi th po ba en se s im rd mi kp so sz el kk kf ti lo wa nu li to ot V (ad 15) = some (vI Z 0 400 li) := bk_get (k := 15) h.1 (Nat.le_refl _) (by decide)
theorem wMs_li {x9 : Nat → Int32} (h : aB b0 18 ad) : upv (wM Z ad hi th po ba en se s im rd mi kp so sz el kk kf ti lo wa nu li to ot V) (ad 15) (vI Z 0 400 x9) = wM Z ad hi th po ba en se s im rd mi kp so sz el kk kf ti lo wa nu x9 to ot V := bk_set (k := 15) h.1 (Nat.le_refl _) (by decide) (fun j hj => by
    match j, hj with
    | 0, _ => rfl
    | 1, _ => rfl
    | 2, _ => rfl
    | 3, _ => rfl
    | 4, _ => rfl
    | 5, _ => rfl
    | 6, _ => rfl
    | 7, _ => rfl
    | 8, _ => rfl
    | 9, _ => rfl
    | 10, _ => rfl
    | 11, _ => rfl
    | 12, _ => rfl
    | 13, _ => rfl
    | 14, _ => rfl
    | 15, _ => rfl
    | 16, _ => rfl
    | 17, _ => rfl
    | n + 18, hn => exact absurd hn (by omega))
theorem wM_to (h : aB b0 18 ad) : wM Z ad hi th po ba en se s im rd mi kp so sz el kk kf ti lo wa nu li to ot V (ad 16) = some (vI Z 0 20 to) := bk_get (k := 16) h.1 (Nat.le_refl _) (by decide)
theorem wMs_to {x9 : Nat → Int32} (h : aB b0 18 ad) : upv (wM Z ad hi th po ba en se s im rd mi kp so sz el kk kf ti lo wa nu li to ot V) (ad 16) (vI Z 0 20 x9) = wM Z ad hi th po ba en se s im rd mi kp so sz el kk kf ti lo wa nu li x9 ot V := bk_set (k := 16) h.1 (Nat.le_refl _) (by decide) (fun j hj => by
    match j, hj with
    | 0, _ => rfl
    | 1, _ => rfl
    | 2, _ => rfl
    | 3, _ => rfl
    | 4, _ => rfl
    | 5, _ => rfl
    | 6, _ => rfl
    | 7, _ => rfl
    | 8, _ => rfl
    | 9, _ => rfl
    | 10, _ => rfl
    | 11, _ => rfl
    | 12, _ => rfl
    | 13, _ => rfl
    | 14, _ => rfl
    | 15, _ => rfl
    | 16, _ => rfl
    | 17, _ => rfl
    | n + 18, hn => exact absurd hn (by omega))
theorem wM_ot (h : aB b0 18 ad) : wM Z ad hi th po ba en se s im rd mi kp so sz el kk kf ti lo wa nu li to ot V (ad 17) = some (vI Z 0 20 ot) := bk_get (k := 17) h.1 (Nat.le_refl _) (by decide)
theorem wMs_ot {x9 : Nat → Int32} (h : aB b0 18 ad) : upv (wM Z ad hi th po ba en se s im rd mi kp so sz el kk kf ti lo wa nu li to ot V) (ad 17) (vI Z 0 20 x9) = wM Z ad hi th po ba en se s im rd mi kp so sz el kk kf ti lo wa nu li to x9 V := bk_set (k := 17) h.1 (Nat.le_refl _) (by decide) (fun j hj => by
    match j, hj with
    | 0, _ => rfl
    | 1, _ => rfl
    | 2, _ => rfl
    | 3, _ => rfl
    | 4, _ => rfl
    | 5, _ => rfl
    | 6, _ => rfl
    | 7, _ => rfl
    | 8, _ => rfl
    | 9, _ => rfl
    | 10, _ => rfl
    | 11, _ => rfl
    | 12, _ => rfl
    | 13, _ => rfl
    | 14, _ => rfl
    | 15, _ => rfl
    | 16, _ => rfl
    | 17, _ => rfl
    | n + 18, hn => exact absurd hn (by omega))
theorem wMs_hi {x9 : Int32} (h : aB b0 18 ad) : upv (wM Z ad hi th po ba en se s im rd mi kp so sz el kk kf ti lo wa nu li to ot V) (ad 0) (vO 12 (([.ref (ad 1), .ref (ad 2), .ref (ad 3), .ref (ad 4), .ref (ad 5), .ref (ad 6), .ref (ad 7), .ref (ad 8), .ref (ad 9), .ref (ad 10), .int hi, .int th, .ref (ad 11), .ref (ad 12), .ref (ad 13), .int po, .int ba, .int en, .ref (ad 14), .ref (ad 15), .ref (ad 16), .ref (ad 17), .int se] : List Value).set 10 (.int x9))) = wM Z ad x9 th po ba en se s im rd mi kp so sz el kk kf ti lo wa nu li to ot V := bk_set (k := 0) h.1 (Nat.le_refl _) (by decide) (fun j hj => by
    match j, hj with
    | 0, _ => rfl
    | 1, _ => rfl
    | 2, _ => rfl
    | 3, _ => rfl
    | 4, _ => rfl
    | 5, _ => rfl
    | 6, _ => rfl
    | 7, _ => rfl
    | 8, _ => rfl
    | 9, _ => rfl
    | 10, _ => rfl
    | 11, _ => rfl
    | 12, _ => rfl
    | 13, _ => rfl
    | 14, _ => rfl
    | 15, _ => rfl
    | 16, _ => rfl
    | 17, _ => rfl
    | n + 18, hn => exact absurd hn (by omega))
theorem wMs_th {x9 : Int32} (h : aB b0 18 ad) : upv (wM Z ad hi th po ba en se s im rd mi kp so sz el kk kf ti lo wa nu li to ot V) (ad 0) (vO 12 (([.ref (ad 1), .ref (ad 2), .ref (ad 3), .ref (ad 4), .ref (ad 5), .ref (ad 6), .ref (ad 7), .ref (ad 8), .ref (ad 9), .ref (ad 10), .int hi, .int th, .ref (ad 11), .ref (ad 12), .ref (ad 13), .int po, .int ba, .int en, .ref (ad 14), .ref (ad 15), .ref (ad 16), .ref (ad 17), .int se] : List Value).set 11 (.int x9))) = wM Z ad hi x9 po ba en se s im rd mi kp so sz el kk kf ti lo wa nu li to ot V := bk_set (k := 0) h.1 (Nat.le_refl _) (by decide) (fun j hj => by
    match j, hj with
    | 0, _ => rfl
    | 1, _ => rfl
    | 2, _ => rfl
    | 3, _ => rfl
    | 4, _ => rfl
    | 5, _ => rfl
    | 6, _ => rfl
    | 7, _ => rfl
    | 8, _ => rfl
    | 9, _ => rfl
    | 10, _ => rfl
    | 11, _ => rfl
    | 12, _ => rfl
    | 13, _ => rfl
    | 14, _ => rfl
    | 15, _ => rfl
    | 16, _ => rfl
    | 17, _ => rfl
    | n + 18, hn => exact absurd hn (by omega))
theorem wMs_po {x9 : Int32} (h : aB b0 18 ad) : upv (wM Z ad hi th po ba en se s im rd mi kp so sz el kk kf ti lo wa nu li to ot V) (ad 0) (vO 12 (([.ref (ad 1), .ref (ad 2), .ref (ad 3), .ref (ad 4), .ref (ad 5), .ref (ad 6), .ref (ad 7), .ref (ad 8), .ref (ad 9), .ref (ad 10), .int hi, .int th, .ref (ad 11), .ref (ad 12), .ref (ad 13), .int po, .int ba, .int en, .ref (ad 14), .ref (ad 15), .ref (ad 16), .ref (ad 17), .int se] : List Value).set 15 (.int x9))) = wM Z ad hi th x9 ba en se s im rd mi kp so sz el kk kf ti lo wa nu li to ot V := bk_set (k := 0) h.1 (Nat.le_refl _) (by decide) (fun j hj => by
    match j, hj with
    | 0, _ => rfl
    | 1, _ => rfl
    | 2, _ => rfl
    | 3, _ => rfl
    | 4, _ => rfl
    | 5, _ => rfl
    | 6, _ => rfl
    | 7, _ => rfl
    | 8, _ => rfl
    | 9, _ => rfl
    | 10, _ => rfl
    | 11, _ => rfl
    | 12, _ => rfl
    | 13, _ => rfl
    | 14, _ => rfl
    | 15, _ => rfl
    | 16, _ => rfl
    | 17, _ => rfl
    | n + 18, hn => exact absurd hn (by omega))
theorem wMs_ba {x9 : Int32} (h : aB b0 18 ad) : upv (wM Z ad hi th po ba en se s im rd mi kp so sz el kk kf ti lo wa nu li to ot V) (ad 0) (vO 12 (([.ref (ad 1), .ref (ad 2), .ref (ad 3), .ref (ad 4), .ref (ad 5), .ref (ad 6), .ref (ad 7), .ref (ad 8), .ref (ad 9), .ref (ad 10), .int hi, .int th, .ref (ad 11), .ref (ad 12), .ref (ad 13), .int po, .int ba, .int en, .ref (ad 14), .ref (ad 15), .ref (ad 16), .ref (ad 17), .int se] : List Value).set 16 (.int x9))) = wM Z ad hi th po x9 en se s im rd mi kp so sz el kk kf ti lo wa nu li to ot V := bk_set (k := 0) h.1 (Nat.le_refl _) (by decide) (fun j hj => by
    match j, hj with
    | 0, _ => rfl
    | 1, _ => rfl
    | 2, _ => rfl
    | 3, _ => rfl
    | 4, _ => rfl
    | 5, _ => rfl
    | 6, _ => rfl
    | 7, _ => rfl
    | 8, _ => rfl
    | 9, _ => rfl
    | 10, _ => rfl
    | 11, _ => rfl
    | 12, _ => rfl
    | 13, _ => rfl
    | 14, _ => rfl
    | 15, _ => rfl
    | 16, _ => rfl
    | 17, _ => rfl
    | n + 18, hn => exact absurd hn (by omega))
theorem wMs_en {x9 : Int32} (h : aB b0 18 ad) : upv (wM Z ad hi th po ba en se s im rd mi kp so sz el kk kf ti lo wa nu li to ot V) (ad 0) (vO 12 (([.ref (ad 1), .ref (ad 2), .ref (ad 3), .ref (ad 4), .ref (ad 5), .ref (ad 6), .ref (ad 7), .ref (ad 8), .ref (ad 9), .ref (ad 10), .int hi, .int th, .ref (ad 11), .ref (ad 12), .ref (ad 13), .int po, .int ba, .int en, .ref (ad 14), .ref (ad 15), .ref (ad 16), .ref (ad 17), .int se] : List Value).set 17 (.int x9))) = wM Z ad hi th po ba x9 se s im rd mi kp so sz el kk kf ti lo wa nu li to ot V := bk_set (k := 0) h.1 (Nat.le_refl _) (by decide) (fun j hj => by
    match j, hj with
    | 0, _ => rfl
    | 1, _ => rfl
    | 2, _ => rfl
    | 3, _ => rfl
    | 4, _ => rfl
    | 5, _ => rfl
    | 6, _ => rfl
    | 7, _ => rfl
    | 8, _ => rfl
    | 9, _ => rfl
    | 10, _ => rfl
    | 11, _ => rfl
    | 12, _ => rfl
    | 13, _ => rfl
    | 14, _ => rfl
    | 15, _ => rfl
    | 16, _ => rfl
    | 17, _ => rfl
    | n + 18, hn => exact absurd hn (by omega))
theorem wMs_se {x9 : Int32} (h : aB b0 18 ad) : upv (wM Z ad hi th po ba en se s im rd mi kp so sz el kk kf ti lo wa nu li to ot V) (ad 0) (vO 12 (([.ref (ad 1), .ref (ad 2), .ref (ad 3), .ref (ad 4), .ref (ad 5), .ref (ad 6), .ref (ad 7), .ref (ad 8), .ref (ad 9), .ref (ad 10), .int hi, .int th, .ref (ad 11), .ref (ad 12), .ref (ad 13), .int po, .int ba, .int en, .ref (ad 14), .ref (ad 15), .ref (ad 16), .ref (ad 17), .int se] : List Value).set 22 (.int x9))) = wM Z ad hi th po ba en x9 s im rd mi kp so sz el kk kf ti lo wa nu li to ot V := bk_set (k := 0) h.1 (Nat.le_refl _) (by decide) (fun j hj => by
    match j, hj with
    | 0, _ => rfl
    | 1, _ => rfl
    | 2, _ => rfl
    | 3, _ => rfl
    | 4, _ => rfl
    | 5, _ => rfl
    | 6, _ => rfl
    | 7, _ => rfl
    | 8, _ => rfl
    | 9, _ => rfl
    | 10, _ => rfl
    | 11, _ => rfl
    | 12, _ => rfl
    | 13, _ => rfl
    | 14, _ => rfl
    | 15, _ => rfl
    | 16, _ => rfl
    | 17, _ => rfl
    | n + 18, hn => exact absurd hn (by omega))
end MR
/-! ===== exact contracts: an answer, a memory behind it ===== -/
def KE (l : Launch) (D : va_G) (Z : Nat → ClassId) (b0 : Nat) (y : MethodName) (bytes : ByteArray) (maxL : Nat) (ret : Option FieldType) (rm : Room) (av : List Value) (V : HV) (r : Option Value) (V2 : HV) : Prop := KM l D Z b0 y bytes maxL ret rm av V (fun v V' => v = r ∧ V' = V2)
section KR
variable {l : Launch} {D : va_G} {Z : Nat → ClassId} {b0 : Nat} {R : Room} {own : String} {cc : ByteArray} {nL : Nat} {E : Method → Array Value → State → Prop} {T : List Frame → Array Value → State → State → Prop} {V : HV} {L : List (Nat × Value)} {k n pc : Nat} {rest : List Value}
theorem KM.ofP {y : MethodName} {bytes : ByteArray} {maxL : Nat} {ret : Option FieldType} {rm : Room} {av : List Value} {Po : Option Value → HV → Prop} (hy : plainName y.cls = true) (hav : (lg_sl av).length ≤ maxL) (g : ∀ Po' : Option Value → HV → Prop, (∀ v V', Po v V' → Po' v V') → G l D Z b0 rm y.cls bytes maxL (gE ret y.name) (gT D b0 Po' rm.cells rm.slots) V (lv_args 0 av) 0 0 0 []) : KM l D Z b0 y bytes maxL ret rm av V Po := KM.of hy hav (g Po (fun _ _ h => h))
theorem KE.of {y : MethodName} {bytes : ByteArray} {maxL : Nat} {ret : Option FieldType} {rm : Room} {av : List Value} {r : Option Value} {V2 : HV} (hy : plainName y.cls = true) (hav : (lg_sl av).length ≤ maxL) (g : ∀ Po : Option Value → HV → Prop, Po r V2 → G l D Z b0 rm y.cls bytes maxL (gE ret y.name) (gT D b0 Po rm.cells rm.slots) V (lv_args 0 av) 0 0 0 []) : KE l D Z b0 y bytes maxL ret rm av V r V2 := KM.of hy hav (g _ ⟨rfl, rfl⟩)
theorem e_callS {y : MethodName} {bytes : ByteArray} {maxL n0 index : Nat} {ret : Option FieldType} {rm : Room} {r : Value} {V2 : HV} {k2 n2 : Nat} {As st : List Value} (hM : KE l D Z b0 y bytes maxL ret rm (As) V (some r) V2) (hl : Cond.methodLink own index y ∈ TB) (hm : mS y bytes maxL ret n0) (hR : rm.frames + 1 ≤ R.frames ∧ 8 + (maxL + 11) + rm.locals ≤ R.locals) (hn : As.length = n0) (hst : st = As.reverse ++ rest) (hcat : (rest.map fun v => v.category).sum ≤ 8) (hdg : decode cc pc = .ok (.invokestatic index, 3)) (hf : k + rm.cells ≤ R.cells ∧ n + rm.slots ≤ R.slots) (hk2 : k + rm.cells = k2) (hn2 : n + rm.slots = n2) (kk : G l D Z b0 R own cc nL E T V2 L k2 n2 (pc + 3) (r :: rest)) : G l D Z b0 R own cc nL E T V L k n pc st := g_callS (hM := hM) (hl := hl) (hm := hm) (hR := hR) (hn := hn) (hst := hst) (hcat := hcat) (hdg := hdg) (hf := hf) (fun v V' h => by
  obtain ⟨rfl, rfl⟩ := h
  subst hk2; subst hn2
  exact kk)
theorem e_callSv {y : MethodName} {bytes : ByteArray} {maxL n0 index : Nat} {ret : Option FieldType} {rm : Room} {V2 : HV} {k2 n2 : Nat} {As st : List Value} (hM : KE l D Z b0 y bytes maxL ret rm (As) V none V2) (hl : Cond.methodLink own index y ∈ TB) (hm : mS y bytes maxL ret n0) (hR : rm.frames + 1 ≤ R.frames ∧ 8 + (maxL + 11) + rm.locals ≤ R.locals) (hn : As.length = n0) (hst : st = As.reverse ++ rest) (hcat : (rest.map fun v => v.category).sum ≤ 8) (hdg : decode cc pc = .ok (.invokestatic index, 3)) (hf : k + rm.cells ≤ R.cells ∧ n + rm.slots ≤ R.slots) (hk2 : k + rm.cells = k2) (hn2 : n + rm.slots = n2) (kk : G l D Z b0 R own cc nL E T V2 L k2 n2 (pc + 3) rest) : G l D Z b0 R own cc nL E T V L k n pc st := g_callS (hM := hM) (hl := hl) (hm := hm) (hR := hR) (hn := hn) (hst := hst) (hcat := hcat) (hdg := hdg) (hf := hf) (fun v V' h => by
  obtain ⟨rfl, rfl⟩ := h
  subst hk2; subst hn2
  exact kk)
theorem e_callV {y : MethodName} {bytes : ByteArray} {maxL n0 index : Nat} {ret : Option FieldType} {rm : Room} {r : Value} {V2 : HV} {k2 n2 : Nat} {As st : List Value} {b ci N : Nat} {F : u_T} {fs : List Value} (hb : V b = some (vO ci fs)) (hc : vwCl[ci]? = some (y.cls, F, N)) (hM : KE l D Z b0 y bytes maxL ret rm (.ref b :: As) V (some r) V2) (hl : Cond.methodLink own index y ∈ TB) (hsel : Cond.selects y.cls y y ∈ TB) (hm : mV y bytes maxL ret n0) (hR : rm.frames + 1 ≤ R.frames ∧ 8 + (maxL + 11) + rm.locals ≤ R.locals) (hn : As.length = n0) (hst : st = As.reverse ++ .ref b :: rest) (hcat : (rest.map fun v => v.category).sum ≤ 8) (hdg : decode cc pc = .ok (.invokevirtual index, 3)) (hf : k + rm.cells ≤ R.cells ∧ n + rm.slots ≤ R.slots) (hk2 : k + rm.cells = k2) (hn2 : n + rm.slots = n2) (kk : G l D Z b0 R own cc nL E T V2 L k2 n2 (pc + 3) (r :: rest)) : G l D Z b0 R own cc nL E T V L k n pc st := g_callV (hb := hb) (hc := hc) (hM := hM) (hl := hl) (hsel := hsel) (hm := hm) (hR := hR) (hn := hn) (hst := hst) (hcat := hcat) (hdg := hdg) (hf := hf) (fun v V' h => by
  obtain ⟨rfl, rfl⟩ := h
  subst hk2; subst hn2
  exact kk)
theorem e_callVv {y : MethodName} {bytes : ByteArray} {maxL n0 index : Nat} {ret : Option FieldType} {rm : Room} {V2 : HV} {k2 n2 : Nat} {As st : List Value} {b ci N : Nat} {F : u_T} {fs : List Value} (hb : V b = some (vO ci fs)) (hc : vwCl[ci]? = some (y.cls, F, N)) (hM : KE l D Z b0 y bytes maxL ret rm (.ref b :: As) V none V2) (hl : Cond.methodLink own index y ∈ TB) (hsel : Cond.selects y.cls y y ∈ TB) (hm : mV y bytes maxL ret n0) (hR : rm.frames + 1 ≤ R.frames ∧ 8 + (maxL + 11) + rm.locals ≤ R.locals) (hn : As.length = n0) (hst : st = As.reverse ++ .ref b :: rest) (hcat : (rest.map fun v => v.category).sum ≤ 8) (hdg : decode cc pc = .ok (.invokevirtual index, 3)) (hf : k + rm.cells ≤ R.cells ∧ n + rm.slots ≤ R.slots) (hk2 : k + rm.cells = k2) (hn2 : n + rm.slots = n2) (kk : G l D Z b0 R own cc nL E T V2 L k2 n2 (pc + 3) rest) : G l D Z b0 R own cc nL E T V L k n pc st := g_callV (hb := hb) (hc := hc) (hM := hM) (hl := hl) (hsel := hsel) (hm := hm) (hR := hR) (hn := hn) (hst := hst) (hcat := hcat) (hdg := hdg) (hf := hf) (fun v V' h => by
  obtain ⟨rfl, rfl⟩ := h
  subst hk2; subst hn2
  exact kk)
theorem e_callIv {y : MethodName} {bytes : ByteArray} {maxL n0 index : Nat} {rm : Room} {V2 : HV} {k2 n2 : Nat} {As st : List Value} {b : Nat} (hy : y.name = "<init>") (hM : KE l D Z b0 y bytes maxL none rm (.ref b :: As) V none V2) (hl : Cond.methodLink own index y ∈ TB) (hm : mV y bytes maxL none n0) (hR : rm.frames + 1 ≤ R.frames ∧ 8 + (maxL + 11) + rm.locals ≤ R.locals) (hn : As.length = n0) (hst : st = As.reverse ++ .ref b :: rest) (hcat : (rest.map fun v => v.category).sum ≤ 8) (hdg : decode cc pc = .ok (.invokespecial index, 3)) (hf : k + rm.cells ≤ R.cells ∧ n + rm.slots ≤ R.slots) (hk2 : k + rm.cells = k2) (hn2 : n + rm.slots = n2) (kk : G l D Z b0 R own cc nL E T V2 L k2 n2 (pc + 3) rest) : G l D Z b0 R own cc nL E T V L k n pc st := g_callI (hy := hy) (hM := hM) (hl := hl) (hm := hm) (hR := hR) (hn := hn) (hst := hst) (hcat := hcat) (hdg := hdg) (hf := hf) (ret := none) (fun v V' h => by
  obtain ⟨rfl, rfl⟩ := h
  subst hk2; subst hn2
  exact kk)
theorem e_callSN {y : MethodName} {bytes : ByteArray} {maxL n0 index : Nat} {ret : Option FieldType} {rm : Room} {r : Value} {V2 : HV} {k2 n2 : Nat} {As st : List Value} (hM : KE l D Z b0 y bytes maxL ret rm (As) V (some r) V2) {host : String} (hl : ∀ U, kNs U → va_Nw (.methodLinkNest own index y host) U) (hm : mS y bytes maxL ret n0) (hR : rm.frames + 1 ≤ R.frames ∧ 8 + (maxL + 11) + rm.locals ≤ R.locals) (hn : As.length = n0) (hst : st = As.reverse ++ rest) (hcat : (rest.map fun v => v.category).sum ≤ 8) (hdg : decode cc pc = .ok (.invokestatic index, 3)) (hf : k + rm.cells ≤ R.cells ∧ n + rm.slots ≤ R.slots) (hk2 : k + rm.cells = k2) (hn2 : n + rm.slots = n2) (kk : G l D Z b0 R own cc nL E T V2 L k2 n2 (pc + 3) (r :: rest)) : G l D Z b0 R own cc nL E T V L k n pc st := g_callSN (hM := hM) (hl := hl) (hm := hm) (hR := hR) (hn := hn) (hst := hst) (hcat := hcat) (hdg := hdg) (hf := hf) (fun v V' h => by
  obtain ⟨rfl, rfl⟩ := h
  subst hk2; subst hn2
  exact kk)
theorem e_callSNv {y : MethodName} {bytes : ByteArray} {maxL n0 index : Nat} {ret : Option FieldType} {rm : Room} {V2 : HV} {k2 n2 : Nat} {As st : List Value} (hM : KE l D Z b0 y bytes maxL ret rm (As) V none V2) {host : String} (hl : ∀ U, kNs U → va_Nw (.methodLinkNest own index y host) U) (hm : mS y bytes maxL ret n0) (hR : rm.frames + 1 ≤ R.frames ∧ 8 + (maxL + 11) + rm.locals ≤ R.locals) (hn : As.length = n0) (hst : st = As.reverse ++ rest) (hcat : (rest.map fun v => v.category).sum ≤ 8) (hdg : decode cc pc = .ok (.invokestatic index, 3)) (hf : k + rm.cells ≤ R.cells ∧ n + rm.slots ≤ R.slots) (hk2 : k + rm.cells = k2) (hn2 : n + rm.slots = n2) (kk : G l D Z b0 R own cc nL E T V2 L k2 n2 (pc + 3) rest) : G l D Z b0 R own cc nL E T V L k n pc st := g_callSN (hM := hM) (hl := hl) (hm := hm) (hR := hR) (hn := hn) (hst := hst) (hcat := hcat) (hdg := hdg) (hf := hf) (fun v V' h => by
  obtain ⟨rfl, rfl⟩ := h
  subst hk2; subst hn2
  exact kk)
theorem e_callINv {y : MethodName} {bytes : ByteArray} {maxL n0 index : Nat} {rm : Room} {V2 : HV} {k2 n2 : Nat} {As st : List Value} {b : Nat} (hy : y.name = "<init>") (hM : KE l D Z b0 y bytes maxL none rm (.ref b :: As) V none V2) {host : String} (hl : ∀ U, kNs U → va_Nw (.methodLinkNest own index y host) U) (hm : mV y bytes maxL none n0) (hR : rm.frames + 1 ≤ R.frames ∧ 8 + (maxL + 11) + rm.locals ≤ R.locals) (hn : As.length = n0) (hst : st = As.reverse ++ .ref b :: rest) (hcat : (rest.map fun v => v.category).sum ≤ 8) (hdg : decode cc pc = .ok (.invokespecial index, 3)) (hf : k + rm.cells ≤ R.cells ∧ n + rm.slots ≤ R.slots) (hk2 : k + rm.cells = k2) (hn2 : n + rm.slots = n2) (kk : G l D Z b0 R own cc nL E T V2 L k2 n2 (pc + 3) rest) : G l D Z b0 R own cc nL E T V L k n pc st := g_callIN (hy := hy) (hM := hM) (hl := hl) (hm := hm) (hR := hR) (hn := hn) (hst := hst) (hcat := hcat) (hdg := hdg) (hf := hf) (ret := none) (fun v V' h => by
  obtain ⟨rfl, rfl⟩ := h
  subst hk2; subst hn2
  exact kk)
theorem e_callU {y : MethodName} {bytes : ByteArray} {maxL n0 index : Nat} {ret : Option FieldType} {rm : Room} {r : Value} {V2 : HV} {k2 n2 : Nat} {As st : List Value} {x : MethodName} {C owner : String} {b ci N : Nat} {F : u_T} {fs : List Value} (hb : V b = some (vO ci fs)) (hc : vwCl[ci]? = some (C, F, N)) (hyx : y = ⟨owner, x.name, x.desc⟩) (hx : owner ≠ "java/lang/invoke/MethodHandle" ∧ owner ≠ "java/lang/invoke/VarHandle" ∧ (parseMethodDescriptor x.desc).map (fun d => d.parameters.length) = some n0) (hM : KE l D Z b0 y bytes maxL ret rm (.ref b :: As) V (some r) V2) (hl : Cond.methodLink own index x ∈ TB) (hsm : Cond.sameMethod x.cls owner x.name x.desc ∈ TB) (hsel : Cond.selects C x y ∈ TB) (hm : mV y bytes maxL ret n0) (hR : rm.frames + 1 ≤ R.frames ∧ 8 + (maxL + 11) + rm.locals ≤ R.locals) (hn : As.length = n0) (hst : st = As.reverse ++ .ref b :: rest) (hcat : (rest.map fun v => v.category).sum ≤ 8) (hdg : decode cc pc = .ok (.invokevirtual index, 3)) (hf : k + rm.cells ≤ R.cells ∧ n + rm.slots ≤ R.slots) (hk2 : k + rm.cells = k2) (hn2 : n + rm.slots = n2) (kk : G l D Z b0 R own cc nL E T V2 L k2 n2 (pc + 3) (r :: rest)) : G l D Z b0 R own cc nL E T V L k n pc st := g_callU (hb := hb) (hc := hc) (hyx := hyx) (hx := hx) (hM := hM) (hl := hl) (hsm := hsm) (hsel := hsel) (hm := hm) (hR := hR) (hn := hn) (hst := hst) (hcat := hcat) (hdg := hdg) (hf := hf) (fun v V' h => by
  obtain ⟨rfl, rfl⟩ := h
  subst hk2; subst hn2
  exact kk)
theorem e_callUv {y : MethodName} {bytes : ByteArray} {maxL n0 index : Nat} {ret : Option FieldType} {rm : Room} {V2 : HV} {k2 n2 : Nat} {As st : List Value} {x : MethodName} {C owner : String} {b ci N : Nat} {F : u_T} {fs : List Value} (hb : V b = some (vO ci fs)) (hc : vwCl[ci]? = some (C, F, N)) (hyx : y = ⟨owner, x.name, x.desc⟩) (hx : owner ≠ "java/lang/invoke/MethodHandle" ∧ owner ≠ "java/lang/invoke/VarHandle" ∧ (parseMethodDescriptor x.desc).map (fun d => d.parameters.length) = some n0) (hM : KE l D Z b0 y bytes maxL ret rm (.ref b :: As) V none V2) (hl : Cond.methodLink own index x ∈ TB) (hsm : Cond.sameMethod x.cls owner x.name x.desc ∈ TB) (hsel : Cond.selects C x y ∈ TB) (hm : mV y bytes maxL ret n0) (hR : rm.frames + 1 ≤ R.frames ∧ 8 + (maxL + 11) + rm.locals ≤ R.locals) (hn : As.length = n0) (hst : st = As.reverse ++ .ref b :: rest) (hcat : (rest.map fun v => v.category).sum ≤ 8) (hdg : decode cc pc = .ok (.invokevirtual index, 3)) (hf : k + rm.cells ≤ R.cells ∧ n + rm.slots ≤ R.slots) (hk2 : k + rm.cells = k2) (hn2 : n + rm.slots = n2) (kk : G l D Z b0 R own cc nL E T V2 L k2 n2 (pc + 3) rest) : G l D Z b0 R own cc nL E T V L k n pc st := g_callU (hb := hb) (hc := hc) (hyx := hyx) (hx := hx) (hM := hM) (hl := hl) (hsm := hsm) (hsel := hsel) (hm := hm) (hR := hR) (hn := hn) (hst := hst) (hcat := hcat) (hdg := hdg) (hf := hf) (fun v V' h => by
  obtain ⟨rfl, rfl⟩ := h
  subst hk2; subst hn2
  exact kk)
theorem e_callP {y : MethodName} {bytes : ByteArray} {maxL n0 index : Nat} {ret : Option FieldType} {rm : Room} {r : Value} {V2 : HV} {k2 n2 : Nat} {As st : List Value} {C : String} {b ci N : Nat} {F : u_T} {fs : List Value} (hb : V b = some (vO ci fs)) (hc : vwCl[ci]? = some (C, F, N)) (hx : y.name ≠ "<init>") (hM : KE l D Z b0 y bytes maxL ret rm (.ref b :: As) V (some r) V2) (hl : Cond.methodLink own index y ∈ TB) (hsm : Cond.sameMethod y.cls y.cls y.name y.desc ∈ TB) (hsup : Cond.superclass own y.cls ∈ TB) (hm : mV y bytes maxL ret n0) (hR : rm.frames + 1 ≤ R.frames ∧ 8 + (maxL + 11) + rm.locals ≤ R.locals) (hn : As.length = n0) (hst : st = As.reverse ++ .ref b :: rest) (hcat : (rest.map fun v => v.category).sum ≤ 8) (hdg : decode cc pc = .ok (.invokespecial index, 3)) (hf : k + rm.cells ≤ R.cells ∧ n + rm.slots ≤ R.slots) (hk2 : k + rm.cells = k2) (hn2 : n + rm.slots = n2) (kk : G l D Z b0 R own cc nL E T V2 L k2 n2 (pc + 3) (r :: rest)) : G l D Z b0 R own cc nL E T V L k n pc st := g_callP (hb := hb) (hc := hc) (hx := hx) (hM := hM) (hl := hl) (hsm := hsm) (hsup := hsup) (hm := hm) (hR := hR) (hn := hn) (hst := hst) (hcat := hcat) (hdg := hdg) (hf := hf) (fun v V' h => by
  obtain ⟨rfl, rfl⟩ := h
  subst hk2; subst hn2
  exact kk)
theorem e_callPv {y : MethodName} {bytes : ByteArray} {maxL n0 index : Nat} {ret : Option FieldType} {rm : Room} {V2 : HV} {k2 n2 : Nat} {As st : List Value} {C : String} {b ci N : Nat} {F : u_T} {fs : List Value} (hb : V b = some (vO ci fs)) (hc : vwCl[ci]? = some (C, F, N)) (hx : y.name ≠ "<init>") (hM : KE l D Z b0 y bytes maxL ret rm (.ref b :: As) V none V2) (hl : Cond.methodLink own index y ∈ TB) (hsm : Cond.sameMethod y.cls y.cls y.name y.desc ∈ TB) (hsup : Cond.superclass own y.cls ∈ TB) (hm : mV y bytes maxL ret n0) (hR : rm.frames + 1 ≤ R.frames ∧ 8 + (maxL + 11) + rm.locals ≤ R.locals) (hn : As.length = n0) (hst : st = As.reverse ++ .ref b :: rest) (hcat : (rest.map fun v => v.category).sum ≤ 8) (hdg : decode cc pc = .ok (.invokespecial index, 3)) (hf : k + rm.cells ≤ R.cells ∧ n + rm.slots ≤ R.slots) (hk2 : k + rm.cells = k2) (hn2 : n + rm.slots = n2) (kk : G l D Z b0 R own cc nL E T V2 L k2 n2 (pc + 3) rest) : G l D Z b0 R own cc nL E T V L k n pc st := g_callP (hb := hb) (hc := hc) (hx := hx) (hM := hM) (hl := hl) (hsm := hsm) (hsup := hsup) (hm := hm) (hR := hR) (hn := hn) (hst := hst) (hcat := hcat) (hdg := hdg) (hf := hf) (fun v V' h => by
  obtain ⟨rfl, rfl⟩ := h
  subst hk2; subst hn2
  exact kk)
theorem nI_mul (a b : Nat) : nI a * nI b = nI (a * b) := (Int32.ofNat_mul a b).symm
theorem nI_sub {a b : Nat} (h : b ≤ a) : nI a - nI b = nI (a - b) := by
  have h1 : nI (a - b) + nI b = nI a := by rw [nI_add, Nat.sub_add_cancel h]
  rw [← h1, Int32.add_sub_cancel]
theorem nI_toNat {i : Nat} (h : i < 2147483648) : (nI i).toNatClampNeg = i := by
  have h1 := nI_toInt (n := i) (by omega)
  rw [Int32.toNatClampNeg, h1]; rfl
theorem vp_inN {i n : Nat} (h : i < n) (h2 : n ≤ 2147483648) : vp_in (nI i) n := by
  intro q
  rcases q with q | q
  · exact nI_nneg (by omega) q
  · rw [nI_toNat (by omega)] at q; omega
theorem nI_inj {i j : Nat} (hi : i < 2147483648) (hj : j < 2147483648) (h : nI i = nI j) : i = j := by
  have := congrArg Int32.toInt h
  rw [nI_toInt (by omega), nI_toInt (by omega)] at this; omega
theorem nI_mod {a b : Nat} (ha : a < 2147483648) (hb : 0 < b) (hb2 : b < 2147483648) : nI a % nI b = nI (a % b) := by
  apply Int32.toInt_inj.mp
  rw [Int32.toInt_mod, nI_toInt (by omega), nI_toInt (by omega), nI_toInt (by have := Nat.mod_lt a hb; omega), Int.ofNat_tmod]
theorem nI_div {a b : Nat} (ha : a < 2147483648) (hb : 0 < b) (hb2 : b < 2147483648) : nI a / nI b = nI (a / b) := by
  apply Int32.toInt_inj.mp
  have h3 : a / b ≤ a := Nat.div_le_self a b
  have key : (a : Int).tdiv (b : Int) = ((a / b : Nat) : Int) := rfl
  rw [Int32.toInt_div, nI_toInt (by omega), nI_toInt (by omega), nI_toInt (by omega), key]
  generalize a / b = q at h3 ⊢
  rw [Int.bmod_eq_of_le_mul_two] <;> omega
theorem nI_rem {a b : Nat} (ha : a < 2147483648) (hb : 0 < b) (hb2 : b < 2147483648) : nI a - nI a / nI b * nI b = nI (a % b) := by
  rw [nI_div ha hb hb2, nI_mul, nI_sub (Nat.div_mul_le_self a b)]
  congr 1
  have := Nat.div_add_mod a b
  rw [Nat.mul_comm] at this
  omega
theorem nI_nz {b : Nat} (hb : 0 < b) (hb2 : b < 2147483648) : ¬ nI b = 0 := fun h => by
  have := nI_inj (i := b) (j := 0) hb2 (by omega) h
  omega
theorem g_iadd_N {i j : Nat} (hdg : decode cc pc = .ok (.iadd, 1)) (kk : G l D Z b0 R own cc nL E T V L k n (pc + 1) (.int (nI (i + j)) :: rest)) : G l D Z b0 R own cc nL E T V L k n pc (.int (nI j) :: .int (nI i) :: rest) := g_iadd hdg (by rw [nI_add]; exact kk)
theorem g_imul_N {i j : Nat} (hdg : decode cc pc = .ok (.imul, 1)) (kk : G l D Z b0 R own cc nL E T V L k n (pc + 1) (.int (nI (i * j)) :: rest)) : G l D Z b0 R own cc nL E T V L k n pc (.int (nI j) :: .int (nI i) :: rest) := g_imul hdg (by rw [nI_mul]; exact kk)
theorem g_isub_N {i j : Nat} (h : j ≤ i) (hdg : decode cc pc = .ok (.isub, 1)) (kk : G l D Z b0 R own cc nL E T V L k n (pc + 1) (.int (nI (i - j)) :: rest)) : G l D Z b0 R own cc nL E T V L k n pc (.int (nI j) :: .int (nI i) :: rest) := g_isub hdg (by rw [nI_sub h]; exact kk)
theorem g_irem_N {i j : Nat} (hi : i < 2147483648) (hj : 0 < j) (hj2 : j < 2147483648) (hdg : decode cc pc = .ok (.irem, 1)) (kk : G l D Z b0 R own cc nL E T V L k n (pc + 1) (.int (nI (i % j)) :: rest)) : G l D Z b0 R own cc nL E T V L k n pc (.int (nI j) :: .int (nI i) :: rest) := g_irem hdg (nI_nz hj hj2) (by rw [nI_rem hi hj hj2]; exact kk)
theorem g_idiv_N {i j : Nat} (hi : i < 2147483648) (hj : 0 < j) (hj2 : j < 2147483648) (hdg : decode cc pc = .ok (.idiv, 1)) (kk : G l D Z b0 R own cc nL E T V L k n (pc + 1) (.int (nI (i / j)) :: rest)) : G l D Z b0 R own cc nL E T V L k n pc (.int (nI j) :: .int (nI i) :: rest) := g_idiv hdg (nI_nz hj hj2) (by rw [nI_div hi hj hj2]; exact kk)
theorem nI_inc (i z : Nat) : nI i + Int32.ofInt (z : Int) = nI (i + z) := by
  rw [show Int32.ofInt (z : Int) = nI z from rfl, nI_add]
theorem g_iald_N {N a j : Nat} {f : Nat → Int32} {x : Int32} (ha : V a = some (vI Z 0 N f)) (hj : j < N) (hN : N ≤ 2147483648) (hv : f j = x) (hdg : decode cc pc = .ok (.iaload, 1)) (kk : G l D Z b0 R own cc nL E T V L k n (pc + 1) (.int x :: rest)) : G l D Z b0 R own cc nL E T V L k n pc (.int (nI j) :: .ref a :: rest) := g_iald ha (vp_inN hj hN) hdg (by rw [nI_toNat (by omega), hv]; exact kk)
theorem g_iast_N {N a j : Nat} {f f' : Nat → Int32} {V2 : HV} {x : Int32} (ha : V a = some (vI Z 0 N f)) (hj : j < N) (hN : N ≤ 2147483648) (hb0 : b0 ≤ a) (hf : upd f j x = f') (hV2 : upv V a (vI Z 0 N f') = V2) (hdg : decode cc pc = .ok (.iastore, 1)) (kk : G l D Z b0 R own cc nL E T V2 L k n (pc + 1) rest) : G l D Z b0 R own cc nL E T V L k n pc (.int x :: .int (nI j) :: .ref a :: rest) := g_iast ha (vp_inN hj hN) hb0 hdg (by rw [nI_toNat (by omega), hf, hV2]; exact kk)
theorem g_if_eq_B {b : Bool} {off : Int} {tgt : Nat} (hdg : decode cc pc = .ok (.ifCond .eq off, 3)) (ht : (pc : Int) + off = (tgt : Int)) (kt : b = false → G l D Z b0 R own cc nL E T V L k n tgt rest) (kf : b = true → G l D Z b0 R own cc nL E T V L k n (pc + 3) rest) : G l D Z b0 R own cc nL E T V L k n pc (.int (bI b) :: rest) := g_if_eq hdg ht (fun c0 => kt (by cases b; rfl; exact absurd c0 (by decide))) (fun c0 => kf (by cases b; exact absurd rfl c0; rfl))
theorem g_if_ne_B {b : Bool} {off : Int} {tgt : Nat} (hdg : decode cc pc = .ok (.ifCond .ne off, 3)) (ht : (pc : Int) + off = (tgt : Int)) (kt : b = true → G l D Z b0 R own cc nL E T V L k n tgt rest) (kf : b = false → G l D Z b0 R own cc nL E T V L k n (pc + 3) rest) : G l D Z b0 R own cc nL E T V L k n pc (.int (bI b) :: rest) := g_if_ne hdg ht (fun c0 => kt (by cases b; exact absurd rfl c0; rfl)) (fun c0 => kf (by cases b; rfl; exact absurd c0 (by decide)))
end KR
end
