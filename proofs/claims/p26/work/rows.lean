section
-- ===== PART A: goes FIRST, ahead of the names: the tables' words, and 'selects' of the private methods out of them =====
/-- a private method of a class that the tables say can be made, by its rows of tables_1 -/
def lw_okq (q : MethodName × Nat) : Prop := (q.1.cls ≠ "java/lang/invoke/MethodHandle" ∧ q.1.cls ≠ "java/lang/invoke/VarHandle") ∧ Cond.instantiable q.1.cls q.2 ∈ tables_1 ∧ Cond.privateMethod q.1 ∈ tables_1 ∧ Cond.instanceMethod q.1 ∈ tables_1
theorem lw_p0 : lw_okq (⟨"DreamsPayRent$Reader", "cut", "()V"⟩, 11) := ⟨⟨by decide +kernel, by decide +kernel⟩, List.mem_of_getElem? (i := 53) (by decide +kernel), List.mem_of_getElem? (i := 273) (by decide +kernel), List.mem_of_getElem? (i := 274) (by decide +kernel)⟩
theorem lw_p1 : lw_okq (⟨"DreamsPayRent$Reader", "cutNumber", "(I)I"⟩, 11) := ⟨⟨by decide +kernel, by decide +kernel⟩, List.mem_of_getElem? (i := 53) (by decide +kernel), List.mem_of_getElem? (i := 280) (by decide +kernel), List.mem_of_getElem? (i := 281) (by decide +kernel)⟩
theorem lw_p2 : lw_okq (⟨"DreamsPayRent$Reader", "token", "(III)V"⟩, 11) := ⟨⟨by decide +kernel, by decide +kernel⟩, List.mem_of_getElem? (i := 53) (by decide +kernel), List.mem_of_getElem? (i := 284) (by decide +kernel), List.mem_of_getElem? (i := 285) (by decide +kernel)⟩
theorem lw_p3 : lw_okq (⟨"DreamsPayRent$Reader", "cutWord", "(I)I"⟩, 11) := ⟨⟨by decide +kernel, by decide +kernel⟩, List.mem_of_getElem? (i := 53) (by decide +kernel), List.mem_of_getElem? (i := 291) (by decide +kernel), List.mem_of_getElem? (i := 292) (by decide +kernel)⟩
theorem lw_p4 : lw_okq (⟨"DreamsPayRent$Reader", "wordAt", "(II)I"⟩, 11) := ⟨⟨by decide +kernel, by decide +kernel⟩, List.mem_of_getElem? (i := 53) (by decide +kernel), List.mem_of_getElem? (i := 295) (by decide +kernel), List.mem_of_getElem? (i := 296) (by decide +kernel)⟩
theorem lw_p5 : lw_okq (⟨"DreamsPayRent$Reader", "stands", "(Ljava/lang/String;II)Z"⟩, 11) := ⟨⟨by decide +kernel, by decide +kernel⟩, List.mem_of_getElem? (i := 53) (by decide +kernel), List.mem_of_getElem? (i := 314) (by decide +kernel), List.mem_of_getElem? (i := 315) (by decide +kernel)⟩
theorem lw_p6 : lw_okq (⟨"DreamsPayRent$Reader", "need", "(I)V"⟩, 11) := ⟨⟨by decide +kernel, by decide +kernel⟩, List.mem_of_getElem? (i := 53) (by decide +kernel), List.mem_of_getElem? (i := 323) (by decide +kernel), List.mem_of_getElem? (i := 324) (by decide +kernel)⟩
theorem lw_p7 : lw_okq (⟨"DreamsPayRent$Reader", "pass", "()V"⟩, 11) := ⟨⟨by decide +kernel, by decide +kernel⟩, List.mem_of_getElem? (i := 53) (by decide +kernel), List.mem_of_getElem? (i := 327) (by decide +kernel), List.mem_of_getElem? (i := 328) (by decide +kernel)⟩
theorem lw_p8 : lw_okq (⟨"DreamsPayRent$Reader", "fail", "()V"⟩, 11) := ⟨⟨by decide +kernel, by decide +kernel⟩, List.mem_of_getElem? (i := 53) (by decide +kernel), List.mem_of_getElem? (i := 331) (by decide +kernel), List.mem_of_getElem? (i := 332) (by decide +kernel)⟩
theorem lw_p9 : lw_okq (⟨"DreamsPayRent$Reader", "step", "(I)V"⟩, 11) := ⟨⟨by decide +kernel, by decide +kernel⟩, List.mem_of_getElem? (i := 53) (by decide +kernel), List.mem_of_getElem? (i := 341) (by decide +kernel), List.mem_of_getElem? (i := 342) (by decide +kernel)⟩
theorem lw_p10 : lw_okq (⟨"DreamsPayRent$Reader", "opens", "(I)Z"⟩, 11) := ⟨⟨by decide +kernel, by decide +kernel⟩, List.mem_of_getElem? (i := 53) (by decide +kernel), List.mem_of_getElem? (i := 345) (by decide +kernel), List.mem_of_getElem? (i := 346) (by decide +kernel)⟩
theorem lw_p11 : lw_okq (⟨"DreamsPayRent", "isSettable", "(II)Z"⟩, 8) := ⟨⟨by decide +kernel, by decide +kernel⟩, List.mem_of_getElem? (i := 18) (by decide +kernel), List.mem_of_getElem? (i := 414) (by decide +kernel), List.mem_of_getElem? (i := 415) (by decide +kernel)⟩
theorem lw_p12 : lw_okq (⟨"DreamsPayRent$House", "reckon", "(III)I"⟩, 13) := ⟨⟨by decide +kernel, by decide +kernel⟩, List.mem_of_getElem? (i := 96) (by decide +kernel), List.mem_of_getElem? (i := 460) (by decide +kernel), List.mem_of_getElem? (i := 461) (by decide +kernel)⟩
theorem lw_p13 : lw_okq (⟨"DreamsPayRent$Ways", "weigh", "(LDreamsPayRent$House;I)I"⟩, 10) := ⟨⟨by decide +kernel, by decide +kernel⟩, List.mem_of_getElem? (i := 156) (by decide +kernel), List.mem_of_getElem? (i := 577) (by decide +kernel), List.mem_of_getElem? (i := 578) (by decide +kernel)⟩
theorem lw_p14 : lw_okq (⟨"DreamsPayRent$Ways", "keepIfBetter", "(I)V"⟩, 10) := ⟨⟨by decide +kernel, by decide +kernel⟩, List.mem_of_getElem? (i := 156) (by decide +kernel), List.mem_of_getElem? (i := 589) (by decide +kernel), List.mem_of_getElem? (i := 590) (by decide +kernel)⟩
theorem lw_p15 : lw_okq (⟨"DreamsPayRent$Ways", "leakWith", "(II)I"⟩, 10) := ⟨⟨by decide +kernel, by decide +kernel⟩, List.mem_of_getElem? (i := 156) (by decide +kernel), List.mem_of_getElem? (i := 594) (by decide +kernel), List.mem_of_getElem? (i := 595) (by decide +kernel)⟩
def lw_privs_1 : List (MethodName × Nat) := [(⟨"DreamsPayRent$Reader", "cut", "()V"⟩, 11), (⟨"DreamsPayRent$Reader", "cutNumber", "(I)I"⟩, 11), (⟨"DreamsPayRent$Reader", "token", "(III)V"⟩, 11), (⟨"DreamsPayRent$Reader", "cutWord", "(I)I"⟩, 11), (⟨"DreamsPayRent$Reader", "wordAt", "(II)I"⟩, 11), (⟨"DreamsPayRent$Reader", "stands", "(Ljava/lang/String;II)Z"⟩, 11), (⟨"DreamsPayRent$Reader", "need", "(I)V"⟩, 11), (⟨"DreamsPayRent$Reader", "pass", "()V"⟩, 11), (⟨"DreamsPayRent$Reader", "fail", "()V"⟩, 11), (⟨"DreamsPayRent$Reader", "step", "(I)V"⟩, 11), (⟨"DreamsPayRent$Reader", "opens", "(I)Z"⟩, 11), (⟨"DreamsPayRent", "isSettable", "(II)Z"⟩, 8), (⟨"DreamsPayRent$House", "reckon", "(III)I"⟩, 13), (⟨"DreamsPayRent$Ways", "weigh", "(LDreamsPayRent$House;I)I"⟩, 10), (⟨"DreamsPayRent$Ways", "keepIfBetter", "(I)V"⟩, 10), (⟨"DreamsPayRent$Ways", "leakWith", "(II)I"⟩, 10)]
theorem lw_r1 : ∀ q ∈ lw_privs_1, lw_okq q := List.forall_mem_cons.mpr ⟨lw_p0, List.forall_mem_cons.mpr ⟨lw_p1, List.forall_mem_cons.mpr ⟨lw_p2, List.forall_mem_cons.mpr ⟨lw_p3, List.forall_mem_cons.mpr ⟨lw_p4, List.forall_mem_cons.mpr ⟨lw_p5, List.forall_mem_cons.mpr ⟨lw_p6, List.forall_mem_cons.mpr ⟨lw_p7, List.forall_mem_cons.mpr ⟨lw_p8, List.forall_mem_cons.mpr ⟨lw_p9, List.forall_mem_cons.mpr ⟨lw_p10, List.forall_mem_cons.mpr ⟨lw_p11, List.forall_mem_cons.mpr ⟨lw_p12, List.forall_mem_cons.mpr ⟨lw_p13, List.forall_mem_cons.mpr ⟨lw_p14, List.forall_mem_cons.mpr ⟨lw_p15, fun _ h => absurd h List.not_mem_nil⟩⟩⟩⟩⟩⟩⟩⟩⟩⟩⟩⟩⟩⟩⟩⟩
theorem lw_p16 : lw_okq (⟨"DreamsPayRent$House", "canCome", "(II)Z"⟩, 13) := ⟨⟨by decide +kernel, by decide +kernel⟩, List.mem_of_getElem? (i := 96) (by decide +kernel), List.mem_of_getElem? (i := 608) (by decide +kernel), List.mem_of_getElem? (i := 609) (by decide +kernel)⟩
theorem lw_p17 : lw_okq (⟨"DreamsPayRent", "firstOtherwise", "(II)I"⟩, 8) := ⟨⟨by decide +kernel, by decide +kernel⟩, List.mem_of_getElem? (i := 18) (by decide +kernel), List.mem_of_getElem? (i := 632) (by decide +kernel), List.mem_of_getElem? (i := 633) (by decide +kernel)⟩
theorem lw_p18 : lw_okq (⟨"DreamsPayRent", "readBack", "(III)I"⟩, 8) := ⟨⟨by decide +kernel, by decide +kernel⟩, List.mem_of_getElem? (i := 18) (by decide +kernel), List.mem_of_getElem? (i := 636) (by decide +kernel), List.mem_of_getElem? (i := 637) (by decide +kernel)⟩
theorem lw_p19 : lw_okq (⟨"DreamsPayRent", "supposedEnd", "(I)I"⟩, 8) := ⟨⟨by decide +kernel, by decide +kernel⟩, List.mem_of_getElem? (i := 18) (by decide +kernel), List.mem_of_getElem? (i := 640) (by decide +kernel), List.mem_of_getElem? (i := 641) (by decide +kernel)⟩
theorem lw_p20 : lw_okq (⟨"DreamsPayRent", "suppose", "(III)V"⟩, 8) := ⟨⟨by decide +kernel, by decide +kernel⟩, List.mem_of_getElem? (i := 18) (by decide +kernel), List.mem_of_getElem? (i := 644) (by decide +kernel), List.mem_of_getElem? (i := 645) (by decide +kernel)⟩
theorem lw_p21 : lw_okq (⟨"DreamsPayRent", "runDrawn", "(I)Z"⟩, 8) := ⟨⟨by decide +kernel, by decide +kernel⟩, List.mem_of_getElem? (i := 18) (by decide +kernel), List.mem_of_getElem? (i := 664) (by decide +kernel), List.mem_of_getElem? (i := 665) (by decide +kernel)⟩
theorem lw_p22 : lw_okq (⟨"DreamsPayRentModel", "spell", "(IIIIIIIII)V"⟩, 58) := ⟨⟨by decide +kernel, by decide +kernel⟩, List.mem_of_getElem? (i := 721) (by decide +kernel), List.mem_of_getElem? (i := 727) (by decide +kernel), List.mem_of_getElem? (i := 728) (by decide +kernel)⟩
theorem lw_p23 : lw_okq (⟨"DreamsPayRentModel", "isOf", "(II)Z"⟩, 58) := ⟨⟨by decide +kernel, by decide +kernel⟩, List.mem_of_getElem? (i := 721) (by decide +kernel), List.mem_of_getElem? (i := 914) (by decide +kernel), List.mem_of_getElem? (i := 915) (by decide +kernel)⟩
theorem lw_p24 : lw_okq (⟨"DreamsPayRentModel", "isDream", "(I)Z"⟩, 58) := ⟨⟨by decide +kernel, by decide +kernel⟩, List.mem_of_getElem? (i := 721) (by decide +kernel), List.mem_of_getElem? (i := 922) (by decide +kernel), List.mem_of_getElem? (i := 923) (by decide +kernel)⟩
theorem lw_p25 : lw_okq (⟨"DreamsPayRentModel", "needsOf", "(I)I"⟩, 58) := ⟨⟨by decide +kernel, by decide +kernel⟩, List.mem_of_getElem? (i := 721) (by decide +kernel), List.mem_of_getElem? (i := 940) (by decide +kernel), List.mem_of_getElem? (i := 941) (by decide +kernel)⟩
theorem lw_p26 : lw_okq (⟨"DreamsPayRentModel", "bearsOf", "(I)I"⟩, 58) := ⟨⟨by decide +kernel, by decide +kernel⟩, List.mem_of_getElem? (i := 721) (by decide +kernel), List.mem_of_getElem? (i := 944) (by decide +kernel), List.mem_of_getElem? (i := 945) (by decide +kernel)⟩
theorem lw_p27 : lw_okq (⟨"DreamsPayRentModel", "lays", "(III)V"⟩, 58) := ⟨⟨by decide +kernel, by decide +kernel⟩, List.mem_of_getElem? (i := 721) (by decide +kernel), List.mem_of_getElem? (i := 948) (by decide +kernel), List.mem_of_getElem? (i := 949) (by decide +kernel)⟩
theorem lw_p28 : lw_okq (⟨"DreamsPayRentModel", "fits", "(II)Z"⟩, 58) := ⟨⟨by decide +kernel, by decide +kernel⟩, List.mem_of_getElem? (i := 721) (by decide +kernel), List.mem_of_getElem? (i := 961) (by decide +kernel), List.mem_of_getElem? (i := 962) (by decide +kernel)⟩
theorem lw_p29 : lw_okq (⟨"DreamsPayRentModel", "liesOn", "(II)Z"⟩, 58) := ⟨⟨by decide +kernel, by decide +kernel⟩, List.mem_of_getElem? (i := 721) (by decide +kernel), List.mem_of_getElem? (i := 965) (by decide +kernel), List.mem_of_getElem? (i := 966) (by decide +kernel)⟩
theorem lw_p30 : lw_okq (⟨"DreamsPayRentModel", "whoIn", "(I)I"⟩, 58) := ⟨⟨by decide +kernel, by decide +kernel⟩, List.mem_of_getElem? (i := 721) (by decide +kernel), List.mem_of_getElem? (i := 969) (by decide +kernel), List.mem_of_getElem? (i := 970) (by decide +kernel)⟩
theorem lw_p31 : lw_okq (⟨"DreamsPayRentModel", "read", "(II)I"⟩, 58) := ⟨⟨by decide +kernel, by decide +kernel⟩, List.mem_of_getElem? (i := 721) (by decide +kernel), List.mem_of_getElem? (i := 983) (by decide +kernel), List.mem_of_getElem? (i := 984) (by decide +kernel)⟩
def lw_privs_2 : List (MethodName × Nat) := [(⟨"DreamsPayRent$House", "canCome", "(II)Z"⟩, 13), (⟨"DreamsPayRent", "firstOtherwise", "(II)I"⟩, 8), (⟨"DreamsPayRent", "readBack", "(III)I"⟩, 8), (⟨"DreamsPayRent", "supposedEnd", "(I)I"⟩, 8), (⟨"DreamsPayRent", "suppose", "(III)V"⟩, 8), (⟨"DreamsPayRent", "runDrawn", "(I)Z"⟩, 8), (⟨"DreamsPayRentModel", "spell", "(IIIIIIIII)V"⟩, 58), (⟨"DreamsPayRentModel", "isOf", "(II)Z"⟩, 58), (⟨"DreamsPayRentModel", "isDream", "(I)Z"⟩, 58), (⟨"DreamsPayRentModel", "needsOf", "(I)I"⟩, 58), (⟨"DreamsPayRentModel", "bearsOf", "(I)I"⟩, 58), (⟨"DreamsPayRentModel", "lays", "(III)V"⟩, 58), (⟨"DreamsPayRentModel", "fits", "(II)Z"⟩, 58), (⟨"DreamsPayRentModel", "liesOn", "(II)Z"⟩, 58), (⟨"DreamsPayRentModel", "whoIn", "(I)I"⟩, 58), (⟨"DreamsPayRentModel", "read", "(II)I"⟩, 58)]
theorem lw_r2 : ∀ q ∈ lw_privs_2, lw_okq q := List.forall_mem_cons.mpr ⟨lw_p16, List.forall_mem_cons.mpr ⟨lw_p17, List.forall_mem_cons.mpr ⟨lw_p18, List.forall_mem_cons.mpr ⟨lw_p19, List.forall_mem_cons.mpr ⟨lw_p20, List.forall_mem_cons.mpr ⟨lw_p21, List.forall_mem_cons.mpr ⟨lw_p22, List.forall_mem_cons.mpr ⟨lw_p23, List.forall_mem_cons.mpr ⟨lw_p24, List.forall_mem_cons.mpr ⟨lw_p25, List.forall_mem_cons.mpr ⟨lw_p26, List.forall_mem_cons.mpr ⟨lw_p27, List.forall_mem_cons.mpr ⟨lw_p28, List.forall_mem_cons.mpr ⟨lw_p29, List.forall_mem_cons.mpr ⟨lw_p30, List.forall_mem_cons.mpr ⟨lw_p31, fun _ h => absurd h List.not_mem_nil⟩⟩⟩⟩⟩⟩⟩⟩⟩⟩⟩⟩⟩⟩⟩⟩
theorem lw_p32 : lw_okq (⟨"DreamsPayRentModel", "next", "()V"⟩, 58) := ⟨⟨by decide +kernel, by decide +kernel⟩, List.mem_of_getElem? (i := 721) (by decide +kernel), List.mem_of_getElem? (i := 987) (by decide +kernel), List.mem_of_getElem? (i := 988) (by decide +kernel)⟩
theorem lw_p33 : lw_okq (⟨"DreamsPayRentModel", "byteAt", "(I)I"⟩, 58) := ⟨⟨by decide +kernel, by decide +kernel⟩, List.mem_of_getElem? (i := 721) (by decide +kernel), List.mem_of_getElem? (i := 991) (by decide +kernel), List.mem_of_getElem? (i := 992) (by decide +kernel)⟩
theorem lw_p34 : lw_okq (⟨"DreamsPayRentModel", "isWord", "(IIIIIIII)Z"⟩, 58) := ⟨⟨by decide +kernel, by decide +kernel⟩, List.mem_of_getElem? (i := 721) (by decide +kernel), List.mem_of_getElem? (i := 999) (by decide +kernel), List.mem_of_getElem? (i := 1000) (by decide +kernel)⟩
theorem lw_p35 : lw_okq (⟨"DreamsPayRentModel", "isLetter", "(II)Z"⟩, 58) := ⟨⟨by decide +kernel, by decide +kernel⟩, List.mem_of_getElem? (i := 721) (by decide +kernel), List.mem_of_getElem? (i := 1003) (by decide +kernel), List.mem_of_getElem? (i := 1004) (by decide +kernel)⟩
theorem lw_p36 : lw_okq (⟨"DreamsPayRentModel", "part", "(Z)I"⟩, 58) := ⟨⟨by decide +kernel, by decide +kernel⟩, List.mem_of_getElem? (i := 721) (by decide +kernel), List.mem_of_getElem? (i := 1007) (by decide +kernel), List.mem_of_getElem? (i := 1008) (by decide +kernel)⟩
theorem lw_p37 : lw_okq (⟨"DreamsPayRentModel", "fail", "()V"⟩, 58) := ⟨⟨by decide +kernel, by decide +kernel⟩, List.mem_of_getElem? (i := 721) (by decide +kernel), List.mem_of_getElem? (i := 1011) (by decide +kernel), List.mem_of_getElem? (i := 1012) (by decide +kernel)⟩
theorem lw_p38 : lw_okq (⟨"DreamsPayRentModel", "either", "()I"⟩, 58) := ⟨⟨by decide +kernel, by decide +kernel⟩, List.mem_of_getElem? (i := 721) (by decide +kernel), List.mem_of_getElem? (i := 1015) (by decide +kernel), List.mem_of_getElem? (i := 1016) (by decide +kernel)⟩
theorem lw_p39 : lw_okq (⟨"DreamsPayRentModel", "both", "()I"⟩, 58) := ⟨⟨by decide +kernel, by decide +kernel⟩, List.mem_of_getElem? (i := 721) (by decide +kernel), List.mem_of_getElem? (i := 1019) (by decide +kernel), List.mem_of_getElem? (i := 1020) (by decide +kernel)⟩
theorem lw_p40 : lw_okq (⟨"DreamsPayRentModel", "not", "()I"⟩, 58) := ⟨⟨by decide +kernel, by decide +kernel⟩, List.mem_of_getElem? (i := 721) (by decide +kernel), List.mem_of_getElem? (i := 1023) (by decide +kernel), List.mem_of_getElem? (i := 1024) (by decide +kernel)⟩
theorem lw_p41 : lw_okq (⟨"DreamsPayRentModel", "opens", "()Z"⟩, 58) := ⟨⟨by decide +kernel, by decide +kernel⟩, List.mem_of_getElem? (i := 721) (by decide +kernel), List.mem_of_getElem? (i := 1027) (by decide +kernel), List.mem_of_getElem? (i := 1028) (by decide +kernel)⟩
theorem lw_p42 : lw_okq (⟨"DreamsPayRentModel", "added", "()I"⟩, 58) := ⟨⟨by decide +kernel, by decide +kernel⟩, List.mem_of_getElem? (i := 721) (by decide +kernel), List.mem_of_getElem? (i := 1031) (by decide +kernel), List.mem_of_getElem? (i := 1032) (by decide +kernel)⟩
theorem lw_p43 : lw_okq (⟨"DreamsPayRentModel", "term", "()I"⟩, 58) := ⟨⟨by decide +kernel, by decide +kernel⟩, List.mem_of_getElem? (i := 721) (by decide +kernel), List.mem_of_getElem? (i := 1035) (by decide +kernel), List.mem_of_getElem? (i := 1036) (by decide +kernel)⟩
theorem lw_p44 : lw_okq (⟨"DreamsPayRentModel", "atom", "()I"⟩, 58) := ⟨⟨by decide +kernel, by decide +kernel⟩, List.mem_of_getElem? (i := 721) (by decide +kernel), List.mem_of_getElem? (i := 1039) (by decide +kernel), List.mem_of_getElem? (i := 1040) (by decide +kernel)⟩
theorem lw_p45 : lw_okq (⟨"DreamsPayRentModel", "isSign", "(I)Z"⟩, 58) := ⟨⟨by decide +kernel, by decide +kernel⟩, List.mem_of_getElem? (i := 721) (by decide +kernel), List.mem_of_getElem? (i := 1043) (by decide +kernel), List.mem_of_getElem? (i := 1044) (by decide +kernel)⟩
theorem lw_p46 : lw_okq (⟨"DreamsPayRentModel", "name", "()I"⟩, 58) := ⟨⟨by decide +kernel, by decide +kernel⟩, List.mem_of_getElem? (i := 721) (by decide +kernel), List.mem_of_getElem? (i := 1047) (by decide +kernel), List.mem_of_getElem? (i := 1048) (by decide +kernel)⟩
theorem lw_p47 : lw_okq (⟨"DreamsPayRentModel", "paysIn", "(II)I"⟩, 58) := ⟨⟨by decide +kernel, by decide +kernel⟩, List.mem_of_getElem? (i := 721) (by decide +kernel), List.mem_of_getElem? (i := 1062) (by decide +kernel), List.mem_of_getElem? (i := 1063) (by decide +kernel)⟩
def lw_privs_3 : List (MethodName × Nat) := [(⟨"DreamsPayRentModel", "next", "()V"⟩, 58), (⟨"DreamsPayRentModel", "byteAt", "(I)I"⟩, 58), (⟨"DreamsPayRentModel", "isWord", "(IIIIIIII)Z"⟩, 58), (⟨"DreamsPayRentModel", "isLetter", "(II)Z"⟩, 58), (⟨"DreamsPayRentModel", "part", "(Z)I"⟩, 58), (⟨"DreamsPayRentModel", "fail", "()V"⟩, 58), (⟨"DreamsPayRentModel", "either", "()I"⟩, 58), (⟨"DreamsPayRentModel", "both", "()I"⟩, 58), (⟨"DreamsPayRentModel", "not", "()I"⟩, 58), (⟨"DreamsPayRentModel", "opens", "()Z"⟩, 58), (⟨"DreamsPayRentModel", "added", "()I"⟩, 58), (⟨"DreamsPayRentModel", "term", "()I"⟩, 58), (⟨"DreamsPayRentModel", "atom", "()I"⟩, 58), (⟨"DreamsPayRentModel", "isSign", "(I)Z"⟩, 58), (⟨"DreamsPayRentModel", "name", "()I"⟩, 58), (⟨"DreamsPayRentModel", "paysIn", "(II)I"⟩, 58)]
theorem lw_r3 : ∀ q ∈ lw_privs_3, lw_okq q := List.forall_mem_cons.mpr ⟨lw_p32, List.forall_mem_cons.mpr ⟨lw_p33, List.forall_mem_cons.mpr ⟨lw_p34, List.forall_mem_cons.mpr ⟨lw_p35, List.forall_mem_cons.mpr ⟨lw_p36, List.forall_mem_cons.mpr ⟨lw_p37, List.forall_mem_cons.mpr ⟨lw_p38, List.forall_mem_cons.mpr ⟨lw_p39, List.forall_mem_cons.mpr ⟨lw_p40, List.forall_mem_cons.mpr ⟨lw_p41, List.forall_mem_cons.mpr ⟨lw_p42, List.forall_mem_cons.mpr ⟨lw_p43, List.forall_mem_cons.mpr ⟨lw_p44, List.forall_mem_cons.mpr ⟨lw_p45, List.forall_mem_cons.mpr ⟨lw_p46, List.forall_mem_cons.mpr ⟨lw_p47, fun _ h => absurd h List.not_mem_nil⟩⟩⟩⟩⟩⟩⟩⟩⟩⟩⟩⟩⟩⟩⟩⟩
theorem lw_p48 : lw_okq (⟨"DreamsPayRentModel", "asks", "(III)I"⟩, 58) := ⟨⟨by decide +kernel, by decide +kernel⟩, List.mem_of_getElem? (i := 721) (by decide +kernel), List.mem_of_getElem? (i := 1066) (by decide +kernel), List.mem_of_getElem? (i := 1067) (by decide +kernel)⟩
theorem lw_p49 : lw_okq (⟨"DreamsPayRentModel", "gathers", "()V"⟩, 58) := ⟨⟨by decide +kernel, by decide +kernel⟩, List.mem_of_getElem? (i := 721) (by decide +kernel), List.mem_of_getElem? (i := 1081) (by decide +kernel), List.mem_of_getElem? (i := 1082) (by decide +kernel)⟩
theorem lw_p50 : lw_okq (⟨"DreamsPayRentModel", "leakOf", "(I)I"⟩, 58) := ⟨⟨by decide +kernel, by decide +kernel⟩, List.mem_of_getElem? (i := 721) (by decide +kernel), List.mem_of_getElem? (i := 1085) (by decide +kernel), List.mem_of_getElem? (i := 1086) (by decide +kernel)⟩
theorem lw_p51 : lw_okq (⟨"DreamsPayRentModel", "worthNow", "()I"⟩, 58) := ⟨⟨by decide +kernel, by decide +kernel⟩, List.mem_of_getElem? (i := 721) (by decide +kernel), List.mem_of_getElem? (i := 1099) (by decide +kernel), List.mem_of_getElem? (i := 1100) (by decide +kernel)⟩
theorem lw_p52 : lw_okq (⟨"DreamsPayRentModel", "begins", "()V"⟩, 58) := ⟨⟨by decide +kernel, by decide +kernel⟩, List.mem_of_getElem? (i := 721) (by decide +kernel), List.mem_of_getElem? (i := 1107) (by decide +kernel), List.mem_of_getElem? (i := 1108) (by decide +kernel)⟩
theorem lw_p53 : lw_okq (⟨"DreamsPayRentModel", "lives", "(I)V"⟩, 58) := ⟨⟨by decide +kernel, by decide +kernel⟩, List.mem_of_getElem? (i := 721) (by decide +kernel), List.mem_of_getElem? (i := 1111) (by decide +kernel), List.mem_of_getElem? (i := 1112) (by decide +kernel)⟩
theorem lw_p54 : lw_okq (⟨"DreamsPayRentModel", "laysAside", "()V"⟩, 58) := ⟨⟨by decide +kernel, by decide +kernel⟩, List.mem_of_getElem? (i := 721) (by decide +kernel), List.mem_of_getElem? (i := 1120) (by decide +kernel), List.mem_of_getElem? (i := 1121) (by decide +kernel)⟩
theorem lw_p55 : lw_okq (⟨"DreamsPayRentModel", "laysBack", "()V"⟩, 58) := ⟨⟨by decide +kernel, by decide +kernel⟩, List.mem_of_getElem? (i := 721) (by decide +kernel), List.mem_of_getElem? (i := 1124) (by decide +kernel), List.mem_of_getElem? (i := 1125) (by decide +kernel)⟩
theorem lw_p56 : lw_okq (⟨"DreamsPayRentModel", "seeks", "(I)V"⟩, 58) := ⟨⟨by decide +kernel, by decide +kernel⟩, List.mem_of_getElem? (i := 721) (by decide +kernel), List.mem_of_getElem? (i := 1133) (by decide +kernel), List.mem_of_getElem? (i := 1134) (by decide +kernel)⟩
theorem lw_p57 : lw_okq (⟨"DreamsPayRentModel", "exchanges", "(II)V"⟩, 58) := ⟨⟨by decide +kernel, by decide +kernel⟩, List.mem_of_getElem? (i := 721) (by decide +kernel), List.mem_of_getElem? (i := 1142) (by decide +kernel), List.mem_of_getElem? (i := 1143) (by decide +kernel)⟩
theorem lw_p58 : lw_okq (⟨"DreamsPayRentModel", "firstOther", "(II)I"⟩, 58) := ⟨⟨by decide +kernel, by decide +kernel⟩, List.mem_of_getElem? (i := 721) (by decide +kernel), List.mem_of_getElem? (i := 1161) (by decide +kernel), List.mem_of_getElem? (i := 1162) (by decide +kernel)⟩
theorem lw_p59 : lw_okq (⟨"DreamsPayRentModel", "draws", "(I)V"⟩, 58) := ⟨⟨by decide +kernel, by decide +kernel⟩, List.mem_of_getElem? (i := 721) (by decide +kernel), List.mem_of_getElem? (i := 1179) (by decide +kernel), List.mem_of_getElem? (i := 1180) (by decide +kernel)⟩
def lw_privs_4 : List (MethodName × Nat) := [(⟨"DreamsPayRentModel", "asks", "(III)I"⟩, 58), (⟨"DreamsPayRentModel", "gathers", "()V"⟩, 58), (⟨"DreamsPayRentModel", "leakOf", "(I)I"⟩, 58), (⟨"DreamsPayRentModel", "worthNow", "()I"⟩, 58), (⟨"DreamsPayRentModel", "begins", "()V"⟩, 58), (⟨"DreamsPayRentModel", "lives", "(I)V"⟩, 58), (⟨"DreamsPayRentModel", "laysAside", "()V"⟩, 58), (⟨"DreamsPayRentModel", "laysBack", "()V"⟩, 58), (⟨"DreamsPayRentModel", "seeks", "(I)V"⟩, 58), (⟨"DreamsPayRentModel", "exchanges", "(II)V"⟩, 58), (⟨"DreamsPayRentModel", "firstOther", "(II)I"⟩, 58), (⟨"DreamsPayRentModel", "draws", "(I)V"⟩, 58)]
theorem lw_r4 : ∀ q ∈ lw_privs_4, lw_okq q := List.forall_mem_cons.mpr ⟨lw_p48, List.forall_mem_cons.mpr ⟨lw_p49, List.forall_mem_cons.mpr ⟨lw_p50, List.forall_mem_cons.mpr ⟨lw_p51, List.forall_mem_cons.mpr ⟨lw_p52, List.forall_mem_cons.mpr ⟨lw_p53, List.forall_mem_cons.mpr ⟨lw_p54, List.forall_mem_cons.mpr ⟨lw_p55, List.forall_mem_cons.mpr ⟨lw_p56, List.forall_mem_cons.mpr ⟨lw_p57, List.forall_mem_cons.mpr ⟨lw_p58, List.forall_mem_cons.mpr ⟨lw_p59, fun _ h => absurd h List.not_mem_nil⟩⟩⟩⟩⟩⟩⟩⟩⟩⟩⟩⟩
def lw_privs : List (MethodName × Nat) := lw_privs_1 ++ (lw_privs_2 ++ (lw_privs_3 ++ (lw_privs_4)))
def lw_tbl : List Cond := k2_sels lw_privs ++ tables_1
theorem lw_privs_ok : ∀ q ∈ lw_privs, lw_okq q := by
  show ∀ q ∈ lw_privs_1 ++ (lw_privs_2 ++ (lw_privs_3 ++ (lw_privs_4))), lw_okq q
  exact List.forall_mem_append.mpr ⟨lw_r1, List.forall_mem_append.mpr ⟨lw_r2, List.forall_mem_append.mpr ⟨lw_r3, lw_r4⟩⟩⟩
end
section
def RX0 : String := "DreamsPayRent$House"
def TX0 : u_T := fun k => match k with
  | 0 => ("DreamsPayRent$House", "texts", "LDreamsPayRent$Texts;", true)
  | 1 => ("DreamsPayRent$House", "size", "[I", true)
  | 2 => ("DreamsPayRent$House", "kind", "[I", true)
  | 3 => ("DreamsPayRent$House", "number", "[I", true)
  | 4 => ("DreamsPayRent$House", "space", "[I", true)
  | 5 => ("DreamsPayRent$House", "purse", "[I", true)
  | 6 => ("DreamsPayRent$House", "owe", "[I", true)
  | 7 => ("DreamsPayRent$House", "room", "[I", true)
  | 8 => ("DreamsPayRent$House", "dreamCount", "I", false)
  | 9 => ("DreamsPayRent$House", "lined", "I", false)
  | 10 => ("DreamsPayRent$House", "nightNow", "I", false)
  | 11 => ("DreamsPayRent$House", "taken", "I", false)
  | _ => ("DreamsPayRent$House", "rule", "I", false)
def tyX0 : Nat → FieldType := fun k => match k with
  | 0 => .object "DreamsPayRent$Texts"
  | 1 => .array .int
  | 2 => .array .int
  | 3 => .array .int
  | 4 => .array .int
  | 5 => .array .int
  | 6 => .array .int
  | 7 => .array .int
  | 8 => .int
  | 9 => .int
  | 10 => .int
  | 11 => .int
  | _ => .int
theorem nmX0 : ∀ a, a < 13 → ∀ b, b < 13 → a ≠ b → (TX0 a).2.1 ≠ (TX0 b).2.1 := by decide +kernel
theorem tyX0_ok : ∀ k, k < 13 → parseFieldDescriptor (TX0 k).2.2.1 = some (tyX0 k) := by decide +kernel
abbrev cX0_init : ByteArray := prog_2_method_1_code
def yX0_init : MethodName := ⟨RX0, "<init>", "(LDreamsPayRent$Texts;)V"⟩
abbrev cX0_become : ByteArray := prog_2_method_2_code
def yX0_become : MethodName := ⟨RX0, "become", "(LDreamsPayRent$House;)V"⟩
abbrev cX0_isDream : ByteArray := prog_2_method_3_code
def yX0_isDream : MethodName := ⟨RX0, "isDream", "(I)Z"⟩
abbrev cX0_add : ByteArray := prog_2_method_4_code
def yX0_add : MethodName := ⟨RX0, "add", "(III)I"⟩
abbrev cX0_lodger : ByteArray := prog_2_method_5_code
def yX0_lodger : MethodName := ⟨RX0, "lodger", "(I)I"⟩
abbrev cX0_lodgers : ByteArray := prog_2_method_6_code
def yX0_lodgers : MethodName := ⟨RX0, "lodgers", "()I"⟩
abbrev cX0_needs : ByteArray := prog_2_method_7_code
def yX0_needs : MethodName := ⟨RX0, "needs", "(I)I"⟩
abbrev cX0_bears : ByteArray := prog_2_method_8_code
def yX0_bears : MethodName := ⟨RX0, "bears", "(I)I"⟩
abbrev cX0_fits : ByteArray := prog_2_method_9_code
def yX0_fits : MethodName := ⟨RX0, "fits", "(II)Z"⟩
abbrev cX0_pays : ByteArray := prog_2_method_10_code
def yX0_pays : MethodName := ⟨RX0, "pays", "(II)I"⟩
abbrev cX0_leaks : ByteArray := prog_2_method_11_code
def yX0_leaks : MethodName := ⟨RX0, "leaks", "(II)I"⟩
abbrev cX0_minds : ByteArray := prog_2_method_12_code
def yX0_minds : MethodName := ⟨RX0, "minds", "(II)I"⟩
abbrev cX0_reckon : ByteArray := prog_2_method_13_code
def yX0_reckon : MethodName := ⟨RX0, "reckon", "(III)I"⟩
abbrev cX0_leakOf : ByteArray := prog_2_method_14_code
def yX0_leakOf : MethodName := ⟨RX0, "leakOf", "(I)I"⟩
abbrev cX0_worthNow : ByteArray := prog_2_method_15_code
def yX0_worthNow : MethodName := ⟨RX0, "worthNow", "()I"⟩
abbrev cX0_passNight : ByteArray := prog_2_method_16_code
def yX0_passNight : MethodName := ⟨RX0, "passNight", "()I"⟩
abbrev cX0_canSwap : ByteArray := prog_2_method_17_code
def yX0_canSwap : MethodName := ⟨RX0, "canSwap", "(II)Z"⟩
abbrev cX0_canCome : ByteArray := prog_2_method_18_code
def yX0_canCome : MethodName := ⟨RX0, "canCome", "(II)Z"⟩
abbrev cX0_swap : ByteArray := prog_2_method_19_code
def yX0_swap : MethodName := ⟨RX0, "swap", "(II)V"⟩
def RX1 : String := "DreamsPayRent$Kinds"
def TX1 : u_T := fun k => match k with
  | _ => ("", "", "", false)
def tyX1 : Nat → FieldType := fun k => match k with
  | _ => .int
theorem nmX1 : ∀ a, a < 0 → ∀ b, b < 0 → a ≠ b → (TX1 a).2.1 ≠ (TX1 b).2.1 := by decide +kernel
theorem tyX1_ok : ∀ k, k < 0 → parseFieldDescriptor (TX1 k).2.2.1 = some (tyX1 k) := by decide +kernel
abbrev cX1_above : ByteArray := prog_3_method_2_code
def yX1_above : MethodName := ⟨RX1, "above", "(I)I"⟩
abbrev cX1_isUnder : ByteArray := prog_3_method_3_code
def yX1_isUnder : MethodName := ⟨RX1, "isUnder", "(II)Z"⟩
abbrev cX1_needs : ByteArray := prog_3_method_4_code
def yX1_needs : MethodName := ⟨RX1, "needs", "(III)I"⟩
abbrev cX1_lies : ByteArray := prog_3_method_5_code
def yX1_lies : MethodName := ⟨RX1, "lies", "(II)Z"⟩
abbrev cX1_pays : ByteArray := prog_3_method_6_code
def yX1_pays : MethodName := ⟨RX1, "pays", "(III)I"⟩
abbrev cX1_bears : ByteArray := prog_3_method_7_code
def yX1_bears : MethodName := ⟨RX1, "bears", "(II)I"⟩
def RX2 : String := "DreamsPayRent$Reader"
def TX2 : u_T := fun k => match k with
  | 0 => ("DreamsPayRent$Reader", "tape", "[I", true)
  | 1 => ("DreamsPayRent$Reader", "size", "I", false)
  | 2 => ("DreamsPayRent$Reader", "sorts", "[I", true)
  | 3 => ("DreamsPayRent$Reader", "places", "[I", true)
  | 4 => ("DreamsPayRent$Reader", "values", "[I", true)
  | 5 => ("DreamsPayRent$Reader", "tokens", "I", false)
  | 6 => ("DreamsPayRent$Reader", "at", "I", false)
  | 7 => ("DreamsPayRent$Reader", "fault", "I", false)
  | 8 => ("DreamsPayRent$Reader", "steps", "[I", true)
  | 9 => ("DreamsPayRent$Reader", "stepCount", "I", false)
  | _ => ("DreamsPayRent$Reader", "ends", "[I", true)
def tyX2 : Nat → FieldType := fun k => match k with
  | 0 => .array .int
  | 1 => .int
  | 2 => .array .int
  | 3 => .array .int
  | 4 => .array .int
  | 5 => .int
  | 6 => .int
  | 7 => .int
  | 8 => .array .int
  | 9 => .int
  | _ => .array .int
theorem nmX2 : ∀ a, a < 11 → ∀ b, b < 11 → a ≠ b → (TX2 a).2.1 ≠ (TX2 b).2.1 := by decide +kernel
theorem tyX2_ok : ∀ k, k < 11 → parseFieldDescriptor (TX2 k).2.2.1 = some (tyX2 k) := by decide +kernel
abbrev cX2_init : ByteArray := prog_4_method_1_code
def yX2_init : MethodName := ⟨RX2, "<init>", "()V"⟩
abbrev cX2_append : ByteArray := prog_4_method_2_code
def yX2_append : MethodName := ⟨RX2, "append", "(I)I"⟩
abbrev cX2_read : ByteArray := prog_4_method_3_code
def yX2_read : MethodName := ⟨RX2, "read", "()I"⟩
abbrev cX2_cut : ByteArray := prog_4_method_4_code
def yX2_cut : MethodName := ⟨RX2, "cut", "()V"⟩
abbrev cX2_cutNumber : ByteArray := prog_4_method_5_code
def yX2_cutNumber : MethodName := ⟨RX2, "cutNumber", "(I)I"⟩
abbrev cX2_cutWord : ByteArray := prog_4_method_6_code
def yX2_cutWord : MethodName := ⟨RX2, "cutWord", "(I)I"⟩
abbrev cX2_wordAt : ByteArray := prog_4_method_7_code
def yX2_wordAt : MethodName := ⟨RX2, "wordAt", "(II)I"⟩
abbrev cX2_stands : ByteArray := prog_4_method_8_code
def yX2_stands : MethodName := ⟨RX2, "stands", "(Ljava/lang/String;II)Z"⟩
abbrev cX2_isDigit : ByteArray := prog_4_method_9_code
def yX2_isDigit : MethodName := ⟨RX2, "isDigit", "(I)Z"⟩
abbrev cX2_isLetter : ByteArray := prog_4_method_10_code
def yX2_isLetter : MethodName := ⟨RX2, "isLetter", "(I)Z"⟩
abbrev cX2_token : ByteArray := prog_4_method_11_code
def yX2_token : MethodName := ⟨RX2, "token", "(III)V"⟩
abbrev cX2_expression : ByteArray := prog_4_method_12_code
def yX2_expression : MethodName := ⟨RX2, "expression", "(LDreamsPayRent$Reader;II)V"⟩
abbrev cX2_one : ByteArray := prog_4_method_13_code
def yX2_one : MethodName := ⟨RX2, "one", "(LDreamsPayRent$Reader;I)V"⟩
abbrev cX2_joins : ByteArray := prog_4_method_14_code
def yX2_joins : MethodName := ⟨RX2, "joins", "(II)Z"⟩
abbrev cX2_opens : ByteArray := prog_4_method_15_code
def yX2_opens : MethodName := ⟨RX2, "opens", "(I)Z"⟩
abbrev cX2_need : ByteArray := prog_4_method_16_code
def yX2_need : MethodName := ⟨RX2, "need", "(I)V"⟩
abbrev cX2_pass : ByteArray := prog_4_method_17_code
def yX2_pass : MethodName := ⟨RX2, "pass", "()V"⟩
abbrev cX2_fail : ByteArray := prog_4_method_18_code
def yX2_fail : MethodName := ⟨RX2, "fail", "()V"⟩
abbrev cX2_step : ByteArray := prog_4_method_19_code
def yX2_step : MethodName := ⟨RX2, "step", "(I)V"⟩
def RX3 : String := "DreamsPayRent$Sheets"
def TX3 : u_T := fun k => match k with
  | 0 => ("DreamsPayRent$Sheets", "sort", "[I", true)
  | 1 => ("DreamsPayRent$Sheets", "size", "[I", true)
  | _ => ("DreamsPayRent$Sheets", "items", "[[I", true)
def tyX3 : Nat → FieldType := fun k => match k with
  | 0 => .array .int
  | 1 => .array .int
  | _ => .array (.array .int)
theorem nmX3 : ∀ a, a < 3 → ∀ b, b < 3 → a ≠ b → (TX3 a).2.1 ≠ (TX3 b).2.1 := by decide +kernel
theorem tyX3_ok : ∀ k, k < 3 → parseFieldDescriptor (TX3 k).2.2.1 = some (tyX3 k) := by decide +kernel
abbrev cX3_init : ByteArray := prog_5_method_1_code
def yX3_init : MethodName := ⟨RX3, "<init>", "()V"⟩
abbrev cX3_become : ByteArray := prog_5_method_2_code
def yX3_become : MethodName := ⟨RX3, "become", "(III)V"⟩
abbrev cX3_put : ByteArray := prog_5_method_3_code
def yX3_put : MethodName := ⟨RX3, "put", "(III)V"⟩
abbrev cX3_holds : ByteArray := prog_5_method_4_code
def yX3_holds : MethodName := ⟨RX3, "holds", "(III)Z"⟩
def RX4 : String := "DreamsPayRent$Sorts"
def TX4 : u_T := fun k => match k with
  | _ => ("", "", "", false)
def tyX4 : Nat → FieldType := fun k => match k with
  | _ => .int
theorem nmX4 : ∀ a, a < 0 → ∀ b, b < 0 → a ≠ b → (TX4 a).2.1 ≠ (TX4 b).2.1 := by decide +kernel
theorem tyX4_ok : ∀ k, k < 0 → parseFieldDescriptor (TX4 k).2.2.1 = some (tyX4 k) := by decide +kernel
abbrev cX4_word : ByteArray := prog_6_method_2_code
def yX4_word : MethodName := ⟨RX4, "word", "(I)Ljava/lang/String;"⟩
abbrev cX4_isSign : ByteArray := prog_6_method_3_code
def yX4_isSign : MethodName := ⟨RX4, "isSign", "(I)Z"⟩
def RX5 : String := "DreamsPayRent$Texts"
def TX5 : u_T := fun k => match k with
  | 0 => ("DreamsPayRent$Texts", "steps", "[[I", true)
  | 1 => ("DreamsPayRent$Texts", "ends", "[[I", true)
  | 2 => ("DreamsPayRent$Texts", "names", "[I", true)
  | 3 => ("DreamsPayRent$Texts", "waiting", "[I", true)
  | _ => ("DreamsPayRent$Texts", "count", "I", false)
def tyX5 : Nat → FieldType := fun k => match k with
  | 0 => .array (.array .int)
  | 1 => .array (.array .int)
  | 2 => .array .int
  | 3 => .array .int
  | _ => .int
theorem nmX5 : ∀ a, a < 5 → ∀ b, b < 5 → a ≠ b → (TX5 a).2.1 ≠ (TX5 b).2.1 := by decide +kernel
theorem tyX5_ok : ∀ k, k < 5 → parseFieldDescriptor (TX5 k).2.2.1 = some (tyX5 k) := by decide +kernel
abbrev cX5_init : ByteArray := prog_7_method_1_code
def yX5_init : MethodName := ⟨RX5, "<init>", "()V"⟩
abbrev cX5_add : ByteArray := prog_7_method_2_code
def yX5_add : MethodName := ⟨RX5, "add", "(LDreamsPayRent$Reader;)I"⟩
abbrev cX5_value : ByteArray := prog_7_method_3_code
def yX5_value : MethodName := ⟨RX5, "value", "(II)I"⟩
abbrev cX5_alone : ByteArray := prog_7_method_4_code
def yX5_alone : MethodName := ⟨RX5, "alone", "(II)I"⟩
abbrev cX5_together : ByteArray := prog_7_method_5_code
def yX5_together : MethodName := ⟨RX5, "together", "(III)I"⟩
def RX6 : String := "DreamsPayRent$Ways"
def TX6 : u_T := fun k => match k with
  | 0 => ("DreamsPayRent$Ways", "pays", "[[I", true)
  | 1 => ("DreamsPayRent$Ways", "leaks", "[[I", true)
  | 2 => ("DreamsPayRent$Ways", "minds", "[[I", true)
  | 3 => ("DreamsPayRent$Ways", "mostFrom", "[I", true)
  | 4 => ("DreamsPayRent$Ways", "lodger", "[I", true)
  | 5 => ("DreamsPayRent$Ways", "way", "[I", true)
  | 6 => ("DreamsPayRent$Ways", "bestWay", "[I", true)
  | 7 => ("DreamsPayRent$Ways", "bestWorth", "I", false)
  | 8 => ("DreamsPayRent$Ways", "dreamCount", "I", false)
  | _ => ("DreamsPayRent$Ways", "lined", "I", false)
def tyX6 : Nat → FieldType := fun k => match k with
  | 0 => .array (.array .int)
  | 1 => .array (.array .int)
  | 2 => .array (.array .int)
  | 3 => .array .int
  | 4 => .array .int
  | 5 => .array .int
  | 6 => .array .int
  | 7 => .int
  | 8 => .int
  | _ => .int
theorem nmX6 : ∀ a, a < 10 → ∀ b, b < 10 → a ≠ b → (TX6 a).2.1 ≠ (TX6 b).2.1 := by decide +kernel
theorem tyX6_ok : ∀ k, k < 10 → parseFieldDescriptor (TX6 k).2.2.1 = some (tyX6 k) := by decide +kernel
abbrev cX6_init : ByteArray := prog_8_method_1_code
def yX6_init : MethodName := ⟨RX6, "<init>", "()V"⟩
abbrev cX6_seek : ByteArray := prog_8_method_2_code
def yX6_seek : MethodName := ⟨RX6, "seek", "(LDreamsPayRent$House;)V"⟩
abbrev cX6_weigh : ByteArray := prog_8_method_3_code
def yX6_weigh : MethodName := ⟨RX6, "weigh", "(LDreamsPayRent$House;I)I"⟩
abbrev cX6_place : ByteArray := prog_8_method_4_code
def yX6_place : MethodName := ⟨RX6, "place", "(LDreamsPayRent$Ways;II)V"⟩
abbrev cX6_keepIfBetter : ByteArray := prog_8_method_5_code
def yX6_keepIfBetter : MethodName := ⟨RX6, "keepIfBetter", "(I)V"⟩
abbrev cX6_leakWith : ByteArray := prog_8_method_6_code
def yX6_leakWith : MethodName := ⟨RX6, "leakWith", "(II)I"⟩
def RX7 : String := "DreamsPayRent"
def TX7 : u_T := fun k => match k with
  | 0 => ("DreamsPayRent", "texts", "LDreamsPayRent$Texts;", true)
  | 1 => ("DreamsPayRent", "reader", "LDreamsPayRent$Reader;", true)
  | 2 => ("DreamsPayRent", "house", "LDreamsPayRent$House;", true)
  | 3 => ("DreamsPayRent", "kept", "LDreamsPayRent$House;", true)
  | 4 => ("DreamsPayRent", "thought", "LDreamsPayRent$House;", true)
  | 5 => ("DreamsPayRent", "ways", "LDreamsPayRent$Ways;", true)
  | 6 => ("DreamsPayRent", "sheets", "LDreamsPayRent$Sheets;", true)
  | _ => ("DreamsPayRent", "hasImage", "Z", false)
def tyX7 : Nat → FieldType := fun k => match k with
  | 0 => .object "DreamsPayRent$Texts"
  | 1 => .object "DreamsPayRent$Reader"
  | 2 => .object "DreamsPayRent$House"
  | 3 => .object "DreamsPayRent$House"
  | 4 => .object "DreamsPayRent$House"
  | 5 => .object "DreamsPayRent$Ways"
  | 6 => .object "DreamsPayRent$Sheets"
  | _ => .boolean
theorem nmX7 : ∀ a, a < 8 → ∀ b, b < 8 → a ≠ b → (TX7 a).2.1 ≠ (TX7 b).2.1 := by decide +kernel
theorem tyX7_ok : ∀ k, k < 8 → parseFieldDescriptor (TX7 k).2.2.1 = some (tyX7 k) := by decide +kernel
abbrev cX7_init : ByteArray := prog_1_method_1_code
def yX7_init : MethodName := ⟨RX7, "<init>", "()V"⟩
abbrev cX7_set : ByteArray := prog_1_method_2_code
def yX7_set : MethodName := ⟨RX7, "set", "(III)I"⟩
abbrev cX7_dream : ByteArray := prog_1_method_3_code
def yX7_dream : MethodName := ⟨RX7, "dream", "(III)I"⟩
abbrev cX7_let : ByteArray := prog_1_method_4_code
def yX7_let : MethodName := ⟨RX7, "let", "(II)I"⟩
abbrev cX7_told : ByteArray := prog_1_method_5_code
def yX7_told : MethodName := ⟨RX7, "told", "(II)I"⟩
abbrev cX7_would : ByteArray := prog_1_method_6_code
def yX7_would : MethodName := ⟨RX7, "would", "(III)I"⟩
abbrev cX7_who : ByteArray := prog_1_method_7_code
def yX7_who : MethodName := ⟨RX7, "who", "(I)I"⟩
abbrev cX7_feed : ByteArray := prog_1_method_8_code
def yX7_feed : MethodName := ⟨RX7, "feed", "(I)I"⟩
abbrev cX7_text : ByteArray := prog_1_method_9_code
def yX7_text : MethodName := ⟨RX7, "text", "()I"⟩
abbrev cX7_force : ByteArray := prog_1_method_10_code
def yX7_force : MethodName := ⟨RX7, "force", "(I)I"⟩
abbrev cX7_leak : ByteArray := prog_1_method_11_code
def yX7_leak : MethodName := ⟨RX7, "leak", "(I)I"⟩
abbrev cX7_worth : ByteArray := prog_1_method_12_code
def yX7_worth : MethodName := ⟨RX7, "worth", "()I"⟩
abbrev cX7_night : ByteArray := prog_1_method_13_code
def yX7_night : MethodName := ⟨RX7, "night", "()I"⟩
abbrev cX7_run : ByteArray := prog_1_method_14_code
def yX7_run : MethodName := ⟨RX7, "run", "(II)I"⟩
abbrev cX7_best : ByteArray := prog_1_method_15_code
def yX7_best : MethodName := ⟨RX7, "best", "(I)I"⟩
abbrev cX7_change : ByteArray := prog_1_method_16_code
def yX7_change : MethodName := ⟨RX7, "change", "(I)I"⟩
abbrev cX7_putOut : ByteArray := prog_1_method_17_code
def yX7_putOut : MethodName := ⟨RX7, "putOut", "(I)I"⟩
abbrev cX7_line : ByteArray := prog_1_method_18_code
def yX7_line : MethodName := ⟨RX7, "line", "(I)I"⟩
abbrev cX7_rents : ByteArray := prog_1_method_19_code
def yX7_rents : MethodName := ⟨RX7, "rents", "(III)I"⟩
abbrev cX7_film : ByteArray := prog_1_method_20_code
def yX7_film : MethodName := ⟨RX7, "film", "(II)I"⟩
abbrev cX7_drawn : ByteArray := prog_1_method_21_code
def yX7_drawn : MethodName := ⟨RX7, "drawn", "(I)I"⟩
abbrev cX7_chance : ByteArray := prog_1_method_22_code
def yX7_chance : MethodName := ⟨RX7, "chance", "(III)J"⟩
abbrev cX7_image : ByteArray := prog_1_method_23_code
def yX7_image : MethodName := ⟨RX7, "image", "()I"⟩
abbrev cX7_back : ByteArray := prog_1_method_24_code
def yX7_back : MethodName := ⟨RX7, "back", "()I"⟩
abbrev cX7_count : ByteArray := prog_1_method_25_code
def yX7_count : MethodName := ⟨RX7, "count", "(I)I"⟩
abbrev cX7_sheet : ByteArray := prog_1_method_26_code
def yX7_sheet : MethodName := ⟨RX7, "sheet", "(III)I"⟩
abbrev cX7_cell : ByteArray := prog_1_method_27_code
def yX7_cell : MethodName := ⟨RX7, "cell", "(III)I"⟩
abbrev cX7_copy : ByteArray := prog_1_method_28_code
def yX7_copy : MethodName := ⟨RX7, "copy", "(IIIII)I"⟩
abbrev cX7_dreams : ByteArray := prog_1_method_29_code
def yX7_dreams : MethodName := ⟨RX7, "dreams", "(IIII)I"⟩
abbrev cX7_taken : ByteArray := prog_1_method_30_code
def yX7_taken : MethodName := ⟨RX7, "taken", "(II)I"⟩
abbrev cX7_isSettable : ByteArray := prog_1_method_31_code
def yX7_isSettable : MethodName := ⟨RX7, "isSettable", "(II)Z"⟩
abbrev cX7_leastOf : ByteArray := prog_1_method_32_code
def yX7_leastOf : MethodName := ⟨RX7, "leastOf", "(I)I"⟩
abbrev cX7_mostOf : ByteArray := prog_1_method_33_code
def yX7_mostOf : MethodName := ⟨RX7, "mostOf", "(I)I"⟩
abbrev cX7_firstOtherwise : ByteArray := prog_1_method_34_code
def yX7_firstOtherwise : MethodName := ⟨RX7, "firstOtherwise", "(II)I"⟩
abbrev cX7_readBack : ByteArray := prog_1_method_35_code
def yX7_readBack : MethodName := ⟨RX7, "readBack", "(III)I"⟩
abbrev cX7_supposedEnd : ByteArray := prog_1_method_36_code
def yX7_supposedEnd : MethodName := ⟨RX7, "supposedEnd", "(I)I"⟩
abbrev cX7_suppose : ByteArray := prog_1_method_37_code
def yX7_suppose : MethodName := ⟨RX7, "suppose", "(III)V"⟩
abbrev cX7_runDrawn : ByteArray := prog_1_method_38_code
def yX7_runDrawn : MethodName := ⟨RX7, "runDrawn", "(I)Z"⟩
abbrev cX7_inLowestTerms : ByteArray := prog_1_method_39_code
def yX7_inLowestTerms : MethodName := ⟨RX7, "inLowestTerms", "(III)I"⟩
abbrev cX7_lowestBit : ByteArray := prog_1_method_40_code
def yX7_lowestBit : MethodName := ⟨RX7, "lowestBit", "(I)I"⟩
abbrev cX7_bounded : ByteArray := prog_1_method_41_code
def yX7_bounded : MethodName := ⟨RX7, "bounded", "(II)I"⟩
abbrev cX7_isRoom : ByteArray := prog_1_method_42_code
def yX7_isRoom : MethodName := ⟨RX7, "isRoom", "(I)Z"⟩
abbrev cX7_isKind : ByteArray := prog_1_method_43_code
def yX7_isKind : MethodName := ⟨RX7, "isKind", "(I)Z"⟩
abbrev cX7_isSheet : ByteArray := prog_1_method_44_code
def yX7_isSheet : MethodName := ⟨RX7, "isSheet", "(I)Z"⟩
def RX8 : String := "DreamsPayRentModel"
def TX8 : u_T := fun k => match k with
  | 0 => ("DreamsPayRentModel", "thrown", "I", false)
  | 1 => ("DreamsPayRentModel", "texts", "[I", true)
  | 2 => ("DreamsPayRentModel", "textSize", "[I", true)
  | 3 => ("DreamsPayRentModel", "textCount", "I", false)
  | 4 => ("DreamsPayRentModel", "rule", "I", false)
  | 5 => ("DreamsPayRentModel", "tape", "[I", true)
  | 6 => ("DreamsPayRentModel", "taped", "I", false)
  | 7 => ("DreamsPayRentModel", "lined", "I", false)
  | 8 => ("DreamsPayRentModel", "nightNow", "I", false)
  | 9 => ("DreamsPayRentModel", "takenAll", "I", false)
  | 10 => ("DreamsPayRentModel", "sizes", "[I", true)
  | 11 => ("DreamsPayRentModel", "kinds", "[I", true)
  | 12 => ("DreamsPayRentModel", "rows", "[I", true)
  | 13 => ("DreamsPayRentModel", "roomOf", "[I", true)
  | 14 => ("DreamsPayRentModel", "many", "I", false)
  | 15 => ("DreamsPayRentModel", "ofSize", "I", false)
  | 16 => ("DreamsPayRentModel", "ofFloor", "I", false)
  | 17 => ("DreamsPayRentModel", "ofNight", "I", false)
  | 18 => ("DreamsPayRentModel", "ofNumber", "I", false)
  | 19 => ("DreamsPayRentModel", "ofOwes", "I", false)
  | 20 => ("DreamsPayRentModel", "ofSpace", "I", false)
  | 21 => ("DreamsPayRentModel", "from", "I", false)
  | 22 => ("DreamsPayRentModel", "size", "I", false)
  | 23 => ("DreamsPayRentModel", "here", "I", false)
  | 24 => ("DreamsPayRentModel", "token", "I", false)
  | 25 => ("DreamsPayRentModel", "tokenAt", "I", false)
  | 26 => ("DreamsPayRentModel", "tokenWorth", "J", false)
  | 27 => ("DreamsPayRentModel", "open", "I", false)
  | 28 => ("DreamsPayRentModel", "bad", "Z", false)
  | 29 => ("DreamsPayRentModel", "fault", "I", false)
  | 30 => ("DreamsPayRentModel", "payTable", "[I", true)
  | 31 => ("DreamsPayRentModel", "leakTable", "[I", true)
  | 32 => ("DreamsPayRentModel", "mindTable", "[I", true)
  | 33 => ("DreamsPayRentModel", "outMany", "I", false)
  | 34 => ("DreamsPayRentModel", "firstOut", "I", false)
  | 35 => ("DreamsPayRentModel", "firstNight", "I", false)
  | 36 => ("DreamsPayRentModel", "rowsAside", "[I", true)
  | 37 => ("DreamsPayRentModel", "roomsAside", "[I", true)
  | 38 => ("DreamsPayRentModel", "nightAside", "I", false)
  | 39 => ("DreamsPayRentModel", "takenAside", "I", false)
  | 40 => ("DreamsPayRentModel", "takenThen", "I", false)
  | 41 => ("DreamsPayRentModel", "inThen", "I", false)
  | 42 => ("DreamsPayRentModel", "pursesThen", "[I", true)
  | 43 => ("DreamsPayRentModel", "isFound", "Z", false)
  | 44 => ("DreamsPayRentModel", "bestWorth", "I", false)
  | 45 => ("DreamsPayRentModel", "bestRooms", "[I", true)
  | 46 => ("DreamsPayRentModel", "sizesKept", "[I", true)
  | 47 => ("DreamsPayRentModel", "rowsKept", "[I", true)
  | 48 => ("DreamsPayRentModel", "roomsKept", "[I", true)
  | 49 => ("DreamsPayRentModel", "manyKept", "I", false)
  | 50 => ("DreamsPayRentModel", "linedKept", "I", false)
  | 51 => ("DreamsPayRentModel", "nightKept", "I", false)
  | 52 => ("DreamsPayRentModel", "takenKept", "I", false)
  | 53 => ("DreamsPayRentModel", "ruleKept", "I", false)
  | 54 => ("DreamsPayRentModel", "isThere", "[Z", true)
  | 55 => ("DreamsPayRentModel", "sorts", "[I", true)
  | 56 => ("DreamsPayRentModel", "sheetSize", "[I", true)
  | _ => ("DreamsPayRentModel", "items", "[I", true)
def tyX8 : Nat → FieldType := fun k => match k with
  | 0 => .int
  | 1 => .array .int
  | 2 => .array .int
  | 3 => .int
  | 4 => .int
  | 5 => .array .int
  | 6 => .int
  | 7 => .int
  | 8 => .int
  | 9 => .int
  | 10 => .array .int
  | 11 => .array .int
  | 12 => .array .int
  | 13 => .array .int
  | 14 => .int
  | 15 => .int
  | 16 => .int
  | 17 => .int
  | 18 => .int
  | 19 => .int
  | 20 => .int
  | 21 => .int
  | 22 => .int
  | 23 => .int
  | 24 => .int
  | 25 => .int
  | 26 => .long
  | 27 => .int
  | 28 => .boolean
  | 29 => .int
  | 30 => .array .int
  | 31 => .array .int
  | 32 => .array .int
  | 33 => .int
  | 34 => .int
  | 35 => .int
  | 36 => .array .int
  | 37 => .array .int
  | 38 => .int
  | 39 => .int
  | 40 => .int
  | 41 => .int
  | 42 => .array .int
  | 43 => .boolean
  | 44 => .int
  | 45 => .array .int
  | 46 => .array .int
  | 47 => .array .int
  | 48 => .array .int
  | 49 => .int
  | 50 => .int
  | 51 => .int
  | 52 => .int
  | 53 => .int
  | 54 => .array .boolean
  | 55 => .array .int
  | 56 => .array .int
  | _ => .array .int
theorem nmX8 : ∀ a, a < 58 → ∀ b, b < 58 → a ≠ b → (TX8 a).2.1 ≠ (TX8 b).2.1 := by decide +kernel
theorem tyX8_ok : ∀ k, k < 58 → parseFieldDescriptor (TX8 k).2.2.1 = some (tyX8 k) := by decide +kernel
abbrev cX8_in : ByteArray := prog_10_method_2_code
def yX8_in : MethodName := ⟨RX8, "in", "(JJJ)Z"⟩
abbrev cX8_within : ByteArray := prog_10_method_3_code
def yX8_within : MethodName := ⟨RX8, "within", "(III)I"⟩
abbrev cX8_init : ByteArray := prog_10_method_4_code
def yX8_init : MethodName := ⟨RX8, "<init>", "()V"⟩
abbrev cX8_spell : ByteArray := prog_10_method_5_code
def yX8_spell : MethodName := ⟨RX8, "spell", "(IIIIIIIII)V"⟩
abbrev cX8_isDream : ByteArray := prog_10_method_6_code
def yX8_isDream : MethodName := ⟨RX8, "isDream", "(I)Z"⟩
abbrev cX8_isRoom : ByteArray := prog_10_method_7_code
def yX8_isRoom : MethodName := ⟨RX8, "isRoom", "(I)Z"⟩
abbrev cX8_isOf : ByteArray := prog_10_method_8_code
def yX8_isOf : MethodName := ⟨RX8, "isOf", "(II)Z"⟩
abbrev cX8_isValue : ByteArray := prog_10_method_9_code
def yX8_isValue : MethodName := ⟨RX8, "isValue", "(II)Z"⟩
abbrev cX8_set : ByteArray := prog_10_method_10_code
def yX8_set : MethodName := ⟨RX8, "set", "(III)I"⟩
abbrev cX8_lays : ByteArray := prog_10_method_11_code
def yX8_lays : MethodName := ⟨RX8, "lays", "(III)V"⟩
abbrev cX8_dream : ByteArray := prog_10_method_12_code
def yX8_dream : MethodName := ⟨RX8, "dream", "(III)I"⟩
abbrev cX8_whoIn : ByteArray := prog_10_method_13_code
def yX8_whoIn : MethodName := ⟨RX8, "whoIn", "(I)I"⟩
abbrev cX8_let : ByteArray := prog_10_method_14_code
def yX8_let : MethodName := ⟨RX8, "let", "(II)I"⟩
abbrev cX8_needsOf : ByteArray := prog_10_method_15_code
def yX8_needsOf : MethodName := ⟨RX8, "needsOf", "(I)I"⟩
abbrev cX8_bearsOf : ByteArray := prog_10_method_16_code
def yX8_bearsOf : MethodName := ⟨RX8, "bearsOf", "(I)I"⟩
abbrev cX8_liesOn : ByteArray := prog_10_method_17_code
def yX8_liesOn : MethodName := ⟨RX8, "liesOn", "(II)Z"⟩
abbrev cX8_fits : ByteArray := prog_10_method_18_code
def yX8_fits : MethodName := ⟨RX8, "fits", "(II)Z"⟩
abbrev cX8_told : ByteArray := prog_10_method_19_code
def yX8_told : MethodName := ⟨RX8, "told", "(II)I"⟩
abbrev cX8_feed : ByteArray := prog_10_method_20_code
def yX8_feed : MethodName := ⟨RX8, "feed", "(I)I"⟩
abbrev cX8_byteAt : ByteArray := prog_10_method_21_code
def yX8_byteAt : MethodName := ⟨RX8, "byteAt", "(I)I"⟩
abbrev cX8_next : ByteArray := prog_10_method_22_code
def yX8_next : MethodName := ⟨RX8, "next", "()V"⟩
abbrev cX8_fail : ByteArray := prog_10_method_23_code
def yX8_fail : MethodName := ⟨RX8, "fail", "()V"⟩
abbrev cX8_isLetter : ByteArray := prog_10_method_24_code
def yX8_isLetter : MethodName := ⟨RX8, "isLetter", "(II)Z"⟩
abbrev cX8_isWord : ByteArray := prog_10_method_25_code
def yX8_isWord : MethodName := ⟨RX8, "isWord", "(IIIIIIII)Z"⟩
abbrev cX8_isSign : ByteArray := prog_10_method_26_code
def yX8_isSign : MethodName := ⟨RX8, "isSign", "(I)Z"⟩
abbrev cX8_opens : ByteArray := prog_10_method_27_code
def yX8_opens : MethodName := ⟨RX8, "opens", "()Z"⟩
abbrev cX8_name : ByteArray := prog_10_method_28_code
def yX8_name : MethodName := ⟨RX8, "name", "()I"⟩
abbrev cX8_atom : ByteArray := prog_10_method_29_code
def yX8_atom : MethodName := ⟨RX8, "atom", "()I"⟩
abbrev cX8_term : ByteArray := prog_10_method_30_code
def yX8_term : MethodName := ⟨RX8, "term", "()I"⟩
abbrev cX8_added : ByteArray := prog_10_method_31_code
def yX8_added : MethodName := ⟨RX8, "added", "()I"⟩
abbrev cX8_not : ByteArray := prog_10_method_32_code
def yX8_not : MethodName := ⟨RX8, "not", "()I"⟩
abbrev cX8_both : ByteArray := prog_10_method_33_code
def yX8_both : MethodName := ⟨RX8, "both", "()I"⟩
abbrev cX8_either : ByteArray := prog_10_method_34_code
def yX8_either : MethodName := ⟨RX8, "either", "()I"⟩
abbrev cX8_part : ByteArray := prog_10_method_35_code
def yX8_part : MethodName := ⟨RX8, "part", "(Z)I"⟩
abbrev cX8_read : ByteArray := prog_10_method_36_code
def yX8_read : MethodName := ⟨RX8, "read", "(II)I"⟩
abbrev cX8_text : ByteArray := prog_10_method_37_code
def yX8_text : MethodName := ⟨RX8, "text", "()I"⟩
abbrev cX8_force : ByteArray := prog_10_method_38_code
def yX8_force : MethodName := ⟨RX8, "force", "(I)I"⟩
abbrev cX8_asks : ByteArray := prog_10_method_39_code
def yX8_asks : MethodName := ⟨RX8, "asks", "(III)I"⟩
abbrev cX8_paysIn : ByteArray := prog_10_method_40_code
def yX8_paysIn : MethodName := ⟨RX8, "paysIn", "(II)I"⟩
abbrev cX8_would : ByteArray := prog_10_method_41_code
def yX8_would : MethodName := ⟨RX8, "would", "(III)I"⟩
abbrev cX8_who : ByteArray := prog_10_method_42_code
def yX8_who : MethodName := ⟨RX8, "who", "(I)I"⟩
abbrev cX8_gathers : ByteArray := prog_10_method_43_code
def yX8_gathers : MethodName := ⟨RX8, "gathers", "()V"⟩
abbrev cX8_oneSide : ByteArray := prog_10_method_44_code
def yX8_oneSide : MethodName := ⟨RX8, "oneSide", "(I)I"⟩
abbrev cX8_otherSide : ByteArray := prog_10_method_45_code
def yX8_otherSide : MethodName := ⟨RX8, "otherSide", "(I)I"⟩
abbrev cX8_leakOf : ByteArray := prog_10_method_46_code
def yX8_leakOf : MethodName := ⟨RX8, "leakOf", "(I)I"⟩
abbrev cX8_leak : ByteArray := prog_10_method_47_code
def yX8_leak : MethodName := ⟨RX8, "leak", "(I)I"⟩
abbrev cX8_worthNow : ByteArray := prog_10_method_48_code
def yX8_worthNow : MethodName := ⟨RX8, "worthNow", "()I"⟩
abbrev cX8_worth : ByteArray := prog_10_method_49_code
def yX8_worth : MethodName := ⟨RX8, "worth", "()I"⟩
abbrev cX8_lives : ByteArray := prog_10_method_50_code
def yX8_lives : MethodName := ⟨RX8, "lives", "(I)V"⟩
abbrev cX8_begins : ByteArray := prog_10_method_51_code
def yX8_begins : MethodName := ⟨RX8, "begins", "()V"⟩
abbrev cX8_night : ByteArray := prog_10_method_52_code
def yX8_night : MethodName := ⟨RX8, "night", "()I"⟩
abbrev cX8_laysAside : ByteArray := prog_10_method_53_code
def yX8_laysAside : MethodName := ⟨RX8, "laysAside", "()V"⟩
abbrev cX8_laysBack : ByteArray := prog_10_method_54_code
def yX8_laysBack : MethodName := ⟨RX8, "laysBack", "()V"⟩
abbrev cX8_run : ByteArray := prog_10_method_55_code
def yX8_run : MethodName := ⟨RX8, "run", "(II)I"⟩
abbrev cX8_seeks : ByteArray := prog_10_method_56_code
def yX8_seeks : MethodName := ⟨RX8, "seeks", "(I)V"⟩
abbrev cX8_best : ByteArray := prog_10_method_57_code
def yX8_best : MethodName := ⟨RX8, "best", "(I)I"⟩
abbrev cX8_exchanges : ByteArray := prog_10_method_58_code
def yX8_exchanges : MethodName := ⟨RX8, "exchanges", "(II)V"⟩
abbrev cX8_change : ByteArray := prog_10_method_59_code
def yX8_change : MethodName := ⟨RX8, "change", "(I)I"⟩
abbrev cX8_putOut : ByteArray := prog_10_method_60_code
def yX8_putOut : MethodName := ⟨RX8, "putOut", "(I)I"⟩
abbrev cX8_line : ByteArray := prog_10_method_61_code
def yX8_line : MethodName := ⟨RX8, "line", "(I)I"⟩
abbrev cX8_firstOther : ByteArray := prog_10_method_62_code
def yX8_firstOther : MethodName := ⟨RX8, "firstOther", "(II)I"⟩
abbrev cX8_rents : ByteArray := prog_10_method_63_code
def yX8_rents : MethodName := ⟨RX8, "rents", "(III)I"⟩
abbrev cX8_film : ByteArray := prog_10_method_64_code
def yX8_film : MethodName := ⟨RX8, "film", "(II)I"⟩
abbrev cX8_draws : ByteArray := prog_10_method_65_code
def yX8_draws : MethodName := ⟨RX8, "draws", "(I)V"⟩
abbrev cX8_drawn : ByteArray := prog_10_method_66_code
def yX8_drawn : MethodName := ⟨RX8, "drawn", "(I)I"⟩
abbrev cX8_chance : ByteArray := prog_10_method_67_code
def yX8_chance : MethodName := ⟨RX8, "chance", "(III)J"⟩
abbrev cX8_image : ByteArray := prog_10_method_68_code
def yX8_image : MethodName := ⟨RX8, "image", "()I"⟩
abbrev cX8_back : ByteArray := prog_10_method_69_code
def yX8_back : MethodName := ⟨RX8, "back", "()I"⟩
abbrev cX8_count : ByteArray := prog_10_method_70_code
def yX8_count : MethodName := ⟨RX8, "count", "(I)I"⟩
abbrev cX8_isSheet : ByteArray := prog_10_method_71_code
def yX8_isSheet : MethodName := ⟨RX8, "isSheet", "(I)Z"⟩
abbrev cX8_sheet : ByteArray := prog_10_method_72_code
def yX8_sheet : MethodName := ⟨RX8, "sheet", "(III)I"⟩
abbrev cX8_cell : ByteArray := prog_10_method_73_code
def yX8_cell : MethodName := ⟨RX8, "cell", "(III)I"⟩
abbrev cX8_copy : ByteArray := prog_10_method_74_code
def yX8_copy : MethodName := ⟨RX8, "copy", "(IIIII)I"⟩
abbrev cX8_dreams : ByteArray := prog_10_method_75_code
def yX8_dreams : MethodName := ⟨RX8, "dreams", "(IIII)I"⟩
abbrev cX8_over : ByteArray := prog_10_method_76_code
def yX8_over : MethodName := ⟨RX8, "over", "(I)I"⟩
abbrev cX8_taken : ByteArray := prog_10_method_77_code
def yX8_taken : MethodName := ⟨RX8, "taken", "(II)I"⟩
def RJ6 : String := "java/lang/Integer"
abbrev cJ6_bitCount_0f7a4 : ByteArray := prog_11_method_49_code
def yJ6_bitCount_0f7a4 : MethodName := ⟨RJ6, "bitCount", "(I)I"⟩
def RJ9 : String := "java/lang/Math"
abbrev cJ9_max_7cf53 : ByteArray := prog_12_method_65_code
def yJ9_max_7cf53 : MethodName := ⟨RJ9, "max", "(II)I"⟩
abbrev cJ9_min_7cf53 : ByteArray := prog_12_method_69_code
def yJ9_min_7cf53 : MethodName := ⟨RJ9, "min", "(II)I"⟩
def RJ0 : String := "java/lang/String"
abbrev cJ0_length_8abf5 : ByteArray := prog_13_method_54_code
def yJ0_length_8abf5 : MethodName := ⟨RJ0, "length", "()I"⟩
abbrev cJ0_charAt_5068e : ByteArray := prog_13_method_56_code
def yJ0_charAt_5068e : MethodName := ⟨RJ0, "charAt", "(I)C"⟩
abbrev cJ0_coder_7d493 : ByteArray := prog_13_method_152_code
def yJ0_coder_7d493 : MethodName := ⟨RJ0, "coder", "()B"⟩
abbrev cJ0_isLatin1_aae02 : ByteArray := prog_13_method_154_code
def yJ0_isLatin1_aae02 : MethodName := ⟨RJ0, "isLatin1", "()Z"⟩
abbrev cJ0_checkIndex_df160 : ByteArray := prog_13_method_155_code
def yJ0_checkIndex_df160 : MethodName := ⟨RJ0, "checkIndex", "(II)V"⟩
def RJ1 : String := "java/lang/StringLatin1"
abbrev cJ1_charAt_3b067 : ByteArray := prog_14_method_2_code
def yJ1_charAt_3b067 : MethodName := ⟨RJ1, "charAt", "([BI)C"⟩
def RJ2 : String := "java/lang/StringUTF16"
abbrev cJ2_getChar_3b067 : ByteArray := prog_15_method_5_code
def yJ2_getChar_3b067 : MethodName := ⟨RJ2, "getChar", "([BI)C"⟩
abbrev cJ2_length_9d52b : ByteArray := prog_15_method_6_code
def yJ2_length_9d52b : MethodName := ⟨RJ2, "length", "([B)I"⟩
abbrev cJ2_charAt_3b067 : ByteArray := prog_15_method_83_code
def yJ2_charAt_3b067 : MethodName := ⟨RJ2, "charAt", "([BI)C"⟩
abbrev cJ2_checkIndex_2214a : ByteArray := prog_15_method_91_code
def yJ2_checkIndex_2214a : MethodName := ⟨RJ2, "checkIndex", "(I[B)V"⟩
def RJ10 : String := "java/lang/System"
def RJ3 : String := "jdk/internal/util/Preconditions"
abbrev cJ3_checkIndex_8e157 : ByteArray := prog_17_method_11_code
def yJ3_checkIndex_8e157 : MethodName := ⟨RJ3, "checkIndex", "(IILjava/util/function/BiFunction;)I"⟩
def RL : String := "DreamsPayRentLaw"
abbrev cL_law : ByteArray := code
abbrev vwCl : List vw_C := [(RX0, TX0, 13), (RX2, TX2, 11), (RX3, TX3, 3), (RX5, TX5, 5), (RX6, TX6, 10), (RX7, TX7, 8), (RX8, TX8, 58)]
end
section
/-! A SMALL MACHINE OF OUR OWN: cells by their places (0, 1, ..: the order of making), one successor a step.
A value is the machine's, but '.ref k' is the k-th cell of ours, '.retAddr k' a cell that was there before us. -/
abbrev mj_M : Type := List va_E
abbrev mj_L : Type := List (Nat × Value)
abbrev mj_R : Type := Option (Nat × Nat × mj_M × Nat × mj_L × List Value)
def mj_tv (b0 : Nat) (ex : Nat → Nat) (v : Value) : Value := match v with
  | .ref k => .ref (b0 + k)
  | .retAddr k => .ref (ex k)
  | .int x => .int x
  | .long x => .long x
  | .float x => .float x
  | .double x => .double x
  | .null => .null
def mj_te (b0 : Nat) (ex : Nat → Nat) (dA : Nat → ClassId) (e : va_E) : va_E := match e with
  | .inl (t, n, .inr (.inr (.inr (.inr g)))) => .inl (dA t, n, .inr (.inr (.inr (.inr (fun j => (g j).map (fun k => b0 + k))))))
  | .inl (t, n, x) => .inl (dA t, n, x)
  | .inr (ci, fs) => .inr (ci, fs.map (mj_tv b0 ex))
def mj_ws (b0 : Nat) (ex : Nat → Nat) (dA : Nat → ClassId) (M : mj_M) : va_W := M.mapIdx (fun k e => (b0 + k, mj_te b0 ex dA e))
def mj_tl (b0 : Nat) (ex : Nat → Nat) (l : mj_L) : List (Nat × Value) := l.map (fun q => (q.1, mj_tv b0 ex q.2))
def mj_ts (b0 : Nat) (ex : Nat → Nat) (st : List Value) : List Value := st.map (mj_tv b0 ex)
def mj_tys (dA : Nat → ClassId) : List (ClassId × FieldType) := [(dA 0, .int), (dA 1, .boolean), (dA 2, .array .int)]
theorem mj_tv_cat (b0 : Nat) (ex : Nat → Nat) (v : Value) (h : ∀ k, v ≠ .retAddr k) : (mj_tv b0 ex v).category = v.category := by
  cases v <;> first | rfl | exact absurd rfl (h _)
theorem mj_tv_cat' (b0 : Nat) (ex : Nat → Nat) (v : Value) : (mj_tv b0 ex v).category = v.category := by
  cases v <;> rfl
theorem mj_ws_len (b0 : Nat) (ex : Nat → Nat) (dA : Nat → ClassId) (M : mj_M) : (mj_ws b0 ex dA M).length = M.length := by
  simp [mj_ws]
theorem mj_ws_get {b0 : Nat} {ex : Nat → Nat} {dA : Nat → ClassId} {M : mj_M} {k : Nat} {e : va_E} (h : M[k]? = some e) : (mj_ws b0 ex dA M)[k]? = some (b0 + k, mj_te b0 ex dA e) := by
  simp [mj_ws, h]
theorem mj_ws_set {b0 : Nat} {ex : Nat → Nat} {dA : Nat → ClassId} {M : mj_M} {k : Nat} {e : va_E} : (mj_ws b0 ex dA M).set k (b0 + k, mj_te b0 ex dA e) = mj_ws b0 ex dA (M.set k e) := by
  apply List.ext_getElem?
  intro i
  by_cases h : i = k
  · subst h
    by_cases hl : i < M.length
    · rw [List.getElem?_set_self (by rw [mj_ws_len]; exact hl), mj_ws_get (e := e) (by rw [List.getElem?_set_self hl])]
    · rw [List.getElem?_eq_none (by rw [List.length_set, mj_ws_len]; omega), List.getElem?_eq_none (by rw [mj_ws_len, List.length_set]; omega)]
  · rw [List.getElem?_set_ne (Ne.symm h)]
    simp [mj_ws, List.getElem?_set_ne (Ne.symm h)]
theorem mj_ws_app {b0 : Nat} {ex : Nat → Nat} {dA : Nat → ClassId} {M : mj_M} {e : va_E} : mj_ws b0 ex dA M ++ [(b0 + M.length, mj_te b0 ex dA e)] = mj_ws b0 ex dA (M ++ [e]) := by
  simp [mj_ws, List.mapIdx_append]
theorem mj_ws_D {b0 : Nat} {ex : Nat → Nat} {dA : Nat → ClassId} {M : mj_M} : va_D (fun q => b0 ≤ q) (mj_ws b0 ex dA M) := by
  have key : ∀ (i : Nat) (p : Nat × va_E), (mj_ws b0 ex dA M)[i]? = some p → p.1 = b0 + i := by
    intro i p h
    simp only [mj_ws, List.getElem?_mapIdx] at h
    cases hM : M[i]? with
    | none => rw [hM] at h; cases h
    | some e => rw [hM] at h; cases h; rfl
  exact ⟨fun i j p q hi hj h => by have := key i p hi; have := key j q hj; omega, fun k q hk => by have := key k q hk; show b0 ≤ q.1; omega⟩
def mj_lk (l : mj_L) (i : Nat) : Option Value := match l with
  | [] => none
  | q :: l => if q.1 = i then some q.2 else mj_lk l i
theorem mj_lk_mem {l : mj_L} {i : Nat} {v : Value} (h : mj_lk l i = some v) : (i, v) ∈ l := by
  induction l with
  | nil => cases h
  | cons q l ih =>
    unfold mj_lk at h
    by_cases e : q.1 = i
    · rw [if_pos e] at h
      cases h
      subst e
      exact List.mem_cons_self
    · rw [if_neg e] at h
      exact List.mem_cons_of_mem _ (ih h)
theorem mj_lv {b0 : Nat} {ex : Nat → Nat} {ls : Array Slot} {nL : Nat} {l : mj_L} {i : Nat} {v : Value} (hl : lv_has ls nL (mj_tl b0 ex l)) (h : mj_lk l i = some v) : ls[i]? = some (.val (mj_tv b0 ex v)) :=
  hl.2.2 (i, mj_tv b0 ex v) (List.mem_map.mpr ⟨(i, v), mj_lk_mem h, rfl⟩)
def mj_s1 (l : mj_L) (i : Nat) (v : Value) : mj_L := (i, v) :: l.filter (fun q => !(q.1 == i) && !(q.1 + 1 == i && q.2.category == 2))
def mj_s2 (l : mj_L) (i : Nat) (v : Value) : mj_L := (i, v) :: l.filter (fun q => !(q.1 == i) && (!(q.1 == i + 1) && !(q.1 + 1 == i && q.2.category == 2)))
theorem mj_tl_s1 (b0 : Nat) (ex : Nat → Nat) (l : mj_L) (i : Nat) (v : Value) : (i, mj_tv b0 ex v) :: (mj_tl b0 ex l).filter (fun q => !(q.1 == i) && !(q.1 + 1 == i && q.2.category == 2)) = mj_tl b0 ex (mj_s1 l i v) := by
  unfold mj_tl mj_s1
  rw [List.map_cons, List.filter_map]
  congr 2
  apply List.filter_congr
  intro q _
  simp only [Function.comp, mj_tv_cat']
theorem mj_tl_s2 (b0 : Nat) (ex : Nat → Nat) (l : mj_L) (i : Nat) (v : Value) : (i, mj_tv b0 ex v) :: (mj_tl b0 ex l).filter (fun q => !(q.1 == i) && (!(q.1 == i + 1) && !(q.1 + 1 == i && q.2.category == 2))) = mj_tl b0 ex (mj_s2 l i v) := by
  unfold mj_tl mj_s2
  rw [List.map_cons, List.filter_map]
  congr 2
  apply List.filter_congr
  intro q _
  simp only [Function.comp, mj_tv_cat']
def mj_go (M : mj_M) (pc : Nat) (l : mj_L) (st : List Value) : mj_R := some (0, 0, M, pc, l, st)
def mj_jp (M : mj_M) (pc : Nat) (off : Int) (l : mj_L) (st : List Value) : mj_R := if 0 ≤ (pc : Int) + off then some (0, 0, M, ((pc : Int) + off).toNat, l, st) else none
def mj_br (M : mj_M) (pc : Nat) (off : Int) (l : mj_L) (st : List Value) (t : Bool) : mj_R := if 0 ≤ (pc : Int) + off then (match t with
  | true => some (0, 0, M, ((pc : Int) + off).toNat, l, st)
  | false => some (0, 0, M, pc + 3, l, st)) else none
def mj_isr (v : Value) : Bool := match v with
  | .ref _ => true
  | .retAddr _ => true
  | _ => false
/-- what hangs on ints, longs, locals and the stack alone -/
def mj_pu (ins : Instr) (len nL : Nat) (M : mj_M) (pc : Nat) (l : mj_L) (st : List Value) : mj_R := match ins, len, st with
  | .iconst n, 1, st => mj_go M (pc + 1) l (.int (Int32.ofInt n) :: st)
  | .bipush n, 2, st => mj_go M (pc + 2) l (.int (Int8.ofInt n).toInt32 :: st)
  | .sipush n, 3, st => mj_go M (pc + 3) l (.int (Int16.ofInt n).toInt32 :: st)
  | .lconst n, 1, st => mj_go M (pc + 1) l (.long (Int64.ofNat (n : Nat)) :: st)
  | .aconst_null, 1, st => mj_go M (pc + 1) l (.null :: st)
  | .iload_n k, 1, st => match mj_lk l (k : Nat) with
    | some (.int x) => mj_go M (pc + 1) l (.int x :: st)
    | _ => none
  | .iload i, 2, st => match mj_lk l i with
    | some (.int x) => mj_go M (pc + 2) l (.int x :: st)
    | _ => none
  | .lload_n k, 1, st => match mj_lk l (k : Nat) with
    | some (.long x) => mj_go M (pc + 1) l (.long x :: st)
    | _ => none
  | .lload i, 2, st => match mj_lk l i with
    | some (.long x) => mj_go M (pc + 2) l (.long x :: st)
    | _ => none
  | .aload_n k, 1, st => match mj_lk l (k : Nat) with
    | some (.ref x) => mj_go M (pc + 1) l (.ref x :: st)
    | some (.retAddr x) => mj_go M (pc + 1) l (.retAddr x :: st)
    | _ => none
  | .aload i, 2, st => match mj_lk l i with
    | some (.ref x) => mj_go M (pc + 2) l (.ref x :: st)
    | some (.retAddr x) => mj_go M (pc + 2) l (.retAddr x :: st)
    | _ => none
  | .istore_n k, 1, .int x :: st => if (k : Nat) < nL then mj_go M (pc + 1) (mj_s1 l k (.int x)) st else none
  | .istore i, 2, .int x :: st => if i < nL then mj_go M (pc + 2) (mj_s1 l i (.int x)) st else none
  | .lstore_n k, 1, .long x :: st => if (k : Nat) + 1 < nL then mj_go M (pc + 1) (mj_s2 l k (.long x)) st else none
  | .lstore i, 2, .long x :: st => if i + 1 < nL then mj_go M (pc + 2) (mj_s2 l i (.long x)) st else none
  | .astore_n k, 1, .ref x :: st => if (k : Nat) < nL then mj_go M (pc + 1) (mj_s1 l k (.ref x)) st else none
  | .astore i, 2, .ref x :: st => if i < nL then mj_go M (pc + 2) (mj_s1 l i (.ref x)) st else none
  | .iinc i n, 3, st => match mj_lk l i with
    | some (.int x) => if i < nL then mj_go M (pc + 3) (mj_s1 l i (.int (x + Int32.ofInt n))) st else none
    | _ => none
  | .iadd, 1, .int y :: .int x :: st => mj_go M (pc + 1) l (.int (x + y) :: st)
  | .isub, 1, .int y :: .int x :: st => mj_go M (pc + 1) l (.int (x - y) :: st)
  | .imul, 1, .int y :: .int x :: st => mj_go M (pc + 1) l (.int (x * y) :: st)
  | .idiv, 1, .int y :: .int x :: st => if y = 0 then none else mj_go M (pc + 1) l (.int (x / y) :: st)
  | .irem, 1, .int y :: .int x :: st => if y = 0 then none else mj_go M (pc + 1) l (.int (x - x / y * y) :: st)
  | .iand, 1, .int y :: .int x :: st => mj_go M (pc + 1) l (.int (x &&& y) :: st)
  | .ior, 1, .int y :: .int x :: st => mj_go M (pc + 1) l (.int (x ||| y) :: st)
  | .ishl, 1, .int y :: .int x :: st => mj_go M (pc + 1) l (.int (x <<< (y &&& 31)) :: st)
  | .ishr, 1, .int y :: .int x :: st => mj_go M (pc + 1) l (.int (x >>> (y &&& 31)) :: st)
  | .iushr, 1, .int y :: .int x :: st => mj_go M (pc + 1) l (.int (x.toUInt32 >>> (y.toUInt32 &&& Int32.toUInt32 31)).toInt32 :: st)
  | .ineg, 1, .int x :: st => mj_go M (pc + 1) l (.int (-x) :: st)
  | .ladd, 1, .long y :: .long x :: st => mj_go M (pc + 1) l (.long (x + y) :: st)
  | .lsub, 1, .long y :: .long x :: st => mj_go M (pc + 1) l (.long (x - y) :: st)
  | .lmul, 1, .long y :: .long x :: st => mj_go M (pc + 1) l (.long (x * y) :: st)
  | .ldiv, 1, .long y :: .long x :: st => if y = 0 then none else mj_go M (pc + 1) l (.long (x / y) :: st)
  | .lrem, 1, .long y :: .long x :: st => if y = 0 then none else mj_go M (pc + 1) l (.long (x - x / y * y) :: st)
  | .lcmp, 1, .long y :: .long x :: st => mj_go M (pc + 1) l (.int (lg_cmp x y) :: st)
  | .i2l, 1, .int x :: st => mj_go M (pc + 1) l (.long x.toInt64 :: st)
  | .l2i, 1, .long x :: st => mj_go M (pc + 1) l (.int x.toInt32 :: st)
  | .i2b, 1, .int x :: st => mj_go M (pc + 1) l (.int x.toInt8.toInt32 :: st)
  | .i2s, 1, .int x :: st => mj_go M (pc + 1) l (.int x.toInt16.toInt32 :: st)
  | .i2c, 1, .int x :: st => mj_go M (pc + 1) l (.int (x.toUInt32 % 65536).toInt32 :: st)
  | .dup, 1, v :: st => if v.category = 1 then mj_go M (pc + 1) l (v :: v :: st) else none
  | .dup2, 1, v :: w :: st => if v.category = 1 ∧ w.category = 1 then mj_go M (pc + 1) l (v :: w :: v :: w :: st) else none
  | .pop, 1, v :: st => if v.category = 1 then mj_go M (pc + 1) l st else none
  | .pop2, 1, v :: st => if v.category = 2 then mj_go M (pc + 1) l st else none
  | .goto off, 3, st => mj_jp M pc off l st
  | .ifCond .eq off, 3, .int x :: st => mj_br M pc off l st (decide (x = 0))
  | .ifCond .ne off, 3, .int x :: st => mj_br M pc off l st (decide (¬ x = 0))
  | .ifCond .lt off, 3, .int x :: st => mj_br M pc off l st (decide (x < 0))
  | .ifCond .ge off, 3, .int x :: st => mj_br M pc off l st (decide (0 ≤ x))
  | .ifCond .gt off, 3, .int x :: st => mj_br M pc off l st (decide (0 < x))
  | .ifCond .le off, 3, .int x :: st => mj_br M pc off l st (decide (x ≤ 0))
  | .if_icmp .eq off, 3, .int y :: .int x :: st => mj_br M pc off l st (decide (x = y))
  | .if_icmp .ne off, 3, .int y :: .int x :: st => mj_br M pc off l st (decide (¬ x = y))
  | .if_icmp .lt off, 3, .int y :: .int x :: st => mj_br M pc off l st (decide (x < y))
  | .if_icmp .ge off, 3, .int y :: .int x :: st => mj_br M pc off l st (decide (y ≤ x))
  | .if_icmp .gt off, 3, .int y :: .int x :: st => mj_br M pc off l st (decide (y < x))
  | .if_icmp .le off, 3, .int y :: .int x :: st => mj_br M pc off l st (decide (x ≤ y))
  | .tableswitch dflt lo hi offs, _, .int x :: st => if x.toInt < lo ∨ hi < x.toInt then mj_jp M pc dflt l st else match offs[(x.toInt - lo).toNat]? with
    | some off => mj_jp M pc off l st
    | none => none
  | .lookupswitch dflt ps, _, .int x :: st => if (ps.toList.zip (ps.toList.drop 1)).all (fun (a, next) => a.1 < next.1) = true then mj_jp M pc (Op.lookupswitch.offset ps.toList dflt x.toInt) l st else none
  | _, _, _ => none
end
section
section MJR
variable {p : Program} {l : Launch} {e : Env} {R : Room} {s : State} {m : MethodId} {args : Array Value} {below : List Frame} {meth : Method} {c : Code} {H : Heap} {locs : List Loc} {cells slots : Nat} {Q : State → Prop}
variable {cc : ByteArray} {pc pc' nL dc ds len : Nat} {ls : Array Slot} {b0 : Nat} {ex : Nat → Nat} {M M' : mj_M} {lo lo' : mj_L} {st st' : List Value} {ins : Instr}
theorem mj_jp_eq {M M' : mj_M} {pc pc' dc ds : Nat} {off : Int} {lo lo' : mj_L} {st st' : List Value} (h : mj_jp M pc off lo st = some (dc, ds, M', pc', lo', st')) : dc = 0 ∧ ds = 0 ∧ M' = M ∧ lo' = lo ∧ st' = st ∧ (pc : Int) + off = (pc' : Int) := by
  unfold mj_jp at h
  split at h
  · cases h
    exact ⟨rfl, rfl, rfl, rfl, rfl, by omega⟩
  · cases h
theorem mj_br_eq {M M' : mj_M} {pc pc' dc ds : Nat} {off : Int} {lo lo' : mj_L} {st st' : List Value} {t : Bool} (h : mj_br M pc off lo st t = some (dc, ds, M', pc', lo', st')) : ∃ tgt : Nat, dc = 0 ∧ ds = 0 ∧ M' = M ∧ lo' = lo ∧ st' = st ∧ (pc : Int) + off = (tgt : Int) ∧ (t = true → pc' = tgt) ∧ (t = false → pc' = pc + 3) := by
  unfold mj_br at h
  split at h
  · cases t
    · cases h
      exact ⟨((pc : Int) + off).toNat, rfl, rfl, rfl, rfl, rfl, by omega, fun q => (by cases q), fun _ => rfl⟩
    · cases h
      exact ⟨((pc : Int) + off).toNat, rfl, rfl, rfl, rfl, rfl, by omega, fun _ => rfl, fun q => (by cases q)⟩
  · cases h
set_option maxHeartbeats 4000000 in
theorem mj_pu_ok (hx : p.tables.exec = Jvm.exec) (hb : c.code = cc) (hl : lv_has ls nL (mj_tl b0 ex lo)) (hdg : decode cc pc = .ok (ins, len)) (h : mj_pu ins len nL M pc lo st = some (dc, ds, M', pc', lo', st')) :
    dc = 0 ∧ ds = 0 ∧ M' = M ∧ ((∀ ls' : Array Slot, lv_has ls' nL (mj_tl b0 ex lo') → W p l e R s m args below meth c H locs cells slots Q (F0 m pc' ls' (mj_ts b0 ex st'))) → W p l e R s m args below meth c H locs cells slots Q (F0 m pc ls (mj_ts b0 ex st))) := by
  unfold mj_pu at h
  split at h
  · cases h; exact ⟨rfl, rfl, rfl, fun k => lv_iconst hx hb hdg rfl (k ls hl)⟩
  · cases h; exact ⟨rfl, rfl, rfl, fun k => lv_bipush hx hb hdg rfl (k ls hl)⟩
  · cases h; exact ⟨rfl, rfl, rfl, fun k => lv_sipush hx hb hdg rfl (k ls hl)⟩
  · cases h; exact ⟨rfl, rfl, rfl, fun k => lv_lconst hx hb hdg rfl (k ls hl)⟩
  · cases h; exact ⟨rfl, rfl, rfl, fun k => lv_null hx hb hdg (k ls hl)⟩
  · split at h
    · rename_i hlk
      cases h; exact ⟨rfl, rfl, rfl, fun k => lv_iload_n hx hb hdg rfl (mj_lv hl hlk) (k ls hl)⟩
    · cases h
  · split at h
    · rename_i hlk
      cases h; exact ⟨rfl, rfl, rfl, fun k => lv_iload hx hb hdg (mj_lv hl hlk) (k ls hl)⟩
    · cases h
  · split at h
    · rename_i hlk
      cases h; exact ⟨rfl, rfl, rfl, fun k => lv_lload_n hx hb hdg rfl (mj_lv hl hlk) (k ls hl)⟩
    · cases h
  · split at h
    · rename_i hlk
      cases h; exact ⟨rfl, rfl, rfl, fun k => lv_lload hx hb hdg (mj_lv hl hlk) (k ls hl)⟩
    · cases h
  · split at h
    · rename_i hlk
      cases h; exact ⟨rfl, rfl, rfl, fun k => lv_aload_n hx hb hdg rfl (mj_lv hl hlk) (k ls hl)⟩
    · rename_i hlk
      cases h; exact ⟨rfl, rfl, rfl, fun k => lv_aload_n hx hb hdg rfl (mj_lv hl hlk) (k ls hl)⟩
    · cases h
  · split at h
    · rename_i hlk
      cases h; exact ⟨rfl, rfl, rfl, fun k => lv_aload hx hb hdg (mj_lv hl hlk) (k ls hl)⟩
    · rename_i hlk
      cases h; exact ⟨rfl, rfl, rfl, fun k => lv_aload hx hb hdg (mj_lv hl hlk) (k ls hl)⟩
    · cases h
  · split at h
    · rename_i hn
      cases h; exact ⟨rfl, rfl, rfl, fun k => lv_istore_n hx hb hdg rfl hl hn (mj_tl_s1 b0 ex lo _ (.int _)) (fun ls' hl' => k ls' hl')⟩
    · cases h
  · split at h
    · rename_i hn
      cases h; exact ⟨rfl, rfl, rfl, fun k => lv_istore hx hb hdg hl hn (mj_tl_s1 b0 ex lo _ (.int _)) (fun ls' hl' => k ls' hl')⟩
    · cases h
  · split at h
    · rename_i hn
      cases h; exact ⟨rfl, rfl, rfl, fun k => lv_lstore_n hx hb hdg rfl hl hn (mj_tl_s2 b0 ex lo _ (.long _)) (fun ls' hl' => k ls' hl')⟩
    · cases h
  · split at h
    · rename_i hn
      cases h; exact ⟨rfl, rfl, rfl, fun k => lv_lstore hx hb hdg hl hn (mj_tl_s2 b0 ex lo _ (.long _)) (fun ls' hl' => k ls' hl')⟩
    · cases h
  · split at h
    · rename_i hn
      cases h; exact ⟨rfl, rfl, rfl, fun k => lv_astore_n hx hb hdg rfl hl hn (mj_tl_s1 b0 ex lo _ (.ref _)) (fun ls' hl' => k ls' hl')⟩
    · cases h
  · split at h
    · rename_i hn
      cases h; exact ⟨rfl, rfl, rfl, fun k => lv_astore hx hb hdg hl hn (mj_tl_s1 b0 ex lo _ (.ref _)) (fun ls' hl' => k ls' hl')⟩
    · cases h
  · split at h
    · rename_i hlk
      split at h
      · rename_i hn
        cases h
        refine ⟨rfl, rfl, rfl, fun k => ?_⟩
        obtain ⟨k0, hk0⟩ := List.getElem?_of_mem (List.mem_map.mpr ⟨_, mj_lk_mem hlk, rfl⟩ : _ ∈ mj_tl b0 ex lo)
        exact lv_iinc hx hb hdg hl hk0 rfl hn (mj_tl_s1 b0 ex lo _ (.int _)) (fun ls' hl' => k ls' hl')
      · cases h
    · cases h
  · cases h; exact ⟨rfl, rfl, rfl, fun k => lv_iadd hx hb hdg (k ls hl)⟩
  · cases h; exact ⟨rfl, rfl, rfl, fun k => lv_isub hx hb hdg (k ls hl)⟩
  · cases h; exact ⟨rfl, rfl, rfl, fun k => lv_imul hx hb hdg (k ls hl)⟩
  · split at h
    · cases h
    · rename_i hne
      cases h; exact ⟨rfl, rfl, rfl, fun k => lv_idiv hx hb hdg hne (k ls hl)⟩
  · split at h
    · cases h
    · rename_i hne
      cases h; exact ⟨rfl, rfl, rfl, fun k => lv_irem hx hb hdg hne (k ls hl)⟩
  · cases h; exact ⟨rfl, rfl, rfl, fun k => lv_iand hx hb hdg (k ls hl)⟩
  · cases h; exact ⟨rfl, rfl, rfl, fun k => lv_ior hx hb hdg (k ls hl)⟩
  · cases h; exact ⟨rfl, rfl, rfl, fun k => lv_ishl hx hb hdg (k ls hl)⟩
  · cases h; exact ⟨rfl, rfl, rfl, fun k => lv_ishr hx hb hdg (k ls hl)⟩
  · cases h; exact ⟨rfl, rfl, rfl, fun k => lv_iushr hx hb hdg rfl (k ls hl)⟩
  · cases h; exact ⟨rfl, rfl, rfl, fun k => lv_ineg hx hb hdg (k ls hl)⟩
  · cases h; exact ⟨rfl, rfl, rfl, fun k => lv_ladd hx hb hdg (k ls hl)⟩
  · cases h; exact ⟨rfl, rfl, rfl, fun k => lv_lsub hx hb hdg (k ls hl)⟩
  · cases h; exact ⟨rfl, rfl, rfl, fun k => lv_lmul hx hb hdg (k ls hl)⟩
  · split at h
    · cases h
    · rename_i hne
      cases h; exact ⟨rfl, rfl, rfl, fun k => lv_ldiv hx hb hdg hne (k ls hl)⟩
  · split at h
    · cases h
    · rename_i hne
      cases h; exact ⟨rfl, rfl, rfl, fun k => lv_lrem hx hb hdg hne (k ls hl)⟩
  · cases h; exact ⟨rfl, rfl, rfl, fun k => W.lcmp hx hb hdg (k ls hl)⟩
  · cases h; exact ⟨rfl, rfl, rfl, fun k => lv_i2l hx hb hdg rfl (k ls hl)⟩
  · cases h; exact ⟨rfl, rfl, rfl, fun k => lv_l2i hx hb hdg rfl (k ls hl)⟩
  · cases h; exact ⟨rfl, rfl, rfl, fun k => lv_i2b hx hb hdg rfl (k ls hl)⟩
  · cases h; exact ⟨rfl, rfl, rfl, fun k => lv_i2s hx hb hdg rfl (k ls hl)⟩
  · cases h; exact ⟨rfl, rfl, rfl, fun k => lv_i2c hx hb hdg rfl (k ls hl)⟩
  · split at h
    · rename_i hv
      cases h; exact ⟨rfl, rfl, rfl, fun k => lv_dup hx hb hdg (by rw [mj_tv_cat']; exact hv) (k ls hl)⟩
    · cases h
  · split at h
    · rename_i hv
      cases h; exact ⟨rfl, rfl, rfl, fun k => lv_dup2_11 hx hb hdg (by rw [mj_tv_cat']; exact hv.1) (by rw [mj_tv_cat']; exact hv.2) (k ls hl)⟩
    · cases h
  · split at h
    · rename_i hv
      cases h; exact ⟨rfl, rfl, rfl, fun k => lv_pop hx hb hdg (by rw [mj_tv_cat']; exact hv) (k ls hl)⟩
    · cases h
  · split at h
    · rename_i hv
      cases h; exact ⟨rfl, rfl, rfl, fun k => lv_pop2_2 hx hb hdg (by rw [mj_tv_cat']; exact hv) (k ls hl)⟩
    · cases h
  · obtain ⟨rfl, rfl, rfl, rfl, rfl, ht⟩ := mj_jp_eq h
    exact ⟨rfl, rfl, rfl, fun k => lv_goto hx hb hdg ht (k ls hl)⟩
  · obtain ⟨tgt, rfl, rfl, rfl, rfl, rfl, ht, hT, hF⟩ := mj_br_eq h
    exact ⟨rfl, rfl, rfl, fun k => lv_if_eq hx hb hdg ht (fun q => by rw [← hT (decide_eq_true q)]; exact k ls hl) (fun q => by rw [← hF (decide_eq_false q)]; exact k ls hl)⟩
  · obtain ⟨tgt, rfl, rfl, rfl, rfl, rfl, ht, hT, hF⟩ := mj_br_eq h
    exact ⟨rfl, rfl, rfl, fun k => lv_if_ne hx hb hdg ht (fun q => by rw [← hT (decide_eq_true q)]; exact k ls hl) (fun q => by rw [← hF (decide_eq_false (not_not_intro q))]; exact k ls hl)⟩
  · obtain ⟨tgt, rfl, rfl, rfl, rfl, rfl, ht, hT, hF⟩ := mj_br_eq h
    exact ⟨rfl, rfl, rfl, fun k => lv_if_lt hx hb hdg ht (fun q => by rw [← hT (decide_eq_true q)]; exact k ls hl) (fun q => by rw [← hF (decide_eq_false q)]; exact k ls hl)⟩
  · obtain ⟨tgt, rfl, rfl, rfl, rfl, rfl, ht, hT, hF⟩ := mj_br_eq h
    exact ⟨rfl, rfl, rfl, fun k => lv_if_ge hx hb hdg ht (fun q => by rw [← hT (decide_eq_true q)]; exact k ls hl) (fun q => by rw [← hF (decide_eq_false q)]; exact k ls hl)⟩
  · obtain ⟨tgt, rfl, rfl, rfl, rfl, rfl, ht, hT, hF⟩ := mj_br_eq h
    exact ⟨rfl, rfl, rfl, fun k => lv_if_gt hx hb hdg ht (fun q => by rw [← hT (decide_eq_true q)]; exact k ls hl) (fun q => by rw [← hF (decide_eq_false q)]; exact k ls hl)⟩
  · obtain ⟨tgt, rfl, rfl, rfl, rfl, rfl, ht, hT, hF⟩ := mj_br_eq h
    exact ⟨rfl, rfl, rfl, fun k => lv_if_le hx hb hdg ht (fun q => by rw [← hT (decide_eq_true q)]; exact k ls hl) (fun q => by rw [← hF (decide_eq_false q)]; exact k ls hl)⟩
  · obtain ⟨tgt, rfl, rfl, rfl, rfl, rfl, ht, hT, hF⟩ := mj_br_eq h
    exact ⟨rfl, rfl, rfl, fun k => lv_icmp_eq hx hb hdg ht (fun q => by rw [← hT (decide_eq_true q)]; exact k ls hl) (fun q => by rw [← hF (decide_eq_false q)]; exact k ls hl)⟩
  · obtain ⟨tgt, rfl, rfl, rfl, rfl, rfl, ht, hT, hF⟩ := mj_br_eq h
    exact ⟨rfl, rfl, rfl, fun k => lv_icmp_ne hx hb hdg ht (fun q => by rw [← hT (decide_eq_true q)]; exact k ls hl) (fun q => by rw [← hF (decide_eq_false (not_not_intro q))]; exact k ls hl)⟩
  · obtain ⟨tgt, rfl, rfl, rfl, rfl, rfl, ht, hT, hF⟩ := mj_br_eq h
    exact ⟨rfl, rfl, rfl, fun k => lv_icmp_lt hx hb hdg ht (fun q => by rw [← hT (decide_eq_true q)]; exact k ls hl) (fun q => by rw [← hF (decide_eq_false q)]; exact k ls hl)⟩
  · obtain ⟨tgt, rfl, rfl, rfl, rfl, rfl, ht, hT, hF⟩ := mj_br_eq h
    exact ⟨rfl, rfl, rfl, fun k => lv_icmp_ge hx hb hdg ht (fun q => by rw [← hT (decide_eq_true q)]; exact k ls hl) (fun q => by rw [← hF (decide_eq_false q)]; exact k ls hl)⟩
  · obtain ⟨tgt, rfl, rfl, rfl, rfl, rfl, ht, hT, hF⟩ := mj_br_eq h
    exact ⟨rfl, rfl, rfl, fun k => lv_icmp_gt hx hb hdg ht (fun q => by rw [← hT (decide_eq_true q)]; exact k ls hl) (fun q => by rw [← hF (decide_eq_false q)]; exact k ls hl)⟩
  · obtain ⟨tgt, rfl, rfl, rfl, rfl, rfl, ht, hT, hF⟩ := mj_br_eq h
    exact ⟨rfl, rfl, rfl, fun k => lv_icmp_le hx hb hdg ht (fun q => by rw [← hT (decide_eq_true q)]; exact k ls hl) (fun q => by rw [← hF (decide_eq_false q)]; exact k ls hl)⟩
  · split at h
    · rename_i hc
      obtain ⟨rfl, rfl, rfl, rfl, rfl, ht⟩ := mj_jp_eq h
      exact ⟨rfl, rfl, rfl, fun k => lv_tableOut hx hb hdg hc ht (k ls hl)⟩
    · rename_i hc
      split at h
      · rename_i ho
        obtain ⟨rfl, rfl, rfl, rfl, rfl, ht⟩ := mj_jp_eq h
        exact ⟨rfl, rfl, rfl, fun k => lv_tableIn hx hb hdg (fun q => hc (Or.inl q)) (fun q => hc (Or.inr q)) ho ht (k ls hl)⟩
      · cases h
  · split at h
    · rename_i hp
      obtain ⟨rfl, rfl, rfl, rfl, rfl, ht⟩ := mj_jp_eq h
      exact ⟨rfl, rfl, rfl, fun k => lv_lookup hx hb hdg hp rfl ht (k ls hl)⟩
    · cases h
  · cases h
end MJR
end
