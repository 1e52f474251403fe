section
-- ===== PART A: goes FIRST, ahead of the names: the tables' words, and 'selects' of the private methods out of them =====
/-- a private method of a class that the tables say can be made, by its rows of tables_1 -/
def lw_okq (q : MethodName × Nat) : Prop := (q.1.cls ≠ "java/lang/invoke/MethodHandle" ∧ q.1.cls ≠ "java/lang/invoke/VarHandle") ∧ Cond.instantiable q.1.cls q.2 ∈ tables_1 ∧ Cond.privateMethod q.1 ∈ tables_1 ∧ Cond.instanceMethod q.1 ∈ tables_1
theorem lw_p0 : lw_okq (⟨"DreamsPayRent$Reader", "cut", "()V"⟩, 11) := ⟨⟨by decide +kernel, by decide +kernel⟩, List.mem_of_getElem? (i := 53) (by decide +kernel), List.mem_of_getElem? (i := 273) (by decide +kernel), List.mem_of_getElem? (i := 274) (by decide +kernel)⟩
theorem lw_p1 : lw_okq (⟨"DreamsPayRent$Reader", "cutNumber", "(I)I"⟩, 11) := ⟨⟨by decide +kernel, by decide +kernel⟩, List.mem_of_getElem? (i := 53) (by decide +kernel), List.mem_of_getElem? (i := 280) (by decide +kernel), List.mem_of_getElem? (i := 281) (by decide +kernel)⟩
theorem lw_p2 : lw_okq (⟨"DreamsPayRent$Reader", "token", "(III)V"⟩, 11) := ⟨⟨by decide +kernel, by decide +kernel⟩, List.mem_of_getElem? (i := 53) (by decide +kernel), List.mem_of_getElem? (i := 284) (by decide +kernel), List.mem_of_getElem? (i := 285) (by decide +kernel)⟩
theorem lw_p3 : lw_okq (⟨"DreamsPayRent$Reader", "cutWord", "(I)I"⟩, 11) := ⟨⟨by decide +kernel, by decide +kernel⟩, List.mem_of_getElem? (i := 53) (by decide +kernel), List.mem_of_getElem? (i := 291) (by decide +kernel), List.mem_of_getElem? (i := 292) (by decide +kernel)⟩
theorem lw_p4 : lw_okq (⟨"DreamsPayRent$Reader", "wordAt", "(II)I"⟩, 11) := ⟨⟨by decide +kernel, by decide +kernel⟩, List.mem_of_getElem? (i := 53) (by decide +kernel), List.mem_of_getElem? (i := 295) (by decide +kernel), List.mem_of_getElem? (i := 296) (by decide +kernel)⟩
theorem lw_p5 : lw_okq (⟨"DreamsPayRent$Reader", "stands", "(Ljava/lang/String;II)Z"⟩, 11) := ⟨⟨by decide +kernel, by decide +kernel⟩, List.mem_of_getElem? (i := 53) (by decide +kernel), List.mem_of_getElem? (i := 314) (by decide +kernel), List.mem_of_getElem? (i := 315) (by decide +kernel)⟩
theorem lw_p6 : lw_okq (⟨"DreamsPayRent$Reader", "need", "(I)V"⟩, 11) := ⟨⟨by decide +kernel, by decide +kernel⟩, List.mem_of_getElem? (i := 53) (by decide +kernel), List.mem_of_getElem? (i := 323) (by decide +kernel), List.mem_of_getElem? (i := 324) (by decide +kernel)⟩
theorem lw_p7 : lw_okq (⟨"DreamsPayRent$Reader", "pass", "()V"⟩, 11) := ⟨⟨by decide +kernel, by decide +kernel⟩, List.mem_of_getElem? (i := 53) (by decide +kernel), List.mem_of_getElem? (i := 327) (by decide +kernel), List.mem_of_getElem? (i := 328) (by decide +kernel)⟩
theorem lw_p8 : lw_okq (⟨"DreamsPayRent$Reader", "fail", "()V"⟩, 11) := ⟨⟨by decide +kernel, by decide +kernel⟩, List.mem_of_getElem? (i := 53) (by decide +kernel), List.mem_of_getElem? (i := 331) (by decide +kernel), List.mem_of_getElem? (i := 332) (by decide +kernel)⟩
theorem lw_p9 : lw_okq (⟨"DreamsPayRent$Reader", "step", "(I)V"⟩, 11) := ⟨⟨by decide +kernel, by decide +kernel⟩, List.mem_of_getElem? (i := 53) (by decide +kernel), List.mem_of_getElem? (i := 341) (by decide +kernel), List.mem_of_getElem? (i := 342) (by decide +kernel)⟩
theorem lw_p10 : lw_okq (⟨"DreamsPayRent$Reader", "opens", "(I)Z"⟩, 11) := ⟨⟨by decide +kernel, by decide +kernel⟩, List.mem_of_getElem? (i := 53) (by decide +kernel), List.mem_of_getElem? (i := 345) (by decide +kernel), List.mem_of_getElem? (i := 346) (by decide +kernel)⟩
theorem lw_p11 : lw_okq (⟨"DreamsPayRent", "isSettable", "(II)Z"⟩, 8) := ⟨⟨by decide +kernel, by decide +kernel⟩, List.mem_of_getElem? (i := 18) (by decide +kernel), List.mem_of_getElem? (i := 414) (by decide +kernel), List.mem_of_getElem? (i := 415) (by decide +kernel)⟩
theorem lw_p12 : lw_okq (⟨"DreamsPayRent$House", "reckon", "(III)I"⟩, 13) := ⟨⟨by decide +kernel, by decide +kernel⟩, List.mem_of_getElem? (i := 96) (by decide +kernel), List.mem_of_getElem? (i := 460) (by decide +kernel), List.mem_of_getElem? (i := 461) (by decide +kernel)⟩
theorem lw_p13 : lw_okq (⟨"DreamsPayRent$Ways", "weigh", "(LDreamsPayRent$House;I)I"⟩, 10) := ⟨⟨by decide +kernel, by decide +kernel⟩, List.mem_of_getElem? (i := 156) (by decide +kernel), List.mem_of_getElem? (i := 577) (by decide +kernel), List.mem_of_getElem? (i := 578) (by decide +kernel)⟩
theorem lw_p14 : lw_okq (⟨"DreamsPayRent$Ways", "keepIfBetter", "(I)V"⟩, 10) := ⟨⟨by decide +kernel, by decide +kernel⟩, List.mem_of_getElem? (i := 156) (by decide +kernel), List.mem_of_getElem? (i := 589) (by decide +kernel), List.mem_of_getElem? (i := 590) (by decide +kernel)⟩
theorem lw_p15 : lw_okq (⟨"DreamsPayRent$Ways", "leakWith", "(II)I"⟩, 10) := ⟨⟨by decide +kernel, by decide +kernel⟩, List.mem_of_getElem? (i := 156) (by decide +kernel), List.mem_of_getElem? (i := 594) (by decide +kernel), List.mem_of_getElem? (i := 595) (by decide +kernel)⟩
def lw_privs_1 : List (MethodName × Nat) := [(⟨"DreamsPayRent$Reader", "cut", "()V"⟩, 11), (⟨"DreamsPayRent$Reader", "cutNumber", "(I)I"⟩, 11), (⟨"DreamsPayRent$Reader", "token", "(III)V"⟩, 11), (⟨"DreamsPayRent$Reader", "cutWord", "(I)I"⟩, 11), (⟨"DreamsPayRent$Reader", "wordAt", "(II)I"⟩, 11), (⟨"DreamsPayRent$Reader", "stands", "(Ljava/lang/String;II)Z"⟩, 11), (⟨"DreamsPayRent$Reader", "need", "(I)V"⟩, 11), (⟨"DreamsPayRent$Reader", "pass", "()V"⟩, 11), (⟨"DreamsPayRent$Reader", "fail", "()V"⟩, 11), (⟨"DreamsPayRent$Reader", "step", "(I)V"⟩, 11), (⟨"DreamsPayRent$Reader", "opens", "(I)Z"⟩, 11), (⟨"DreamsPayRent", "isSettable", "(II)Z"⟩, 8), (⟨"DreamsPayRent$House", "reckon", "(III)I"⟩, 13), (⟨"DreamsPayRent$Ways", "weigh", "(LDreamsPayRent$House;I)I"⟩, 10), (⟨"DreamsPayRent$Ways", "keepIfBetter", "(I)V"⟩, 10), (⟨"DreamsPayRent$Ways", "leakWith", "(II)I"⟩, 10)]
theorem lw_r1 : ∀ q ∈ lw_privs_1, lw_okq q := List.forall_mem_cons.mpr ⟨lw_p0, List.forall_mem_cons.mpr ⟨lw_p1, List.forall_mem_cons.mpr ⟨lw_p2, List.forall_mem_cons.mpr ⟨lw_p3, List.forall_mem_cons.mpr ⟨lw_p4, List.forall_mem_cons.mpr ⟨lw_p5, List.forall_mem_cons.mpr ⟨lw_p6, List.forall_mem_cons.mpr ⟨lw_p7, List.forall_mem_cons.mpr ⟨lw_p8, List.forall_mem_cons.mpr ⟨lw_p9, List.forall_mem_cons.mpr ⟨lw_p10, List.forall_mem_cons.mpr ⟨lw_p11, List.forall_mem_cons.mpr ⟨lw_p12, List.forall_mem_cons.mpr ⟨lw_p13, List.forall_mem_cons.mpr ⟨lw_p14, List.forall_mem_cons.mpr ⟨lw_p15, fun _ h => absurd h List.not_mem_nil⟩⟩⟩⟩⟩⟩⟩⟩⟩⟩⟩⟩⟩⟩⟩⟩
theorem lw_p16 : lw_okq (⟨"DreamsPayRent$House", "canCome", "(II)Z"⟩, 13) := ⟨⟨by decide +kernel, by decide +kernel⟩, List.mem_of_getElem? (i := 96) (by decide +kernel), List.mem_of_getElem? (i := 608) (by decide +kernel), List.mem_of_getElem? (i := 609) (by decide +kernel)⟩
theorem lw_p17 : lw_okq (⟨"DreamsPayRent", "firstOtherwise", "(II)I"⟩, 8) := ⟨⟨by decide +kernel, by decide +kernel⟩, List.mem_of_getElem? (i := 18) (by decide +kernel), List.mem_of_getElem? (i := 632) (by decide +kernel), List.mem_of_getElem? (i := 633) (by decide +kernel)⟩
theorem lw_p18 : lw_okq (⟨"DreamsPayRent", "readBack", "(III)I"⟩, 8) := ⟨⟨by decide +kernel, by decide +kernel⟩, List.mem_of_getElem? (i := 18) (by decide +kernel), List.mem_of_getElem? (i := 636) (by decide +kernel), List.mem_of_getElem? (i := 637) (by decide +kernel)⟩
theorem lw_p19 : lw_okq (⟨"DreamsPayRent", "supposedEnd", "(I)I"⟩, 8) := ⟨⟨by decide +kernel, by decide +kernel⟩, List.mem_of_getElem? (i := 18) (by decide +kernel), List.mem_of_getElem? (i := 640) (by decide +kernel), List.mem_of_getElem? (i := 641) (by decide +kernel)⟩
theorem lw_p20 : lw_okq (⟨"DreamsPayRent", "suppose", "(III)V"⟩, 8) := ⟨⟨by decide +kernel, by decide +kernel⟩, List.mem_of_getElem? (i := 18) (by decide +kernel), List.mem_of_getElem? (i := 644) (by decide +kernel), List.mem_of_getElem? (i := 645) (by decide +kernel)⟩
theorem lw_p21 : lw_okq (⟨"DreamsPayRent", "runDrawn", "(I)Z"⟩, 8) := ⟨⟨by decide +kernel, by decide +kernel⟩, List.mem_of_getElem? (i := 18) (by decide +kernel), List.mem_of_getElem? (i := 664) (by decide +kernel), List.mem_of_getElem? (i := 665) (by decide +kernel)⟩
theorem lw_p22 : lw_okq (⟨"DreamsPayRentModel", "spell", "(IIIIIIIII)V"⟩, 58) := ⟨⟨by decide +kernel, by decide +kernel⟩, List.mem_of_getElem? (i := 721) (by decide +kernel), List.mem_of_getElem? (i := 727) (by decide +kernel), List.mem_of_getElem? (i := 728) (by decide +kernel)⟩
theorem lw_p23 : lw_okq (⟨"DreamsPayRentModel", "isOf", "(II)Z"⟩, 58) := ⟨⟨by decide +kernel, by decide +kernel⟩, List.mem_of_getElem? (i := 721) (by decide +kernel), List.mem_of_getElem? (i := 914) (by decide +kernel), List.mem_of_getElem? (i := 915) (by decide +kernel)⟩
theorem lw_p24 : lw_okq (⟨"DreamsPayRentModel", "isDream", "(I)Z"⟩, 58) := ⟨⟨by decide +kernel, by decide +kernel⟩, List.mem_of_getElem? (i := 721) (by decide +kernel), List.mem_of_getElem? (i := 922) (by decide +kernel), List.mem_of_getElem? (i := 923) (by decide +kernel)⟩
theorem lw_p25 : lw_okq (⟨"DreamsPayRentModel", "needsOf", "(I)I"⟩, 58) := ⟨⟨by decide +kernel, by decide +kernel⟩, List.mem_of_getElem? (i := 721) (by decide +kernel), List.mem_of_getElem? (i := 940) (by decide +kernel), List.mem_of_getElem? (i := 941) (by decide +kernel)⟩
theorem lw_p26 : lw_okq (⟨"DreamsPayRentModel", "bearsOf", "(I)I"⟩, 58) := ⟨⟨by decide +kernel, by decide +kernel⟩, List.mem_of_getElem? (i := 721) (by decide +kernel), List.mem_of_getElem? (i := 944) (by decide +kernel), List.mem_of_getElem? (i := 945) (by decide +kernel)⟩
theorem lw_p27 : lw_okq (⟨"DreamsPayRentModel", "lays", "(III)V"⟩, 58) := ⟨⟨by decide +kernel, by decide +kernel⟩, List.mem_of_getElem? (i := 721) (by decide +kernel), List.mem_of_getElem? (i := 948) (by decide +kernel), List.mem_of_getElem? (i := 949) (by decide +kernel)⟩
theorem lw_p28 : lw_okq (⟨"DreamsPayRentModel", "fits", "(II)Z"⟩, 58) := ⟨⟨by decide +kernel, by decide +kernel⟩, List.mem_of_getElem? (i := 721) (by decide +kernel), List.mem_of_getElem? (i := 961) (by decide +kernel), List.mem_of_getElem? (i := 962) (by decide +kernel)⟩
theorem lw_p29 : lw_okq (⟨"DreamsPayRentModel", "liesOn", "(II)Z"⟩, 58) := ⟨⟨by decide +kernel, by decide +kernel⟩, List.mem_of_getElem? (i := 721) (by decide +kernel), List.mem_of_getElem? (i := 965) (by decide +kernel), List.mem_of_getElem? (i := 966) (by decide +kernel)⟩
theorem lw_p30 : lw_okq (⟨"DreamsPayRentModel", "whoIn", "(I)I"⟩, 58) := ⟨⟨by decide +kernel, by decide +kernel⟩, List.mem_of_getElem? (i := 721) (by decide +kernel), List.mem_of_getElem? (i := 969) (by decide +kernel), List.mem_of_getElem? (i := 970) (by decide +kernel)⟩
theorem lw_p31 : lw_okq (⟨"DreamsPayRentModel", "read", "(II)I"⟩, 58) := ⟨⟨by decide +kernel, by decide +kernel⟩, List.mem_of_getElem? (i := 721) (by decide +kernel), List.mem_of_getElem? (i := 983) (by decide +kernel), List.mem_of_getElem? (i := 984) (by decide +kernel)⟩
def lw_privs_2 : List (MethodName × Nat) := [(⟨"DreamsPayRent$House", "canCome", "(II)Z"⟩, 13), (⟨"DreamsPayRent", "firstOtherwise", "(II)I"⟩, 8), (⟨"DreamsPayRent", "readBack", "(III)I"⟩, 8), (⟨"DreamsPayRent", "supposedEnd", "(I)I"⟩, 8), (⟨"DreamsPayRent", "suppose", "(III)V"⟩, 8), (⟨"DreamsPayRent", "runDrawn", "(I)Z"⟩, 8), (⟨"DreamsPayRentModel", "spell", "(IIIIIIIII)V"⟩, 58), (⟨"DreamsPayRentModel", "isOf", "(II)Z"⟩, 58), (⟨"DreamsPayRentModel", "isDream", "(I)Z"⟩, 58), (⟨"DreamsPayRentModel", "needsOf", "(I)I"⟩, 58), (⟨"DreamsPayRentModel", "bearsOf", "(I)I"⟩, 58), (⟨"DreamsPayRentModel", "lays", "(III)V"⟩, 58), (⟨"DreamsPayRentModel", "fits", "(II)Z"⟩, 58), (⟨"DreamsPayRentModel", "liesOn", "(II)Z"⟩, 58), (⟨"DreamsPayRentModel", "whoIn", "(I)I"⟩, 58), (⟨"DreamsPayRentModel", "read", "(II)I"⟩, 58)]
theorem lw_r2 : ∀ q ∈ lw_privs_2, lw_okq q := List.forall_mem_cons.mpr ⟨lw_p16, List.forall_mem_cons.mpr ⟨lw_p17, List.forall_mem_cons.mpr ⟨lw_p18, List.forall_mem_cons.mpr ⟨lw_p19, List.forall_mem_cons.mpr ⟨lw_p20, List.forall_mem_cons.mpr ⟨lw_p21, List.forall_mem_cons.mpr ⟨lw_p22, List.forall_mem_cons.mpr ⟨lw_p23, List.forall_mem_cons.mpr ⟨lw_p24, List.forall_mem_cons.mpr ⟨lw_p25, List.forall_mem_cons.mpr ⟨lw_p26, List.forall_mem_cons.mpr ⟨lw_p27, List.forall_mem_cons.mpr ⟨lw_p28, List.forall_mem_cons.mpr ⟨lw_p29, List.forall_mem_cons.mpr ⟨lw_p30, List.forall_mem_cons.mpr ⟨lw_p31, fun _ h => absurd h List.not_mem_nil⟩⟩⟩⟩⟩⟩⟩⟩⟩⟩⟩⟩⟩⟩⟩⟩
theorem lw_p32 : lw_okq (⟨"DreamsPayRentModel", "next", "()V"⟩, 58) := ⟨⟨by decide +kernel, by decide +kernel⟩, List.mem_of_getElem? (i := 721) (by decide +kernel), List.mem_of_getElem? (i := 987) (by decide +kernel), List.mem_of_getElem? (i := 988) (by decide +kernel)⟩
theorem lw_p33 : lw_okq (⟨"DreamsPayRentModel", "byteAt", "(I)I"⟩, 58) := ⟨⟨by decide +kernel, by decide +kernel⟩, List.mem_of_getElem? (i := 721) (by decide +kernel), List.mem_of_getElem? (i := 991) (by decide +kernel), List.mem_of_getElem? (i := 992) (by decide +kernel)⟩
theorem lw_p34 : lw_okq (⟨"DreamsPayRentModel", "isWord", "(IIIIIIII)Z"⟩, 58) := ⟨⟨by decide +kernel, by decide +kernel⟩, List.mem_of_getElem? (i := 721) (by decide +kernel), List.mem_of_getElem? (i := 999) (by decide +kernel), List.mem_of_getElem? (i := 1000) (by decide +kernel)⟩
theorem lw_p35 : lw_okq (⟨"DreamsPayRentModel", "isLetter", "(II)Z"⟩, 58) := ⟨⟨by decide +kernel, by decide +kernel⟩, List.mem_of_getElem? (i := 721) (by decide +kernel), List.mem_of_getElem? (i := 1003) (by decide +kernel), List.mem_of_getElem? (i := 1004) (by decide +kernel)⟩
theorem lw_p36 : lw_okq (⟨"DreamsPayRentModel", "part", "(Z)I"⟩, 58) := ⟨⟨by decide +kernel, by decide +kernel⟩, List.mem_of_getElem? (i := 721) (by decide +kernel), List.mem_of_getElem? (i := 1007) (by decide +kernel), List.mem_of_getElem? (i := 1008) (by decide +kernel)⟩
theorem lw_p37 : lw_okq (⟨"DreamsPayRentModel", "fail", "()V"⟩, 58) := ⟨⟨by decide +kernel, by decide +kernel⟩, List.mem_of_getElem? (i := 721) (by decide +kernel), List.mem_of_getElem? (i := 1011) (by decide +kernel), List.mem_of_getElem? (i := 1012) (by decide +kernel)⟩
theorem lw_p38 : lw_okq (⟨"DreamsPayRentModel", "either", "()I"⟩, 58) := ⟨⟨by decide +kernel, by decide +kernel⟩, List.mem_of_getElem? (i := 721) (by decide +kernel), List.mem_of_getElem? (i := 1015) (by decide +kernel), List.mem_of_getElem? (i := 1016) (by decide +kernel)⟩
theorem lw_p39 : lw_okq (⟨"DreamsPayRentModel", "both", "()I"⟩, 58) := ⟨⟨by decide +kernel, by decide +kernel⟩, List.mem_of_getElem? (i := 721) (by decide +kernel), List.mem_of_getElem? (i := 1019) (by decide +kernel), List.mem_of_getElem? (i := 1020) (by decide +kernel)⟩
theorem lw_p40 : lw_okq (⟨"DreamsPayRentModel", "not", "()I"⟩, 58) := ⟨⟨by decide +kernel, by decide +kernel⟩, List.mem_of_getElem? (i := 721) (by decide +kernel), List.mem_of_getElem? (i := 1023) (by decide +kernel), List.mem_of_getElem? (i := 1024) (by decide +kernel)⟩
theorem lw_p41 : lw_okq (⟨"DreamsPayRentModel", "opens", "()Z"⟩, 58) := ⟨⟨by decide +kernel, by decide +kernel⟩, List.mem_of_getElem? (i := 721) (by decide +kernel), List.mem_of_getElem? (i := 1027) (by decide +kernel), List.mem_of_getElem? (i := 1028) (by decide +kernel)⟩
theorem lw_p42 : lw_okq (⟨"DreamsPayRentModel", "added", "()I"⟩, 58) := ⟨⟨by decide +kernel, by decide +kernel⟩, List.mem_of_getElem? (i := 721) (by decide +kernel), List.mem_of_getElem? (i := 1031) (by decide +kernel), List.mem_of_getElem? (i := 1032) (by decide +kernel)⟩
theorem lw_p43 : lw_okq (⟨"DreamsPayRentModel", "term", "()I"⟩, 58) := ⟨⟨by decide +kernel, by decide +kernel⟩, List.mem_of_getElem? (i := 721) (by decide +kernel), List.mem_of_getElem? (i := 1035) (by decide +kernel), List.mem_of_getElem? (i := 1036) (by decide +kernel)⟩
theorem lw_p44 : lw_okq (⟨"DreamsPayRentModel", "atom", "()I"⟩, 58) := ⟨⟨by decide +kernel, by decide +kernel⟩, List.mem_of_getElem? (i := 721) (by decide +kernel), List.mem_of_getElem? (i := 1039) (by decide +kernel), List.mem_of_getElem? (i := 1040) (by decide +kernel)⟩
theorem lw_p45 : lw_okq (⟨"DreamsPayRentModel", "isSign", "(I)Z"⟩, 58) := ⟨⟨by decide +kernel, by decide +kernel⟩, List.mem_of_getElem? (i := 721) (by decide +kernel), List.mem_of_getElem? (i := 1043) (by decide +kernel), List.mem_of_getElem? (i := 1044) (by decide +kernel)⟩
theorem lw_p46 : lw_okq (⟨"DreamsPayRentModel", "name", "()I"⟩, 58) := ⟨⟨by decide +kernel, by decide +kernel⟩, List.mem_of_getElem? (i := 721) (by decide +kernel), List.mem_of_getElem? (i := 1047) (by decide +kernel), List.mem_of_getElem? (i := 1048) (by decide +kernel)⟩
theorem lw_p47 : lw_okq (⟨"DreamsPayRentModel", "paysIn", "(II)I"⟩, 58) := ⟨⟨by decide +kernel, by decide +kernel⟩, List.mem_of_getElem? (i := 721) (by decide +kernel), List.mem_of_getElem? (i := 1062) (by decide +kernel), List.mem_of_getElem? (i := 1063) (by decide +kernel)⟩
def lw_privs_3 : List (MethodName × Nat) := [(⟨"DreamsPayRentModel", "next", "()V"⟩, 58), (⟨"DreamsPayRentModel", "byteAt", "(I)I"⟩, 58), (⟨"DreamsPayRentModel", "isWord", "(IIIIIIII)Z"⟩, 58), (⟨"DreamsPayRentModel", "isLetter", "(II)Z"⟩, 58), (⟨"DreamsPayRentModel", "part", "(Z)I"⟩, 58), (⟨"DreamsPayRentModel", "fail", "()V"⟩, 58), (⟨"DreamsPayRentModel", "either", "()I"⟩, 58), (⟨"DreamsPayRentModel", "both", "()I"⟩, 58), (⟨"DreamsPayRentModel", "not", "()I"⟩, 58), (⟨"DreamsPayRentModel", "opens", "()Z"⟩, 58), (⟨"DreamsPayRentModel", "added", "()I"⟩, 58), (⟨"DreamsPayRentModel", "term", "()I"⟩, 58), (⟨"DreamsPayRentModel", "atom", "()I"⟩, 58), (⟨"DreamsPayRentModel", "isSign", "(I)Z"⟩, 58), (⟨"DreamsPayRentModel", "name", "()I"⟩, 58), (⟨"DreamsPayRentModel", "paysIn", "(II)I"⟩, 58)]
theorem lw_r3 : ∀ q ∈ lw_privs_3, lw_okq q := List.forall_mem_cons.mpr ⟨lw_p32, List.forall_mem_cons.mpr ⟨lw_p33, List.forall_mem_cons.mpr ⟨lw_p34, List.forall_mem_cons.mpr ⟨lw_p35, List.forall_mem_cons.mpr ⟨lw_p36, List.forall_mem_cons.mpr ⟨lw_p37, List.forall_mem_cons.mpr ⟨lw_p38, List.forall_mem_cons.mpr ⟨lw_p39, List.forall_mem_cons.mpr ⟨lw_p40, List.forall_mem_cons.mpr ⟨lw_p41, List.forall_mem_cons.mpr ⟨lw_p42, List.forall_mem_cons.mpr ⟨lw_p43, List.forall_mem_cons.mpr ⟨lw_p44, List.forall_mem_cons.mpr ⟨lw_p45, List.forall_mem_cons.mpr ⟨lw_p46, List.forall_mem_cons.mpr ⟨lw_p47, fun _ h => absurd h List.not_mem_nil⟩⟩⟩⟩⟩⟩⟩⟩⟩⟩⟩⟩⟩⟩⟩⟩
theorem lw_p48 : lw_okq (⟨"DreamsPayRentModel", "asks", "(III)I"⟩, 58) := ⟨⟨by decide +kernel, by decide +kernel⟩, List.mem_of_getElem? (i := 721) (by decide +kernel), List.mem_of_getElem? (i := 1066) (by decide +kernel), List.mem_of_getElem? (i := 1067) (by decide +kernel)⟩
theorem lw_p49 : lw_okq (⟨"DreamsPayRentModel", "gathers", "()V"⟩, 58) := ⟨⟨by decide +kernel, by decide +kernel⟩, List.mem_of_getElem? (i := 721) (by decide +kernel), List.mem_of_getElem? (i := 1081) (by decide +kernel), List.mem_of_getElem? (i := 1082) (by decide +kernel)⟩
theorem lw_p50 : lw_okq (⟨"DreamsPayRentModel", "leakOf", "(I)I"⟩, 58) := ⟨⟨by decide +kernel, by decide +kernel⟩, List.mem_of_getElem? (i := 721) (by decide +kernel), List.mem_of_getElem? (i := 1085) (by decide +kernel), List.mem_of_getElem? (i := 1086) (by decide +kernel)⟩
theorem lw_p51 : lw_okq (⟨"DreamsPayRentModel", "worthNow", "()I"⟩, 58) := ⟨⟨by decide +kernel, by decide +kernel⟩, List.mem_of_getElem? (i := 721) (by decide +kernel), List.mem_of_getElem? (i := 1099) (by decide +kernel), List.mem_of_getElem? (i := 1100) (by decide +kernel)⟩
theorem lw_p52 : lw_okq (⟨"DreamsPayRentModel", "begins", "()V"⟩, 58) := ⟨⟨by decide +kernel, by decide +kernel⟩, List.mem_of_getElem? (i := 721) (by decide +kernel), List.mem_of_getElem? (i := 1107) (by decide +kernel), List.mem_of_getElem? (i := 1108) (by decide +kernel)⟩
theorem lw_p53 : lw_okq (⟨"DreamsPayRentModel", "lives", "(I)V"⟩, 58) := ⟨⟨by decide +kernel, by decide +kernel⟩, List.mem_of_getElem? (i := 721) (by decide +kernel), List.mem_of_getElem? (i := 1111) (by decide +kernel), List.mem_of_getElem? (i := 1112) (by decide +kernel)⟩
theorem lw_p54 : lw_okq (⟨"DreamsPayRentModel", "laysAside", "()V"⟩, 58) := ⟨⟨by decide +kernel, by decide +kernel⟩, List.mem_of_getElem? (i := 721) (by decide +kernel), List.mem_of_getElem? (i := 1120) (by decide +kernel), List.mem_of_getElem? (i := 1121) (by decide +kernel)⟩
theorem lw_p55 : lw_okq (⟨"DreamsPayRentModel", "laysBack", "()V"⟩, 58) := ⟨⟨by decide +kernel, by decide +kernel⟩, List.mem_of_getElem? (i := 721) (by decide +kernel), List.mem_of_getElem? (i := 1124) (by decide +kernel), List.mem_of_getElem? (i := 1125) (by decide +kernel)⟩
theorem lw_p56 : lw_okq (⟨"DreamsPayRentModel", "seeks", "(I)V"⟩, 58) := ⟨⟨by decide +kernel, by decide +kernel⟩, List.mem_of_getElem? (i := 721) (by decide +kernel), List.mem_of_getElem? (i := 1133) (by decide +kernel), List.mem_of_getElem? (i := 1134) (by decide +kernel)⟩
theorem lw_p57 : lw_okq (⟨"DreamsPayRentModel", "exchanges", "(II)V"⟩, 58) := ⟨⟨by decide +kernel, by decide +kernel⟩, List.mem_of_getElem? (i := 721) (by decide +kernel), List.mem_of_getElem? (i := 1142) (by decide +kernel), List.mem_of_getElem? (i := 1143) (by decide +kernel)⟩
theorem lw_p58 : lw_okq (⟨"DreamsPayRentModel", "firstOther", "(II)I"⟩, 58) := ⟨⟨by decide +kernel, by decide +kernel⟩, List.mem_of_getElem? (i := 721) (by decide +kernel), List.mem_of_getElem? (i := 1161) (by decide +kernel), List.mem_of_getElem? (i := 1162) (by decide +kernel)⟩
theorem lw_p59 : lw_okq (⟨"DreamsPayRentModel", "draws", "(I)V"⟩, 58) := ⟨⟨by decide +kernel, by decide +kernel⟩, List.mem_of_getElem? (i := 721) (by decide +kernel), List.mem_of_getElem? (i := 1179) (by decide +kernel), List.mem_of_getElem? (i := 1180) (by decide +kernel)⟩
def lw_privs_4 : List (MethodName × Nat) := [(⟨"DreamsPayRentModel", "asks", "(III)I"⟩, 58), (⟨"DreamsPayRentModel", "gathers", "()V"⟩, 58), (⟨"DreamsPayRentModel", "leakOf", "(I)I"⟩, 58), (⟨"DreamsPayRentModel", "worthNow", "()I"⟩, 58), (⟨"DreamsPayRentModel", "begins", "()V"⟩, 58), (⟨"DreamsPayRentModel", "lives", "(I)V"⟩, 58), (⟨"DreamsPayRentModel", "laysAside", "()V"⟩, 58), (⟨"DreamsPayRentModel", "laysBack", "()V"⟩, 58), (⟨"DreamsPayRentModel", "seeks", "(I)V"⟩, 58), (⟨"DreamsPayRentModel", "exchanges", "(II)V"⟩, 58), (⟨"DreamsPayRentModel", "firstOther", "(II)I"⟩, 58), (⟨"DreamsPayRentModel", "draws", "(I)V"⟩, 58)]
theorem lw_r4 : ∀ q ∈ lw_privs_4, lw_okq q := List.forall_mem_cons.mpr ⟨lw_p48, List.forall_mem_cons.mpr ⟨lw_p49, List.forall_mem_cons.mpr ⟨lw_p50, List.forall_mem_cons.mpr ⟨lw_p51, List.forall_mem_cons.mpr ⟨lw_p52, List.forall_mem_cons.mpr ⟨lw_p53, List.forall_mem_cons.mpr ⟨lw_p54, List.forall_mem_cons.mpr ⟨lw_p55, List.forall_mem_cons.mpr ⟨lw_p56, List.forall_mem_cons.mpr ⟨lw_p57, List.forall_mem_cons.mpr ⟨lw_p58, List.forall_mem_cons.mpr ⟨lw_p59, fun _ h => absurd h List.not_mem_nil⟩⟩⟩⟩⟩⟩⟩⟩⟩⟩⟩⟩
def lw_privs : List (MethodName × Nat) := lw_privs_1 ++ (lw_privs_2 ++ (lw_privs_3 ++ (lw_privs_4)))
def lw_tbl : List Cond := k2_sels lw_privs ++ tables_1
theorem lw_privs_ok : ∀ q ∈ lw_privs, lw_okq q := by
  show ∀ q ∈ lw_privs_1 ++ (lw_privs_2 ++ (lw_privs_3 ++ (lw_privs_4))), lw_okq q
  exact List.forall_mem_append.mpr ⟨lw_r1, List.forall_mem_append.mpr ⟨lw_r2, List.forall_mem_append.mpr ⟨lw_r3, lw_r4⟩⟩⟩
end
section
def RX0 : String := "DreamsPayRent$House"
def TX0 : u_T := fun k => match k with
  | 0 => ("DreamsPayRent$House", "texts", "LDreamsPayRent$Texts;", true)
  | 1 => ("DreamsPayRent$House", "size", "[I", true)
  | 2 => ("DreamsPayRent$House", "kind", "[I", true)
  | 3 => ("DreamsPayRent$House", "number", "[I", true)
  | 4 => ("DreamsPayRent$House", "space", "[I", true)
  | 5 => ("DreamsPayRent$House", "purse", "[I", true)
  | 6 => ("DreamsPayRent$House", "owe", "[I", true)
  | 7 => ("DreamsPayRent$House", "room", "[I", true)
  | 8 => ("DreamsPayRent$House", "dreamCount", "I", false)
  | 9 => ("DreamsPayRent$House", "lined", "I", false)
  | 10 => ("DreamsPayRent$House", "nightNow", "I", false)
  | 11 => ("DreamsPayRent$House", "taken", "I", false)
  | _ => ("DreamsPayRent$House", "rule", "I", false)
def tyX0 : Nat → FieldType := fun k => match k with
  | 0 => .object "DreamsPayRent$Texts"
  | 1 => .array .int
  | 2 => .array .int
  | 3 => .array .int
  | 4 => .array .int
  | 5 => .array .int
  | 6 => .array .int
  | 7 => .array .int
  | 8 => .int
  | 9 => .int
  | 10 => .int
  | 11 => .int
  | _ => .int
theorem nmX0 : ∀ a, a < 13 → ∀ b, b < 13 → a ≠ b → (TX0 a).2.1 ≠ (TX0 b).2.1 := by decide +kernel
theorem tyX0_ok : ∀ k, k < 13 → parseFieldDescriptor (TX0 k).2.2.1 = some (tyX0 k) := by decide +kernel
abbrev cX0_init : ByteArray := prog_2_method_1_code
def yX0_init : MethodName := ⟨RX0, "<init>", "(LDreamsPayRent$Texts;)V"⟩
abbrev cX0_become : ByteArray := prog_2_method_2_code
def yX0_become : MethodName := ⟨RX0, "become", "(LDreamsPayRent$House;)V"⟩
abbrev cX0_isDream : ByteArray := prog_2_method_3_code
def yX0_isDream : MethodName := ⟨RX0, "isDream", "(I)Z"⟩
abbrev cX0_add : ByteArray := prog_2_method_4_code
def yX0_add : MethodName := ⟨RX0, "add", "(III)I"⟩
abbrev cX0_lodger : ByteArray := prog_2_method_5_code
def yX0_lodger : MethodName := ⟨RX0, "lodger", "(I)I"⟩
abbrev cX0_lodgers : ByteArray := prog_2_method_6_code
def yX0_lodgers : MethodName := ⟨RX0, "lodgers", "()I"⟩
abbrev cX0_needs : ByteArray := prog_2_method_7_code
def yX0_needs : MethodName := ⟨RX0, "needs", "(I)I"⟩
abbrev cX0_bears : ByteArray := prog_2_method_8_code
def yX0_bears : MethodName := ⟨RX0, "bears", "(I)I"⟩
abbrev cX0_fits : ByteArray := prog_2_method_9_code
def yX0_fits : MethodName := ⟨RX0, "fits", "(II)Z"⟩
abbrev cX0_pays : ByteArray := prog_2_method_10_code
def yX0_pays : MethodName := ⟨RX0, "pays", "(II)I"⟩
abbrev cX0_leaks : ByteArray := prog_2_method_11_code
def yX0_leaks : MethodName := ⟨RX0, "leaks", "(II)I"⟩
abbrev cX0_minds : ByteArray := prog_2_method_12_code
def yX0_minds : MethodName := ⟨RX0, "minds", "(II)I"⟩
abbrev cX0_reckon : ByteArray := prog_2_method_13_code
def yX0_reckon : MethodName := ⟨RX0, "reckon", "(III)I"⟩
abbrev cX0_leakOf : ByteArray := prog_2_method_14_code
def yX0_leakOf : MethodName := ⟨RX0, "leakOf", "(I)I"⟩
abbrev cX0_worthNow : ByteArray := prog_2_method_15_code
def yX0_worthNow : MethodName := ⟨RX0, "worthNow", "()I"⟩
abbrev cX0_passNight : ByteArray := prog_2_method_16_code
def yX0_passNight : MethodName := ⟨RX0, "passNight", "()I"⟩
abbrev cX0_canSwap : ByteArray := prog_2_method_17_code
def yX0_canSwap : MethodName := ⟨RX0, "canSwap", "(II)Z"⟩
abbrev cX0_canCome : ByteArray := prog_2_method_18_code
def yX0_canCome : MethodName := ⟨RX0, "canCome", "(II)Z"⟩
abbrev cX0_swap : ByteArray := prog_2_method_19_code
def yX0_swap : MethodName := ⟨RX0, "swap", "(II)V"⟩
def RX1 : String := "DreamsPayRent$Kinds"
def TX1 : u_T := fun k => match k with
  | _ => ("", "", "", false)
def tyX1 : Nat → FieldType := fun k => match k with
  | _ => .int
theorem nmX1 : ∀ a, a < 0 → ∀ b, b < 0 → a ≠ b → (TX1 a).2.1 ≠ (TX1 b).2.1 := by decide +kernel
theorem tyX1_ok : ∀ k, k < 0 → parseFieldDescriptor (TX1 k).2.2.1 = some (tyX1 k) := by decide +kernel
abbrev cX1_above : ByteArray := prog_3_method_2_code
def yX1_above : MethodName := ⟨RX1, "above", "(I)I"⟩
abbrev cX1_isUnder : ByteArray := prog_3_method_3_code
def yX1_isUnder : MethodName := ⟨RX1, "isUnder", "(II)Z"⟩
abbrev cX1_needs : ByteArray := prog_3_method_4_code
def yX1_needs : MethodName := ⟨RX1, "needs", "(III)I"⟩
abbrev cX1_lies : ByteArray := prog_3_method_5_code
def yX1_lies : MethodName := ⟨RX1, "lies", "(II)Z"⟩
abbrev cX1_pays : ByteArray := prog_3_method_6_code
def yX1_pays : MethodName := ⟨RX1, "pays", "(III)I"⟩
abbrev cX1_bears : ByteArray := prog_3_method_7_code
def yX1_bears : MethodName := ⟨RX1, "bears", "(II)I"⟩
def RX2 : String := "DreamsPayRent$Reader"
def TX2 : u_T := fun k => match k with
  | 0 => ("DreamsPayRent$Reader", "tape", "[I", true)
  | 1 => ("DreamsPayRent$Reader", "size", "I", false)
  | 2 => ("DreamsPayRent$Reader", "sorts", "[I", true)
  | 3 => ("DreamsPayRent$Reader", "places", "[I", true)
  | 4 => ("DreamsPayRent$Reader", "values", "[I", true)
  | 5 => ("DreamsPayRent$Reader", "tokens", "I", false)
  | 6 => ("DreamsPayRent$Reader", "at", "I", false)
  | 7 => ("DreamsPayRent$Reader", "fault", "I", false)
  | 8 => ("DreamsPayRent$Reader", "steps", "[I", true)
  | 9 => ("DreamsPayRent$Reader", "stepCount", "I", false)
  | _ => ("DreamsPayRent$Reader", "ends", "[I", true)
def tyX2 : Nat → FieldType := fun k => match k with
  | 0 => .array .int
  | 1 => .int
  | 2 => .array .int
  | 3 => .array .int
  | 4 => .array .int
  | 5 => .int
  | 6 => .int
  | 7 => .int
  | 8 => .array .int
  | 9 => .int
  | _ => .array .int
theorem nmX2 : ∀ a, a < 11 → ∀ b, b < 11 → a ≠ b → (TX2 a).2.1 ≠ (TX2 b).2.1 := by decide +kernel
theorem tyX2_ok : ∀ k, k < 11 → parseFieldDescriptor (TX2 k).2.2.1 = some (tyX2 k) := by decide +kernel
abbrev cX2_init : ByteArray := prog_4_method_1_code
def yX2_init : MethodName := ⟨RX2, "<init>", "()V"⟩
abbrev cX2_append : ByteArray := prog_4_method_2_code
def yX2_append : MethodName := ⟨RX2, "append", "(I)I"⟩
abbrev cX2_read : ByteArray := prog_4_method_3_code
def yX2_read : MethodName := ⟨RX2, "read", "()I"⟩
abbrev cX2_cut : ByteArray := prog_4_method_4_code
def yX2_cut : MethodName := ⟨RX2, "cut", "()V"⟩
abbrev cX2_cutNumber : ByteArray := prog_4_method_5_code
def yX2_cutNumber : MethodName := ⟨RX2, "cutNumber", "(I)I"⟩
abbrev cX2_cutWord : ByteArray := prog_4_method_6_code
def yX2_cutWord : MethodName := ⟨RX2, "cutWord", "(I)I"⟩
abbrev cX2_wordAt : ByteArray := prog_4_method_7_code
def yX2_wordAt : MethodName := ⟨RX2, "wordAt", "(II)I"⟩
abbrev cX2_stands : ByteArray := prog_4_method_8_code
def yX2_stands : MethodName := ⟨RX2, "stands", "(Ljava/lang/String;II)Z"⟩
abbrev cX2_isDigit : ByteArray := prog_4_method_9_code
def yX2_isDigit : MethodName := ⟨RX2, "isDigit", "(I)Z"⟩
abbrev cX2_isLetter : ByteArray := prog_4_method_10_code
def yX2_isLetter : MethodName := ⟨RX2, "isLetter", "(I)Z"⟩
abbrev cX2_token : ByteArray := prog_4_method_11_code
def yX2_token : MethodName := ⟨RX2, "token", "(III)V"⟩
abbrev cX2_expression : ByteArray := prog_4_method_12_code
def yX2_expression : MethodName := ⟨RX2, "expression", "(LDreamsPayRent$Reader;II)V"⟩
abbrev cX2_one : ByteArray := prog_4_method_13_code
def yX2_one : MethodName := ⟨RX2, "one", "(LDreamsPayRent$Reader;I)V"⟩
abbrev cX2_joins : ByteArray := prog_4_method_14_code
def yX2_joins : MethodName := ⟨RX2, "joins", "(II)Z"⟩
abbrev cX2_opens : ByteArray := prog_4_method_15_code
def yX2_opens : MethodName := ⟨RX2, "opens", "(I)Z"⟩
abbrev cX2_need : ByteArray := prog_4_method_16_code
def yX2_need : MethodName := ⟨RX2, "need", "(I)V"⟩
abbrev cX2_pass : ByteArray := prog_4_method_17_code
def yX2_pass : MethodName := ⟨RX2, "pass", "()V"⟩
abbrev cX2_fail : ByteArray := prog_4_method_18_code
def yX2_fail : MethodName := ⟨RX2, "fail", "()V"⟩
abbrev cX2_step : ByteArray := prog_4_method_19_code
def yX2_step : MethodName := ⟨RX2, "step", "(I)V"⟩
def RX3 : String := "DreamsPayRent$Sheets"
def TX3 : u_T := fun k => match k with
  | 0 => ("DreamsPayRent$Sheets", "sort", "[I", true)
  | 1 => ("DreamsPayRent$Sheets", "size", "[I", true)
  | _ => ("DreamsPayRent$Sheets", "items", "[[I", true)
def tyX3 : Nat → FieldType := fun k => match k with
  | 0 => .array .int
  | 1 => .array .int
  | _ => .array (.array .int)
theorem nmX3 : ∀ a, a < 3 → ∀ b, b < 3 → a ≠ b → (TX3 a).2.1 ≠ (TX3 b).2.1 := by decide +kernel
theorem tyX3_ok : ∀ k, k < 3 → parseFieldDescriptor (TX3 k).2.2.1 = some (tyX3 k) := by decide +kernel
abbrev cX3_init : ByteArray := prog_5_method_1_code
def yX3_init : MethodName := ⟨RX3, "<init>", "()V"⟩
abbrev cX3_become : ByteArray := prog_5_method_2_code
def yX3_become : MethodName := ⟨RX3, "become", "(III)V"⟩
abbrev cX3_put : ByteArray := prog_5_method_3_code
def yX3_put : MethodName := ⟨RX3, "put", "(III)V"⟩
abbrev cX3_holds : ByteArray := prog_5_method_4_code
def yX3_holds : MethodName := ⟨RX3, "holds", "(III)Z"⟩
def RX4 : String := "DreamsPayRent$Sorts"
def TX4 : u_T := fun k => match k with
  | _ => ("", "", "", false)
def tyX4 : Nat → FieldType := fun k => match k with
  | _ => .int
theorem nmX4 : ∀ a, a < 0 → ∀ b, b < 0 → a ≠ b → (TX4 a).2.1 ≠ (TX4 b).2.1 := by decide +kernel
theorem tyX4_ok : ∀ k, k < 0 → parseFieldDescriptor (TX4 k).2.2.1 = some (tyX4 k) := by decide +kernel
abbrev cX4_word : ByteArray := prog_6_method_2_code
def yX4_word : MethodName := ⟨RX4, "word", "(I)Ljava/lang/String;"⟩
abbrev cX4_isSign : ByteArray := prog_6_method_3_code
def yX4_isSign : MethodName := ⟨RX4, "isSign", "(I)Z"⟩
def RX5 : String := "DreamsPayRent$Texts"
def TX5 : u_T := fun k => match k with
  | 0 => ("DreamsPayRent$Texts", "steps", "[[I", true)
  | 1 => ("DreamsPayRent$Texts", "ends", "[[I", true)
  | 2 => ("DreamsPayRent$Texts", "names", "[I", true)
  | 3 => ("DreamsPayRent$Texts", "waiting", "[I", true)
  | _ => ("DreamsPayRent$Texts", "count", "I", false)
def tyX5 : Nat → FieldType := fun k => match k with
  | 0 => .array (.array .int)
  | 1 => .array (.array .int)
  | 2 => .array .int
  | 3 => .array .int
  | _ => .int
theorem nmX5 : ∀ a, a < 5 → ∀ b, b < 5 → a ≠ b → (TX5 a).2.1 ≠ (TX5 b).2.1 := by decide +kernel
theorem tyX5_ok : ∀ k, k < 5 → parseFieldDescriptor (TX5 k).2.2.1 = some (tyX5 k) := by decide +kernel
abbrev cX5_init : ByteArray := prog_7_method_1_code
def yX5_init : MethodName := ⟨RX5, "<init>", "()V"⟩
abbrev cX5_add : ByteArray := prog_7_method_2_code
def yX5_add : MethodName := ⟨RX5, "add", "(LDreamsPayRent$Reader;)I"⟩
abbrev cX5_value : ByteArray := prog_7_method_3_code
def yX5_value : MethodName := ⟨RX5, "value", "(II)I"⟩
abbrev cX5_alone : ByteArray := prog_7_method_4_code
def yX5_alone : MethodName := ⟨RX5, "alone", "(II)I"⟩
abbrev cX5_together : ByteArray := prog_7_method_5_code
def yX5_together : MethodName := ⟨RX5, "together", "(III)I"⟩
def RX6 : String := "DreamsPayRent$Ways"
def TX6 : u_T := fun k => match k with
  | 0 => ("DreamsPayRent$Ways", "pays", "[[I", true)
  | 1 => ("DreamsPayRent$Ways", "leaks", "[[I", true)
  | 2 => ("DreamsPayRent$Ways", "minds", "[[I", true)
  | 3 => ("DreamsPayRent$Ways", "mostFrom", "[I", true)
  | 4 => ("DreamsPayRent$Ways", "lodger", "[I", true)
  | 5 => ("DreamsPayRent$Ways", "way", "[I", true)
  | 6 => ("DreamsPayRent$Ways", "bestWay", "[I", true)
  | 7 => ("DreamsPayRent$Ways", "bestWorth", "I", false)
  | 8 => ("DreamsPayRent$Ways", "dreamCount", "I", false)
  | _ => ("DreamsPayRent$Ways", "lined", "I", false)
def tyX6 : Nat → FieldType := fun k => match k with
  | 0 => .array (.array .int)
  | 1 => .array (.array .int)
  | 2 => .array (.array .int)
  | 3 => .array .int
  | 4 => .array .int
  | 5 => .array .int
  | 6 => .array .int
  | 7 => .int
  | 8 => .int
  | _ => .int
theorem nmX6 : ∀ a, a < 10 → ∀ b, b < 10 → a ≠ b → (TX6 a).2.1 ≠ (TX6 b).2.1 := by decide +kernel
theorem tyX6_ok : ∀ k, k < 10 → parseFieldDescriptor (TX6 k).2.2.1 = some (tyX6 k) := by decide +kernel
abbrev cX6_init : ByteArray := prog_8_method_1_code
def yX6_init : MethodName := ⟨RX6, "<init>", "()V"⟩
abbrev cX6_seek : ByteArray := prog_8_method_2_code
def yX6_seek : MethodName := ⟨RX6, "seek", "(LDreamsPayRent$House;)V"⟩
abbrev cX6_weigh : ByteArray := prog_8_method_3_code
def yX6_weigh : MethodName := ⟨RX6, "weigh", "(LDreamsPayRent$House;I)I"⟩
abbrev cX6_place : ByteArray := prog_8_method_4_code
def yX6_place : MethodName := ⟨RX6, "place", "(LDreamsPayRent$Ways;II)V"⟩
abbrev cX6_keepIfBetter : ByteArray := prog_8_method_5_code
def yX6_keepIfBetter : MethodName := ⟨RX6, "keepIfBetter", "(I)V"⟩
abbrev cX6_leakWith : ByteArray := prog_8_method_6_code
def yX6_leakWith : MethodName := ⟨RX6, "leakWith", "(II)I"⟩
def RX7 : String := "DreamsPayRent"
def TX7 : u_T := fun k => match k with
  | 0 => ("DreamsPayRent", "texts", "LDreamsPayRent$Texts;", true)
  | 1 => ("DreamsPayRent", "reader", "LDreamsPayRent$Reader;", true)
  | 2 => ("DreamsPayRent", "house", "LDreamsPayRent$House;", true)
  | 3 => ("DreamsPayRent", "kept", "LDreamsPayRent$House;", true)
  | 4 => ("DreamsPayRent", "thought", "LDreamsPayRent$House;", true)
  | 5 => ("DreamsPayRent", "ways", "LDreamsPayRent$Ways;", true)
  | 6 => ("DreamsPayRent", "sheets", "LDreamsPayRent$Sheets;", true)
  | _ => ("DreamsPayRent", "hasImage", "Z", false)
def tyX7 : Nat → FieldType := fun k => match k with
  | 0 => .object "DreamsPayRent$Texts"
  | 1 => .object "DreamsPayRent$Reader"
  | 2 => .object "DreamsPayRent$House"
  | 3 => .object "DreamsPayRent$House"
  | 4 => .object "DreamsPayRent$House"
  | 5 => .object "DreamsPayRent$Ways"
  | 6 => .object "DreamsPayRent$Sheets"
  | _ => .boolean
theorem nmX7 : ∀ a, a < 8 → ∀ b, b < 8 → a ≠ b → (TX7 a).2.1 ≠ (TX7 b).2.1 := by decide +kernel
theorem tyX7_ok : ∀ k, k < 8 → parseFieldDescriptor (TX7 k).2.2.1 = some (tyX7 k) := by decide +kernel
abbrev cX7_init : ByteArray := prog_1_method_1_code
def yX7_init : MethodName := ⟨RX7, "<init>", "()V"⟩
abbrev cX7_set : ByteArray := prog_1_method_2_code
def yX7_set : MethodName := ⟨RX7, "set", "(III)I"⟩
abbrev cX7_dream : ByteArray := prog_1_method_3_code
def yX7_dream : MethodName := ⟨RX7, "dream", "(III)I"⟩
abbrev cX7_let : ByteArray := prog_1_method_4_code
def yX7_let : MethodName := ⟨RX7, "let", "(II)I"⟩
abbrev cX7_told : ByteArray := prog_1_method_5_code
def yX7_told : MethodName := ⟨RX7, "told", "(II)I"⟩
abbrev cX7_would : ByteArray := prog_1_method_6_code
def yX7_would : MethodName := ⟨RX7, "would", "(III)I"⟩
abbrev cX7_who : ByteArray := prog_1_method_7_code
def yX7_who : MethodName := ⟨RX7, "who", "(I)I"⟩
abbrev cX7_feed : ByteArray := prog_1_method_8_code
def yX7_feed : MethodName := ⟨RX7, "feed", "(I)I"⟩
abbrev cX7_text : ByteArray := prog_1_method_9_code
def yX7_text : MethodName := ⟨RX7, "text", "()I"⟩
abbrev cX7_force : ByteArray := prog_1_method_10_code
def yX7_force : MethodName := ⟨RX7, "force", "(I)I"⟩
abbrev cX7_leak : ByteArray := prog_1_method_11_code
def yX7_leak : MethodName := ⟨RX7, "leak", "(I)I"⟩
abbrev cX7_worth : ByteArray := prog_1_method_12_code
def yX7_worth : MethodName := ⟨RX7, "worth", "()I"⟩
abbrev cX7_night : ByteArray := prog_1_method_13_code
def yX7_night : MethodName := ⟨RX7, "night", "()I"⟩
abbrev cX7_run : ByteArray := prog_1_method_14_code
def yX7_run : MethodName := ⟨RX7, "run", "(II)I"⟩
abbrev cX7_best : ByteArray := prog_1_method_15_code
def yX7_best : MethodName := ⟨RX7, "best", "(I)I"⟩
abbrev cX7_change : ByteArray := prog_1_method_16_code
def yX7_change : MethodName := ⟨RX7, "change", "(I)I"⟩
abbrev cX7_putOut : ByteArray := prog_1_method_17_code
def yX7_putOut : MethodName := ⟨RX7, "putOut", "(I)I"⟩
abbrev cX7_line : ByteArray := prog_1_method_18_code
def yX7_line : MethodName := ⟨RX7, "line", "(I)I"⟩
abbrev cX7_rents : ByteArray := prog_1_method_19_code
def yX7_rents : MethodName := ⟨RX7, "rents", "(III)I"⟩
abbrev cX7_film : ByteArray := prog_1_method_20_code
def yX7_film : MethodName := ⟨RX7, "film", "(II)I"⟩
abbrev cX7_drawn : ByteArray := prog_1_method_21_code
def yX7_drawn : MethodName := ⟨RX7, "drawn", "(I)I"⟩
abbrev cX7_chance : ByteArray := prog_1_method_22_code
def yX7_chance : MethodName := ⟨RX7, "chance", "(III)J"⟩
abbrev cX7_image : ByteArray := prog_1_method_23_code
def yX7_image : MethodName := ⟨RX7, "image", "()I"⟩
abbrev cX7_back : ByteArray := prog_1_method_24_code
def yX7_back : MethodName := ⟨RX7, "back", "()I"⟩
abbrev cX7_count : ByteArray := prog_1_method_25_code
def yX7_count : MethodName := ⟨RX7, "count", "(I)I"⟩
abbrev cX7_sheet : ByteArray := prog_1_method_26_code
def yX7_sheet : MethodName := ⟨RX7, "sheet", "(III)I"⟩
abbrev cX7_cell : ByteArray := prog_1_method_27_code
def yX7_cell : MethodName := ⟨RX7, "cell", "(III)I"⟩
abbrev cX7_copy : ByteArray := prog_1_method_28_code
def yX7_copy : MethodName := ⟨RX7, "copy", "(IIIII)I"⟩
abbrev cX7_dreams : ByteArray := prog_1_method_29_code
def yX7_dreams : MethodName := ⟨RX7, "dreams", "(IIII)I"⟩
abbrev cX7_taken : ByteArray := prog_1_method_30_code
def yX7_taken : MethodName := ⟨RX7, "taken", "(II)I"⟩
abbrev cX7_isSettable : ByteArray := prog_1_method_31_code
def yX7_isSettable : MethodName := ⟨RX7, "isSettable", "(II)Z"⟩
abbrev cX7_leastOf : ByteArray := prog_1_method_32_code
def yX7_leastOf : MethodName := ⟨RX7, "leastOf", "(I)I"⟩
abbrev cX7_mostOf : ByteArray := prog_1_method_33_code
def yX7_mostOf : MethodName := ⟨RX7, "mostOf", "(I)I"⟩
abbrev cX7_firstOtherwise : ByteArray := prog_1_method_34_code
def yX7_firstOtherwise : MethodName := ⟨RX7, "firstOtherwise", "(II)I"⟩
abbrev cX7_readBack : ByteArray := prog_1_method_35_code
def yX7_readBack : MethodName := ⟨RX7, "readBack", "(III)I"⟩
abbrev cX7_supposedEnd : ByteArray := prog_1_method_36_code
def yX7_supposedEnd : MethodName := ⟨RX7, "supposedEnd", "(I)I"⟩
abbrev cX7_suppose : ByteArray := prog_1_method_37_code
def yX7_suppose : MethodName := ⟨RX7, "suppose", "(III)V"⟩
abbrev cX7_runDrawn : ByteArray := prog_1_method_38_code
def yX7_runDrawn : MethodName := ⟨RX7, "runDrawn", "(I)Z"⟩
abbrev cX7_inLowestTerms : ByteArray := prog_1_method_39_code
def yX7_inLowestTerms : MethodName := ⟨RX7, "inLowestTerms", "(III)I"⟩
abbrev cX7_lowestBit : ByteArray := prog_1_method_40_code
def yX7_lowestBit : MethodName := ⟨RX7, "lowestBit", "(I)I"⟩
abbrev cX7_bounded : ByteArray := prog_1_method_41_code
def yX7_bounded : MethodName := ⟨RX7, "bounded", "(II)I"⟩
abbrev cX7_isRoom : ByteArray := prog_1_method_42_code
def yX7_isRoom : MethodName := ⟨RX7, "isRoom", "(I)Z"⟩
abbrev cX7_isKind : ByteArray := prog_1_method_43_code
def yX7_isKind : MethodName := ⟨RX7, "isKind", "(I)Z"⟩
abbrev cX7_isSheet : ByteArray := prog_1_method_44_code
def yX7_isSheet : MethodName := ⟨RX7, "isSheet", "(I)Z"⟩
def RX8 : String := "DreamsPayRentModel"
def TX8 : u_T := fun k => match k with
  | 0 => ("DreamsPayRentModel", "thrown", "I", false)
  | 1 => ("DreamsPayRentModel", "texts", "[I", true)
  | 2 => ("DreamsPayRentModel", "textSize", "[I", true)
  | 3 => ("DreamsPayRentModel", "textCount", "I", false)
  | 4 => ("DreamsPayRentModel", "rule", "I", false)
  | 5 => ("DreamsPayRentModel", "tape", "[I", true)
  | 6 => ("DreamsPayRentModel", "taped", "I", false)
  | 7 => ("DreamsPayRentModel", "lined", "I", false)
  | 8 => ("DreamsPayRentModel", "nightNow", "I", false)
  | 9 => ("DreamsPayRentModel", "takenAll", "I", false)
  | 10 => ("DreamsPayRentModel", "sizes", "[I", true)
  | 11 => ("DreamsPayRentModel", "kinds", "[I", true)
  | 12 => ("DreamsPayRentModel", "rows", "[I", true)
  | 13 => ("DreamsPayRentModel", "roomOf", "[I", true)
  | 14 => ("DreamsPayRentModel", "many", "I", false)
  | 15 => ("DreamsPayRentModel", "ofSize", "I", false)
  | 16 => ("DreamsPayRentModel", "ofFloor", "I", false)
  | 17 => ("DreamsPayRentModel", "ofNight", "I", false)
  | 18 => ("DreamsPayRentModel", "ofNumber", "I", false)
  | 19 => ("DreamsPayRentModel", "ofOwes", "I", false)
  | 20 => ("DreamsPayRentModel", "ofSpace", "I", false)
  | 21 => ("DreamsPayRentModel", "from", "I", false)
  | 22 => ("DreamsPayRentModel", "size", "I", false)
  | 23 => ("DreamsPayRentModel", "here", "I", false)
  | 24 => ("DreamsPayRentModel", "token", "I", false)
  | 25 => ("DreamsPayRentModel", "tokenAt", "I", false)
  | 26 => ("DreamsPayRentModel", "tokenWorth", "J", false)
  | 27 => ("DreamsPayRentModel", "open", "I", false)
  | 28 => ("DreamsPayRentModel", "bad", "Z", false)
  | 29 => ("DreamsPayRentModel", "fault", "I", false)
  | 30 => ("DreamsPayRentModel", "payTable", "[I", true)
  | 31 => ("DreamsPayRentModel", "leakTable", "[I", true)
  | 32 => ("DreamsPayRentModel", "mindTable", "[I", true)
  | 33 => ("DreamsPayRentModel", "outMany", "I", false)
  | 34 => ("DreamsPayRentModel", "firstOut", "I", false)
  | 35 => ("DreamsPayRentModel", "firstNight", "I", false)
  | 36 => ("DreamsPayRentModel", "rowsAside", "[I", true)
  | 37 => ("DreamsPayRentModel", "roomsAside", "[I", true)
  | 38 => ("DreamsPayRentModel", "nightAside", "I", false)
  | 39 => ("DreamsPayRentModel", "takenAside", "I", false)
  | 40 => ("DreamsPayRentModel", "takenThen", "I", false)
  | 41 => ("DreamsPayRentModel", "inThen", "I", false)
  | 42 => ("DreamsPayRentModel", "pursesThen", "[I", true)
  | 43 => ("DreamsPayRentModel", "isFound", "Z", false)
  | 44 => ("DreamsPayRentModel", "bestWorth", "I", false)
  | 45 => ("DreamsPayRentModel", "bestRooms", "[I", true)
  | 46 => ("DreamsPayRentModel", "sizesKept", "[I", true)
  | 47 => ("DreamsPayRentModel", "rowsKept", "[I", true)
  | 48 => ("DreamsPayRentModel", "roomsKept", "[I", true)
  | 49 => ("DreamsPayRentModel", "manyKept", "I", false)
  | 50 => ("DreamsPayRentModel", "linedKept", "I", false)
  | 51 => ("DreamsPayRentModel", "nightKept", "I", false)
  | 52 => ("DreamsPayRentModel", "takenKept", "I", false)
  | 53 => ("DreamsPayRentModel", "ruleKept", "I", false)
  | 54 => ("DreamsPayRentModel", "isThere", "[Z", true)
  | 55 => ("DreamsPayRentModel", "sorts", "[I", true)
  | 56 => ("DreamsPayRentModel", "sheetSize", "[I", true)
  | _ => ("DreamsPayRentModel", "items", "[I", true)
def tyX8 : Nat → FieldType := fun k => match k with
  | 0 => .int
  | 1 => .array .int
  | 2 => .array .int
  | 3 => .int
  | 4 => .int
  | 5 => .array .int
  | 6 => .int
  | 7 => .int
  | 8 => .int
  | 9 => .int
  | 10 => .array .int
  | 11 => .array .int
  | 12 => .array .int
  | 13 => .array .int
  | 14 => .int
  | 15 => .int
  | 16 => .int
  | 17 => .int
  | 18 => .int
  | 19 => .int
  | 20 => .int
  | 21 => .int
  | 22 => .int
  | 23 => .int
  | 24 => .int
  | 25 => .int
  | 26 => .long
  | 27 => .int
  | 28 => .boolean
  | 29 => .int
  | 30 => .array .int
  | 31 => .array .int
  | 32 => .array .int
  | 33 => .int
  | 34 => .int
  | 35 => .int
  | 36 => .array .int
  | 37 => .array .int
  | 38 => .int
  | 39 => .int
  | 40 => .int
  | 41 => .int
  | 42 => .array .int
  | 43 => .boolean
  | 44 => .int
  | 45 => .array .int
  | 46 => .array .int
  | 47 => .array .int
  | 48 => .array .int
  | 49 => .int
  | 50 => .int
  | 51 => .int
  | 52 => .int
  | 53 => .int
  | 54 => .array .boolean
  | 55 => .array .int
  | 56 => .array .int
  | _ => .array .int
theorem nmX8 : ∀ a, a < 58 → ∀ b, b < 58 → a ≠ b → (TX8 a).2.1 ≠ (TX8 b).2.1 := by decide +kernel
theorem tyX8_ok : ∀ k, k < 58 → parseFieldDescriptor (TX8 k).2.2.1 = some (tyX8 k) := by decide +kernel
abbrev cX8_in : ByteArray := prog_10_method_2_code
def yX8_in : MethodName := ⟨RX8, "in", "(JJJ)Z"⟩
abbrev cX8_within : ByteArray := prog_10_method_3_code
def yX8_within : MethodName := ⟨RX8, "within", "(III)I"⟩
abbrev cX8_init : ByteArray := prog_10_method_4_code
def yX8_init : MethodName := ⟨RX8, "<init>", "()V"⟩
abbrev cX8_spell : ByteArray := prog_10_method_5_code
def yX8_spell : MethodName := ⟨RX8, "spell", "(IIIIIIIII)V"⟩
abbrev cX8_isDream : ByteArray := prog_10_method_6_code
def yX8_isDream : MethodName := ⟨RX8, "isDream", "(I)Z"⟩
abbrev cX8_isRoom : ByteArray := prog_10_method_7_code
def yX8_isRoom : MethodName := ⟨RX8, "isRoom", "(I)Z"⟩
abbrev cX8_isOf : ByteArray := prog_10_method_8_code
def yX8_isOf : MethodName := ⟨RX8, "isOf", "(II)Z"⟩
abbrev cX8_isValue : ByteArray := prog_10_method_9_code
def yX8_isValue : MethodName := ⟨RX8, "isValue", "(II)Z"⟩
abbrev cX8_set : ByteArray := prog_10_method_10_code
def yX8_set : MethodName := ⟨RX8, "set", "(III)I"⟩
abbrev cX8_lays : ByteArray := prog_10_method_11_code
def yX8_lays : MethodName := ⟨RX8, "lays", "(III)V"⟩
abbrev cX8_dream : ByteArray := prog_10_method_12_code
def yX8_dream : MethodName := ⟨RX8, "dream", "(III)I"⟩
abbrev cX8_whoIn : ByteArray := prog_10_method_13_code
def yX8_whoIn : MethodName := ⟨RX8, "whoIn", "(I)I"⟩
abbrev cX8_let : ByteArray := prog_10_method_14_code
def yX8_let : MethodName := ⟨RX8, "let", "(II)I"⟩
abbrev cX8_needsOf : ByteArray := prog_10_method_15_code
def yX8_needsOf : MethodName := ⟨RX8, "needsOf", "(I)I"⟩
abbrev cX8_bearsOf : ByteArray := prog_10_method_16_code
def yX8_bearsOf : MethodName := ⟨RX8, "bearsOf", "(I)I"⟩
abbrev cX8_liesOn : ByteArray := prog_10_method_17_code
def yX8_liesOn : MethodName := ⟨RX8, "liesOn", "(II)Z"⟩
abbrev cX8_fits : ByteArray := prog_10_method_18_code
def yX8_fits : MethodName := ⟨RX8, "fits", "(II)Z"⟩
abbrev cX8_told : ByteArray := prog_10_method_19_code
def yX8_told : MethodName := ⟨RX8, "told", "(II)I"⟩
abbrev cX8_feed : ByteArray := prog_10_method_20_code
def yX8_feed : MethodName := ⟨RX8, "feed", "(I)I"⟩
abbrev cX8_byteAt : ByteArray := prog_10_method_21_code
def yX8_byteAt : MethodName := ⟨RX8, "byteAt", "(I)I"⟩
abbrev cX8_next : ByteArray := prog_10_method_22_code
def yX8_next : MethodName := ⟨RX8, "next", "()V"⟩
abbrev cX8_fail : ByteArray := prog_10_method_23_code
def yX8_fail : MethodName := ⟨RX8, "fail", "()V"⟩
abbrev cX8_isLetter : ByteArray := prog_10_method_24_code
def yX8_isLetter : MethodName := ⟨RX8, "isLetter", "(II)Z"⟩
abbrev cX8_isWord : ByteArray := prog_10_method_25_code
def yX8_isWord : MethodName := ⟨RX8, "isWord", "(IIIIIIII)Z"⟩
abbrev cX8_isSign : ByteArray := prog_10_method_26_code
def yX8_isSign : MethodName := ⟨RX8, "isSign", "(I)Z"⟩
abbrev cX8_opens : ByteArray := prog_10_method_27_code
def yX8_opens : MethodName := ⟨RX8, "opens", "()Z"⟩
abbrev cX8_name : ByteArray := prog_10_method_28_code
def yX8_name : MethodName := ⟨RX8, "name", "()I"⟩
abbrev cX8_atom : ByteArray := prog_10_method_29_code
def yX8_atom : MethodName := ⟨RX8, "atom", "()I"⟩
abbrev cX8_term : ByteArray := prog_10_method_30_code
def yX8_term : MethodName := ⟨RX8, "term", "()I"⟩
abbrev cX8_added : ByteArray := prog_10_method_31_code
def yX8_added : MethodName := ⟨RX8, "added", "()I"⟩
abbrev cX8_not : ByteArray := prog_10_method_32_code
def yX8_not : MethodName := ⟨RX8, "not", "()I"⟩
abbrev cX8_both : ByteArray := prog_10_method_33_code
def yX8_both : MethodName := ⟨RX8, "both", "()I"⟩
abbrev cX8_either : ByteArray := prog_10_method_34_code
def yX8_either : MethodName := ⟨RX8, "either", "()I"⟩
abbrev cX8_part : ByteArray := prog_10_method_35_code
def yX8_part : MethodName := ⟨RX8, "part", "(Z)I"⟩
abbrev cX8_read : ByteArray := prog_10_method_36_code
def yX8_read : MethodName := ⟨RX8, "read", "(II)I"⟩
abbrev cX8_text : ByteArray := prog_10_method_37_code
def yX8_text : MethodName := ⟨RX8, "text", "()I"⟩
abbrev cX8_force : ByteArray := prog_10_method_38_code
def yX8_force : MethodName := ⟨RX8, "force", "(I)I"⟩
abbrev cX8_asks : ByteArray := prog_10_method_39_code
def yX8_asks : MethodName := ⟨RX8, "asks", "(III)I"⟩
abbrev cX8_paysIn : ByteArray := prog_10_method_40_code
def yX8_paysIn : MethodName := ⟨RX8, "paysIn", "(II)I"⟩
abbrev cX8_would : ByteArray := prog_10_method_41_code
def yX8_would : MethodName := ⟨RX8, "would", "(III)I"⟩
abbrev cX8_who : ByteArray := prog_10_method_42_code
def yX8_who : MethodName := ⟨RX8, "who", "(I)I"⟩
abbrev cX8_gathers : ByteArray := prog_10_method_43_code
def yX8_gathers : MethodName := ⟨RX8, "gathers", "()V"⟩
abbrev cX8_oneSide : ByteArray := prog_10_method_44_code
def yX8_oneSide : MethodName := ⟨RX8, "oneSide", "(I)I"⟩
abbrev cX8_otherSide : ByteArray := prog_10_method_45_code
def yX8_otherSide : MethodName := ⟨RX8, "otherSide", "(I)I"⟩
abbrev cX8_leakOf : ByteArray := prog_10_method_46_code
def yX8_leakOf : MethodName := ⟨RX8, "leakOf", "(I)I"⟩
abbrev cX8_leak : ByteArray := prog_10_method_47_code
def yX8_leak : MethodName := ⟨RX8, "leak", "(I)I"⟩
abbrev cX8_worthNow : ByteArray := prog_10_method_48_code
def yX8_worthNow : MethodName := ⟨RX8, "worthNow", "()I"⟩
abbrev cX8_worth : ByteArray := prog_10_method_49_code
def yX8_worth : MethodName := ⟨RX8, "worth", "()I"⟩
abbrev cX8_lives : ByteArray := prog_10_method_50_code
def yX8_lives : MethodName := ⟨RX8, "lives", "(I)V"⟩
abbrev cX8_begins : ByteArray := prog_10_method_51_code
def yX8_begins : MethodName := ⟨RX8, "begins", "()V"⟩
abbrev cX8_night : ByteArray := prog_10_method_52_code
def yX8_night : MethodName := ⟨RX8, "night", "()I"⟩
abbrev cX8_laysAside : ByteArray := prog_10_method_53_code
def yX8_laysAside : MethodName := ⟨RX8, "laysAside", "()V"⟩
abbrev cX8_laysBack : ByteArray := prog_10_method_54_code
def yX8_laysBack : MethodName := ⟨RX8, "laysBack", "()V"⟩
abbrev cX8_run : ByteArray := prog_10_method_55_code
def yX8_run : MethodName := ⟨RX8, "run", "(II)I"⟩
abbrev cX8_seeks : ByteArray := prog_10_method_56_code
def yX8_seeks : MethodName := ⟨RX8, "seeks", "(I)V"⟩
abbrev cX8_best : ByteArray := prog_10_method_57_code
def yX8_best : MethodName := ⟨RX8, "best", "(I)I"⟩
abbrev cX8_exchanges : ByteArray := prog_10_method_58_code
def yX8_exchanges : MethodName := ⟨RX8, "exchanges", "(II)V"⟩
abbrev cX8_change : ByteArray := prog_10_method_59_code
def yX8_change : MethodName := ⟨RX8, "change", "(I)I"⟩
abbrev cX8_putOut : ByteArray := prog_10_method_60_code
def yX8_putOut : MethodName := ⟨RX8, "putOut", "(I)I"⟩
abbrev cX8_line : ByteArray := prog_10_method_61_code
def yX8_line : MethodName := ⟨RX8, "line", "(I)I"⟩
abbrev cX8_firstOther : ByteArray := prog_10_method_62_code
def yX8_firstOther : MethodName := ⟨RX8, "firstOther", "(II)I"⟩
abbrev cX8_rents : ByteArray := prog_10_method_63_code
def yX8_rents : MethodName := ⟨RX8, "rents", "(III)I"⟩
abbrev cX8_film : ByteArray := prog_10_method_64_code
def yX8_film : MethodName := ⟨RX8, "film", "(II)I"⟩
abbrev cX8_draws : ByteArray := prog_10_method_65_code
def yX8_draws : MethodName := ⟨RX8, "draws", "(I)V"⟩
abbrev cX8_drawn : ByteArray := prog_10_method_66_code
def yX8_drawn : MethodName := ⟨RX8, "drawn", "(I)I"⟩
abbrev cX8_chance : ByteArray := prog_10_method_67_code
def yX8_chance : MethodName := ⟨RX8, "chance", "(III)J"⟩
abbrev cX8_image : ByteArray := prog_10_method_68_code
def yX8_image : MethodName := ⟨RX8, "image", "()I"⟩
abbrev cX8_back : ByteArray := prog_10_method_69_code
def yX8_back : MethodName := ⟨RX8, "back", "()I"⟩
abbrev cX8_count : ByteArray := prog_10_method_70_code
def yX8_count : MethodName := ⟨RX8, "count", "(I)I"⟩
abbrev cX8_isSheet : ByteArray := prog_10_method_71_code
def yX8_isSheet : MethodName := ⟨RX8, "isSheet", "(I)Z"⟩
abbrev cX8_sheet : ByteArray := prog_10_method_72_code
def yX8_sheet : MethodName := ⟨RX8, "sheet", "(III)I"⟩
abbrev cX8_cell : ByteArray := prog_10_method_73_code
def yX8_cell : MethodName := ⟨RX8, "cell", "(III)I"⟩
abbrev cX8_copy : ByteArray := prog_10_method_74_code
def yX8_copy : MethodName := ⟨RX8, "copy", "(IIIII)I"⟩
abbrev cX8_dreams : ByteArray := prog_10_method_75_code
def yX8_dreams : MethodName := ⟨RX8, "dreams", "(IIII)I"⟩
abbrev cX8_over : ByteArray := prog_10_method_76_code
def yX8_over : MethodName := ⟨RX8, "over", "(I)I"⟩
abbrev cX8_taken : ByteArray := prog_10_method_77_code
def yX8_taken : MethodName := ⟨RX8, "taken", "(II)I"⟩
def RJ6 : String := "java/lang/Integer"
abbrev cJ6_bitCount_0f7a4 : ByteArray := prog_11_method_49_code
def yJ6_bitCount_0f7a4 : MethodName := ⟨RJ6, "bitCount", "(I)I"⟩
def RJ9 : String := "java/lang/Math"
abbrev cJ9_max_7cf53 : ByteArray := prog_12_method_65_code
def yJ9_max_7cf53 : MethodName := ⟨RJ9, "max", "(II)I"⟩
abbrev cJ9_min_7cf53 : ByteArray := prog_12_method_69_code
def yJ9_min_7cf53 : MethodName := ⟨RJ9, "min", "(II)I"⟩
def RJ0 : String := "java/lang/String"
abbrev cJ0_length_8abf5 : ByteArray := prog_13_method_54_code
def yJ0_length_8abf5 : MethodName := ⟨RJ0, "length", "()I"⟩
abbrev cJ0_charAt_5068e : ByteArray := prog_13_method_56_code
def yJ0_charAt_5068e : MethodName := ⟨RJ0, "charAt", "(I)C"⟩
abbrev cJ0_coder_7d493 : ByteArray := prog_13_method_152_code
def yJ0_coder_7d493 : MethodName := ⟨RJ0, "coder", "()B"⟩
abbrev cJ0_isLatin1_aae02 : ByteArray := prog_13_method_154_code
def yJ0_isLatin1_aae02 : MethodName := ⟨RJ0, "isLatin1", "()Z"⟩
abbrev cJ0_checkIndex_df160 : ByteArray := prog_13_method_155_code
def yJ0_checkIndex_df160 : MethodName := ⟨RJ0, "checkIndex", "(II)V"⟩
def RJ1 : String := "java/lang/StringLatin1"
abbrev cJ1_charAt_3b067 : ByteArray := prog_14_method_2_code
def yJ1_charAt_3b067 : MethodName := ⟨RJ1, "charAt", "([BI)C"⟩
def RJ2 : String := "java/lang/StringUTF16"
abbrev cJ2_getChar_3b067 : ByteArray := prog_15_method_5_code
def yJ2_getChar_3b067 : MethodName := ⟨RJ2, "getChar", "([BI)C"⟩
abbrev cJ2_length_9d52b : ByteArray := prog_15_method_6_code
def yJ2_length_9d52b : MethodName := ⟨RJ2, "length", "([B)I"⟩
abbrev cJ2_charAt_3b067 : ByteArray := prog_15_method_83_code
def yJ2_charAt_3b067 : MethodName := ⟨RJ2, "charAt", "([BI)C"⟩
abbrev cJ2_checkIndex_2214a : ByteArray := prog_15_method_91_code
def yJ2_checkIndex_2214a : MethodName := ⟨RJ2, "checkIndex", "(I[B)V"⟩
def RJ10 : String := "java/lang/System"
def RJ3 : String := "jdk/internal/util/Preconditions"
abbrev cJ3_checkIndex_8e157 : ByteArray := prog_17_method_11_code
def yJ3_checkIndex_8e157 : MethodName := ⟨RJ3, "checkIndex", "(IILjava/util/function/BiFunction;)I"⟩
def RL : String := "DreamsPayRentLaw"
abbrev cL_law : ByteArray := code
abbrev vwCl : List vw_C := [(RX0, TX0, 13), (RX2, TX2, 11), (RX3, TX3, 3), (RX5, TX5, 5), (RX6, TX6, 10), (RX7, TX7, 8), (RX8, TX8, 58)]
end
section
/-! A SMALL MACHINE OF OUR OWN: cells by their places (0, 1, ..: the order of making), one successor a step.
A value is the machine's, but '.ref k' is the k-th cell of ours, '.retAddr k' a cell that was there before us. -/
abbrev mj_M : Type := List va_E
abbrev mj_L : Type := List (Nat × Value)
abbrev mj_R : Type := Option (Nat × Nat × mj_M × Nat × mj_L × List Value)
def mj_tv (b0 : Nat) (ex : Nat → Nat) (v : Value) : Value := match v with
  | .ref k => .ref (b0 + k)
  | .retAddr k => .ref (ex k)
  | .int x => .int x
  | .long x => .long x
  | .float x => .float x
  | .double x => .double x
  | .null => .null
def mj_te (b0 : Nat) (ex : Nat → Nat) (dA : Nat → ClassId) (e : va_E) : va_E := match e with
  | .inl (t, n, .inr (.inr (.inr (.inr g)))) => .inl (dA t, n, .inr (.inr (.inr (.inr (fun j => (g j).map (fun k => b0 + k))))))
  | .inl (t, n, x) => .inl (dA t, n, x)
  | .inr (ci, fs) => .inr (ci, fs.map (mj_tv b0 ex))
def mj_ws (b0 : Nat) (ex : Nat → Nat) (dA : Nat → ClassId) (M : mj_M) : va_W := M.mapIdx (fun k e => (b0 + k, mj_te b0 ex dA e))
def mj_tl (b0 : Nat) (ex : Nat → Nat) (l : mj_L) : List (Nat × Value) := l.map (fun q => (q.1, mj_tv b0 ex q.2))
def mj_ts (b0 : Nat) (ex : Nat → Nat) (st : List Value) : List Value := st.map (mj_tv b0 ex)
def mj_tys (dA : Nat → ClassId) : List (ClassId × FieldType) := [(dA 0, .int), (dA 1, .boolean), (dA 2, .array .int)]
theorem mj_tv_cat (b0 : Nat) (ex : Nat → Nat) (v : Value) (h : ∀ k, v ≠ .retAddr k) : (mj_tv b0 ex v).category = v.category := by
  cases v <;> first | rfl | exact absurd rfl (h _)
theorem mj_tv_cat' (b0 : Nat) (ex : Nat → Nat) (v : Value) : (mj_tv b0 ex v).category = v.category := by
  cases v <;> rfl
theorem mj_ws_len (b0 : Nat) (ex : Nat → Nat) (dA : Nat → ClassId) (M : mj_M) : (mj_ws b0 ex dA M).length = M.length := by
  simp [mj_ws]
theorem mj_ws_get {b0 : Nat} {ex : Nat → Nat} {dA : Nat → ClassId} {M : mj_M} {k : Nat} {e : va_E} (h : M[k]? = some e) : (mj_ws b0 ex dA M)[k]? = some (b0 + k, mj_te b0 ex dA e) := by
  simp [mj_ws, h]
theorem mj_ws_set {b0 : Nat} {ex : Nat → Nat} {dA : Nat → ClassId} {M : mj_M} {k : Nat} {e : va_E} : (mj_ws b0 ex dA M).set k (b0 + k, mj_te b0 ex dA e) = mj_ws b0 ex dA (M.set k e) := by
  apply List.ext_getElem?
  intro i
  by_cases h : i = k
  · subst h
    by_cases hl : i < M.length
    · rw [List.getElem?_set_self (by rw [mj_ws_len]; exact hl), mj_ws_get (e := e) (by rw [List.getElem?_set_self hl])]
    · rw [List.getElem?_eq_none (by rw [List.length_set, mj_ws_len]; omega), List.getElem?_eq_none (by rw [mj_ws_len, List.length_set]; omega)]
  · rw [List.getElem?_set_ne (Ne.symm h)]
    simp [mj_ws, List.getElem?_set_ne (Ne.symm h)]
theorem mj_ws_app {b0 : Nat} {ex : Nat → Nat} {dA : Nat → ClassId} {M : mj_M} {e : va_E} : mj_ws b0 ex dA M ++ [(b0 + M.length, mj_te b0 ex dA e)] = mj_ws b0 ex dA (M ++ [e]) := by
  simp [mj_ws, List.mapIdx_append]
theorem mj_ws_D {b0 : Nat} {ex : Nat → Nat} {dA : Nat → ClassId} {M : mj_M} : va_D (fun q => b0 ≤ q) (mj_ws b0 ex dA M) := by
  have key : ∀ (i : Nat) (p : Nat × va_E), (mj_ws b0 ex dA M)[i]? = some p → p.1 = b0 + i := by
    intro i p h
    simp only [mj_ws, List.getElem?_mapIdx] at h
    cases hM : M[i]? with
    | none => rw [hM] at h; cases h
    | some e => rw [hM] at h; cases h; rfl
  exact ⟨fun i j p q hi hj h => by have := key i p hi; have := key j q hj; omega, fun k q hk => by have := key k q hk; show b0 ≤ q.1; omega⟩
def mj_lk (l : mj_L) (i : Nat) : Option Value := match l with
  | [] => none
  | q :: l => if q.1 = i then some q.2 else mj_lk l i
theorem mj_lk_mem {l : mj_L} {i : Nat} {v : Value} (h : mj_lk l i = some v) : (i, v) ∈ l := by
  induction l with
  | nil => cases h
  | cons q l ih =>
    unfold mj_lk at h
    by_cases e : q.1 = i
    · rw [if_pos e] at h
      cases h
      subst e
      exact List.mem_cons_self
    · rw [if_neg e] at h
      exact List.mem_cons_of_mem _ (ih h)
theorem mj_lv {b0 : Nat} {ex : Nat → Nat} {ls : Array Slot} {nL : Nat} {l : mj_L} {i : Nat} {v : Value} (hl : lv_has ls nL (mj_tl b0 ex l)) (h : mj_lk l i = some v) : ls[i]? = some (.val (mj_tv b0 ex v)) :=
  hl.2.2 (i, mj_tv b0 ex v) (List.mem_map.mpr ⟨(i, v), mj_lk_mem h, rfl⟩)
def mj_s1 (l : mj_L) (i : Nat) (v : Value) : mj_L := (i, v) :: l.filter (fun q => !(q.1 == i) && !(q.1 + 1 == i && q.2.category == 2))
def mj_s2 (l : mj_L) (i : Nat) (v : Value) : mj_L := (i, v) :: l.filter (fun q => !(q.1 == i) && (!(q.1 == i + 1) && !(q.1 + 1 == i && q.2.category == 2)))
theorem mj_tl_s1 (b0 : Nat) (ex : Nat → Nat) (l : mj_L) (i : Nat) (v : Value) : (i, mj_tv b0 ex v) :: (mj_tl b0 ex l).filter (fun q => !(q.1 == i) && !(q.1 + 1 == i && q.2.category == 2)) = mj_tl b0 ex (mj_s1 l i v) := by
  unfold mj_tl mj_s1
  rw [List.map_cons, List.filter_map]
  congr 2
  apply List.filter_congr
  intro q _
  simp only [Function.comp, mj_tv_cat']
theorem mj_tl_s2 (b0 : Nat) (ex : Nat → Nat) (l : mj_L) (i : Nat) (v : Value) : (i, mj_tv b0 ex v) :: (mj_tl b0 ex l).filter (fun q => !(q.1 == i) && (!(q.1 == i + 1) && !(q.1 + 1 == i && q.2.category == 2))) = mj_tl b0 ex (mj_s2 l i v) := by
  unfold mj_tl mj_s2
  rw [List.map_cons, List.filter_map]
  congr 2
  apply List.filter_congr
  intro q _
  simp only [Function.comp, mj_tv_cat']
def mj_go (M : mj_M) (pc : Nat) (l : mj_L) (st : List Value) : mj_R := some (0, 0, M, pc, l, st)
def mj_jp (M : mj_M) (pc : Nat) (off : Int) (l : mj_L) (st : List Value) : mj_R := if 0 ≤ (pc : Int) + off then some (0, 0, M, ((pc : Int) + off).toNat, l, st) else none
def mj_br (M : mj_M) (pc : Nat) (off : Int) (l : mj_L) (st : List Value) (t : Bool) : mj_R := if 0 ≤ (pc : Int) + off then (match t with
  | true => some (0, 0, M, ((pc : Int) + off).toNat, l, st)
  | false => some (0, 0, M, pc + 3, l, st)) else none
def mj_isr (v : Value) : Bool := match v with
  | .ref _ => true
  | .retAddr _ => true
  | _ => false
/-- what hangs on ints, longs, locals and the stack alone -/
def mj_pu (ins : Instr) (len nL : Nat) (M : mj_M) (pc : Nat) (l : mj_L) (st : List Value) : mj_R := match ins, len, st with
  | .iconst n, 1, st => mj_go M (pc + 1) l (.int (Int32.ofInt n) :: st)
  | .bipush n, 2, st => mj_go M (pc + 2) l (.int (Int8.ofInt n).toInt32 :: st)
  | .sipush n, 3, st => mj_go M (pc + 3) l (.int (Int16.ofInt n).toInt32 :: st)
  | .lconst n, 1, st => mj_go M (pc + 1) l (.long (Int64.ofNat (n : Nat)) :: st)
  | .aconst_null, 1, st => mj_go M (pc + 1) l (.null :: st)
  | .iload_n k, 1, st => match mj_lk l (k : Nat) with
    | some (.int x) => mj_go M (pc + 1) l (.int x :: st)
    | _ => none
  | .iload i, 2, st => match mj_lk l i with
    | some (.int x) => mj_go M (pc + 2) l (.int x :: st)
    | _ => none
  | .lload_n k, 1, st => match mj_lk l (k : Nat) with
    | some (.long x) => mj_go M (pc + 1) l (.long x :: st)
    | _ => none
  | .lload i, 2, st => match mj_lk l i with
    | some (.long x) => mj_go M (pc + 2) l (.long x :: st)
    | _ => none
  | .aload_n k, 1, st => match mj_lk l (k : Nat) with
    | some (.ref x) => mj_go M (pc + 1) l (.ref x :: st)
    | some (.retAddr x) => mj_go M (pc + 1) l (.retAddr x :: st)
    | _ => none
  | .aload i, 2, st => match mj_lk l i with
    | some (.ref x) => mj_go M (pc + 2) l (.ref x :: st)
    | some (.retAddr x) => mj_go M (pc + 2) l (.retAddr x :: st)
    | _ => none
  | .istore_n k, 1, .int x :: st => if (k : Nat) < nL then mj_go M (pc + 1) (mj_s1 l k (.int x)) st else none
  | .istore i, 2, .int x :: st => if i < nL then mj_go M (pc + 2) (mj_s1 l i (.int x)) st else none
  | .lstore_n k, 1, .long x :: st => if (k : Nat) + 1 < nL then mj_go M (pc + 1) (mj_s2 l k (.long x)) st else none
  | .lstore i, 2, .long x :: st => if i + 1 < nL then mj_go M (pc + 2) (mj_s2 l i (.long x)) st else none
  | .astore_n k, 1, .ref x :: st => if (k : Nat) < nL then mj_go M (pc + 1) (mj_s1 l k (.ref x)) st else none
  | .astore i, 2, .ref x :: st => if i < nL then mj_go M (pc + 2) (mj_s1 l i (.ref x)) st else none
  | .iinc i n, 3, st => match mj_lk l i with
    | some (.int x) => if i < nL then mj_go M (pc + 3) (mj_s1 l i (.int (x + Int32.ofInt n))) st else none
    | _ => none
  | .iadd, 1, .int y :: .int x :: st => mj_go M (pc + 1) l (.int (x + y) :: st)
  | .isub, 1, .int y :: .int x :: st => mj_go M (pc + 1) l (.int (x - y) :: st)
  | .imul, 1, .int y :: .int x :: st => mj_go M (pc + 1) l (.int (x * y) :: st)
  | .idiv, 1, .int y :: .int x :: st => if y = 0 then none else mj_go M (pc + 1) l (.int (x / y) :: st)
  | .irem, 1, .int y :: .int x :: st => if y = 0 then none else mj_go M (pc + 1) l (.int (x - x / y * y) :: st)
  | .iand, 1, .int y :: .int x :: st => mj_go M (pc + 1) l (.int (x &&& y) :: st)
  | .ior, 1, .int y :: .int x :: st => mj_go M (pc + 1) l (.int (x ||| y) :: st)
  | .ishl, 1, .int y :: .int x :: st => mj_go M (pc + 1) l (.int (x <<< (y &&& 31)) :: st)
  | .ishr, 1, .int y :: .int x :: st => mj_go M (pc + 1) l (.int (x >>> (y &&& 31)) :: st)
  | .iushr, 1, .int y :: .int x :: st => mj_go M (pc + 1) l (.int (x.toUInt32 >>> (y.toUInt32 &&& Int32.toUInt32 31)).toInt32 :: st)
  | .ineg, 1, .int x :: st => mj_go M (pc + 1) l (.int (-x) :: st)
  | .ladd, 1, .long y :: .long x :: st => mj_go M (pc + 1) l (.long (x + y) :: st)
  | .lsub, 1, .long y :: .long x :: st => mj_go M (pc + 1) l (.long (x - y) :: st)
  | .lmul, 1, .long y :: .long x :: st => mj_go M (pc + 1) l (.long (x * y) :: st)
  | .ldiv, 1, .long y :: .long x :: st => if y = 0 then none else mj_go M (pc + 1) l (.long (x / y) :: st)
  | .lrem, 1, .long y :: .long x :: st => if y = 0 then none else mj_go M (pc + 1) l (.long (x - x / y * y) :: st)
  | .lcmp, 1, .long y :: .long x :: st => mj_go M (pc + 1) l (.int (lg_cmp x y) :: st)
  | .i2l, 1, .int x :: st => mj_go M (pc + 1) l (.long x.toInt64 :: st)
  | .l2i, 1, .long x :: st => mj_go M (pc + 1) l (.int x.toInt32 :: st)
  | .i2b, 1, .int x :: st => mj_go M (pc + 1) l (.int x.toInt8.toInt32 :: st)
  | .i2s, 1, .int x :: st => mj_go M (pc + 1) l (.int x.toInt16.toInt32 :: st)
  | .i2c, 1, .int x :: st => mj_go M (pc + 1) l (.int (x.toUInt32 % 65536).toInt32 :: st)
  | .dup, 1, v :: st => if v.category = 1 then mj_go M (pc + 1) l (v :: v :: st) else none
  | .dup2, 1, v :: w :: st => if v.category = 1 ∧ w.category = 1 then mj_go M (pc + 1) l (v :: w :: v :: w :: st) else none
  | .pop, 1, v :: st => if v.category = 1 then mj_go M (pc + 1) l st else none
  | .pop2, 1, v :: st => if v.category = 2 then mj_go M (pc + 1) l st else none
  | .goto off, 3, st => mj_jp M pc off l st
  | .ifCond .eq off, 3, .int x :: st => mj_br M pc off l st (decide (x = 0))
  | .ifCond .ne off, 3, .int x :: st => mj_br M pc off l st (decide (¬ x = 0))
  | .ifCond .lt off, 3, .int x :: st => mj_br M pc off l st (decide (x < 0))
  | .ifCond .ge off, 3, .int x :: st => mj_br M pc off l st (decide (0 ≤ x))
  | .ifCond .gt off, 3, .int x :: st => mj_br M pc off l st (decide (0 < x))
  | .ifCond .le off, 3, .int x :: st => mj_br M pc off l st (decide (x ≤ 0))
  | .if_icmp .eq off, 3, .int y :: .int x :: st => mj_br M pc off l st (decide (x = y))
  | .if_icmp .ne off, 3, .int y :: .int x :: st => mj_br M pc off l st (decide (¬ x = y))
  | .if_icmp .lt off, 3, .int y :: .int x :: st => mj_br M pc off l st (decide (x < y))
  | .if_icmp .ge off, 3, .int y :: .int x :: st => mj_br M pc off l st (decide (y ≤ x))
  | .if_icmp .gt off, 3, .int y :: .int x :: st => mj_br M pc off l st (decide (y < x))
  | .if_icmp .le off, 3, .int y :: .int x :: st => mj_br M pc off l st (decide (x ≤ y))
  | .tableswitch dflt lo hi offs, _, .int x :: st => if x.toInt < lo ∨ hi < x.toInt then mj_jp M pc dflt l st else match offs[(x.toInt - lo).toNat]? with
    | some off => mj_jp M pc off l st
    | none => none
  | .lookupswitch dflt ps, _, .int x :: st => if (ps.toList.zip (ps.toList.drop 1)).all (fun (a, next) => a.1 < next.1) = true then mj_jp M pc (Op.lookupswitch.offset ps.toList dflt x.toInt) l st else none
  | _, _, _ => none
end
section
section MJR
variable {p : Program} {l : Launch} {e : Env} {R : Room} {s : State} {m : MethodId} {args : Array Value} {below : List Frame} {meth : Method} {c : Code} {H : Heap} {locs : List Loc} {cells slots : Nat} {Q : State → Prop}
variable {cc : ByteArray} {pc pc' nL dc ds len : Nat} {ls : Array Slot} {b0 : Nat} {ex : Nat → Nat} {M M' : mj_M} {lo lo' : mj_L} {st st' : List Value} {ins : Instr}
theorem mj_jp_eq {M M' : mj_M} {pc pc' dc ds : Nat} {off : Int} {lo lo' : mj_L} {st st' : List Value} (h : mj_jp M pc off lo st = some (dc, ds, M', pc', lo', st')) : dc = 0 ∧ ds = 0 ∧ M' = M ∧ lo' = lo ∧ st' = st ∧ (pc : Int) + off = (pc' : Int) := by
  unfold mj_jp at h
  split at h
  · cases h
    exact ⟨rfl, rfl, rfl, rfl, rfl, by omega⟩
  · cases h
theorem mj_br_eq {M M' : mj_M} {pc pc' dc ds : Nat} {off : Int} {lo lo' : mj_L} {st st' : List Value} {t : Bool} (h : mj_br M pc off lo st t = some (dc, ds, M', pc', lo', st')) : ∃ tgt : Nat, dc = 0 ∧ ds = 0 ∧ M' = M ∧ lo' = lo ∧ st' = st ∧ (pc : Int) + off = (tgt : Int) ∧ (t = true → pc' = tgt) ∧ (t = false → pc' = pc + 3) := by
  unfold mj_br at h
  split at h
  · cases t
    · cases h
      exact ⟨((pc : Int) + off).toNat, rfl, rfl, rfl, rfl, rfl, by omega, fun q => (by cases q), fun _ => rfl⟩
    · cases h
      exact ⟨((pc : Int) + off).toNat, rfl, rfl, rfl, rfl, rfl, by omega, fun _ => rfl, fun q => (by cases q)⟩
  · cases h
set_option maxHeartbeats 4000000 in
theorem mj_pu_ok (hx : p.tables.exec = Jvm.exec) (hb : c.code = cc) (hl : lv_has ls nL (mj_tl b0 ex lo)) (hdg : decode cc pc = .ok (ins, len)) (h : mj_pu ins len nL M pc lo st = some (dc, ds, M', pc', lo', st')) :
    dc = 0 ∧ ds = 0 ∧ M' = M ∧ ((∀ ls' : Array Slot, lv_has ls' nL (mj_tl b0 ex lo') → W p l e R s m args below meth c H locs cells slots Q (F0 m pc' ls' (mj_ts b0 ex st'))) → W p l e R s m args below meth c H locs cells slots Q (F0 m pc ls (mj_ts b0 ex st))) := by
  unfold mj_pu at h
  split at h
  · cases h; exact ⟨rfl, rfl, rfl, fun k => lv_iconst hx hb hdg rfl (k ls hl)⟩
  · cases h; exact ⟨rfl, rfl, rfl, fun k => lv_bipush hx hb hdg rfl (k ls hl)⟩
  · cases h; exact ⟨rfl, rfl, rfl, fun k => lv_sipush hx hb hdg rfl (k ls hl)⟩
  · cases h; exact ⟨rfl, rfl, rfl, fun k => lv_lconst hx hb hdg rfl (k ls hl)⟩
  · cases h; exact ⟨rfl, rfl, rfl, fun k => lv_null hx hb hdg (k ls hl)⟩
  · split at h
    · rename_i hlk
      cases h; exact ⟨rfl, rfl, rfl, fun k => lv_iload_n hx hb hdg rfl (mj_lv hl hlk) (k ls hl)⟩
    · cases h
  · split at h
    · rename_i hlk
      cases h; exact ⟨rfl, rfl, rfl, fun k => lv_iload hx hb hdg (mj_lv hl hlk) (k ls hl)⟩
    · cases h
  · split at h
    · rename_i hlk
      cases h; exact ⟨rfl, rfl, rfl, fun k => lv_lload_n hx hb hdg rfl (mj_lv hl hlk) (k ls hl)⟩
    · cases h
  · split at h
    · rename_i hlk
      cases h; exact ⟨rfl, rfl, rfl, fun k => lv_lload hx hb hdg (mj_lv hl hlk) (k ls hl)⟩
    · cases h
  · split at h
    · rename_i hlk
      cases h; exact ⟨rfl, rfl, rfl, fun k => lv_aload_n hx hb hdg rfl (mj_lv hl hlk) (k ls hl)⟩
    · rename_i hlk
      cases h; exact ⟨rfl, rfl, rfl, fun k => lv_aload_n hx hb hdg rfl (mj_lv hl hlk) (k ls hl)⟩
    · cases h
  · split at h
    · rename_i hlk
      cases h; exact ⟨rfl, rfl, rfl, fun k => lv_aload hx hb hdg (mj_lv hl hlk) (k ls hl)⟩
    · rename_i hlk
      cases h; exact ⟨rfl, rfl, rfl, fun k => lv_aload hx hb hdg (mj_lv hl hlk) (k ls hl)⟩
    · cases h
  · split at h
    · rename_i hn
      cases h; exact ⟨rfl, rfl, rfl, fun k => lv_istore_n hx hb hdg rfl hl hn (mj_tl_s1 b0 ex lo _ (.int _)) (fun ls' hl' => k ls' hl')⟩
    · cases h
  · split at h
    · rename_i hn
      cases h; exact ⟨rfl, rfl, rfl, fun k => lv_istore hx hb hdg hl hn (mj_tl_s1 b0 ex lo _ (.int _)) (fun ls' hl' => k ls' hl')⟩
    · cases h
  · split at h
    · rename_i hn
      cases h; exact ⟨rfl, rfl, rfl, fun k => lv_lstore_n hx hb hdg rfl hl hn (mj_tl_s2 b0 ex lo _ (.long _)) (fun ls' hl' => k ls' hl')⟩
    · cases h
  · split at h
    · rename_i hn
      cases h; exact ⟨rfl, rfl, rfl, fun k => lv_lstore hx hb hdg hl hn (mj_tl_s2 b0 ex lo _ (.long _)) (fun ls' hl' => k ls' hl')⟩
    · cases h
  · split at h
    · rename_i hn
      cases h; exact ⟨rfl, rfl, rfl, fun k => lv_astore_n hx hb hdg rfl hl hn (mj_tl_s1 b0 ex lo _ (.ref _)) (fun ls' hl' => k ls' hl')⟩
    · cases h
  · split at h
    · rename_i hn
      cases h; exact ⟨rfl, rfl, rfl, fun k => lv_astore hx hb hdg hl hn (mj_tl_s1 b0 ex lo _ (.ref _)) (fun ls' hl' => k ls' hl')⟩
    · cases h
  · split at h
    · rename_i hlk
      split at h
      · rename_i hn
        cases h
        refine ⟨rfl, rfl, rfl, fun k => ?_⟩
        obtain ⟨k0, hk0⟩ := List.getElem?_of_mem (List.mem_map.mpr ⟨_, mj_lk_mem hlk, rfl⟩ : _ ∈ mj_tl b0 ex lo)
        exact lv_iinc hx hb hdg hl hk0 rfl hn (mj_tl_s1 b0 ex lo _ (.int _)) (fun ls' hl' => k ls' hl')
      · cases h
    · cases h
  · cases h; exact ⟨rfl, rfl, rfl, fun k => lv_iadd hx hb hdg (k ls hl)⟩
  · cases h; exact ⟨rfl, rfl, rfl, fun k => lv_isub hx hb hdg (k ls hl)⟩
  · cases h; exact ⟨rfl, rfl, rfl, fun k => lv_imul hx hb hdg (k ls hl)⟩
  · split at h
    · cases h
    · rename_i hne
      cases h; exact ⟨rfl, rfl, rfl, fun k => lv_idiv hx hb hdg hne (k ls hl)⟩
  · split at h
    · cases h
    · rename_i hne
      cases h; exact ⟨rfl, rfl, rfl, fun k => lv_irem hx hb hdg hne (k ls hl)⟩
  · cases h; exact ⟨rfl, rfl, rfl, fun k => lv_iand hx hb hdg (k ls hl)⟩
  · cases h; exact ⟨rfl, rfl, rfl, fun k => lv_ior hx hb hdg (k ls hl)⟩
  · cases h; exact ⟨rfl, rfl, rfl, fun k => lv_ishl hx hb hdg (k ls hl)⟩
  · cases h; exact ⟨rfl, rfl, rfl, fun k => lv_ishr hx hb hdg (k ls hl)⟩
  · cases h; exact ⟨rfl, rfl, rfl, fun k => lv_iushr hx hb hdg rfl (k ls hl)⟩
  · cases h; exact ⟨rfl, rfl, rfl, fun k => lv_ineg hx hb hdg (k ls hl)⟩
  · cases h; exact ⟨rfl, rfl, rfl, fun k => lv_ladd hx hb hdg (k ls hl)⟩
  · cases h; exact ⟨rfl, rfl, rfl, fun k => lv_lsub hx hb hdg (k ls hl)⟩
  · cases h; exact ⟨rfl, rfl, rfl, fun k => lv_lmul hx hb hdg (k ls hl)⟩
  · split at h
    · cases h
    · rename_i hne
      cases h; exact ⟨rfl, rfl, rfl, fun k => lv_ldiv hx hb hdg hne (k ls hl)⟩
  · split at h
    · cases h
    · rename_i hne
      cases h; exact ⟨rfl, rfl, rfl, fun k => lv_lrem hx hb hdg hne (k ls hl)⟩
  · cases h; exact ⟨rfl, rfl, rfl, fun k => W.lcmp hx hb hdg (k ls hl)⟩
  · cases h; exact ⟨rfl, rfl, rfl, fun k => lv_i2l hx hb hdg rfl (k ls hl)⟩
  · cases h; exact ⟨rfl, rfl, rfl, fun k => lv_l2i hx hb hdg rfl (k ls hl)⟩
  · cases h; exact ⟨rfl, rfl, rfl, fun k => lv_i2b hx hb hdg rfl (k ls hl)⟩
  · cases h; exact ⟨rfl, rfl, rfl, fun k => lv_i2s hx hb hdg rfl (k ls hl)⟩
  · cases h; exact ⟨rfl, rfl, rfl, fun k => lv_i2c hx hb hdg rfl (k ls hl)⟩
  · split at h
    · rename_i hv
      cases h; exact ⟨rfl, rfl, rfl, fun k => lv_dup hx hb hdg (by rw [mj_tv_cat']; exact hv) (k ls hl)⟩
    · cases h
  · split at h
    · rename_i hv
      cases h; exact ⟨rfl, rfl, rfl, fun k => lv_dup2_11 hx hb hdg (by rw [mj_tv_cat']; exact hv.1) (by rw [mj_tv_cat']; exact hv.2) (k ls hl)⟩
    · cases h
  · split at h
    · rename_i hv
      cases h; exact ⟨rfl, rfl, rfl, fun k => lv_pop hx hb hdg (by rw [mj_tv_cat']; exact hv) (k ls hl)⟩
    · cases h
  · split at h
    · rename_i hv
      cases h; exact ⟨rfl, rfl, rfl, fun k => lv_pop2_2 hx hb hdg (by rw [mj_tv_cat']; exact hv) (k ls hl)⟩
    · cases h
  · obtain ⟨rfl, rfl, rfl, rfl, rfl, ht⟩ := mj_jp_eq h
    exact ⟨rfl, rfl, rfl, fun k => lv_goto hx hb hdg ht (k ls hl)⟩
  · obtain ⟨tgt, rfl, rfl, rfl, rfl, rfl, ht, hT, hF⟩ := mj_br_eq h
    exact ⟨rfl, rfl, rfl, fun k => lv_if_eq hx hb hdg ht (fun q => by rw [← hT (decide_eq_true q)]; exact k ls hl) (fun q => by rw [← hF (decide_eq_false q)]; exact k ls hl)⟩
  · obtain ⟨tgt, rfl, rfl, rfl, rfl, rfl, ht, hT, hF⟩ := mj_br_eq h
    exact ⟨rfl, rfl, rfl, fun k => lv_if_ne hx hb hdg ht (fun q => by rw [← hT (decide_eq_true q)]; exact k ls hl) (fun q => by rw [← hF (decide_eq_false (not_not_intro q))]; exact k ls hl)⟩
  · obtain ⟨tgt, rfl, rfl, rfl, rfl, rfl, ht, hT, hF⟩ := mj_br_eq h
    exact ⟨rfl, rfl, rfl, fun k => lv_if_lt hx hb hdg ht (fun q => by rw [← hT (decide_eq_true q)]; exact k ls hl) (fun q => by rw [← hF (decide_eq_false q)]; exact k ls hl)⟩
  · obtain ⟨tgt, rfl, rfl, rfl, rfl, rfl, ht, hT, hF⟩ := mj_br_eq h
    exact ⟨rfl, rfl, rfl, fun k => lv_if_ge hx hb hdg ht (fun q => by rw [← hT (decide_eq_true q)]; exact k ls hl) (fun q => by rw [← hF (decide_eq_false q)]; exact k ls hl)⟩
  · obtain ⟨tgt, rfl, rfl, rfl, rfl, rfl, ht, hT, hF⟩ := mj_br_eq h
    exact ⟨rfl, rfl, rfl, fun k => lv_if_gt hx hb hdg ht (fun q => by rw [← hT (decide_eq_true q)]; exact k ls hl) (fun q => by rw [← hF (decide_eq_false q)]; exact k ls hl)⟩
  · obtain ⟨tgt, rfl, rfl, rfl, rfl, rfl, ht, hT, hF⟩ := mj_br_eq h
    exact ⟨rfl, rfl, rfl, fun k => lv_if_le hx hb hdg ht (fun q => by rw [← hT (decide_eq_true q)]; exact k ls hl) (fun q => by rw [← hF (decide_eq_false q)]; exact k ls hl)⟩
  · obtain ⟨tgt, rfl, rfl, rfl, rfl, rfl, ht, hT, hF⟩ := mj_br_eq h
    exact ⟨rfl, rfl, rfl, fun k => lv_icmp_eq hx hb hdg ht (fun q => by rw [← hT (decide_eq_true q)]; exact k ls hl) (fun q => by rw [← hF (decide_eq_false q)]; exact k ls hl)⟩
  · obtain ⟨tgt, rfl, rfl, rfl, rfl, rfl, ht, hT, hF⟩ := mj_br_eq h
    exact ⟨rfl, rfl, rfl, fun k => lv_icmp_ne hx hb hdg ht (fun q => by rw [← hT (decide_eq_true q)]; exact k ls hl) (fun q => by rw [← hF (decide_eq_false (not_not_intro q))]; exact k ls hl)⟩
  · obtain ⟨tgt, rfl, rfl, rfl, rfl, rfl, ht, hT, hF⟩ := mj_br_eq h
    exact ⟨rfl, rfl, rfl, fun k => lv_icmp_lt hx hb hdg ht (fun q => by rw [← hT (decide_eq_true q)]; exact k ls hl) (fun q => by rw [← hF (decide_eq_false q)]; exact k ls hl)⟩
  · obtain ⟨tgt, rfl, rfl, rfl, rfl, rfl, ht, hT, hF⟩ := mj_br_eq h
    exact ⟨rfl, rfl, rfl, fun k => lv_icmp_ge hx hb hdg ht (fun q => by rw [← hT (decide_eq_true q)]; exact k ls hl) (fun q => by rw [← hF (decide_eq_false q)]; exact k ls hl)⟩
  · obtain ⟨tgt, rfl, rfl, rfl, rfl, rfl, ht, hT, hF⟩ := mj_br_eq h
    exact ⟨rfl, rfl, rfl, fun k => lv_icmp_gt hx hb hdg ht (fun q => by rw [← hT (decide_eq_true q)]; exact k ls hl) (fun q => by rw [← hF (decide_eq_false q)]; exact k ls hl)⟩
  · obtain ⟨tgt, rfl, rfl, rfl, rfl, rfl, ht, hT, hF⟩ := mj_br_eq h
    exact ⟨rfl, rfl, rfl, fun k => lv_icmp_le hx hb hdg ht (fun q => by rw [← hT (decide_eq_true q)]; exact k ls hl) (fun q => by rw [← hF (decide_eq_false q)]; exact k ls hl)⟩
  · split at h
    · rename_i hc
      obtain ⟨rfl, rfl, rfl, rfl, rfl, ht⟩ := mj_jp_eq h
      exact ⟨rfl, rfl, rfl, fun k => lv_tableOut hx hb hdg hc ht (k ls hl)⟩
    · rename_i hc
      split at h
      · rename_i ho
        obtain ⟨rfl, rfl, rfl, rfl, rfl, ht⟩ := mj_jp_eq h
        exact ⟨rfl, rfl, rfl, fun k => lv_tableIn hx hb hdg (fun q => hc (Or.inl q)) (fun q => hc (Or.inr q)) ho ht (k ls hl)⟩
      · cases h
  · split at h
    · rename_i hp
      obtain ⟨rfl, rfl, rfl, rfl, rfl, ht⟩ := mj_jp_eq h
      exact ⟨rfl, rfl, rfl, fun k => lv_lookup hx hb hdg hp rfl ht (k ls hl)⟩
    · cases h
  · cases h
end MJR
end
section
/-- the words that a method may take with it: those of the tables that no call takes away -/
def mj_ww : List Cond := lw_tbl.filter goodWord
theorem mj_ww_of {w : Cond} {k : Nat} (h : lw_tbl[k]? = some w) (hg : goodWord w = true) : w ∈ mj_ww := List.mem_filter.mpr ⟨List.mem_of_getElem? h, hg⟩
theorem mj_ww_tbl {w : Cond} (h : w ∈ mj_ww) : w ∈ lw_tbl := (List.mem_filter.mp h).1
theorem mj_ww_good : GoodIn mj_ww mj_ww := fun w h => ⟨h, good_of_word (List.mem_filter.mp h).2⟩
def mj_cn (i : Nat) : String := bif Nat.blt i 17 then (bif Nat.blt i 9 then (bif Nat.blt i 5 then (bif Nat.blt i 3 then (bif Nat.blt i 2 then (bif Nat.blt i 1 then RX0 else RX1) else RX2) else (bif Nat.blt i 4 then RX3 else RX4)) else (bif Nat.blt i 7 then (bif Nat.blt i 6 then RX5 else RX6) else (bif Nat.blt i 8 then RX7 else RX8))) else (bif Nat.blt i 13 then (bif Nat.blt i 11 then (bif Nat.blt i 10 then RJ6 else RJ9) else (bif Nat.blt i 12 then RJ0 else RJ1)) else (bif Nat.blt i 15 then (bif Nat.blt i 14 then RJ2 else RJ10) else (bif Nat.blt i 16 then RJ3 else RL)))) else ""
/-- field links: own, index, class of vwCl, field, place of the word -/
def mj_flk : List (Nat × Nat × Nat × Nat × Nat) := [(0, 9, 0, 1, 162), (0, 15, 0, 2, 164), (0, 18, 0, 3, 166), (0, 21, 0, 4, 168), (0, 24, 0, 5, 170), (0, 27, 0, 6, 172), (0, 30, 0, 7, 174), (0, 33, 0, 0, 161), (0, 43, 0, 8, 177), (0, 47, 0, 9, 181), (0, 50, 0, 10, 183), (0, 53, 0, 11, 184), (0, 56, 0, 12, 186), (0, 85, 3, 2, 96), (2, 9, 1, 0, 118), (2, 15, 1, 2, 121), (2, 18, 1, 3, 122), (2, 21, 1, 4, 123), (2, 24, 1, 8, 127), (2, 27, 1, 10, 130), (2, 30, 1, 1, 119), (2, 37, 1, 6, 125), (2, 40, 1, 7, 126), (2, 43, 1, 9, 129), (2, 56, 1, 5, 124), (3, 9, 2, 0, 262), (3, 15, 2, 1, 264), (3, 20, 2, 2, 266), (5, 11, 3, 0, 93), (5, 16, 3, 1, 94), (5, 19, 3, 2, 95), (5, 23, 3, 3, 97), (5, 26, 3, 4, 98), (5, 30, 1, 8, 128), (5, 40, 1, 10, 131), (6, 11, 4, 0, 222), (6, 16, 4, 1, 223), (6, 19, 4, 2, 224), (6, 22, 4, 3, 225), (6, 26, 4, 4, 226), (6, 29, 4, 5, 227), (6, 32, 4, 6, 228), (6, 35, 0, 8, 176), (6, 41, 4, 8, 232), (6, 42, 0, 9, 179), (6, 45, 4, 9, 233), (6, 50, 4, 7, 230), (7, 10, 5, 0, 418), (7, 19, 5, 1, 419), (7, 28, 5, 2, 420), (7, 32, 5, 3, 421), (7, 35, 5, 4, 422), (7, 41, 5, 5, 423), (7, 48, 5, 6, 424), (7, 89, 0, 9, 180), (7, 93, 0, 10, 182), (7, 96, 0, 1, 163), (7, 100, 0, 3, 167), (7, 103, 0, 4, 169), (7, 106, 0, 5, 171), (7, 109, 0, 6, 173), (7, 131, 0, 7, 175), (7, 134, 0, 2, 165), (7, 152, 3, 4, 99), (7, 155, 0, 12, 187), (7, 179, 0, 11, 185), (7, 185, 0, 8, 178), (7, 192, 4, 7, 231), (7, 195, 4, 6, 229), (7, 208, 2, 0, 263), (7, 211, 2, 1, 265), (7, 232, 5, 7, 425), (7, 236, 1, 1, 120), (7, 242, 2, 2, 267), (8, 13, 6, 1, 790), (8, 17, 6, 2, 791), (8, 20, 6, 5, 794), (8, 23, 6, 10, 799), (8, 26, 6, 11, 800), (8, 29, 6, 12, 801), (8, 32, 6, 13, 802), (8, 35, 6, 30, 819), (8, 38, 6, 31, 820), (8, 41, 6, 32, 821), (8, 44, 6, 36, 825), (8, 47, 6, 37, 826), (8, 50, 6, 42, 831), (8, 53, 6, 45, 834), (8, 56, 6, 46, 835), (8, 59, 6, 47, 836), (8, 62, 6, 48, 837), (8, 65, 6, 49, 838), (8, 68, 6, 54, 843), (8, 72, 6, 55, 844), (8, 75, 6, 56, 845), (8, 78, 6, 57, 846), (8, 85, 6, 3, 792), (8, 88, 6, 14, 803), (8, 133, 6, 7, 796), (8, 136, 6, 8, 797), (8, 139, 6, 4, 793), (8, 164, 6, 6, 795), (8, 167, 6, 22, 811), (8, 170, 6, 21, 810), (8, 173, 6, 23, 812), (8, 179, 6, 25, 814), (8, 182, 6, 24, 813), (8, 193, 6, 26, 815), (8, 197, 6, 28, 817), (8, 201, 6, 29, 818), (8, 207, 6, 27, 816), (8, 220, 6, 15, 804), (8, 223, 6, 16, 805), (8, 226, 6, 17, 806), (8, 229, 6, 18, 807), (8, 232, 6, 19, 808), (8, 235, 6, 20, 809), (8, 305, 6, 9, 798), (8, 308, 6, 33, 822), (8, 311, 6, 34, 823), (8, 314, 6, 35, 824), (8, 324, 6, 38, 827), (8, 327, 6, 39, 828), (8, 330, 6, 40, 829), (8, 333, 6, 41, 830), (8, 344, 6, 43, 832), (8, 347, 6, 44, 833), (8, 376, 6, 50, 839), (8, 379, 6, 51, 840), (8, 382, 6, 52, 841), (8, 385, 6, 53, 842)]
def mj_xfk : List (Nat × Nat × Nat × Nat) := [(11, 9, 1, 1281), (11, 15, 0, 1282)]
/-- statics that nobody writes -/
def mj_xs : List (String × String × String × Value) := [("DreamsPayRent", "WALL_ONE", "[I", .retAddr 1), ("DreamsPayRent", "WALL_OTHER", "[I", .retAddr 2), ("java/lang/String", "COMPACT_STRINGS", "Z", .int 1), ("jdk/internal/util/Preconditions", "SIOOBE_FORMATTER", "Ljava/util/function/BiFunction;", .retAddr 3)]
def mj_stk : List (Nat × Nat × Nat × Nat × Nat) := [(11, 38, 2, 0, 284), (11, 1053, 3, 0, 300), (0, 93, 0, 1, 577), (0, 99, 1, 1, 580), (6, 86, 0, 1, 657), (6, 89, 1, 1, 658)]
def mj_cv (i : Nat) : Value := bif Nat.blt i 40 then (bif Nat.blt i 20 then (bif Nat.blt i 10 then (bif Nat.blt i 5 then (bif Nat.blt i 3 then (bif Nat.blt i 2 then (bif Nat.blt i 1 then .int (-100000) else .long (-4611686018427387904)) else .int (1103515245)) else (bif Nat.blt i 4 then .long (7) else .long (40))) else (bif Nat.blt i 8 then (bif Nat.blt i 7 then (bif Nat.blt i 6 then .long (1023) else .long (999)) else .long (9)) else (bif Nat.blt i 9 then .long (20) else .long (9999)))) else (bif Nat.blt i 15 then (bif Nat.blt i 13 then (bif Nat.blt i 12 then (bif Nat.blt i 11 then .long (6) else .long (5)) else .long (10)) else (bif Nat.blt i 14 then .long (255) else .long (97))) else (bif Nat.blt i 18 then (bif Nat.blt i 17 then (bif Nat.blt i 16 then .long (122) else .long (48)) else .long (57)) else (bif Nat.blt i 19 then .long (43) else .long (60))))) else (bif Nat.blt i 30 then (bif Nat.blt i 25 then (bif Nat.blt i 23 then (bif Nat.blt i 22 then (bif Nat.blt i 21 then .long (3) else .long (14)) else .long (-1)) else (bif Nat.blt i 24 then .long (2) else .int (1431655765))) else (bif Nat.blt i 28 then (bif Nat.blt i 27 then (bif Nat.blt i 26 then .int (858993459) else .int (252645135)) else .retAddr 10) else (bif Nat.blt i 29 then .retAddr 11 else .retAddr 12))) else (bif Nat.blt i 35 then (bif Nat.blt i 33 then (bif Nat.blt i 32 then (bif Nat.blt i 31 then .retAddr 13 else .retAddr 14) else .retAddr 15) else (bif Nat.blt i 34 then .retAddr 16 else .retAddr 17)) else (bif Nat.blt i 38 then (bif Nat.blt i 37 then (bif Nat.blt i 36 then .retAddr 18 else .retAddr 19) else .retAddr 20) else (bif Nat.blt i 39 then .retAddr 21 else .retAddr 22))))) else .null
def mj_clk : List (Nat × Nat × Nat × Nat × Nat) := [(7, 188, 0, 0, 631), (7, 227, 1, 1, 732), (7, 266, 2, 0, 727), (8, 95, 3, 1, 980), (8, 104, 4, 1, 988), (8, 106, 5, 1, 989), (8, 108, 6, 1, 990), (8, 110, 7, 1, 991), (8, 112, 8, 1, 992), (8, 114, 9, 1, 993), (8, 116, 10, 1, 969), (8, 142, 11, 1, 1015), (8, 157, 12, 1, 998), (8, 162, 13, 1, 1037), (8, 185, 14, 1, 1054), (8, 187, 15, 1, 1055), (8, 189, 16, 1, 1056), (8, 191, 17, 1, 1057), (8, 258, 18, 1, 1110), (8, 266, 19, 1, 1111), (8, 285, 20, 1, 1120), (8, 336, 21, 1, 1178), (8, 353, 0, 0, 1191), (8, 370, 2, 0, 1242), (8, 374, 1, 1, 1247), (8, 388, 22, 1, 1232), (8, 390, 23, 1, 1233), (9, 265, 24, 0, 608), (9, 266, 25, 0, 609), (9, 267, 26, 0, 610)]
def mj_slk : List (Nat × Nat × Nat × Nat × String) := [(7, 52, 27, 275, "rents size + floor ; leaks space ; minds 0 ;"), (4, 9, 28, 361, "size"), (4, 11, 29, 362, "floor"), (4, 13, 30, 363, "night"), (4, 15, 31, 364, "number"), (4, 17, 32, 365, "owes"), (4, 19, 33, 366, "space"), (4, 21, 34, 367, "rents"), (4, 23, 35, 368, "leaks"), (4, 25, 36, 369, "minds"), (4, 27, 37, 370, "or"), (4, 29, 38, 371, "and"), (4, 31, 39, 372, "not")]
/-- the signs of the string constants -/
def mj_stb : List (List Int32) := [[114, 101, 110, 116, 115, 32, 115, 105, 122, 101, 32, 43, 32, 102, 108, 111, 111, 114, 32, 59, 32, 108, 101, 97, 107, 115, 32, 115, 112, 97, 99, 101, 32, 59, 32, 109, 105, 110, 100, 115, 32, 48, 32, 59], [115, 105, 122, 101], [102, 108, 111, 111, 114], [110, 105, 103, 104, 116], [110, 117, 109, 98, 101, 114], [111, 119, 101, 115], [115, 112, 97, 99, 101], [114, 101, 110, 116, 115], [108, 101, 97, 107, 115], [109, 105, 110, 100, 115], [111, 114], [97, 110, 100], [110, 111, 116]]
def mj_nwk : List (Nat × Nat × Nat × Nat) := [(16, 7, 5, 77), (7, 7, 3, 85), (7, 16, 1, 112), (7, 23, 0, 155), (7, 38, 4, 215), (7, 45, 2, 255), (16, 10, 6, 780)]
def mj_mnk : List (Nat × Nat × Nat) := [(5, 9, 91), (6, 9, 221), (3, 18, 261)]
/-- method links: own, index, method, nest, place of the word (1000: Object.<init>, 1001: arraycopy) -/
def mj_mlk : List (Nat × Nat × Nat × Nat × Nat) := [(16, 9, 78, 0, 79), (7, 1, 1000, 0, 82), (5, 3, 1000, 0, 90), (2, 3, 1000, 0, 117), (7, 25, 6, 0, 157), (0, 3, 1000, 0, 160), (6, 3, 1000, 0, 220), (7, 47, 46, 0, 257), (3, 3, 1000, 0, 260), (7, 54, 186, 0, 276), (11, 335, 184, 0, 280), (7, 60, 182, 0, 286), (11, 492, 185, 0, 290), (11, 495, 187, 0, 294), (12, 9, 183, 0, 297), (11, 1059, 192, 0, 302), (11, 498, 188, 0, 305), (13, 67, 189, 0, 308), (13, 48, 191, 0, 311), (13, 414, 183, 0, 314), (13, 71, 190, 0, 315), (7, 64, 25, 0, 324), (7, 68, 39, 0, 328), (2, 34, 26, 0, 332), (2, 59, 32, 0, 336), (2, 63, 27, 0, 339), (2, 76, 42, 0, 343), (2, 67, 33, 0, 347), (2, 70, 28, 0, 350), (2, 80, 43, 0, 354), (2, 84, 49, 0, 358), (2, 88, 40, 0, 373), (2, 92, 186, 0, 377), (2, 98, 182, 0, 378), (2, 73, 48, 0, 379), (2, 48, 35, 0, 382), (2, 116, 38, 0, 386), (2, 119, 30, 0, 390), (2, 52, 29, 0, 394), (2, 102, 36, 0, 397), (2, 109, 41, 0, 400), (2, 106, 37, 0, 404), (2, 112, 34, 0, 408), (7, 71, 50, 0, 411), (5, 34, 1001, 0, 415), (16, 13, 95, 0, 444), (7, 75, 101, 0, 448), (7, 122, 80, 0, 452), (7, 119, 7, 0, 455), (7, 137, 13, 0, 459), (0, 59, 23, 0, 463), (7, 140, 1, 0, 466), (0, 65, 20, 0, 470), (7, 79, 81, 0, 473), (7, 83, 84, 0, 477), (7, 86, 88, 0, 480), (16, 18, 70, 0, 483), (7, 112, 79, 0, 487), (7, 116, 0, 0, 490), (16, 22, 85, 0, 494), (7, 125, 5, 0, 498), (0, 69, 22, 0, 502), (0, 73, 13, 0, 505), (7, 128, 10, 0, 506), (16, 27, 101, 0, 510), (16, 31, 104, 0, 511), (7, 143, 15, 0, 515), (0, 76, 16, 0, 519), (0, 90, 54, 0, 523), (5, 44, 51, 0, 527), (5, 48, 53, 0, 530), (7, 267, 1003, 0, 536), (7, 272, 1002, 0, 539), (0, 82, 24, 0, 542), (7, 146, 9, 0, 545), (7, 149, 12, 0, 549), (16, 35, 102, 0, 553), (16, 40, 72, 0, 557), (16, 44, 100, 0, 561), (16, 49, 75, 0, 565), (16, 53, 83, 0, 569), (7, 158, 8, 0, 573), (0, 96, 10, 0, 579), (0, 102, 9, 0, 582), (0, 105, 12, 0, 583), (16, 57, 103, 0, 584), (7, 161, 18, 0, 588), (0, 112, 15, 0, 593), (0, 114, 8, 0, 594), (16, 61, 89, 0, 595), (7, 164, 14, 0, 599), (0, 117, 1003, 0, 603), (0, 122, 1, 0, 604), (7, 167, 181, 0, 605), (16, 65, 93, 0, 611), (7, 172, 2, 0, 615), (0, 37, 1001, 0, 619), (7, 176, 87, 0, 620), (7, 182, 11, 0, 623), (16, 69, 62, 0, 627), (7, 189, 59, 0, 632), (6, 46, 60, 0, 636), (6, 57, 5, 0, 640), (6, 61, 15, 0, 641), (6, 64, 9, 0, 642), (6, 66, 12, 0, 643), (6, 68, 1002, 0, 644), (6, 53, 58, 0, 645), (6, 73, 56, 0, 648), (6, 80, 1001, 0, 652), (6, 77, 57, 0, 653), (16, 73, 66, 0, 659), (7, 198, 4, 0, 663), (0, 124, 3, 0, 667), (0, 127, 5, 0, 671), (7, 201, 17, 0, 672), (16, 77, 90, 0, 676), (16, 81, 86, 0, 680), (16, 85, 92, 0, 684), (7, 205, 82, 0, 688), (7, 212, 74, 0, 691), (7, 215, 91, 0, 695), (7, 260, 98, 0, 699), (7, 263, 97, 0, 703), (16, 89, 73, 0, 707), (7, 218, 44, 0, 711), (7, 221, 47, 0, 715), (16, 93, 69, 0, 719), (7, 224, 94, 0, 723), (16, 97, 65, 0, 728), (7, 229, 77, 0, 733), (16, 102, 76, 0, 736), (16, 106, 61, 0, 740), (16, 110, 68, 0, 744), (16, 114, 96, 0, 748), (16, 118, 64, 0, 752), (16, 122, 67, 0, 756), (7, 238, 45, 0, 760), (7, 246, 1001, 0, 764), (16, 127, 71, 0, 765), (7, 252, 70, 0, 769), (16, 132, 99, 0, 770), (7, 255, 21, 0, 774), (1, 11, 19, 0, 777), (16, 12, 134, 0, 782), (8, 7, 1000, 0, 785), (8, 81, 170, 0, 786), (16, 17, 168, 0, 965), (8, 91, 133, 0, 970), (8, 118, 137, 0, 973), (8, 97, 138, 0, 977), (8, 101, 135, 0, 981), (8, 122, 141, 0, 985), (8, 125, 174, 0, 994), (8, 154, 153, 0, 999), (8, 159, 109, 0, 1003), (8, 129, 143, 0, 1007), (16, 21, 121, 0, 1011), (16, 26, 148, 0, 1016), (8, 144, 129, 0, 1020), (8, 151, 149, 0, 1024), (8, 147, 176, 0, 1028), (16, 30, 174, 0, 1032), (16, 43, 126, 0, 1033), (16, 48, 173, 0, 1038), (8, 275, 164, 0, 1042), (8, 213, 154, 0, 1046), (8, 176, 113, 0, 1050), (8, 216, 142, 0, 1058), (8, 204, 136, 0, 1062), (8, 271, 161, 0, 1066), (8, 210, 125, 0, 1070), (8, 249, 123, 0, 1074), (8, 268, 112, 0, 1078), (8, 260, 156, 0, 1082), (8, 241, 158, 0, 1086), (8, 263, 105, 0, 1090), (8, 255, 172, 0, 1094), (8, 245, 107, 0, 1098), (8, 238, 140, 0, 1102), (8, 252, 152, 0, 1106), (16, 52, 130, 0, 1112), (16, 34, 180, 0, 1116), (8, 287, 162, 0, 1121), (8, 282, 106, 0, 1125), (8, 278, 177, 0, 1129), (16, 39, 175, 0, 1132), (16, 56, 146, 0, 1136), (8, 296, 131, 0, 1140), (8, 299, 147, 0, 1144), (8, 290, 157, 0, 1148), (8, 293, 159, 0, 1151), (16, 60, 178, 0, 1154), (8, 302, 179, 0, 1158), (16, 64, 155, 0, 1162), (8, 317, 110, 0, 1166), (8, 320, 151, 0, 1170), (16, 68, 166, 0, 1174), (8, 338, 144, 0, 1179), (8, 341, 145, 0, 1183), (16, 72, 111, 0, 1187), (8, 350, 167, 0, 1192), (16, 76, 116, 0, 1196), (8, 354, 178, 0, 1200), (8, 357, 124, 0, 1201), (16, 80, 163, 0, 1205), (16, 84, 150, 0, 1209), (16, 88, 165, 0, 1213), (8, 361, 139, 0, 1217), (8, 364, 128, 0, 1220), (16, 92, 127, 0, 1224), (8, 367, 169, 0, 1228), (16, 96, 119, 0, 1234), (8, 371, 120, 0, 1238), (16, 101, 115, 0, 1243), (16, 105, 132, 0, 1248), (16, 109, 108, 0, 1252), (16, 113, 118, 0, 1256), (16, 117, 169, 0, 1260), (16, 121, 114, 0, 1261), (16, 126, 117, 0, 1265), (16, 131, 122, 0, 1269), (8, 392, 121, 0, 1273), (16, 135, 171, 0, 1274), (8, 395, 160, 0, 1278), (7, 9, 52, 1, 87), (7, 18, 31, 1, 114), (7, 40, 55, 1, 217), (0, 79, 63, 1, 533), (0, 108, 80, 1, 592)]
def mj_y (i : Nat) : MethodName := bif Nat.blt i 193 then (bif Nat.blt i 97 then (bif Nat.blt i 49 then (bif Nat.blt i 25 then (bif Nat.blt i 13 then (bif Nat.blt i 7 then (bif Nat.blt i 4 then (bif Nat.blt i 2 then (bif Nat.blt i 1 then yX0_add else yX0_bears) else (bif Nat.blt i 3 then yX0_become else yX0_canCome)) else (bif Nat.blt i 6 then (bif Nat.blt i 5 then yX0_canSwap else yX0_fits) else yX0_init)) else (bif Nat.blt i 10 then (bif Nat.blt i 9 then (bif Nat.blt i 8 then yX0_isDream else yX0_leakOf) else yX0_leaks) else (bif Nat.blt i 12 then (bif Nat.blt i 11 then yX0_lodger else yX0_lodgers) else yX0_minds))) else (bif Nat.blt i 19 then (bif Nat.blt i 16 then (bif Nat.blt i 15 then (bif Nat.blt i 14 then yX0_needs else yX0_passNight) else yX0_pays) else (bif Nat.blt i 18 then (bif Nat.blt i 17 then yX0_reckon else yX0_swap) else yX0_worthNow)) else (bif Nat.blt i 22 then (bif Nat.blt i 21 then (bif Nat.blt i 20 then yX1_above else yX1_bears) else yX1_isUnder) else (bif Nat.blt i 24 then (bif Nat.blt i 23 then yX1_lies else yX1_needs) else yX1_pays)))) else (bif Nat.blt i 37 then (bif Nat.blt i 31 then (bif Nat.blt i 28 then (bif Nat.blt i 27 then (bif Nat.blt i 26 then yX2_append else yX2_cut) else yX2_cutNumber) else (bif Nat.blt i 30 then (bif Nat.blt i 29 then yX2_cutWord else yX2_expression) else yX2_fail)) else (bif Nat.blt i 34 then (bif Nat.blt i 33 then (bif Nat.blt i 32 then yX2_init else yX2_isDigit) else yX2_isLetter) else (bif Nat.blt i 36 then (bif Nat.blt i 35 then yX2_joins else yX2_need) else yX2_one))) else (bif Nat.blt i 43 then (bif Nat.blt i 40 then (bif Nat.blt i 39 then (bif Nat.blt i 38 then yX2_opens else yX2_pass) else yX2_read) else (bif Nat.blt i 42 then (bif Nat.blt i 41 then yX2_stands else yX2_step) else yX2_token)) else (bif Nat.blt i 46 then (bif Nat.blt i 45 then (bif Nat.blt i 44 then yX2_wordAt else yX3_become) else yX3_holds) else (bif Nat.blt i 48 then (bif Nat.blt i 47 then yX3_init else yX3_put) else yX4_isSign))))) else (bif Nat.blt i 73 then (bif Nat.blt i 61 then (bif Nat.blt i 55 then (bif Nat.blt i 52 then (bif Nat.blt i 51 then (bif Nat.blt i 50 then yX4_word else yX5_add) else yX5_alone) else (bif Nat.blt i 54 then (bif Nat.blt i 53 then yX5_init else yX5_together) else yX5_value)) else (bif Nat.blt i 58 then (bif Nat.blt i 57 then (bif Nat.blt i 56 then yX6_init else yX6_keepIfBetter) else yX6_leakWith) else (bif Nat.blt i 60 then (bif Nat.blt i 59 then yX6_place else yX6_seek) else yX6_weigh))) else (bif Nat.blt i 67 then (bif Nat.blt i 64 then (bif Nat.blt i 63 then (bif Nat.blt i 62 then yX7_back else yX7_best) else yX7_bounded) else (bif Nat.blt i 66 then (bif Nat.blt i 65 then yX7_cell else yX7_chance) else yX7_change)) else (bif Nat.blt i 70 then (bif Nat.blt i 69 then (bif Nat.blt i 68 then yX7_copy else yX7_count) else yX7_drawn) else (bif Nat.blt i 72 then (bif Nat.blt i 71 then yX7_dream else yX7_dreams) else yX7_feed)))) else (bif Nat.blt i 85 then (bif Nat.blt i 79 then (bif Nat.blt i 76 then (bif Nat.blt i 75 then (bif Nat.blt i 74 then yX7_film else yX7_firstOtherwise) else yX7_force) else (bif Nat.blt i 78 then (bif Nat.blt i 77 then yX7_image else yX7_inLowestTerms) else yX7_init)) else (bif Nat.blt i 82 then (bif Nat.blt i 81 then (bif Nat.blt i 80 then yX7_isKind else yX7_isRoom) else yX7_isSettable) else (bif Nat.blt i 84 then (bif Nat.blt i 83 then yX7_isSheet else yX7_leak) else yX7_leastOf))) else (bif Nat.blt i 91 then (bif Nat.blt i 88 then (bif Nat.blt i 87 then (bif Nat.blt i 86 then yX7_let else yX7_line) else yX7_lowestBit) else (bif Nat.blt i 90 then (bif Nat.blt i 89 then yX7_mostOf else yX7_night) else yX7_putOut)) else (bif Nat.blt i 94 then (bif Nat.blt i 93 then (bif Nat.blt i 92 then yX7_readBack else yX7_rents) else yX7_run) else (bif Nat.blt i 96 then (bif Nat.blt i 95 then yX7_runDrawn else yX7_set) else yX7_sheet)))))) else (bif Nat.blt i 145 then (bif Nat.blt i 121 then (bif Nat.blt i 109 then (bif Nat.blt i 103 then (bif Nat.blt i 100 then (bif Nat.blt i 99 then (bif Nat.blt i 98 then yX7_suppose else yX7_supposedEnd) else yX7_taken) else (bif Nat.blt i 102 then (bif Nat.blt i 101 then yX7_text else yX7_told) else yX7_who)) else (bif Nat.blt i 106 then (bif Nat.blt i 105 then (bif Nat.blt i 104 then yX7_worth else yX7_would) else yX8_added) else (bif Nat.blt i 108 then (bif Nat.blt i 107 then yX8_asks else yX8_atom) else yX8_back))) else (bif Nat.blt i 115 then (bif Nat.blt i 112 then (bif Nat.blt i 111 then (bif Nat.blt i 110 then yX8_bearsOf else yX8_begins) else yX8_best) else (bif Nat.blt i 114 then (bif Nat.blt i 113 then yX8_both else yX8_byteAt) else yX8_cell)) else (bif Nat.blt i 118 then (bif Nat.blt i 117 then (bif Nat.blt i 116 then yX8_chance else yX8_change) else yX8_copy) else (bif Nat.blt i 120 then (bif Nat.blt i 119 then yX8_count else yX8_drawn) else yX8_draws)))) else (bif Nat.blt i 133 then (bif Nat.blt i 127 then (bif Nat.blt i 124 then (bif Nat.blt i 123 then (bif Nat.blt i 122 then yX8_dream else yX8_dreams) else yX8_either) else (bif Nat.blt i 126 then (bif Nat.blt i 125 then yX8_exchanges else yX8_fail) else yX8_feed)) else (bif Nat.blt i 130 then (bif Nat.blt i 129 then (bif Nat.blt i 128 then yX8_film else yX8_firstOther) else yX8_fits) else (bif Nat.blt i 132 then (bif Nat.blt i 131 then yX8_force else yX8_gathers) else yX8_image))) else (bif Nat.blt i 139 then (bif Nat.blt i 136 then (bif Nat.blt i 135 then (bif Nat.blt i 134 then yX8_in else yX8_init) else yX8_isDream) else (bif Nat.blt i 138 then (bif Nat.blt i 137 then yX8_isLetter else yX8_isOf) else yX8_isRoom)) else (bif Nat.blt i 142 then (bif Nat.blt i 141 then (bif Nat.blt i 140 then yX8_isSheet else yX8_isSign) else yX8_isValue) else (bif Nat.blt i 144 then (bif Nat.blt i 143 then yX8_isWord else yX8_lays) else yX8_laysAside))))) else (bif Nat.blt i 169 then (bif Nat.blt i 157 then (bif Nat.blt i 151 then (bif Nat.blt i 148 then (bif Nat.blt i 147 then (bif Nat.blt i 146 then yX8_laysBack else yX8_leak) else yX8_leakOf) else (bif Nat.blt i 150 then (bif Nat.blt i 149 then yX8_let else yX8_liesOn) else yX8_line)) else (bif Nat.blt i 154 then (bif Nat.blt i 153 then (bif Nat.blt i 152 then yX8_lives else yX8_name) else yX8_needsOf) else (bif Nat.blt i 156 then (bif Nat.blt i 155 then yX8_next else yX8_night) else yX8_not))) else (bif Nat.blt i 163 then (bif Nat.blt i 160 then (bif Nat.blt i 159 then (bif Nat.blt i 158 then yX8_oneSide else yX8_opens) else yX8_otherSide) else (bif Nat.blt i 162 then (bif Nat.blt i 161 then yX8_over else yX8_part) else yX8_paysIn)) else (bif Nat.blt i 166 then (bif Nat.blt i 165 then (bif Nat.blt i 164 then yX8_putOut else yX8_read) else yX8_rents) else (bif Nat.blt i 168 then (bif Nat.blt i 167 then yX8_run else yX8_seeks) else yX8_set)))) else (bif Nat.blt i 181 then (bif Nat.blt i 175 then (bif Nat.blt i 172 then (bif Nat.blt i 171 then (bif Nat.blt i 170 then yX8_sheet else yX8_spell) else yX8_taken) else (bif Nat.blt i 174 then (bif Nat.blt i 173 then yX8_term else yX8_text) else yX8_told)) else (bif Nat.blt i 178 then (bif Nat.blt i 177 then (bif Nat.blt i 176 then yX8_who else yX8_whoIn) else yX8_within) else (bif Nat.blt i 180 then (bif Nat.blt i 179 then yX8_worth else yX8_worthNow) else yX8_would))) else (bif Nat.blt i 187 then (bif Nat.blt i 184 then (bif Nat.blt i 183 then (bif Nat.blt i 182 then yJ6_bitCount_0f7a4 else yJ0_charAt_5068e) else yJ0_checkIndex_df160) else (bif Nat.blt i 186 then (bif Nat.blt i 185 then yJ0_coder_7d493 else yJ0_isLatin1_aae02) else yJ0_length_8abf5)) else (bif Nat.blt i 190 then (bif Nat.blt i 189 then (bif Nat.blt i 188 then yJ1_charAt_3b067 else yJ2_charAt_3b067) else yJ2_checkIndex_2214a) else (bif Nat.blt i 192 then (bif Nat.blt i 191 then yJ2_getChar_3b067 else yJ2_length_9d52b) else yJ3_checkIndex_8e157))))))) else yX0_add
def mj_cc (i : Nat) : ByteArray := bif Nat.blt i 193 then (bif Nat.blt i 97 then (bif Nat.blt i 49 then (bif Nat.blt i 25 then (bif Nat.blt i 13 then (bif Nat.blt i 7 then (bif Nat.blt i 4 then (bif Nat.blt i 2 then (bif Nat.blt i 1 then cX0_add else cX0_bears) else (bif Nat.blt i 3 then cX0_become else cX0_canCome)) else (bif Nat.blt i 6 then (bif Nat.blt i 5 then cX0_canSwap else cX0_fits) else cX0_init)) else (bif Nat.blt i 10 then (bif Nat.blt i 9 then (bif Nat.blt i 8 then cX0_isDream else cX0_leakOf) else cX0_leaks) else (bif Nat.blt i 12 then (bif Nat.blt i 11 then cX0_lodger else cX0_lodgers) else cX0_minds))) else (bif Nat.blt i 19 then (bif Nat.blt i 16 then (bif Nat.blt i 15 then (bif Nat.blt i 14 then cX0_needs else cX0_passNight) else cX0_pays) else (bif Nat.blt i 18 then (bif Nat.blt i 17 then cX0_reckon else cX0_swap) else cX0_worthNow)) else (bif Nat.blt i 22 then (bif Nat.blt i 21 then (bif Nat.blt i 20 then cX1_above else cX1_bears) else cX1_isUnder) else (bif Nat.blt i 24 then (bif Nat.blt i 23 then cX1_lies else cX1_needs) else cX1_pays)))) else (bif Nat.blt i 37 then (bif Nat.blt i 31 then (bif Nat.blt i 28 then (bif Nat.blt i 27 then (bif Nat.blt i 26 then cX2_append else cX2_cut) else cX2_cutNumber) else (bif Nat.blt i 30 then (bif Nat.blt i 29 then cX2_cutWord else cX2_expression) else cX2_fail)) else (bif Nat.blt i 34 then (bif Nat.blt i 33 then (bif Nat.blt i 32 then cX2_init else cX2_isDigit) else cX2_isLetter) else (bif Nat.blt i 36 then (bif Nat.blt i 35 then cX2_joins else cX2_need) else cX2_one))) else (bif Nat.blt i 43 then (bif Nat.blt i 40 then (bif Nat.blt i 39 then (bif Nat.blt i 38 then cX2_opens else cX2_pass) else cX2_read) else (bif Nat.blt i 42 then (bif Nat.blt i 41 then cX2_stands else cX2_step) else cX2_token)) else (bif Nat.blt i 46 then (bif Nat.blt i 45 then (bif Nat.blt i 44 then cX2_wordAt else cX3_become) else cX3_holds) else (bif Nat.blt i 48 then (bif Nat.blt i 47 then cX3_init else cX3_put) else cX4_isSign))))) else (bif Nat.blt i 73 then (bif Nat.blt i 61 then (bif Nat.blt i 55 then (bif Nat.blt i 52 then (bif Nat.blt i 51 then (bif Nat.blt i 50 then cX4_word else cX5_add) else cX5_alone) else (bif Nat.blt i 54 then (bif Nat.blt i 53 then cX5_init else cX5_together) else cX5_value)) else (bif Nat.blt i 58 then (bif Nat.blt i 57 then (bif Nat.blt i 56 then cX6_init else cX6_keepIfBetter) else cX6_leakWith) else (bif Nat.blt i 60 then (bif Nat.blt i 59 then cX6_place else cX6_seek) else cX6_weigh))) else (bif Nat.blt i 67 then (bif Nat.blt i 64 then (bif Nat.blt i 63 then (bif Nat.blt i 62 then cX7_back else cX7_best) else cX7_bounded) else (bif Nat.blt i 66 then (bif Nat.blt i 65 then cX7_cell else cX7_chance) else cX7_change)) else (bif Nat.blt i 70 then (bif Nat.blt i 69 then (bif Nat.blt i 68 then cX7_copy else cX7_count) else cX7_drawn) else (bif Nat.blt i 72 then (bif Nat.blt i 71 then cX7_dream else cX7_dreams) else cX7_feed)))) else (bif Nat.blt i 85 then (bif Nat.blt i 79 then (bif Nat.blt i 76 then (bif Nat.blt i 75 then (bif Nat.blt i 74 then cX7_film else cX7_firstOtherwise) else cX7_force) else (bif Nat.blt i 78 then (bif Nat.blt i 77 then cX7_image else cX7_inLowestTerms) else cX7_init)) else (bif Nat.blt i 82 then (bif Nat.blt i 81 then (bif Nat.blt i 80 then cX7_isKind else cX7_isRoom) else cX7_isSettable) else (bif Nat.blt i 84 then (bif Nat.blt i 83 then cX7_isSheet else cX7_leak) else cX7_leastOf))) else (bif Nat.blt i 91 then (bif Nat.blt i 88 then (bif Nat.blt i 87 then (bif Nat.blt i 86 then cX7_let else cX7_line) else cX7_lowestBit) else (bif Nat.blt i 90 then (bif Nat.blt i 89 then cX7_mostOf else cX7_night) else cX7_putOut)) else (bif Nat.blt i 94 then (bif Nat.blt i 93 then (bif Nat.blt i 92 then cX7_readBack else cX7_rents) else cX7_run) else (bif Nat.blt i 96 then (bif Nat.blt i 95 then cX7_runDrawn else cX7_set) else cX7_sheet)))))) else (bif Nat.blt i 145 then (bif Nat.blt i 121 then (bif Nat.blt i 109 then (bif Nat.blt i 103 then (bif Nat.blt i 100 then (bif Nat.blt i 99 then (bif Nat.blt i 98 then cX7_suppose else cX7_supposedEnd) else cX7_taken) else (bif Nat.blt i 102 then (bif Nat.blt i 101 then cX7_text else cX7_told) else cX7_who)) else (bif Nat.blt i 106 then (bif Nat.blt i 105 then (bif Nat.blt i 104 then cX7_worth else cX7_would) else cX8_added) else (bif Nat.blt i 108 then (bif Nat.blt i 107 then cX8_asks else cX8_atom) else cX8_back))) else (bif Nat.blt i 115 then (bif Nat.blt i 112 then (bif Nat.blt i 111 then (bif Nat.blt i 110 then cX8_bearsOf else cX8_begins) else cX8_best) else (bif Nat.blt i 114 then (bif Nat.blt i 113 then cX8_both else cX8_byteAt) else cX8_cell)) else (bif Nat.blt i 118 then (bif Nat.blt i 117 then (bif Nat.blt i 116 then cX8_chance else cX8_change) else cX8_copy) else (bif Nat.blt i 120 then (bif Nat.blt i 119 then cX8_count else cX8_drawn) else cX8_draws)))) else (bif Nat.blt i 133 then (bif Nat.blt i 127 then (bif Nat.blt i 124 then (bif Nat.blt i 123 then (bif Nat.blt i 122 then cX8_dream else cX8_dreams) else cX8_either) else (bif Nat.blt i 126 then (bif Nat.blt i 125 then cX8_exchanges else cX8_fail) else cX8_feed)) else (bif Nat.blt i 130 then (bif Nat.blt i 129 then (bif Nat.blt i 128 then cX8_film else cX8_firstOther) else cX8_fits) else (bif Nat.blt i 132 then (bif Nat.blt i 131 then cX8_force else cX8_gathers) else cX8_image))) else (bif Nat.blt i 139 then (bif Nat.blt i 136 then (bif Nat.blt i 135 then (bif Nat.blt i 134 then cX8_in else cX8_init) else cX8_isDream) else (bif Nat.blt i 138 then (bif Nat.blt i 137 then cX8_isLetter else cX8_isOf) else cX8_isRoom)) else (bif Nat.blt i 142 then (bif Nat.blt i 141 then (bif Nat.blt i 140 then cX8_isSheet else cX8_isSign) else cX8_isValue) else (bif Nat.blt i 144 then (bif Nat.blt i 143 then cX8_isWord else cX8_lays) else cX8_laysAside))))) else (bif Nat.blt i 169 then (bif Nat.blt i 157 then (bif Nat.blt i 151 then (bif Nat.blt i 148 then (bif Nat.blt i 147 then (bif Nat.blt i 146 then cX8_laysBack else cX8_leak) else cX8_leakOf) else (bif Nat.blt i 150 then (bif Nat.blt i 149 then cX8_let else cX8_liesOn) else cX8_line)) else (bif Nat.blt i 154 then (bif Nat.blt i 153 then (bif Nat.blt i 152 then cX8_lives else cX8_name) else cX8_needsOf) else (bif Nat.blt i 156 then (bif Nat.blt i 155 then cX8_next else cX8_night) else cX8_not))) else (bif Nat.blt i 163 then (bif Nat.blt i 160 then (bif Nat.blt i 159 then (bif Nat.blt i 158 then cX8_oneSide else cX8_opens) else cX8_otherSide) else (bif Nat.blt i 162 then (bif Nat.blt i 161 then cX8_over else cX8_part) else cX8_paysIn)) else (bif Nat.blt i 166 then (bif Nat.blt i 165 then (bif Nat.blt i 164 then cX8_putOut else cX8_read) else cX8_rents) else (bif Nat.blt i 168 then (bif Nat.blt i 167 then cX8_run else cX8_seeks) else cX8_set)))) else (bif Nat.blt i 181 then (bif Nat.blt i 175 then (bif Nat.blt i 172 then (bif Nat.blt i 171 then (bif Nat.blt i 170 then cX8_sheet else cX8_spell) else cX8_taken) else (bif Nat.blt i 174 then (bif Nat.blt i 173 then cX8_term else cX8_text) else cX8_told)) else (bif Nat.blt i 178 then (bif Nat.blt i 177 then (bif Nat.blt i 176 then cX8_who else cX8_whoIn) else cX8_within) else (bif Nat.blt i 180 then (bif Nat.blt i 179 then cX8_worth else cX8_worthNow) else cX8_would))) else (bif Nat.blt i 187 then (bif Nat.blt i 184 then (bif Nat.blt i 183 then (bif Nat.blt i 182 then cJ6_bitCount_0f7a4 else cJ0_charAt_5068e) else cJ0_checkIndex_df160) else (bif Nat.blt i 186 then (bif Nat.blt i 185 then cJ0_coder_7d493 else cJ0_isLatin1_aae02) else cJ0_length_8abf5)) else (bif Nat.blt i 190 then (bif Nat.blt i 189 then (bif Nat.blt i 188 then cJ1_charAt_3b067 else cJ2_charAt_3b067) else cJ2_checkIndex_2214a) else (bif Nat.blt i 192 then (bif Nat.blt i 191 then cJ2_getChar_3b067 else cJ2_length_9d52b) else cJ3_checkIndex_8e157))))))) else cX0_add
def mj_ml (i : Nat) : Nat := bif Nat.blt i 193 then (bif Nat.blt i 97 then (bif Nat.blt i 49 then (bif Nat.blt i 25 then (bif Nat.blt i 13 then (bif Nat.blt i 7 then (bif Nat.blt i 4 then (bif Nat.blt i 2 then (bif Nat.blt i 1 then 5 else 2) else (bif Nat.blt i 3 then 2 else 3)) else (bif Nat.blt i 6 then (bif Nat.blt i 5 then 3 else 3) else 3)) else (bif Nat.blt i 10 then (bif Nat.blt i 9 then (bif Nat.blt i 8 then 2 else 4) else 3) else (bif Nat.blt i 12 then (bif Nat.blt i 11 then 3 else 3) else 3))) else (bif Nat.blt i 19 then (bif Nat.blt i 16 then (bif Nat.blt i 15 then (bif Nat.blt i 14 then 2 else 4) else 4) else (bif Nat.blt i 18 then (bif Nat.blt i 17 then 5 else 4) else 3)) else (bif Nat.blt i 22 then (bif Nat.blt i 21 then (bif Nat.blt i 20 then 1 else 2) else 4) else (bif Nat.blt i 24 then (bif Nat.blt i 23 then 2 else 3) else 3)))) else (bif Nat.blt i 37 then (bif Nat.blt i 31 then (bif Nat.blt i 28 then (bif Nat.blt i 27 then (bif Nat.blt i 26 then 2 else 4) else 4) else (bif Nat.blt i 30 then (bif Nat.blt i 29 then 4 else 6) else 1)) else (bif Nat.blt i 34 then (bif Nat.blt i 33 then (bif Nat.blt i 32 then 1 else 1) else 1) else (bif Nat.blt i 36 then (bif Nat.blt i 35 then 2 else 2) else 3))) else (bif Nat.blt i 43 then (bif Nat.blt i 40 then (bif Nat.blt i 39 then (bif Nat.blt i 38 then 2 else 1) else 2) else (bif Nat.blt i 42 then (bif Nat.blt i 41 then 5 else 2) else 4)) else (bif Nat.blt i 46 then (bif Nat.blt i 45 then (bif Nat.blt i 44 then 4 else 5) else 4) else (bif Nat.blt i 48 then (bif Nat.blt i 47 then 2 else 4) else 1))))) else (bif Nat.blt i 73 then (bif Nat.blt i 61 then (bif Nat.blt i 55 then (bif Nat.blt i 52 then (bif Nat.blt i 51 then (bif Nat.blt i 50 then 1 else 2) else 2) else (bif Nat.blt i 54 then (bif Nat.blt i 53 then 1 else 3) else 8)) else (bif Nat.blt i 58 then (bif Nat.blt i 57 then (bif Nat.blt i 56 then 1 else 2) else 7) else (bif Nat.blt i 60 then (bif Nat.blt i 59 then 5 else 3) else 5))) else (bif Nat.blt i 67 then (bif Nat.blt i 64 then (bif Nat.blt i 63 then (bif Nat.blt i 62 then 1 else 2) else 2) else (bif Nat.blt i 66 then (bif Nat.blt i 65 then 4 else 6) else 7)) else (bif Nat.blt i 70 then (bif Nat.blt i 69 then (bif Nat.blt i 68 then 6 else 2) else 2) else (bif Nat.blt i 72 then (bif Nat.blt i 71 then 4 else 9) else 2)))) else (bif Nat.blt i 85 then (bif Nat.blt i 79 then (bif Nat.blt i 76 then (bif Nat.blt i 75 then (bif Nat.blt i 74 then 4 else 4) else 3) else (bif Nat.blt i 78 then (bif Nat.blt i 77 then 1 else 4) else 2)) else (bif Nat.blt i 82 then (bif Nat.blt i 81 then (bif Nat.blt i 80 then 1 else 1) else 3) else (bif Nat.blt i 84 then (bif Nat.blt i 83 then 1 else 2) else 1))) else (bif Nat.blt i 91 then (bif Nat.blt i 88 then (bif Nat.blt i 87 then (bif Nat.blt i 86 then 4 else 7) else 2) else (bif Nat.blt i 90 then (bif Nat.blt i 89 then 1 else 1) else 6)) else (bif Nat.blt i 94 then (bif Nat.blt i 93 then (bif Nat.blt i 92 then 9 else 4) else 8) else (bif Nat.blt i 96 then (bif Nat.blt i 95 then 5 else 5) else 4)))))) else (bif Nat.blt i 145 then (bif Nat.blt i 121 then (bif Nat.blt i 109 then (bif Nat.blt i 103 then (bif Nat.blt i 100 then (bif Nat.blt i 99 then (bif Nat.blt i 98 then 4 else 2) else 3) else (bif Nat.blt i 102 then (bif Nat.blt i 101 then 2 else 3) else 2)) else (bif Nat.blt i 106 then (bif Nat.blt i 105 then (bif Nat.blt i 104 then 1 else 4) else 4) else (bif Nat.blt i 108 then (bif Nat.blt i 107 then 4 else 2) else 2))) else (bif Nat.blt i 115 then (bif Nat.blt i 112 then (bif Nat.blt i 111 then (bif Nat.blt i 110 then 4 else 1) else 3) else (bif Nat.blt i 114 then (bif Nat.blt i 113 then 3 else 2) else 4)) else (bif Nat.blt i 118 then (bif Nat.blt i 117 then (bif Nat.blt i 116 then 12 else 7) else 9) else (bif Nat.blt i 120 then (bif Nat.blt i 119 then 4 else 2) else 4)))) else (bif Nat.blt i 133 then (bif Nat.blt i 127 then (bif Nat.blt i 124 then (bif Nat.blt i 123 then (bif Nat.blt i 122 then 4 else 8) else 3) else (bif Nat.blt i 126 then (bif Nat.blt i 125 then 4 else 1) else 2)) else (bif Nat.blt i 130 then (bif Nat.blt i 129 then (bif Nat.blt i 128 then 4 else 4) else 3) else (bif Nat.blt i 132 then (bif Nat.blt i 131 then 3 else 3) else 2))) else (bif Nat.blt i 139 then (bif Nat.blt i 136 then (bif Nat.blt i 135 then (bif Nat.blt i 134 then 6 else 2) else 2) else (bif Nat.blt i 138 then (bif Nat.blt i 137 then 3 else 3) else 1)) else (bif Nat.blt i 142 then (bif Nat.blt i 141 then (bif Nat.blt i 140 then 1 else 2) else 2) else (bif Nat.blt i 144 then (bif Nat.blt i 143 then 9 else 4) else 2))))) else (bif Nat.blt i 169 then (bif Nat.blt i 157 then (bif Nat.blt i 151 then (bif Nat.blt i 148 then (bif Nat.blt i 147 then (bif Nat.blt i 146 then 2 else 2) else 6) else (bif Nat.blt i 150 then (bif Nat.blt i 149 then 4 else 4) else 7)) else (bif Nat.blt i 154 then (bif Nat.blt i 153 then (bif Nat.blt i 152 then 5 else 1) else 4) else (bif Nat.blt i 156 then (bif Nat.blt i 155 then 3 else 1) else 4))) else (bif Nat.blt i 163 then (bif Nat.blt i 160 then (bif Nat.blt i 159 then (bif Nat.blt i 158 then 1 else 1) else 1) else (bif Nat.blt i 162 then (bif Nat.blt i 161 then 1 else 3) else 7)) else (bif Nat.blt i 166 then (bif Nat.blt i 165 then (bif Nat.blt i 164 then 7 else 6) else 12) else (bif Nat.blt i 168 then (bif Nat.blt i 167 then 4 else 4) else 5)))) else (bif Nat.blt i 181 then (bif Nat.blt i 175 then (bif Nat.blt i 172 then (bif Nat.blt i 171 then (bif Nat.blt i 170 then 5 else 10) else 4) else (bif Nat.blt i 174 then (bif Nat.blt i 173 then 2 else 2) else 3)) else (bif Nat.blt i 178 then (bif Nat.blt i 177 then (bif Nat.blt i 176 then 2 else 3) else 3) else (bif Nat.blt i 180 then (bif Nat.blt i 179 then 1 else 3) else 4))) else (bif Nat.blt i 187 then (bif Nat.blt i 184 then (bif Nat.blt i 183 then (bif Nat.blt i 182 then 1 else 2) else 2) else (bif Nat.blt i 186 then (bif Nat.blt i 185 then 1 else 1) else 1)) else (bif Nat.blt i 190 then (bif Nat.blt i 189 then (bif Nat.blt i 188 then 2 else 2) else 2) else (bif Nat.blt i 192 then (bif Nat.blt i 191 then 2 else 1) else 3))))))) else 0
def mj_rt (i : Nat) : Option FieldType := bif Nat.blt i 193 then (bif Nat.blt i 97 then (bif Nat.blt i 49 then (bif Nat.blt i 25 then (bif Nat.blt i 13 then (bif Nat.blt i 7 then (bif Nat.blt i 4 then (bif Nat.blt i 2 then (bif Nat.blt i 1 then (some .int) else (some .int)) else (bif Nat.blt i 3 then none else (some .boolean))) else (bif Nat.blt i 6 then (bif Nat.blt i 5 then (some .boolean) else (some .boolean)) else none)) else (bif Nat.blt i 10 then (bif Nat.blt i 9 then (bif Nat.blt i 8 then (some .boolean) else (some .int)) else (some .int)) else (bif Nat.blt i 12 then (bif Nat.blt i 11 then (some .int) else (some .int)) else (some .int)))) else (bif Nat.blt i 19 then (bif Nat.blt i 16 then (bif Nat.blt i 15 then (bif Nat.blt i 14 then (some .int) else (some .int)) else (some .int)) else (bif Nat.blt i 18 then (bif Nat.blt i 17 then (some .int) else none) else (some .int))) else (bif Nat.blt i 22 then (bif Nat.blt i 21 then (bif Nat.blt i 20 then (some .int) else (some .int)) else (some .boolean)) else (bif Nat.blt i 24 then (bif Nat.blt i 23 then (some .boolean) else (some .int)) else (some .int))))) else (bif Nat.blt i 37 then (bif Nat.blt i 31 then (bif Nat.blt i 28 then (bif Nat.blt i 27 then (bif Nat.blt i 26 then (some .int) else none) else (some .int)) else (bif Nat.blt i 30 then (bif Nat.blt i 29 then (some .int) else none) else none)) else (bif Nat.blt i 34 then (bif Nat.blt i 33 then (bif Nat.blt i 32 then none else (some .boolean)) else (some .boolean)) else (bif Nat.blt i 36 then (bif Nat.blt i 35 then (some .boolean) else none) else none))) else (bif Nat.blt i 43 then (bif Nat.blt i 40 then (bif Nat.blt i 39 then (bif Nat.blt i 38 then (some .boolean) else none) else (some .int)) else (bif Nat.blt i 42 then (bif Nat.blt i 41 then (some .boolean) else none) else none)) else (bif Nat.blt i 46 then (bif Nat.blt i 45 then (bif Nat.blt i 44 then (some .int) else none) else (some .boolean)) else (bif Nat.blt i 48 then (bif Nat.blt i 47 then none else none) else (some .boolean)))))) else (bif Nat.blt i 73 then (bif Nat.blt i 61 then (bif Nat.blt i 55 then (bif Nat.blt i 52 then (bif Nat.blt i 51 then (bif Nat.blt i 50 then (some (.object "java/lang/String")) else (some .int)) else (some .int)) else (bif Nat.blt i 54 then (bif Nat.blt i 53 then none else (some .int)) else (some .int))) else (bif Nat.blt i 58 then (bif Nat.blt i 57 then (bif Nat.blt i 56 then none else none) else (some .int)) else (bif Nat.blt i 60 then (bif Nat.blt i 59 then none else none) else (some .int)))) else (bif Nat.blt i 67 then (bif Nat.blt i 64 then (bif Nat.blt i 63 then (bif Nat.blt i 62 then (some .int) else (some .int)) else (some .int)) else (bif Nat.blt i 66 then (bif Nat.blt i 65 then (some .int) else (some .long)) else (some .int))) else (bif Nat.blt i 70 then (bif Nat.blt i 69 then (bif Nat.blt i 68 then (some .int) else (some .int)) else (some .int)) else (bif Nat.blt i 72 then (bif Nat.blt i 71 then (some .int) else (some .int)) else (some .int))))) else (bif Nat.blt i 85 then (bif Nat.blt i 79 then (bif Nat.blt i 76 then (bif Nat.blt i 75 then (bif Nat.blt i 74 then (some .int) else (some .int)) else (some .int)) else (bif Nat.blt i 78 then (bif Nat.blt i 77 then (some .int) else (some .int)) else none)) else (bif Nat.blt i 82 then (bif Nat.blt i 81 then (bif Nat.blt i 80 then (some .boolean) else (some .boolean)) else (some .boolean)) else (bif Nat.blt i 84 then (bif Nat.blt i 83 then (some .boolean) else (some .int)) else (some .int)))) else (bif Nat.blt i 91 then (bif Nat.blt i 88 then (bif Nat.blt i 87 then (bif Nat.blt i 86 then (some .int) else (some .int)) else (some .int)) else (bif Nat.blt i 90 then (bif Nat.blt i 89 then (some .int) else (some .int)) else (some .int))) else (bif Nat.blt i 94 then (bif Nat.blt i 93 then (bif Nat.blt i 92 then (some .int) else (some .int)) else (some .int)) else (bif Nat.blt i 96 then (bif Nat.blt i 95 then (some .boolean) else (some .int)) else (some .int))))))) else (bif Nat.blt i 145 then (bif Nat.blt i 121 then (bif Nat.blt i 109 then (bif Nat.blt i 103 then (bif Nat.blt i 100 then (bif Nat.blt i 99 then (bif Nat.blt i 98 then none else (some .int)) else (some .int)) else (bif Nat.blt i 102 then (bif Nat.blt i 101 then (some .int) else (some .int)) else (some .int))) else (bif Nat.blt i 106 then (bif Nat.blt i 105 then (bif Nat.blt i 104 then (some .int) else (some .int)) else (some .int)) else (bif Nat.blt i 108 then (bif Nat.blt i 107 then (some .int) else (some .int)) else (some .int)))) else (bif Nat.blt i 115 then (bif Nat.blt i 112 then (bif Nat.blt i 111 then (bif Nat.blt i 110 then (some .int) else none) else (some .int)) else (bif Nat.blt i 114 then (bif Nat.blt i 113 then (some .int) else (some .int)) else (some .int))) else (bif Nat.blt i 118 then (bif Nat.blt i 117 then (bif Nat.blt i 116 then (some .long) else (some .int)) else (some .int)) else (bif Nat.blt i 120 then (bif Nat.blt i 119 then (some .int) else (some .int)) else none)))) else (bif Nat.blt i 133 then (bif Nat.blt i 127 then (bif Nat.blt i 124 then (bif Nat.blt i 123 then (bif Nat.blt i 122 then (some .int) else (some .int)) else (some .int)) else (bif Nat.blt i 126 then (bif Nat.blt i 125 then none else none) else (some .int))) else (bif Nat.blt i 130 then (bif Nat.blt i 129 then (bif Nat.blt i 128 then (some .int) else (some .int)) else (some .boolean)) else (bif Nat.blt i 132 then (bif Nat.blt i 131 then (some .int) else none) else (some .int)))) else (bif Nat.blt i 139 then (bif Nat.blt i 136 then (bif Nat.blt i 135 then (bif Nat.blt i 134 then (some .boolean) else none) else (some .boolean)) else (bif Nat.blt i 138 then (bif Nat.blt i 137 then (some .boolean) else (some .boolean)) else (some .boolean))) else (bif Nat.blt i 142 then (bif Nat.blt i 141 then (bif Nat.blt i 140 then (some .boolean) else (some .boolean)) else (some .boolean)) else (bif Nat.blt i 144 then (bif Nat.blt i 143 then (some .boolean) else none) else none))))) else (bif Nat.blt i 169 then (bif Nat.blt i 157 then (bif Nat.blt i 151 then (bif Nat.blt i 148 then (bif Nat.blt i 147 then (bif Nat.blt i 146 then none else (some .int)) else (some .int)) else (bif Nat.blt i 150 then (bif Nat.blt i 149 then (some .int) else (some .boolean)) else (some .int))) else (bif Nat.blt i 154 then (bif Nat.blt i 153 then (bif Nat.blt i 152 then none else (some .int)) else (some .int)) else (bif Nat.blt i 156 then (bif Nat.blt i 155 then none else (some .int)) else (some .int)))) else (bif Nat.blt i 163 then (bif Nat.blt i 160 then (bif Nat.blt i 159 then (bif Nat.blt i 158 then (some .int) else (some .boolean)) else (some .int)) else (bif Nat.blt i 162 then (bif Nat.blt i 161 then (some .int) else (some .int)) else (some .int))) else (bif Nat.blt i 166 then (bif Nat.blt i 165 then (bif Nat.blt i 164 then (some .int) else (some .int)) else (some .int)) else (bif Nat.blt i 168 then (bif Nat.blt i 167 then (some .int) else none) else (some .int))))) else (bif Nat.blt i 181 then (bif Nat.blt i 175 then (bif Nat.blt i 172 then (bif Nat.blt i 171 then (bif Nat.blt i 170 then (some .int) else none) else (some .int)) else (bif Nat.blt i 174 then (bif Nat.blt i 173 then (some .int) else (some .int)) else (some .int))) else (bif Nat.blt i 178 then (bif Nat.blt i 177 then (bif Nat.blt i 176 then (some .int) else (some .int)) else (some .int)) else (bif Nat.blt i 180 then (bif Nat.blt i 179 then (some .int) else (some .int)) else (some .int)))) else (bif Nat.blt i 187 then (bif Nat.blt i 184 then (bif Nat.blt i 183 then (bif Nat.blt i 182 then (some .int) else (some .char)) else none) else (bif Nat.blt i 186 then (bif Nat.blt i 185 then (some .byte) else (some .boolean)) else (some .int))) else (bif Nat.blt i 190 then (bif Nat.blt i 189 then (bif Nat.blt i 188 then (some .char) else (some .char)) else none) else (bif Nat.blt i 192 then (bif Nat.blt i 191 then (some .char) else (some .int)) else (some .int)))))))) else none
def mj_np (i : Nat) : Nat := bif Nat.blt i 193 then (bif Nat.blt i 97 then (bif Nat.blt i 49 then (bif Nat.blt i 25 then (bif Nat.blt i 13 then (bif Nat.blt i 7 then (bif Nat.blt i 4 then (bif Nat.blt i 2 then (bif Nat.blt i 1 then 3 else 1) else (bif Nat.blt i 3 then 1 else 2)) else (bif Nat.blt i 6 then (bif Nat.blt i 5 then 2 else 2) else 1)) else (bif Nat.blt i 10 then (bif Nat.blt i 9 then (bif Nat.blt i 8 then 1 else 1) else 2) else (bif Nat.blt i 12 then (bif Nat.blt i 11 then 1 else 0) else 2))) else (bif Nat.blt i 19 then (bif Nat.blt i 16 then (bif Nat.blt i 15 then (bif Nat.blt i 14 then 1 else 0) else 2) else (bif Nat.blt i 18 then (bif Nat.blt i 17 then 3 else 2) else 0)) else (bif Nat.blt i 22 then (bif Nat.blt i 21 then (bif Nat.blt i 20 then 1 else 2) else 2) else (bif Nat.blt i 24 then (bif Nat.blt i 23 then 2 else 3) else 3)))) else (bif Nat.blt i 37 then (bif Nat.blt i 31 then (bif Nat.blt i 28 then (bif Nat.blt i 27 then (bif Nat.blt i 26 then 1 else 0) else 1) else (bif Nat.blt i 30 then (bif Nat.blt i 29 then 1 else 3) else 0)) else (bif Nat.blt i 34 then (bif Nat.blt i 33 then (bif Nat.blt i 32 then 0 else 1) else 1) else (bif Nat.blt i 36 then (bif Nat.blt i 35 then 2 else 1) else 2))) else (bif Nat.blt i 43 then (bif Nat.blt i 40 then (bif Nat.blt i 39 then (bif Nat.blt i 38 then 1 else 0) else 0) else (bif Nat.blt i 42 then (bif Nat.blt i 41 then 3 else 1) else 3)) else (bif Nat.blt i 46 then (bif Nat.blt i 45 then (bif Nat.blt i 44 then 2 else 3) else 3) else (bif Nat.blt i 48 then (bif Nat.blt i 47 then 0 else 3) else 1))))) else (bif Nat.blt i 73 then (bif Nat.blt i 61 then (bif Nat.blt i 55 then (bif Nat.blt i 52 then (bif Nat.blt i 51 then (bif Nat.blt i 50 then 1 else 1) else 2) else (bif Nat.blt i 54 then (bif Nat.blt i 53 then 0 else 3) else 2)) else (bif Nat.blt i 58 then (bif Nat.blt i 57 then (bif Nat.blt i 56 then 0 else 1) else 2) else (bif Nat.blt i 60 then (bif Nat.blt i 59 then 3 else 1) else 2))) else (bif Nat.blt i 67 then (bif Nat.blt i 64 then (bif Nat.blt i 63 then (bif Nat.blt i 62 then 0 else 1) else 2) else (bif Nat.blt i 66 then (bif Nat.blt i 65 then 3 else 3) else 1)) else (bif Nat.blt i 70 then (bif Nat.blt i 69 then (bif Nat.blt i 68 then 5 else 1) else 1) else (bif Nat.blt i 72 then (bif Nat.blt i 71 then 3 else 4) else 1)))) else (bif Nat.blt i 85 then (bif Nat.blt i 79 then (bif Nat.blt i 76 then (bif Nat.blt i 75 then (bif Nat.blt i 74 then 2 else 2) else 1) else (bif Nat.blt i 78 then (bif Nat.blt i 77 then 0 else 3) else 0)) else (bif Nat.blt i 82 then (bif Nat.blt i 81 then (bif Nat.blt i 80 then 1 else 1) else 2) else (bif Nat.blt i 84 then (bif Nat.blt i 83 then 1 else 1) else 1))) else (bif Nat.blt i 91 then (bif Nat.blt i 88 then (bif Nat.blt i 87 then (bif Nat.blt i 86 then 2 else 1) else 1) else (bif Nat.blt i 90 then (bif Nat.blt i 89 then 1 else 0) else 1)) else (bif Nat.blt i 94 then (bif Nat.blt i 93 then (bif Nat.blt i 92 then 3 else 3) else 2) else (bif Nat.blt i 96 then (bif Nat.blt i 95 then 1 else 3) else 3)))))) else (bif Nat.blt i 145 then (bif Nat.blt i 121 then (bif Nat.blt i 109 then (bif Nat.blt i 103 then (bif Nat.blt i 100 then (bif Nat.blt i 99 then (bif Nat.blt i 98 then 3 else 1) else 2) else (bif Nat.blt i 102 then (bif Nat.blt i 101 then 0 else 2) else 1)) else (bif Nat.blt i 106 then (bif Nat.blt i 105 then (bif Nat.blt i 104 then 0 else 3) else 0) else (bif Nat.blt i 108 then (bif Nat.blt i 107 then 3 else 0) else 0))) else (bif Nat.blt i 115 then (bif Nat.blt i 112 then (bif Nat.blt i 111 then (bif Nat.blt i 110 then 1 else 0) else 1) else (bif Nat.blt i 114 then (bif Nat.blt i 113 then 0 else 1) else 3)) else (bif Nat.blt i 118 then (bif Nat.blt i 117 then (bif Nat.blt i 116 then 3 else 1) else 5) else (bif Nat.blt i 120 then (bif Nat.blt i 119 then 1 else 1) else 1)))) else (bif Nat.blt i 133 then (bif Nat.blt i 127 then (bif Nat.blt i 124 then (bif Nat.blt i 123 then (bif Nat.blt i 122 then 3 else 4) else 0) else (bif Nat.blt i 126 then (bif Nat.blt i 125 then 2 else 0) else 1)) else (bif Nat.blt i 130 then (bif Nat.blt i 129 then (bif Nat.blt i 128 then 2 else 2) else 2) else (bif Nat.blt i 132 then (bif Nat.blt i 131 then 1 else 0) else 0))) else (bif Nat.blt i 139 then (bif Nat.blt i 136 then (bif Nat.blt i 135 then (bif Nat.blt i 134 then 3 else 0) else 1) else (bif Nat.blt i 138 then (bif Nat.blt i 137 then 2 else 2) else 1)) else (bif Nat.blt i 142 then (bif Nat.blt i 141 then (bif Nat.blt i 140 then 1 else 1) else 2) else (bif Nat.blt i 144 then (bif Nat.blt i 143 then 8 else 3) else 0))))) else (bif Nat.blt i 169 then (bif Nat.blt i 157 then (bif Nat.blt i 151 then (bif Nat.blt i 148 then (bif Nat.blt i 147 then (bif Nat.blt i 146 then 0 else 1) else 1) else (bif Nat.blt i 150 then (bif Nat.blt i 149 then 2 else 2) else 1)) else (bif Nat.blt i 154 then (bif Nat.blt i 153 then (bif Nat.blt i 152 then 1 else 0) else 1) else (bif Nat.blt i 156 then (bif Nat.blt i 155 then 0 else 0) else 0))) else (bif Nat.blt i 163 then (bif Nat.blt i 160 then (bif Nat.blt i 159 then (bif Nat.blt i 158 then 1 else 0) else 1) else (bif Nat.blt i 162 then (bif Nat.blt i 161 then 1 else 1) else 2)) else (bif Nat.blt i 166 then (bif Nat.blt i 165 then (bif Nat.blt i 164 then 1 else 2) else 3) else (bif Nat.blt i 168 then (bif Nat.blt i 167 then 2 else 1) else 3)))) else (bif Nat.blt i 181 then (bif Nat.blt i 175 then (bif Nat.blt i 172 then (bif Nat.blt i 171 then (bif Nat.blt i 170 then 3 else 9) else 2) else (bif Nat.blt i 174 then (bif Nat.blt i 173 then 0 else 0) else 2)) else (bif Nat.blt i 178 then (bif Nat.blt i 177 then (bif Nat.blt i 176 then 1 else 1) else 3) else (bif Nat.blt i 180 then (bif Nat.blt i 179 then 0 else 0) else 3))) else (bif Nat.blt i 187 then (bif Nat.blt i 184 then (bif Nat.blt i 183 then (bif Nat.blt i 182 then 1 else 1) else 2) else (bif Nat.blt i 186 then (bif Nat.blt i 185 then 0 else 0) else 0)) else (bif Nat.blt i 190 then (bif Nat.blt i 189 then (bif Nat.blt i 188 then 2 else 2) else 2) else (bif Nat.blt i 192 then (bif Nat.blt i 191 then 2 else 1) else 3))))))) else 0
def mj_ow (i : Nat) : Nat := bif Nat.blt i 193 then (bif Nat.blt i 97 then (bif Nat.blt i 49 then (bif Nat.blt i 25 then (bif Nat.blt i 13 then (bif Nat.blt i 7 then (bif Nat.blt i 4 then (bif Nat.blt i 2 then (bif Nat.blt i 1 then 0 else 0) else (bif Nat.blt i 3 then 0 else 0)) else (bif Nat.blt i 6 then (bif Nat.blt i 5 then 0 else 0) else 0)) else (bif Nat.blt i 10 then (bif Nat.blt i 9 then (bif Nat.blt i 8 then 0 else 0) else 0) else (bif Nat.blt i 12 then (bif Nat.blt i 11 then 0 else 0) else 0))) else (bif Nat.blt i 19 then (bif Nat.blt i 16 then (bif Nat.blt i 15 then (bif Nat.blt i 14 then 0 else 0) else 0) else (bif Nat.blt i 18 then (bif Nat.blt i 17 then 0 else 0) else 0)) else (bif Nat.blt i 22 then (bif Nat.blt i 21 then (bif Nat.blt i 20 then 1 else 1) else 1) else (bif Nat.blt i 24 then (bif Nat.blt i 23 then 1 else 1) else 1)))) else (bif Nat.blt i 37 then (bif Nat.blt i 31 then (bif Nat.blt i 28 then (bif Nat.blt i 27 then (bif Nat.blt i 26 then 2 else 2) else 2) else (bif Nat.blt i 30 then (bif Nat.blt i 29 then 2 else 2) else 2)) else (bif Nat.blt i 34 then (bif Nat.blt i 33 then (bif Nat.blt i 32 then 2 else 2) else 2) else (bif Nat.blt i 36 then (bif Nat.blt i 35 then 2 else 2) else 2))) else (bif Nat.blt i 43 then (bif Nat.blt i 40 then (bif Nat.blt i 39 then (bif Nat.blt i 38 then 2 else 2) else 2) else (bif Nat.blt i 42 then (bif Nat.blt i 41 then 2 else 2) else 2)) else (bif Nat.blt i 46 then (bif Nat.blt i 45 then (bif Nat.blt i 44 then 2 else 3) else 3) else (bif Nat.blt i 48 then (bif Nat.blt i 47 then 3 else 3) else 4))))) else (bif Nat.blt i 73 then (bif Nat.blt i 61 then (bif Nat.blt i 55 then (bif Nat.blt i 52 then (bif Nat.blt i 51 then (bif Nat.blt i 50 then 4 else 5) else 5) else (bif Nat.blt i 54 then (bif Nat.blt i 53 then 5 else 5) else 5)) else (bif Nat.blt i 58 then (bif Nat.blt i 57 then (bif Nat.blt i 56 then 6 else 6) else 6) else (bif Nat.blt i 60 then (bif Nat.blt i 59 then 6 else 6) else 6))) else (bif Nat.blt i 67 then (bif Nat.blt i 64 then (bif Nat.blt i 63 then (bif Nat.blt i 62 then 7 else 7) else 7) else (bif Nat.blt i 66 then (bif Nat.blt i 65 then 7 else 7) else 7)) else (bif Nat.blt i 70 then (bif Nat.blt i 69 then (bif Nat.blt i 68 then 7 else 7) else 7) else (bif Nat.blt i 72 then (bif Nat.blt i 71 then 7 else 7) else 7)))) else (bif Nat.blt i 85 then (bif Nat.blt i 79 then (bif Nat.blt i 76 then (bif Nat.blt i 75 then (bif Nat.blt i 74 then 7 else 7) else 7) else (bif Nat.blt i 78 then (bif Nat.blt i 77 then 7 else 7) else 7)) else (bif Nat.blt i 82 then (bif Nat.blt i 81 then (bif Nat.blt i 80 then 7 else 7) else 7) else (bif Nat.blt i 84 then (bif Nat.blt i 83 then 7 else 7) else 7))) else (bif Nat.blt i 91 then (bif Nat.blt i 88 then (bif Nat.blt i 87 then (bif Nat.blt i 86 then 7 else 7) else 7) else (bif Nat.blt i 90 then (bif Nat.blt i 89 then 7 else 7) else 7)) else (bif Nat.blt i 94 then (bif Nat.blt i 93 then (bif Nat.blt i 92 then 7 else 7) else 7) else (bif Nat.blt i 96 then (bif Nat.blt i 95 then 7 else 7) else 7)))))) else (bif Nat.blt i 145 then (bif Nat.blt i 121 then (bif Nat.blt i 109 then (bif Nat.blt i 103 then (bif Nat.blt i 100 then (bif Nat.blt i 99 then (bif Nat.blt i 98 then 7 else 7) else 7) else (bif Nat.blt i 102 then (bif Nat.blt i 101 then 7 else 7) else 7)) else (bif Nat.blt i 106 then (bif Nat.blt i 105 then (bif Nat.blt i 104 then 7 else 7) else 8) else (bif Nat.blt i 108 then (bif Nat.blt i 107 then 8 else 8) else 8))) else (bif Nat.blt i 115 then (bif Nat.blt i 112 then (bif Nat.blt i 111 then (bif Nat.blt i 110 then 8 else 8) else 8) else (bif Nat.blt i 114 then (bif Nat.blt i 113 then 8 else 8) else 8)) else (bif Nat.blt i 118 then (bif Nat.blt i 117 then (bif Nat.blt i 116 then 8 else 8) else 8) else (bif Nat.blt i 120 then (bif Nat.blt i 119 then 8 else 8) else 8)))) else (bif Nat.blt i 133 then (bif Nat.blt i 127 then (bif Nat.blt i 124 then (bif Nat.blt i 123 then (bif Nat.blt i 122 then 8 else 8) else 8) else (bif Nat.blt i 126 then (bif Nat.blt i 125 then 8 else 8) else 8)) else (bif Nat.blt i 130 then (bif Nat.blt i 129 then (bif Nat.blt i 128 then 8 else 8) else 8) else (bif Nat.blt i 132 then (bif Nat.blt i 131 then 8 else 8) else 8))) else (bif Nat.blt i 139 then (bif Nat.blt i 136 then (bif Nat.blt i 135 then (bif Nat.blt i 134 then 8 else 8) else 8) else (bif Nat.blt i 138 then (bif Nat.blt i 137 then 8 else 8) else 8)) else (bif Nat.blt i 142 then (bif Nat.blt i 141 then (bif Nat.blt i 140 then 8 else 8) else 8) else (bif Nat.blt i 144 then (bif Nat.blt i 143 then 8 else 8) else 8))))) else (bif Nat.blt i 169 then (bif Nat.blt i 157 then (bif Nat.blt i 151 then (bif Nat.blt i 148 then (bif Nat.blt i 147 then (bif Nat.blt i 146 then 8 else 8) else 8) else (bif Nat.blt i 150 then (bif Nat.blt i 149 then 8 else 8) else 8)) else (bif Nat.blt i 154 then (bif Nat.blt i 153 then (bif Nat.blt i 152 then 8 else 8) else 8) else (bif Nat.blt i 156 then (bif Nat.blt i 155 then 8 else 8) else 8))) else (bif Nat.blt i 163 then (bif Nat.blt i 160 then (bif Nat.blt i 159 then (bif Nat.blt i 158 then 8 else 8) else 8) else (bif Nat.blt i 162 then (bif Nat.blt i 161 then 8 else 8) else 8)) else (bif Nat.blt i 166 then (bif Nat.blt i 165 then (bif Nat.blt i 164 then 8 else 8) else 8) else (bif Nat.blt i 168 then (bif Nat.blt i 167 then 8 else 8) else 8)))) else (bif Nat.blt i 181 then (bif Nat.blt i 175 then (bif Nat.blt i 172 then (bif Nat.blt i 171 then (bif Nat.blt i 170 then 8 else 8) else 8) else (bif Nat.blt i 174 then (bif Nat.blt i 173 then 8 else 8) else 8)) else (bif Nat.blt i 178 then (bif Nat.blt i 177 then (bif Nat.blt i 176 then 8 else 8) else 8) else (bif Nat.blt i 180 then (bif Nat.blt i 179 then 8 else 8) else 8))) else (bif Nat.blt i 187 then (bif Nat.blt i 184 then (bif Nat.blt i 183 then (bif Nat.blt i 182 then 9 else 11) else 11) else (bif Nat.blt i 186 then (bif Nat.blt i 185 then 11 else 11) else 11)) else (bif Nat.blt i 190 then (bif Nat.blt i 189 then (bif Nat.blt i 188 then 12 else 13) else 13) else (bif Nat.blt i 192 then (bif Nat.blt i 191 then 13 else 13) else 15))))))) else 0
/-- 0 static, 1 of an object, 2 a constructor -/
def mj_ki (i : Nat) : Nat := bif Nat.blt i 193 then (bif Nat.blt i 97 then (bif Nat.blt i 49 then (bif Nat.blt i 25 then (bif Nat.blt i 13 then (bif Nat.blt i 7 then (bif Nat.blt i 4 then (bif Nat.blt i 2 then (bif Nat.blt i 1 then 1 else 1) else (bif Nat.blt i 3 then 1 else 1)) else (bif Nat.blt i 6 then (bif Nat.blt i 5 then 1 else 1) else 2)) else (bif Nat.blt i 10 then (bif Nat.blt i 9 then (bif Nat.blt i 8 then 1 else 1) else 1) else (bif Nat.blt i 12 then (bif Nat.blt i 11 then 1 else 1) else 1))) else (bif Nat.blt i 19 then (bif Nat.blt i 16 then (bif Nat.blt i 15 then (bif Nat.blt i 14 then 1 else 1) else 1) else (bif Nat.blt i 18 then (bif Nat.blt i 17 then 1 else 1) else 1)) else (bif Nat.blt i 22 then (bif Nat.blt i 21 then (bif Nat.blt i 20 then 0 else 0) else 0) else (bif Nat.blt i 24 then (bif Nat.blt i 23 then 0 else 0) else 0)))) else (bif Nat.blt i 37 then (bif Nat.blt i 31 then (bif Nat.blt i 28 then (bif Nat.blt i 27 then (bif Nat.blt i 26 then 1 else 1) else 1) else (bif Nat.blt i 30 then (bif Nat.blt i 29 then 1 else 0) else 1)) else (bif Nat.blt i 34 then (bif Nat.blt i 33 then (bif Nat.blt i 32 then 2 else 0) else 0) else (bif Nat.blt i 36 then (bif Nat.blt i 35 then 0 else 1) else 0))) else (bif Nat.blt i 43 then (bif Nat.blt i 40 then (bif Nat.blt i 39 then (bif Nat.blt i 38 then 1 else 1) else 1) else (bif Nat.blt i 42 then (bif Nat.blt i 41 then 1 else 1) else 1)) else (bif Nat.blt i 46 then (bif Nat.blt i 45 then (bif Nat.blt i 44 then 1 else 1) else 1) else (bif Nat.blt i 48 then (bif Nat.blt i 47 then 2 else 1) else 0))))) else (bif Nat.blt i 73 then (bif Nat.blt i 61 then (bif Nat.blt i 55 then (bif Nat.blt i 52 then (bif Nat.blt i 51 then (bif Nat.blt i 50 then 0 else 1) else 0) else (bif Nat.blt i 54 then (bif Nat.blt i 53 then 2 else 0) else 1)) else (bif Nat.blt i 58 then (bif Nat.blt i 57 then (bif Nat.blt i 56 then 2 else 1) else 1) else (bif Nat.blt i 60 then (bif Nat.blt i 59 then 0 else 1) else 1))) else (bif Nat.blt i 67 then (bif Nat.blt i 64 then (bif Nat.blt i 63 then (bif Nat.blt i 62 then 1 else 1) else 0) else (bif Nat.blt i 66 then (bif Nat.blt i 65 then 1 else 1) else 1)) else (bif Nat.blt i 70 then (bif Nat.blt i 69 then (bif Nat.blt i 68 then 1 else 1) else 1) else (bif Nat.blt i 72 then (bif Nat.blt i 71 then 1 else 1) else 1)))) else (bif Nat.blt i 85 then (bif Nat.blt i 79 then (bif Nat.blt i 76 then (bif Nat.blt i 75 then (bif Nat.blt i 74 then 1 else 1) else 1) else (bif Nat.blt i 78 then (bif Nat.blt i 77 then 1 else 0) else 2)) else (bif Nat.blt i 82 then (bif Nat.blt i 81 then (bif Nat.blt i 80 then 0 else 0) else 1) else (bif Nat.blt i 84 then (bif Nat.blt i 83 then 0 else 1) else 0))) else (bif Nat.blt i 91 then (bif Nat.blt i 88 then (bif Nat.blt i 87 then (bif Nat.blt i 86 then 1 else 1) else 0) else (bif Nat.blt i 90 then (bif Nat.blt i 89 then 0 else 1) else 1)) else (bif Nat.blt i 94 then (bif Nat.blt i 93 then (bif Nat.blt i 92 then 1 else 1) else 1) else (bif Nat.blt i 96 then (bif Nat.blt i 95 then 1 else 1) else 1)))))) else (bif Nat.blt i 145 then (bif Nat.blt i 121 then (bif Nat.blt i 109 then (bif Nat.blt i 103 then (bif Nat.blt i 100 then (bif Nat.blt i 99 then (bif Nat.blt i 98 then 1 else 1) else 1) else (bif Nat.blt i 102 then (bif Nat.blt i 101 then 1 else 1) else 1)) else (bif Nat.blt i 106 then (bif Nat.blt i 105 then (bif Nat.blt i 104 then 1 else 1) else 1) else (bif Nat.blt i 108 then (bif Nat.blt i 107 then 1 else 1) else 1))) else (bif Nat.blt i 115 then (bif Nat.blt i 112 then (bif Nat.blt i 111 then (bif Nat.blt i 110 then 1 else 1) else 1) else (bif Nat.blt i 114 then (bif Nat.blt i 113 then 1 else 1) else 1)) else (bif Nat.blt i 118 then (bif Nat.blt i 117 then (bif Nat.blt i 116 then 1 else 1) else 1) else (bif Nat.blt i 120 then (bif Nat.blt i 119 then 1 else 1) else 1)))) else (bif Nat.blt i 133 then (bif Nat.blt i 127 then (bif Nat.blt i 124 then (bif Nat.blt i 123 then (bif Nat.blt i 122 then 1 else 1) else 1) else (bif Nat.blt i 126 then (bif Nat.blt i 125 then 1 else 1) else 1)) else (bif Nat.blt i 130 then (bif Nat.blt i 129 then (bif Nat.blt i 128 then 1 else 1) else 1) else (bif Nat.blt i 132 then (bif Nat.blt i 131 then 1 else 1) else 1))) else (bif Nat.blt i 139 then (bif Nat.blt i 136 then (bif Nat.blt i 135 then (bif Nat.blt i 134 then 0 else 2) else 1) else (bif Nat.blt i 138 then (bif Nat.blt i 137 then 1 else 1) else 0)) else (bif Nat.blt i 142 then (bif Nat.blt i 141 then (bif Nat.blt i 140 then 0 else 1) else 0) else (bif Nat.blt i 144 then (bif Nat.blt i 143 then 1 else 1) else 1))))) else (bif Nat.blt i 169 then (bif Nat.blt i 157 then (bif Nat.blt i 151 then (bif Nat.blt i 148 then (bif Nat.blt i 147 then (bif Nat.blt i 146 then 1 else 1) else 1) else (bif Nat.blt i 150 then (bif Nat.blt i 149 then 1 else 1) else 1)) else (bif Nat.blt i 154 then (bif Nat.blt i 153 then (bif Nat.blt i 152 then 1 else 1) else 1) else (bif Nat.blt i 156 then (bif Nat.blt i 155 then 1 else 1) else 1))) else (bif Nat.blt i 163 then (bif Nat.blt i 160 then (bif Nat.blt i 159 then (bif Nat.blt i 158 then 0 else 1) else 0) else (bif Nat.blt i 162 then (bif Nat.blt i 161 then 0 else 1) else 1)) else (bif Nat.blt i 166 then (bif Nat.blt i 165 then (bif Nat.blt i 164 then 1 else 1) else 1) else (bif Nat.blt i 168 then (bif Nat.blt i 167 then 1 else 1) else 1)))) else (bif Nat.blt i 181 then (bif Nat.blt i 175 then (bif Nat.blt i 172 then (bif Nat.blt i 171 then (bif Nat.blt i 170 then 1 else 1) else 1) else (bif Nat.blt i 174 then (bif Nat.blt i 173 then 1 else 1) else 1)) else (bif Nat.blt i 178 then (bif Nat.blt i 177 then (bif Nat.blt i 176 then 1 else 1) else 0) else (bif Nat.blt i 180 then (bif Nat.blt i 179 then 1 else 1) else 1))) else (bif Nat.blt i 187 then (bif Nat.blt i 184 then (bif Nat.blt i 183 then (bif Nat.blt i 182 then 0 else 1) else 0) else (bif Nat.blt i 186 then (bif Nat.blt i 185 then 1 else 1) else 1)) else (bif Nat.blt i 190 then (bif Nat.blt i 189 then (bif Nat.blt i 188 then 0 else 0) else 0) else (bif Nat.blt i 192 then (bif Nat.blt i 191 then 0 else 0) else 0))))))) else 0
def mj_oc (i : Nat) : Nat := bif Nat.blt i 193 then (bif Nat.blt i 97 then (bif Nat.blt i 49 then (bif Nat.blt i 25 then (bif Nat.blt i 13 then (bif Nat.blt i 7 then (bif Nat.blt i 4 then (bif Nat.blt i 2 then (bif Nat.blt i 1 then 0 else 0) else (bif Nat.blt i 3 then 0 else 0)) else (bif Nat.blt i 6 then (bif Nat.blt i 5 then 0 else 0) else 0)) else (bif Nat.blt i 10 then (bif Nat.blt i 9 then (bif Nat.blt i 8 then 0 else 0) else 0) else (bif Nat.blt i 12 then (bif Nat.blt i 11 then 0 else 0) else 0))) else (bif Nat.blt i 19 then (bif Nat.blt i 16 then (bif Nat.blt i 15 then (bif Nat.blt i 14 then 0 else 0) else 0) else (bif Nat.blt i 18 then (bif Nat.blt i 17 then 0 else 0) else 0)) else (bif Nat.blt i 22 then (bif Nat.blt i 21 then (bif Nat.blt i 20 then 98 else 98) else 98) else (bif Nat.blt i 24 then (bif Nat.blt i 23 then 98 else 98) else 98)))) else (bif Nat.blt i 37 then (bif Nat.blt i 31 then (bif Nat.blt i 28 then (bif Nat.blt i 27 then (bif Nat.blt i 26 then 1 else 1) else 1) else (bif Nat.blt i 30 then (bif Nat.blt i 29 then 1 else 1) else 1)) else (bif Nat.blt i 34 then (bif Nat.blt i 33 then (bif Nat.blt i 32 then 1 else 1) else 1) else (bif Nat.blt i 36 then (bif Nat.blt i 35 then 1 else 1) else 1))) else (bif Nat.blt i 43 then (bif Nat.blt i 40 then (bif Nat.blt i 39 then (bif Nat.blt i 38 then 1 else 1) else 1) else (bif Nat.blt i 42 then (bif Nat.blt i 41 then 1 else 1) else 1)) else (bif Nat.blt i 46 then (bif Nat.blt i 45 then (bif Nat.blt i 44 then 1 else 2) else 2) else (bif Nat.blt i 48 then (bif Nat.blt i 47 then 2 else 2) else 98))))) else (bif Nat.blt i 73 then (bif Nat.blt i 61 then (bif Nat.blt i 55 then (bif Nat.blt i 52 then (bif Nat.blt i 51 then (bif Nat.blt i 50 then 98 else 3) else 3) else (bif Nat.blt i 54 then (bif Nat.blt i 53 then 3 else 3) else 3)) else (bif Nat.blt i 58 then (bif Nat.blt i 57 then (bif Nat.blt i 56 then 4 else 4) else 4) else (bif Nat.blt i 60 then (bif Nat.blt i 59 then 4 else 4) else 4))) else (bif Nat.blt i 67 then (bif Nat.blt i 64 then (bif Nat.blt i 63 then (bif Nat.blt i 62 then 5 else 5) else 5) else (bif Nat.blt i 66 then (bif Nat.blt i 65 then 5 else 5) else 5)) else (bif Nat.blt i 70 then (bif Nat.blt i 69 then (bif Nat.blt i 68 then 5 else 5) else 5) else (bif Nat.blt i 72 then (bif Nat.blt i 71 then 5 else 5) else 5)))) else (bif Nat.blt i 85 then (bif Nat.blt i 79 then (bif Nat.blt i 76 then (bif Nat.blt i 75 then (bif Nat.blt i 74 then 5 else 5) else 5) else (bif Nat.blt i 78 then (bif Nat.blt i 77 then 5 else 5) else 5)) else (bif Nat.blt i 82 then (bif Nat.blt i 81 then (bif Nat.blt i 80 then 5 else 5) else 5) else (bif Nat.blt i 84 then (bif Nat.blt i 83 then 5 else 5) else 5))) else (bif Nat.blt i 91 then (bif Nat.blt i 88 then (bif Nat.blt i 87 then (bif Nat.blt i 86 then 5 else 5) else 5) else (bif Nat.blt i 90 then (bif Nat.blt i 89 then 5 else 5) else 5)) else (bif Nat.blt i 94 then (bif Nat.blt i 93 then (bif Nat.blt i 92 then 5 else 5) else 5) else (bif Nat.blt i 96 then (bif Nat.blt i 95 then 5 else 5) else 5)))))) else (bif Nat.blt i 145 then (bif Nat.blt i 121 then (bif Nat.blt i 109 then (bif Nat.blt i 103 then (bif Nat.blt i 100 then (bif Nat.blt i 99 then (bif Nat.blt i 98 then 5 else 5) else 5) else (bif Nat.blt i 102 then (bif Nat.blt i 101 then 5 else 5) else 5)) else (bif Nat.blt i 106 then (bif Nat.blt i 105 then (bif Nat.blt i 104 then 5 else 5) else 6) else (bif Nat.blt i 108 then (bif Nat.blt i 107 then 6 else 6) else 6))) else (bif Nat.blt i 115 then (bif Nat.blt i 112 then (bif Nat.blt i 111 then (bif Nat.blt i 110 then 6 else 6) else 6) else (bif Nat.blt i 114 then (bif Nat.blt i 113 then 6 else 6) else 6)) else (bif Nat.blt i 118 then (bif Nat.blt i 117 then (bif Nat.blt i 116 then 6 else 6) else 6) else (bif Nat.blt i 120 then (bif Nat.blt i 119 then 6 else 6) else 6)))) else (bif Nat.blt i 133 then (bif Nat.blt i 127 then (bif Nat.blt i 124 then (bif Nat.blt i 123 then (bif Nat.blt i 122 then 6 else 6) else 6) else (bif Nat.blt i 126 then (bif Nat.blt i 125 then 6 else 6) else 6)) else (bif Nat.blt i 130 then (bif Nat.blt i 129 then (bif Nat.blt i 128 then 6 else 6) else 6) else (bif Nat.blt i 132 then (bif Nat.blt i 131 then 6 else 6) else 6))) else (bif Nat.blt i 139 then (bif Nat.blt i 136 then (bif Nat.blt i 135 then (bif Nat.blt i 134 then 6 else 6) else 6) else (bif Nat.blt i 138 then (bif Nat.blt i 137 then 6 else 6) else 6)) else (bif Nat.blt i 142 then (bif Nat.blt i 141 then (bif Nat.blt i 140 then 6 else 6) else 6) else (bif Nat.blt i 144 then (bif Nat.blt i 143 then 6 else 6) else 6))))) else (bif Nat.blt i 169 then (bif Nat.blt i 157 then (bif Nat.blt i 151 then (bif Nat.blt i 148 then (bif Nat.blt i 147 then (bif Nat.blt i 146 then 6 else 6) else 6) else (bif Nat.blt i 150 then (bif Nat.blt i 149 then 6 else 6) else 6)) else (bif Nat.blt i 154 then (bif Nat.blt i 153 then (bif Nat.blt i 152 then 6 else 6) else 6) else (bif Nat.blt i 156 then (bif Nat.blt i 155 then 6 else 6) else 6))) else (bif Nat.blt i 163 then (bif Nat.blt i 160 then (bif Nat.blt i 159 then (bif Nat.blt i 158 then 6 else 6) else 6) else (bif Nat.blt i 162 then (bif Nat.blt i 161 then 6 else 6) else 6)) else (bif Nat.blt i 166 then (bif Nat.blt i 165 then (bif Nat.blt i 164 then 6 else 6) else 6) else (bif Nat.blt i 168 then (bif Nat.blt i 167 then 6 else 6) else 6)))) else (bif Nat.blt i 181 then (bif Nat.blt i 175 then (bif Nat.blt i 172 then (bif Nat.blt i 171 then (bif Nat.blt i 170 then 6 else 6) else 6) else (bif Nat.blt i 174 then (bif Nat.blt i 173 then 6 else 6) else 6)) else (bif Nat.blt i 178 then (bif Nat.blt i 177 then (bif Nat.blt i 176 then 6 else 6) else 6) else (bif Nat.blt i 180 then (bif Nat.blt i 179 then 6 else 6) else 6))) else (bif Nat.blt i 187 then (bif Nat.blt i 184 then (bif Nat.blt i 183 then (bif Nat.blt i 182 then 98 else 99) else 99) else (bif Nat.blt i 186 then (bif Nat.blt i 185 then 99 else 99) else 99)) else (bif Nat.blt i 190 then (bif Nat.blt i 189 then (bif Nat.blt i 188 then 98 else 98) else 98) else (bif Nat.blt i 192 then (bif Nat.blt i 191 then 98 else 98) else 98))))))) else 0
def mj_N : Nat := 193
-- held against the tables
def mj_okF (q : Nat × Nat × Nat × Nat × Nat) : Bool := match vwCl[q.2.2.1]? with
  | some r => decide (q.2.2.2.1 < r.2.2) && decide (lw_tbl[q.2.2.2.2]? = some (Cond.fieldLink (mj_cn q.1) q.2.1 (r.2.1 q.2.2.2.1).1 (r.2.1 q.2.2.2.1).2.1 (r.2.1 q.2.2.2.1).2.2.1))
  | none => false
theorem mj_flk_ok : mj_flk.all mj_okF = true := by decide +kernel
def mj_lw (q : Nat × Nat × Nat × Nat × Nat) : Cond := bif Nat.blt q.2.2.1 1000 then
    (bif Nat.beq q.2.2.2.1 0 then Cond.methodLink (mj_cn q.1) q.2.1 (mj_y q.2.2.1) else Cond.methodLinkNest (mj_cn q.1) q.2.1 (mj_y q.2.2.1) "DreamsPayRent")
  else Cond.methodLink (mj_cn q.1) q.2.1 (bif Nat.beq q.2.2.1 1000 then Lib.objectInit else bif Nat.beq q.2.2.1 1001 then arraycopyName else bif Nat.beq q.2.2.1 1002 then Lib.Math.max.name else Lib.Math.min.name)
def mj_okM (q : Nat × Nat × Nat × Nat × Nat) : Bool := decide (lw_tbl[q.2.2.2.2]? = some (mj_lw q)) && (Nat.blt 999 q.2.2.1 || Nat.blt q.2.2.1 mj_N)
theorem mj_mlk_ok : mj_mlk.all mj_okM = true := by decide +kernel
end
section
def mj_okK (q : Nat × Nat × Nat × Nat × Nat) : Bool := decide (lw_tbl[q.2.2.2.2]? = some (match mj_cv q.2.2.1 with
  | .int v => Cond.constant (mj_cn q.1) q.2.1 v
  | .long v => Cond.constantLong (mj_cn q.1) q.2.1 v
  | _ => Cond.initialized "")) && (bif Nat.beq q.2.2.2.1 0 then (match mj_cv q.2.2.1 with
  | .int _ => true
  | _ => false) else (match mj_cv q.2.2.1 with
  | .long _ => true
  | _ => false))
theorem mj_clk_ok : mj_clk.all mj_okK = true := by decide +kernel
def mj_okS (q : Nat × Nat × Nat × Nat × Nat) : Bool := match mj_xs[q.2.2.1]? with
  | some r => bif Nat.beq q.2.2.2.1 0 then decide (lw_tbl[q.2.2.2.2]? = some (Cond.fieldLink (mj_cn q.1) q.2.1 r.1 r.2.1 r.2.2.1)) else decide (lw_tbl[q.2.2.2.2]? = some (Cond.fieldLinkNest (mj_cn q.1) q.2.1 r.1 r.2.1 r.2.2.1 "DreamsPayRent"))
  | none => false
theorem mj_stk_ok : mj_stk.all mj_okS = true := by decide +kernel
def mj_okX (q : Nat × Nat × Nat × Nat) : Bool := decide (lw_tbl[q.2.2.2]? = some (bif Nat.beq q.2.2.1 0 then Cond.fieldLink (mj_cn q.1) q.2.1 "java/lang/String" "coder" "B" else Cond.fieldLink (mj_cn q.1) q.2.1 "java/lang/String" "value" "[B"))
theorem mj_xfk_ok : mj_xfk.all mj_okX = true := by decide +kernel
def mj_okW (q : Nat × Nat × Nat × Nat) : Bool := match vwCl[q.2.2.1]? with
  | some r => decide (lw_tbl[q.2.2.2]? = some (Cond.classLink (mj_cn q.1) q.2.1 r.1)) && mj_ww.contains (Cond.instantiable r.1 r.2.2) && mj_ww.contains (Cond.initialized r.1)
  | none => false
theorem mj_nwk_ok : mj_nwk.all mj_okW = true := by decide +kernel
theorem mj_mnk_ok : mj_mnk.all (fun q => decide (lw_tbl[q.2.2]? = some (Cond.classLink (mj_cn q.1) q.2.1 "[[I"))) = true := by decide +kernel
/-- method, and the places of its words: code, static or instanceMethod, selects, initialized -/
def mj_mw : List (Nat × Nat × Nat × Nat × Nat) := [(0, 493, 491, 492, 64), (1, 469, 467, 468, 64), (2, 618, 616, 617, 64), (3, 670, 669, 16, 64), (4, 666, 664, 665, 64), (5, 501, 499, 500, 64), (6, 159, 158, 0, 64), (7, 458, 456, 457, 64), (8, 576, 574, 575, 64), (9, 548, 546, 547, 64), (10, 509, 507, 508, 64), (11, 626, 624, 625, 64), (12, 552, 550, 551, 64), (13, 462, 460, 461, 64), (14, 602, 600, 601, 64), (15, 518, 516, 517, 64), (16, 522, 521, 12, 64), (17, 675, 673, 674, 64), (18, 591, 589, 590, 64), (19, 779, 778, 0, 74), (20, 472, 471, 0, 74), (21, 776, 775, 0, 74), (22, 504, 503, 0, 74), (23, 465, 464, 0, 74), (24, 544, 543, 0, 74), (25, 327, 325, 326, 63), (26, 335, 334, 0, 63), (27, 342, 341, 1, 63), (28, 353, 352, 3, 63), (29, 396, 395, 0, 63), (30, 393, 392, 8, 63), (31, 116, 115, 0, 63), (32, 338, 337, 0, 63), (33, 349, 348, 0, 63), (34, 410, 409, 0, 63), (35, 385, 384, 6, 63), (36, 399, 398, 0, 63), (37, 407, 406, 10, 63), (38, 389, 388, 7, 63), (39, 331, 329, 330, 63), (40, 376, 375, 5, 63), (41, 403, 402, 9, 63), (42, 346, 345, 2, 63), (43, 357, 356, 4, 63), (44, 714, 712, 713, 66), (45, 763, 761, 762, 66), (46, 259, 258, 0, 66), (47, 718, 716, 717, 66), (48, 381, 380, 0, 71), (49, 360, 359, 0, 71), (50, 414, 412, 413, 62), (51, 529, 528, 0, 62), (52, 89, 88, 0, 62), (53, 532, 531, 0, 62), (54, 526, 524, 525, 62), (55, 219, 218, 0, 65), (56, 651, 650, 14, 65), (57, 656, 655, 15, 65), (58, 647, 646, 0, 65), (59, 635, 633, 634, 65), (60, 639, 638, 13, 65), (61, 743, 741, 742, 61), (62, 630, 628, 629, 61), (63, 535, 534, 0, 61), (64, 755, 753, 754, 61), (65, 731, 729, 730, 61), (66, 662, 660, 661, 61), (67, 759, 757, 758, 61), (68, 747, 745, 746, 61), (69, 722, 720, 721, 61), (70, 486, 484, 485, 61), (71, 768, 766, 767, 61), (72, 560, 558, 559, 61), (73, 710, 708, 709, 61), (74, 694, 693, 17, 61), (75, 568, 566, 567, 61), (76, 739, 737, 738, 61), (77, 735, 734, 0, 61), (78, 81, 80, 0, 61), (79, 489, 488, 0, 61), (80, 454, 453, 0, 61), (81, 476, 475, 11, 61), (82, 690, 689, 0, 61), (83, 572, 570, 571, 61), (84, 479, 478, 0, 61), (85, 497, 495, 496, 61), (86, 683, 681, 682, 61), (87, 622, 621, 0, 61), (88, 482, 481, 0, 61), (89, 598, 596, 597, 61), (90, 679, 677, 678, 61), (91, 698, 697, 18, 61), (92, 687, 685, 686, 61), (93, 614, 612, 613, 61), (94, 726, 725, 21, 61), (95, 447, 445, 446, 61), (96, 751, 749, 750, 61), (97, 706, 705, 20, 61), (98, 702, 701, 19, 61), (99, 773, 771, 772, 61), (100, 564, 562, 563, 61), (101, 451, 449, 450, 61), (102, 556, 554, 555, 61), (103, 587, 585, 586, 61), (104, 514, 512, 513, 61), (105, 1093, 1092, 42, 73), (106, 1128, 1127, 48, 73), (107, 1101, 1100, 44, 73), (108, 1255, 1253, 1254, 73), (109, 1006, 1005, 26, 73), (110, 1169, 1168, 52, 73), (111, 1190, 1188, 1189, 73), (112, 1081, 1080, 39, 73), (113, 1053, 1052, 33, 73), (114, 1264, 1262, 1263, 73), (115, 1246, 1244, 1245, 73), (116, 1199, 1197, 1198, 73), (117, 1268, 1266, 1267, 73), (118, 1259, 1257, 1258, 73), (119, 1237, 1235, 1236, 73), (120, 1241, 1240, 59, 73), (121, 1014, 1012, 1013, 73), (122, 1272, 1270, 1271, 73), (123, 1077, 1076, 38, 73), (124, 1204, 1203, 57, 73), (125, 1073, 1072, 37, 73), (126, 1036, 1034, 1035, 73), (127, 1227, 1225, 1226, 73), (128, 1223, 1222, 58, 73), (129, 1023, 1022, 28, 73), (130, 1115, 1113, 1114, 73), (131, 1143, 1142, 49, 73), (132, 1251, 1249, 1250, 73), (133, 972, 971, 0, 73), (134, 784, 783, 0, 73), (135, 984, 983, 24, 73), (136, 1065, 1064, 35, 73), (137, 976, 975, 23, 73), (138, 979, 978, 0, 73), (139, 1219, 1218, 0, 73), (140, 1105, 1104, 45, 73), (141, 987, 986, 0, 73), (142, 1061, 1060, 34, 73), (143, 1010, 1009, 27, 73), (144, 1182, 1181, 54, 73), (145, 1186, 1185, 55, 73), (146, 1139, 1137, 1138, 73), (147, 1147, 1146, 50, 73), (148, 1019, 1017, 1018, 73), (149, 1027, 1026, 29, 73), (150, 1212, 1210, 1211, 73), (151, 1173, 1172, 53, 73), (152, 1109, 1108, 46, 73), (153, 1002, 1001, 25, 73), (154, 1049, 1048, 32, 73), (155, 1165, 1163, 1164, 73), (156, 1085, 1084, 40, 73), (157, 1150, 1149, 0, 73), (158, 1089, 1088, 41, 73), (159, 1153, 1152, 0, 73), (160, 1280, 1279, 0, 73), (161, 1069, 1068, 36, 73), (162, 1124, 1123, 47, 73), (163, 1208, 1206, 1207, 73), (164, 1045, 1044, 31, 73), (165, 1216, 1214, 1215, 73), (166, 1177, 1175, 1176, 73), (167, 1195, 1194, 56, 73), (168, 968, 966, 967, 73), (169, 1231, 1229, 1230, 73), (170, 789, 788, 22, 73), (171, 1277, 1275, 1276, 73), (172, 1097, 1096, 43, 73), (173, 1041, 1039, 1040, 73), (174, 997, 995, 996, 73), (175, 1135, 1133, 1134, 73), (176, 1031, 1030, 30, 73), (177, 1131, 1130, 0, 73), (178, 1157, 1155, 1156, 73), (179, 1161, 1160, 51, 73), (180, 1119, 1117, 1118, 73), (181, 607, 606, 0, 76), (182, 289, 287, 288, 67), (183, 299, 298, 0, 67), (184, 283, 281, 282, 67), (185, 293, 291, 292, 67), (186, 279, 277, 278, 67), (187, 296, 295, 0, 68), (188, 307, 306, 0, 70), (189, 310, 309, 0, 70), (190, 317, 316, 0, 70), (191, 313, 312, 0, 70), (192, 304, 303, 0, 69)]
def mj_okI (q : Nat × Nat × Nat × Nat × Nat) : Bool := decide (lw_tbl[q.2.2.1]? = some (bif Nat.beq (mj_ki q.1) 0 then Cond.static (mj_y q.1) else Cond.instanceMethod (mj_y q.1))) && ((bif Nat.beq (mj_ki q.1) 1 then decide (lw_tbl[q.2.2.2.1]? = some (Cond.selects (mj_y q.1).cls (mj_y q.1) (mj_y q.1))) else bif Nat.beq (mj_ki q.1) 2 then decide ((mj_y q.1).name = "<init>") else true) && (decide (lw_tbl[q.2.2.2.2]? = some (Cond.initialized (mj_y q.1).cls)) && (decide ((mj_y q.1).cls ≠ "java/lang/invoke/MethodHandle" ∧ (mj_y q.1).cls ≠ "java/lang/invoke/VarHandle") && (decide ((parseMethodDescriptor (mj_y q.1).desc).map (fun d => d.parameters.length) = some (mj_np q.1)) && (plainName (mj_y q.1).cls && (decide (mj_cn (mj_ow q.1) = (mj_y q.1).cls) && decide (mj_ml q.1 ≤ 45)))))))
theorem mj_mw_I : mj_mw.all mj_okI = true := by decide +kernel
theorem mj_mw_ids : mj_mw.map (fun q => q.1) = List.range mj_N := by decide +kernel
set_option maxRecDepth 1000000 in
theorem mj_t0 : lw_tbl[493]? = some (Cond.code (mj_y 0) (mj_cc 0) (mj_ml 0) (mj_rt 0)) := rfl
set_option maxRecDepth 1000000 in
theorem mj_t1 : lw_tbl[469]? = some (Cond.code (mj_y 1) (mj_cc 1) (mj_ml 1) (mj_rt 1)) := rfl
set_option maxRecDepth 1000000 in
theorem mj_t2 : lw_tbl[618]? = some (Cond.code (mj_y 2) (mj_cc 2) (mj_ml 2) (mj_rt 2)) := rfl
set_option maxRecDepth 1000000 in
theorem mj_t3 : lw_tbl[670]? = some (Cond.code (mj_y 3) (mj_cc 3) (mj_ml 3) (mj_rt 3)) := rfl
set_option maxRecDepth 1000000 in
theorem mj_t4 : lw_tbl[666]? = some (Cond.code (mj_y 4) (mj_cc 4) (mj_ml 4) (mj_rt 4)) := rfl
set_option maxRecDepth 1000000 in
theorem mj_t5 : lw_tbl[501]? = some (Cond.code (mj_y 5) (mj_cc 5) (mj_ml 5) (mj_rt 5)) := rfl
set_option maxRecDepth 1000000 in
theorem mj_t6 : lw_tbl[159]? = some (Cond.code (mj_y 6) (mj_cc 6) (mj_ml 6) (mj_rt 6)) := rfl
set_option maxRecDepth 1000000 in
theorem mj_t7 : lw_tbl[458]? = some (Cond.code (mj_y 7) (mj_cc 7) (mj_ml 7) (mj_rt 7)) := rfl
set_option maxRecDepth 1000000 in
theorem mj_t8 : lw_tbl[576]? = some (Cond.code (mj_y 8) (mj_cc 8) (mj_ml 8) (mj_rt 8)) := rfl
set_option maxRecDepth 1000000 in
theorem mj_t9 : lw_tbl[548]? = some (Cond.code (mj_y 9) (mj_cc 9) (mj_ml 9) (mj_rt 9)) := rfl
set_option maxRecDepth 1000000 in
theorem mj_t10 : lw_tbl[509]? = some (Cond.code (mj_y 10) (mj_cc 10) (mj_ml 10) (mj_rt 10)) := rfl
set_option maxRecDepth 1000000 in
theorem mj_t11 : lw_tbl[626]? = some (Cond.code (mj_y 11) (mj_cc 11) (mj_ml 11) (mj_rt 11)) := rfl
set_option maxRecDepth 1000000 in
theorem mj_t12 : lw_tbl[552]? = some (Cond.code (mj_y 12) (mj_cc 12) (mj_ml 12) (mj_rt 12)) := rfl
set_option maxRecDepth 1000000 in
theorem mj_t13 : lw_tbl[462]? = some (Cond.code (mj_y 13) (mj_cc 13) (mj_ml 13) (mj_rt 13)) := rfl
set_option maxRecDepth 1000000 in
theorem mj_t14 : lw_tbl[602]? = some (Cond.code (mj_y 14) (mj_cc 14) (mj_ml 14) (mj_rt 14)) := rfl
set_option maxRecDepth 1000000 in
theorem mj_t15 : lw_tbl[518]? = some (Cond.code (mj_y 15) (mj_cc 15) (mj_ml 15) (mj_rt 15)) := rfl
set_option maxRecDepth 1000000 in
theorem mj_t16 : lw_tbl[522]? = some (Cond.code (mj_y 16) (mj_cc 16) (mj_ml 16) (mj_rt 16)) := rfl
set_option maxRecDepth 1000000 in
theorem mj_t17 : lw_tbl[675]? = some (Cond.code (mj_y 17) (mj_cc 17) (mj_ml 17) (mj_rt 17)) := rfl
set_option maxRecDepth 1000000 in
theorem mj_t18 : lw_tbl[591]? = some (Cond.code (mj_y 18) (mj_cc 18) (mj_ml 18) (mj_rt 18)) := rfl
set_option maxRecDepth 1000000 in
theorem mj_t19 : lw_tbl[779]? = some (Cond.code (mj_y 19) (mj_cc 19) (mj_ml 19) (mj_rt 19)) := rfl
set_option maxRecDepth 1000000 in
theorem mj_t20 : lw_tbl[472]? = some (Cond.code (mj_y 20) (mj_cc 20) (mj_ml 20) (mj_rt 20)) := rfl
set_option maxRecDepth 1000000 in
theorem mj_t21 : lw_tbl[776]? = some (Cond.code (mj_y 21) (mj_cc 21) (mj_ml 21) (mj_rt 21)) := rfl
set_option maxRecDepth 1000000 in
theorem mj_t22 : lw_tbl[504]? = some (Cond.code (mj_y 22) (mj_cc 22) (mj_ml 22) (mj_rt 22)) := rfl
set_option maxRecDepth 1000000 in
theorem mj_t23 : lw_tbl[465]? = some (Cond.code (mj_y 23) (mj_cc 23) (mj_ml 23) (mj_rt 23)) := rfl
set_option maxRecDepth 1000000 in
theorem mj_t24 : lw_tbl[544]? = some (Cond.code (mj_y 24) (mj_cc 24) (mj_ml 24) (mj_rt 24)) := rfl
set_option maxRecDepth 1000000 in
theorem mj_t25 : lw_tbl[327]? = some (Cond.code (mj_y 25) (mj_cc 25) (mj_ml 25) (mj_rt 25)) := rfl
set_option maxRecDepth 1000000 in
theorem mj_t26 : lw_tbl[335]? = some (Cond.code (mj_y 26) (mj_cc 26) (mj_ml 26) (mj_rt 26)) := rfl
set_option maxRecDepth 1000000 in
theorem mj_t27 : lw_tbl[342]? = some (Cond.code (mj_y 27) (mj_cc 27) (mj_ml 27) (mj_rt 27)) := rfl
set_option maxRecDepth 1000000 in
theorem mj_t28 : lw_tbl[353]? = some (Cond.code (mj_y 28) (mj_cc 28) (mj_ml 28) (mj_rt 28)) := rfl
set_option maxRecDepth 1000000 in
theorem mj_t29 : lw_tbl[396]? = some (Cond.code (mj_y 29) (mj_cc 29) (mj_ml 29) (mj_rt 29)) := rfl
set_option maxRecDepth 1000000 in
theorem mj_t30 : lw_tbl[393]? = some (Cond.code (mj_y 30) (mj_cc 30) (mj_ml 30) (mj_rt 30)) := rfl
set_option maxRecDepth 1000000 in
theorem mj_t31 : lw_tbl[116]? = some (Cond.code (mj_y 31) (mj_cc 31) (mj_ml 31) (mj_rt 31)) := rfl
set_option maxRecDepth 1000000 in
theorem mj_t32 : lw_tbl[338]? = some (Cond.code (mj_y 32) (mj_cc 32) (mj_ml 32) (mj_rt 32)) := rfl
set_option maxRecDepth 1000000 in
theorem mj_t33 : lw_tbl[349]? = some (Cond.code (mj_y 33) (mj_cc 33) (mj_ml 33) (mj_rt 33)) := rfl
set_option maxRecDepth 1000000 in
theorem mj_t34 : lw_tbl[410]? = some (Cond.code (mj_y 34) (mj_cc 34) (mj_ml 34) (mj_rt 34)) := rfl
set_option maxRecDepth 1000000 in
theorem mj_t35 : lw_tbl[385]? = some (Cond.code (mj_y 35) (mj_cc 35) (mj_ml 35) (mj_rt 35)) := rfl
set_option maxRecDepth 1000000 in
theorem mj_t36 : lw_tbl[399]? = some (Cond.code (mj_y 36) (mj_cc 36) (mj_ml 36) (mj_rt 36)) := rfl
set_option maxRecDepth 1000000 in
theorem mj_t37 : lw_tbl[407]? = some (Cond.code (mj_y 37) (mj_cc 37) (mj_ml 37) (mj_rt 37)) := rfl
set_option maxRecDepth 1000000 in
theorem mj_t38 : lw_tbl[389]? = some (Cond.code (mj_y 38) (mj_cc 38) (mj_ml 38) (mj_rt 38)) := rfl
set_option maxRecDepth 1000000 in
theorem mj_t39 : lw_tbl[331]? = some (Cond.code (mj_y 39) (mj_cc 39) (mj_ml 39) (mj_rt 39)) := rfl
set_option maxRecDepth 1000000 in
theorem mj_t40 : lw_tbl[376]? = some (Cond.code (mj_y 40) (mj_cc 40) (mj_ml 40) (mj_rt 40)) := rfl
set_option maxRecDepth 1000000 in
theorem mj_t41 : lw_tbl[403]? = some (Cond.code (mj_y 41) (mj_cc 41) (mj_ml 41) (mj_rt 41)) := rfl
set_option maxRecDepth 1000000 in
theorem mj_t42 : lw_tbl[346]? = some (Cond.code (mj_y 42) (mj_cc 42) (mj_ml 42) (mj_rt 42)) := rfl
set_option maxRecDepth 1000000 in
theorem mj_t43 : lw_tbl[357]? = some (Cond.code (mj_y 43) (mj_cc 43) (mj_ml 43) (mj_rt 43)) := rfl
set_option maxRecDepth 1000000 in
theorem mj_t44 : lw_tbl[714]? = some (Cond.code (mj_y 44) (mj_cc 44) (mj_ml 44) (mj_rt 44)) := rfl
set_option maxRecDepth 1000000 in
theorem mj_t45 : lw_tbl[763]? = some (Cond.code (mj_y 45) (mj_cc 45) (mj_ml 45) (mj_rt 45)) := rfl
set_option maxRecDepth 1000000 in
theorem mj_t46 : lw_tbl[259]? = some (Cond.code (mj_y 46) (mj_cc 46) (mj_ml 46) (mj_rt 46)) := rfl
set_option maxRecDepth 1000000 in
theorem mj_t47 : lw_tbl[718]? = some (Cond.code (mj_y 47) (mj_cc 47) (mj_ml 47) (mj_rt 47)) := rfl
set_option maxRecDepth 1000000 in
theorem mj_t48 : lw_tbl[381]? = some (Cond.code (mj_y 48) (mj_cc 48) (mj_ml 48) (mj_rt 48)) := rfl
set_option maxRecDepth 1000000 in
theorem mj_t49 : lw_tbl[360]? = some (Cond.code (mj_y 49) (mj_cc 49) (mj_ml 49) (mj_rt 49)) := rfl
set_option maxRecDepth 1000000 in
theorem mj_t50 : lw_tbl[414]? = some (Cond.code (mj_y 50) (mj_cc 50) (mj_ml 50) (mj_rt 50)) := rfl
set_option maxRecDepth 1000000 in
theorem mj_t51 : lw_tbl[529]? = some (Cond.code (mj_y 51) (mj_cc 51) (mj_ml 51) (mj_rt 51)) := rfl
set_option maxRecDepth 1000000 in
theorem mj_t52 : lw_tbl[89]? = some (Cond.code (mj_y 52) (mj_cc 52) (mj_ml 52) (mj_rt 52)) := rfl
set_option maxRecDepth 1000000 in
theorem mj_t53 : lw_tbl[532]? = some (Cond.code (mj_y 53) (mj_cc 53) (mj_ml 53) (mj_rt 53)) := rfl
set_option maxRecDepth 1000000 in
theorem mj_t54 : lw_tbl[526]? = some (Cond.code (mj_y 54) (mj_cc 54) (mj_ml 54) (mj_rt 54)) := rfl
set_option maxRecDepth 1000000 in
theorem mj_t55 : lw_tbl[219]? = some (Cond.code (mj_y 55) (mj_cc 55) (mj_ml 55) (mj_rt 55)) := rfl
set_option maxRecDepth 1000000 in
theorem mj_t56 : lw_tbl[651]? = some (Cond.code (mj_y 56) (mj_cc 56) (mj_ml 56) (mj_rt 56)) := rfl
set_option maxRecDepth 1000000 in
theorem mj_t57 : lw_tbl[656]? = some (Cond.code (mj_y 57) (mj_cc 57) (mj_ml 57) (mj_rt 57)) := rfl
set_option maxRecDepth 1000000 in
theorem mj_t58 : lw_tbl[647]? = some (Cond.code (mj_y 58) (mj_cc 58) (mj_ml 58) (mj_rt 58)) := rfl
set_option maxRecDepth 1000000 in
theorem mj_t59 : lw_tbl[635]? = some (Cond.code (mj_y 59) (mj_cc 59) (mj_ml 59) (mj_rt 59)) := rfl
set_option maxRecDepth 1000000 in
theorem mj_t60 : lw_tbl[639]? = some (Cond.code (mj_y 60) (mj_cc 60) (mj_ml 60) (mj_rt 60)) := rfl
set_option maxRecDepth 1000000 in
theorem mj_t61 : lw_tbl[743]? = some (Cond.code (mj_y 61) (mj_cc 61) (mj_ml 61) (mj_rt 61)) := rfl
set_option maxRecDepth 1000000 in
theorem mj_t62 : lw_tbl[630]? = some (Cond.code (mj_y 62) (mj_cc 62) (mj_ml 62) (mj_rt 62)) := rfl
set_option maxRecDepth 1000000 in
theorem mj_t63 : lw_tbl[535]? = some (Cond.code (mj_y 63) (mj_cc 63) (mj_ml 63) (mj_rt 63)) := rfl
set_option maxRecDepth 1000000 in
theorem mj_t64 : lw_tbl[755]? = some (Cond.code (mj_y 64) (mj_cc 64) (mj_ml 64) (mj_rt 64)) := rfl
set_option maxRecDepth 1000000 in
theorem mj_t65 : lw_tbl[731]? = some (Cond.code (mj_y 65) (mj_cc 65) (mj_ml 65) (mj_rt 65)) := rfl
set_option maxRecDepth 1000000 in
theorem mj_t66 : lw_tbl[662]? = some (Cond.code (mj_y 66) (mj_cc 66) (mj_ml 66) (mj_rt 66)) := rfl
set_option maxRecDepth 1000000 in
theorem mj_t67 : lw_tbl[759]? = some (Cond.code (mj_y 67) (mj_cc 67) (mj_ml 67) (mj_rt 67)) := rfl
set_option maxRecDepth 1000000 in
theorem mj_t68 : lw_tbl[747]? = some (Cond.code (mj_y 68) (mj_cc 68) (mj_ml 68) (mj_rt 68)) := rfl
set_option maxRecDepth 1000000 in
theorem mj_t69 : lw_tbl[722]? = some (Cond.code (mj_y 69) (mj_cc 69) (mj_ml 69) (mj_rt 69)) := rfl
set_option maxRecDepth 1000000 in
theorem mj_t70 : lw_tbl[486]? = some (Cond.code (mj_y 70) (mj_cc 70) (mj_ml 70) (mj_rt 70)) := rfl
set_option maxRecDepth 1000000 in
theorem mj_t71 : lw_tbl[768]? = some (Cond.code (mj_y 71) (mj_cc 71) (mj_ml 71) (mj_rt 71)) := rfl
set_option maxRecDepth 1000000 in
theorem mj_t72 : lw_tbl[560]? = some (Cond.code (mj_y 72) (mj_cc 72) (mj_ml 72) (mj_rt 72)) := rfl
set_option maxRecDepth 1000000 in
theorem mj_t73 : lw_tbl[710]? = some (Cond.code (mj_y 73) (mj_cc 73) (mj_ml 73) (mj_rt 73)) := rfl
set_option maxRecDepth 1000000 in
theorem mj_t74 : lw_tbl[694]? = some (Cond.code (mj_y 74) (mj_cc 74) (mj_ml 74) (mj_rt 74)) := rfl
set_option maxRecDepth 1000000 in
theorem mj_t75 : lw_tbl[568]? = some (Cond.code (mj_y 75) (mj_cc 75) (mj_ml 75) (mj_rt 75)) := rfl
set_option maxRecDepth 1000000 in
theorem mj_t76 : lw_tbl[739]? = some (Cond.code (mj_y 76) (mj_cc 76) (mj_ml 76) (mj_rt 76)) := rfl
set_option maxRecDepth 1000000 in
theorem mj_t77 : lw_tbl[735]? = some (Cond.code (mj_y 77) (mj_cc 77) (mj_ml 77) (mj_rt 77)) := rfl
set_option maxRecDepth 1000000 in
theorem mj_t78 : lw_tbl[81]? = some (Cond.code (mj_y 78) (mj_cc 78) (mj_ml 78) (mj_rt 78)) := rfl
set_option maxRecDepth 1000000 in
theorem mj_t79 : lw_tbl[489]? = some (Cond.code (mj_y 79) (mj_cc 79) (mj_ml 79) (mj_rt 79)) := rfl
set_option maxRecDepth 1000000 in
theorem mj_t80 : lw_tbl[454]? = some (Cond.code (mj_y 80) (mj_cc 80) (mj_ml 80) (mj_rt 80)) := rfl
set_option maxRecDepth 1000000 in
theorem mj_t81 : lw_tbl[476]? = some (Cond.code (mj_y 81) (mj_cc 81) (mj_ml 81) (mj_rt 81)) := rfl
set_option maxRecDepth 1000000 in
theorem mj_t82 : lw_tbl[690]? = some (Cond.code (mj_y 82) (mj_cc 82) (mj_ml 82) (mj_rt 82)) := rfl
set_option maxRecDepth 1000000 in
theorem mj_t83 : lw_tbl[572]? = some (Cond.code (mj_y 83) (mj_cc 83) (mj_ml 83) (mj_rt 83)) := rfl
set_option maxRecDepth 1000000 in
theorem mj_t84 : lw_tbl[479]? = some (Cond.code (mj_y 84) (mj_cc 84) (mj_ml 84) (mj_rt 84)) := rfl
set_option maxRecDepth 1000000 in
theorem mj_t85 : lw_tbl[497]? = some (Cond.code (mj_y 85) (mj_cc 85) (mj_ml 85) (mj_rt 85)) := rfl
set_option maxRecDepth 1000000 in
theorem mj_t86 : lw_tbl[683]? = some (Cond.code (mj_y 86) (mj_cc 86) (mj_ml 86) (mj_rt 86)) := rfl
set_option maxRecDepth 1000000 in
theorem mj_t87 : lw_tbl[622]? = some (Cond.code (mj_y 87) (mj_cc 87) (mj_ml 87) (mj_rt 87)) := rfl
set_option maxRecDepth 1000000 in
theorem mj_t88 : lw_tbl[482]? = some (Cond.code (mj_y 88) (mj_cc 88) (mj_ml 88) (mj_rt 88)) := rfl
set_option maxRecDepth 1000000 in
theorem mj_t89 : lw_tbl[598]? = some (Cond.code (mj_y 89) (mj_cc 89) (mj_ml 89) (mj_rt 89)) := rfl
set_option maxRecDepth 1000000 in
theorem mj_t90 : lw_tbl[679]? = some (Cond.code (mj_y 90) (mj_cc 90) (mj_ml 90) (mj_rt 90)) := rfl
set_option maxRecDepth 1000000 in
theorem mj_t91 : lw_tbl[698]? = some (Cond.code (mj_y 91) (mj_cc 91) (mj_ml 91) (mj_rt 91)) := rfl
set_option maxRecDepth 1000000 in
theorem mj_t92 : lw_tbl[687]? = some (Cond.code (mj_y 92) (mj_cc 92) (mj_ml 92) (mj_rt 92)) := rfl
set_option maxRecDepth 1000000 in
theorem mj_t93 : lw_tbl[614]? = some (Cond.code (mj_y 93) (mj_cc 93) (mj_ml 93) (mj_rt 93)) := rfl
set_option maxRecDepth 1000000 in
theorem mj_t94 : lw_tbl[726]? = some (Cond.code (mj_y 94) (mj_cc 94) (mj_ml 94) (mj_rt 94)) := rfl
set_option maxRecDepth 1000000 in
theorem mj_t95 : lw_tbl[447]? = some (Cond.code (mj_y 95) (mj_cc 95) (mj_ml 95) (mj_rt 95)) := rfl
set_option maxRecDepth 1000000 in
theorem mj_t96 : lw_tbl[751]? = some (Cond.code (mj_y 96) (mj_cc 96) (mj_ml 96) (mj_rt 96)) := rfl
set_option maxRecDepth 1000000 in
theorem mj_t97 : lw_tbl[706]? = some (Cond.code (mj_y 97) (mj_cc 97) (mj_ml 97) (mj_rt 97)) := rfl
set_option maxRecDepth 1000000 in
theorem mj_t98 : lw_tbl[702]? = some (Cond.code (mj_y 98) (mj_cc 98) (mj_ml 98) (mj_rt 98)) := rfl
set_option maxRecDepth 1000000 in
theorem mj_t99 : lw_tbl[773]? = some (Cond.code (mj_y 99) (mj_cc 99) (mj_ml 99) (mj_rt 99)) := rfl
set_option maxRecDepth 1000000 in
theorem mj_t100 : lw_tbl[564]? = some (Cond.code (mj_y 100) (mj_cc 100) (mj_ml 100) (mj_rt 100)) := rfl
set_option maxRecDepth 1000000 in
theorem mj_t101 : lw_tbl[451]? = some (Cond.code (mj_y 101) (mj_cc 101) (mj_ml 101) (mj_rt 101)) := rfl
set_option maxRecDepth 1000000 in
theorem mj_t102 : lw_tbl[556]? = some (Cond.code (mj_y 102) (mj_cc 102) (mj_ml 102) (mj_rt 102)) := rfl
set_option maxRecDepth 1000000 in
theorem mj_t103 : lw_tbl[587]? = some (Cond.code (mj_y 103) (mj_cc 103) (mj_ml 103) (mj_rt 103)) := rfl
set_option maxRecDepth 1000000 in
theorem mj_t104 : lw_tbl[514]? = some (Cond.code (mj_y 104) (mj_cc 104) (mj_ml 104) (mj_rt 104)) := rfl
set_option maxRecDepth 1000000 in
theorem mj_t105 : lw_tbl[1093]? = some (Cond.code (mj_y 105) (mj_cc 105) (mj_ml 105) (mj_rt 105)) := rfl
set_option maxRecDepth 1000000 in
theorem mj_t106 : lw_tbl[1128]? = some (Cond.code (mj_y 106) (mj_cc 106) (mj_ml 106) (mj_rt 106)) := rfl
set_option maxRecDepth 1000000 in
theorem mj_t107 : lw_tbl[1101]? = some (Cond.code (mj_y 107) (mj_cc 107) (mj_ml 107) (mj_rt 107)) := rfl
set_option maxRecDepth 1000000 in
theorem mj_t108 : lw_tbl[1255]? = some (Cond.code (mj_y 108) (mj_cc 108) (mj_ml 108) (mj_rt 108)) := rfl
set_option maxRecDepth 1000000 in
theorem mj_t109 : lw_tbl[1006]? = some (Cond.code (mj_y 109) (mj_cc 109) (mj_ml 109) (mj_rt 109)) := rfl
set_option maxRecDepth 1000000 in
theorem mj_t110 : lw_tbl[1169]? = some (Cond.code (mj_y 110) (mj_cc 110) (mj_ml 110) (mj_rt 110)) := rfl
set_option maxRecDepth 1000000 in
theorem mj_t111 : lw_tbl[1190]? = some (Cond.code (mj_y 111) (mj_cc 111) (mj_ml 111) (mj_rt 111)) := rfl
set_option maxRecDepth 1000000 in
theorem mj_t112 : lw_tbl[1081]? = some (Cond.code (mj_y 112) (mj_cc 112) (mj_ml 112) (mj_rt 112)) := rfl
set_option maxRecDepth 1000000 in
theorem mj_t113 : lw_tbl[1053]? = some (Cond.code (mj_y 113) (mj_cc 113) (mj_ml 113) (mj_rt 113)) := rfl
set_option maxRecDepth 1000000 in
theorem mj_t114 : lw_tbl[1264]? = some (Cond.code (mj_y 114) (mj_cc 114) (mj_ml 114) (mj_rt 114)) := rfl
set_option maxRecDepth 1000000 in
theorem mj_t115 : lw_tbl[1246]? = some (Cond.code (mj_y 115) (mj_cc 115) (mj_ml 115) (mj_rt 115)) := rfl
set_option maxRecDepth 1000000 in
theorem mj_t116 : lw_tbl[1199]? = some (Cond.code (mj_y 116) (mj_cc 116) (mj_ml 116) (mj_rt 116)) := rfl
set_option maxRecDepth 1000000 in
theorem mj_t117 : lw_tbl[1268]? = some (Cond.code (mj_y 117) (mj_cc 117) (mj_ml 117) (mj_rt 117)) := rfl
set_option maxRecDepth 1000000 in
theorem mj_t118 : lw_tbl[1259]? = some (Cond.code (mj_y 118) (mj_cc 118) (mj_ml 118) (mj_rt 118)) := rfl
set_option maxRecDepth 1000000 in
theorem mj_t119 : lw_tbl[1237]? = some (Cond.code (mj_y 119) (mj_cc 119) (mj_ml 119) (mj_rt 119)) := rfl
set_option maxRecDepth 1000000 in
theorem mj_t120 : lw_tbl[1241]? = some (Cond.code (mj_y 120) (mj_cc 120) (mj_ml 120) (mj_rt 120)) := rfl
set_option maxRecDepth 1000000 in
theorem mj_t121 : lw_tbl[1014]? = some (Cond.code (mj_y 121) (mj_cc 121) (mj_ml 121) (mj_rt 121)) := rfl
set_option maxRecDepth 1000000 in
theorem mj_t122 : lw_tbl[1272]? = some (Cond.code (mj_y 122) (mj_cc 122) (mj_ml 122) (mj_rt 122)) := rfl
set_option maxRecDepth 1000000 in
theorem mj_t123 : lw_tbl[1077]? = some (Cond.code (mj_y 123) (mj_cc 123) (mj_ml 123) (mj_rt 123)) := rfl
set_option maxRecDepth 1000000 in
theorem mj_t124 : lw_tbl[1204]? = some (Cond.code (mj_y 124) (mj_cc 124) (mj_ml 124) (mj_rt 124)) := rfl
set_option maxRecDepth 1000000 in
theorem mj_t125 : lw_tbl[1073]? = some (Cond.code (mj_y 125) (mj_cc 125) (mj_ml 125) (mj_rt 125)) := rfl
set_option maxRecDepth 1000000 in
theorem mj_t126 : lw_tbl[1036]? = some (Cond.code (mj_y 126) (mj_cc 126) (mj_ml 126) (mj_rt 126)) := rfl
set_option maxRecDepth 1000000 in
theorem mj_t127 : lw_tbl[1227]? = some (Cond.code (mj_y 127) (mj_cc 127) (mj_ml 127) (mj_rt 127)) := rfl
set_option maxRecDepth 1000000 in
theorem mj_t128 : lw_tbl[1223]? = some (Cond.code (mj_y 128) (mj_cc 128) (mj_ml 128) (mj_rt 128)) := rfl
set_option maxRecDepth 1000000 in
theorem mj_t129 : lw_tbl[1023]? = some (Cond.code (mj_y 129) (mj_cc 129) (mj_ml 129) (mj_rt 129)) := rfl
set_option maxRecDepth 1000000 in
theorem mj_t130 : lw_tbl[1115]? = some (Cond.code (mj_y 130) (mj_cc 130) (mj_ml 130) (mj_rt 130)) := rfl
set_option maxRecDepth 1000000 in
theorem mj_t131 : lw_tbl[1143]? = some (Cond.code (mj_y 131) (mj_cc 131) (mj_ml 131) (mj_rt 131)) := rfl
set_option maxRecDepth 1000000 in
theorem mj_t132 : lw_tbl[1251]? = some (Cond.code (mj_y 132) (mj_cc 132) (mj_ml 132) (mj_rt 132)) := rfl
set_option maxRecDepth 1000000 in
theorem mj_t133 : lw_tbl[972]? = some (Cond.code (mj_y 133) (mj_cc 133) (mj_ml 133) (mj_rt 133)) := rfl
set_option maxRecDepth 1000000 in
theorem mj_t134 : lw_tbl[784]? = some (Cond.code (mj_y 134) (mj_cc 134) (mj_ml 134) (mj_rt 134)) := rfl
set_option maxRecDepth 1000000 in
theorem mj_t135 : lw_tbl[984]? = some (Cond.code (mj_y 135) (mj_cc 135) (mj_ml 135) (mj_rt 135)) := rfl
set_option maxRecDepth 1000000 in
theorem mj_t136 : lw_tbl[1065]? = some (Cond.code (mj_y 136) (mj_cc 136) (mj_ml 136) (mj_rt 136)) := rfl
set_option maxRecDepth 1000000 in
theorem mj_t137 : lw_tbl[976]? = some (Cond.code (mj_y 137) (mj_cc 137) (mj_ml 137) (mj_rt 137)) := rfl
set_option maxRecDepth 1000000 in
theorem mj_t138 : lw_tbl[979]? = some (Cond.code (mj_y 138) (mj_cc 138) (mj_ml 138) (mj_rt 138)) := rfl
set_option maxRecDepth 1000000 in
theorem mj_t139 : lw_tbl[1219]? = some (Cond.code (mj_y 139) (mj_cc 139) (mj_ml 139) (mj_rt 139)) := rfl
set_option maxRecDepth 1000000 in
theorem mj_t140 : lw_tbl[1105]? = some (Cond.code (mj_y 140) (mj_cc 140) (mj_ml 140) (mj_rt 140)) := rfl
set_option maxRecDepth 1000000 in
theorem mj_t141 : lw_tbl[987]? = some (Cond.code (mj_y 141) (mj_cc 141) (mj_ml 141) (mj_rt 141)) := rfl
set_option maxRecDepth 1000000 in
theorem mj_t142 : lw_tbl[1061]? = some (Cond.code (mj_y 142) (mj_cc 142) (mj_ml 142) (mj_rt 142)) := rfl
set_option maxRecDepth 1000000 in
theorem mj_t143 : lw_tbl[1010]? = some (Cond.code (mj_y 143) (mj_cc 143) (mj_ml 143) (mj_rt 143)) := rfl
set_option maxRecDepth 1000000 in
theorem mj_t144 : lw_tbl[1182]? = some (Cond.code (mj_y 144) (mj_cc 144) (mj_ml 144) (mj_rt 144)) := rfl
set_option maxRecDepth 1000000 in
theorem mj_t145 : lw_tbl[1186]? = some (Cond.code (mj_y 145) (mj_cc 145) (mj_ml 145) (mj_rt 145)) := rfl
set_option maxRecDepth 1000000 in
theorem mj_t146 : lw_tbl[1139]? = some (Cond.code (mj_y 146) (mj_cc 146) (mj_ml 146) (mj_rt 146)) := rfl
set_option maxRecDepth 1000000 in
theorem mj_t147 : lw_tbl[1147]? = some (Cond.code (mj_y 147) (mj_cc 147) (mj_ml 147) (mj_rt 147)) := rfl
set_option maxRecDepth 1000000 in
theorem mj_t148 : lw_tbl[1019]? = some (Cond.code (mj_y 148) (mj_cc 148) (mj_ml 148) (mj_rt 148)) := rfl
set_option maxRecDepth 1000000 in
theorem mj_t149 : lw_tbl[1027]? = some (Cond.code (mj_y 149) (mj_cc 149) (mj_ml 149) (mj_rt 149)) := rfl
set_option maxRecDepth 1000000 in
theorem mj_t150 : lw_tbl[1212]? = some (Cond.code (mj_y 150) (mj_cc 150) (mj_ml 150) (mj_rt 150)) := rfl
set_option maxRecDepth 1000000 in
theorem mj_t151 : lw_tbl[1173]? = some (Cond.code (mj_y 151) (mj_cc 151) (mj_ml 151) (mj_rt 151)) := rfl
set_option maxRecDepth 1000000 in
theorem mj_t152 : lw_tbl[1109]? = some (Cond.code (mj_y 152) (mj_cc 152) (mj_ml 152) (mj_rt 152)) := rfl
set_option maxRecDepth 1000000 in
theorem mj_t153 : lw_tbl[1002]? = some (Cond.code (mj_y 153) (mj_cc 153) (mj_ml 153) (mj_rt 153)) := rfl
set_option maxRecDepth 1000000 in
theorem mj_t154 : lw_tbl[1049]? = some (Cond.code (mj_y 154) (mj_cc 154) (mj_ml 154) (mj_rt 154)) := rfl
set_option maxRecDepth 1000000 in
theorem mj_t155 : lw_tbl[1165]? = some (Cond.code (mj_y 155) (mj_cc 155) (mj_ml 155) (mj_rt 155)) := rfl
set_option maxRecDepth 1000000 in
theorem mj_t156 : lw_tbl[1085]? = some (Cond.code (mj_y 156) (mj_cc 156) (mj_ml 156) (mj_rt 156)) := rfl
set_option maxRecDepth 1000000 in
theorem mj_t157 : lw_tbl[1150]? = some (Cond.code (mj_y 157) (mj_cc 157) (mj_ml 157) (mj_rt 157)) := rfl
set_option maxRecDepth 1000000 in
theorem mj_t158 : lw_tbl[1089]? = some (Cond.code (mj_y 158) (mj_cc 158) (mj_ml 158) (mj_rt 158)) := rfl
set_option maxRecDepth 1000000 in
theorem mj_t159 : lw_tbl[1153]? = some (Cond.code (mj_y 159) (mj_cc 159) (mj_ml 159) (mj_rt 159)) := rfl
set_option maxRecDepth 1000000 in
theorem mj_t160 : lw_tbl[1280]? = some (Cond.code (mj_y 160) (mj_cc 160) (mj_ml 160) (mj_rt 160)) := rfl
set_option maxRecDepth 1000000 in
theorem mj_t161 : lw_tbl[1069]? = some (Cond.code (mj_y 161) (mj_cc 161) (mj_ml 161) (mj_rt 161)) := rfl
set_option maxRecDepth 1000000 in
theorem mj_t162 : lw_tbl[1124]? = some (Cond.code (mj_y 162) (mj_cc 162) (mj_ml 162) (mj_rt 162)) := rfl
set_option maxRecDepth 1000000 in
theorem mj_t163 : lw_tbl[1208]? = some (Cond.code (mj_y 163) (mj_cc 163) (mj_ml 163) (mj_rt 163)) := rfl
set_option maxRecDepth 1000000 in
theorem mj_t164 : lw_tbl[1045]? = some (Cond.code (mj_y 164) (mj_cc 164) (mj_ml 164) (mj_rt 164)) := rfl
set_option maxRecDepth 1000000 in
theorem mj_t165 : lw_tbl[1216]? = some (Cond.code (mj_y 165) (mj_cc 165) (mj_ml 165) (mj_rt 165)) := rfl
set_option maxRecDepth 1000000 in
theorem mj_t166 : lw_tbl[1177]? = some (Cond.code (mj_y 166) (mj_cc 166) (mj_ml 166) (mj_rt 166)) := rfl
set_option maxRecDepth 1000000 in
theorem mj_t167 : lw_tbl[1195]? = some (Cond.code (mj_y 167) (mj_cc 167) (mj_ml 167) (mj_rt 167)) := rfl
set_option maxRecDepth 1000000 in
theorem mj_t168 : lw_tbl[968]? = some (Cond.code (mj_y 168) (mj_cc 168) (mj_ml 168) (mj_rt 168)) := rfl
set_option maxRecDepth 1000000 in
theorem mj_t169 : lw_tbl[1231]? = some (Cond.code (mj_y 169) (mj_cc 169) (mj_ml 169) (mj_rt 169)) := rfl
set_option maxRecDepth 1000000 in
theorem mj_t170 : lw_tbl[789]? = some (Cond.code (mj_y 170) (mj_cc 170) (mj_ml 170) (mj_rt 170)) := rfl
set_option maxRecDepth 1000000 in
theorem mj_t171 : lw_tbl[1277]? = some (Cond.code (mj_y 171) (mj_cc 171) (mj_ml 171) (mj_rt 171)) := rfl
set_option maxRecDepth 1000000 in
theorem mj_t172 : lw_tbl[1097]? = some (Cond.code (mj_y 172) (mj_cc 172) (mj_ml 172) (mj_rt 172)) := rfl
set_option maxRecDepth 1000000 in
theorem mj_t173 : lw_tbl[1041]? = some (Cond.code (mj_y 173) (mj_cc 173) (mj_ml 173) (mj_rt 173)) := rfl
set_option maxRecDepth 1000000 in
theorem mj_t174 : lw_tbl[997]? = some (Cond.code (mj_y 174) (mj_cc 174) (mj_ml 174) (mj_rt 174)) := rfl
set_option maxRecDepth 1000000 in
theorem mj_t175 : lw_tbl[1135]? = some (Cond.code (mj_y 175) (mj_cc 175) (mj_ml 175) (mj_rt 175)) := rfl
set_option maxRecDepth 1000000 in
theorem mj_t176 : lw_tbl[1031]? = some (Cond.code (mj_y 176) (mj_cc 176) (mj_ml 176) (mj_rt 176)) := rfl
set_option maxRecDepth 1000000 in
theorem mj_t177 : lw_tbl[1131]? = some (Cond.code (mj_y 177) (mj_cc 177) (mj_ml 177) (mj_rt 177)) := rfl
set_option maxRecDepth 1000000 in
theorem mj_t178 : lw_tbl[1157]? = some (Cond.code (mj_y 178) (mj_cc 178) (mj_ml 178) (mj_rt 178)) := rfl
set_option maxRecDepth 1000000 in
theorem mj_t179 : lw_tbl[1161]? = some (Cond.code (mj_y 179) (mj_cc 179) (mj_ml 179) (mj_rt 179)) := rfl
set_option maxRecDepth 1000000 in
theorem mj_t180 : lw_tbl[1119]? = some (Cond.code (mj_y 180) (mj_cc 180) (mj_ml 180) (mj_rt 180)) := rfl
set_option maxRecDepth 1000000 in
theorem mj_t181 : lw_tbl[607]? = some (Cond.code (mj_y 181) (mj_cc 181) (mj_ml 181) (mj_rt 181)) := rfl
set_option maxRecDepth 1000000 in
theorem mj_t182 : lw_tbl[289]? = some (Cond.code (mj_y 182) (mj_cc 182) (mj_ml 182) (mj_rt 182)) := rfl
set_option maxRecDepth 1000000 in
theorem mj_t183 : lw_tbl[299]? = some (Cond.code (mj_y 183) (mj_cc 183) (mj_ml 183) (mj_rt 183)) := rfl
set_option maxRecDepth 1000000 in
theorem mj_t184 : lw_tbl[283]? = some (Cond.code (mj_y 184) (mj_cc 184) (mj_ml 184) (mj_rt 184)) := rfl
set_option maxRecDepth 1000000 in
theorem mj_t185 : lw_tbl[293]? = some (Cond.code (mj_y 185) (mj_cc 185) (mj_ml 185) (mj_rt 185)) := rfl
set_option maxRecDepth 1000000 in
theorem mj_t186 : lw_tbl[279]? = some (Cond.code (mj_y 186) (mj_cc 186) (mj_ml 186) (mj_rt 186)) := rfl
set_option maxRecDepth 1000000 in
theorem mj_t187 : lw_tbl[296]? = some (Cond.code (mj_y 187) (mj_cc 187) (mj_ml 187) (mj_rt 187)) := rfl
set_option maxRecDepth 1000000 in
theorem mj_t188 : lw_tbl[307]? = some (Cond.code (mj_y 188) (mj_cc 188) (mj_ml 188) (mj_rt 188)) := rfl
set_option maxRecDepth 1000000 in
theorem mj_t189 : lw_tbl[310]? = some (Cond.code (mj_y 189) (mj_cc 189) (mj_ml 189) (mj_rt 189)) := rfl
set_option maxRecDepth 1000000 in
theorem mj_t190 : lw_tbl[317]? = some (Cond.code (mj_y 190) (mj_cc 190) (mj_ml 190) (mj_rt 190)) := rfl
set_option maxRecDepth 1000000 in
theorem mj_t191 : lw_tbl[313]? = some (Cond.code (mj_y 191) (mj_cc 191) (mj_ml 191) (mj_rt 191)) := rfl
set_option maxRecDepth 1000000 in
theorem mj_t192 : lw_tbl[304]? = some (Cond.code (mj_y 192) (mj_cc 192) (mj_ml 192) (mj_rt 192)) := rfl
theorem mj_tc0 : ∀ j, j < 16 → Cond.code (mj_y (0 + j)) (mj_cc (0 + j)) (mj_ml (0 + j)) (mj_rt (0 + j)) ∈ mj_ww
  | 0, _ => mj_ww_of mj_t0 rfl
  | 1, _ => mj_ww_of mj_t1 rfl
  | 2, _ => mj_ww_of mj_t2 rfl
  | 3, _ => mj_ww_of mj_t3 rfl
  | 4, _ => mj_ww_of mj_t4 rfl
  | 5, _ => mj_ww_of mj_t5 rfl
  | 6, _ => mj_ww_of mj_t6 rfl
  | 7, _ => mj_ww_of mj_t7 rfl
  | 8, _ => mj_ww_of mj_t8 rfl
  | 9, _ => mj_ww_of mj_t9 rfl
  | 10, _ => mj_ww_of mj_t10 rfl
  | 11, _ => mj_ww_of mj_t11 rfl
  | 12, _ => mj_ww_of mj_t12 rfl
  | 13, _ => mj_ww_of mj_t13 rfl
  | 14, _ => mj_ww_of mj_t14 rfl
  | 15, _ => mj_ww_of mj_t15 rfl
  | j + 16, h => absurd h (by omega)
theorem mj_tc1 : ∀ j, j < 16 → Cond.code (mj_y (16 + j)) (mj_cc (16 + j)) (mj_ml (16 + j)) (mj_rt (16 + j)) ∈ mj_ww
  | 0, _ => mj_ww_of mj_t16 rfl
  | 1, _ => mj_ww_of mj_t17 rfl
  | 2, _ => mj_ww_of mj_t18 rfl
  | 3, _ => mj_ww_of mj_t19 rfl
  | 4, _ => mj_ww_of mj_t20 rfl
  | 5, _ => mj_ww_of mj_t21 rfl
  | 6, _ => mj_ww_of mj_t22 rfl
  | 7, _ => mj_ww_of mj_t23 rfl
  | 8, _ => mj_ww_of mj_t24 rfl
  | 9, _ => mj_ww_of mj_t25 rfl
  | 10, _ => mj_ww_of mj_t26 rfl
  | 11, _ => mj_ww_of mj_t27 rfl
  | 12, _ => mj_ww_of mj_t28 rfl
  | 13, _ => mj_ww_of mj_t29 rfl
  | 14, _ => mj_ww_of mj_t30 rfl
  | 15, _ => mj_ww_of mj_t31 rfl
  | j + 16, h => absurd h (by omega)
theorem mj_tc2 : ∀ j, j < 16 → Cond.code (mj_y (32 + j)) (mj_cc (32 + j)) (mj_ml (32 + j)) (mj_rt (32 + j)) ∈ mj_ww
  | 0, _ => mj_ww_of mj_t32 rfl
  | 1, _ => mj_ww_of mj_t33 rfl
  | 2, _ => mj_ww_of mj_t34 rfl
  | 3, _ => mj_ww_of mj_t35 rfl
  | 4, _ => mj_ww_of mj_t36 rfl
  | 5, _ => mj_ww_of mj_t37 rfl
  | 6, _ => mj_ww_of mj_t38 rfl
  | 7, _ => mj_ww_of mj_t39 rfl
  | 8, _ => mj_ww_of mj_t40 rfl
  | 9, _ => mj_ww_of mj_t41 rfl
  | 10, _ => mj_ww_of mj_t42 rfl
  | 11, _ => mj_ww_of mj_t43 rfl
  | 12, _ => mj_ww_of mj_t44 rfl
  | 13, _ => mj_ww_of mj_t45 rfl
  | 14, _ => mj_ww_of mj_t46 rfl
  | 15, _ => mj_ww_of mj_t47 rfl
  | j + 16, h => absurd h (by omega)
theorem mj_tc3 : ∀ j, j < 16 → Cond.code (mj_y (48 + j)) (mj_cc (48 + j)) (mj_ml (48 + j)) (mj_rt (48 + j)) ∈ mj_ww
  | 0, _ => mj_ww_of mj_t48 rfl
  | 1, _ => mj_ww_of mj_t49 rfl
  | 2, _ => mj_ww_of mj_t50 rfl
  | 3, _ => mj_ww_of mj_t51 rfl
  | 4, _ => mj_ww_of mj_t52 rfl
  | 5, _ => mj_ww_of mj_t53 rfl
  | 6, _ => mj_ww_of mj_t54 rfl
  | 7, _ => mj_ww_of mj_t55 rfl
  | 8, _ => mj_ww_of mj_t56 rfl
  | 9, _ => mj_ww_of mj_t57 rfl
  | 10, _ => mj_ww_of mj_t58 rfl
  | 11, _ => mj_ww_of mj_t59 rfl
  | 12, _ => mj_ww_of mj_t60 rfl
  | 13, _ => mj_ww_of mj_t61 rfl
  | 14, _ => mj_ww_of mj_t62 rfl
  | 15, _ => mj_ww_of mj_t63 rfl
  | j + 16, h => absurd h (by omega)
theorem mj_tc4 : ∀ j, j < 16 → Cond.code (mj_y (64 + j)) (mj_cc (64 + j)) (mj_ml (64 + j)) (mj_rt (64 + j)) ∈ mj_ww
  | 0, _ => mj_ww_of mj_t64 rfl
  | 1, _ => mj_ww_of mj_t65 rfl
  | 2, _ => mj_ww_of mj_t66 rfl
  | 3, _ => mj_ww_of mj_t67 rfl
  | 4, _ => mj_ww_of mj_t68 rfl
  | 5, _ => mj_ww_of mj_t69 rfl
  | 6, _ => mj_ww_of mj_t70 rfl
  | 7, _ => mj_ww_of mj_t71 rfl
  | 8, _ => mj_ww_of mj_t72 rfl
  | 9, _ => mj_ww_of mj_t73 rfl
  | 10, _ => mj_ww_of mj_t74 rfl
  | 11, _ => mj_ww_of mj_t75 rfl
  | 12, _ => mj_ww_of mj_t76 rfl
  | 13, _ => mj_ww_of mj_t77 rfl
  | 14, _ => mj_ww_of mj_t78 rfl
  | 15, _ => mj_ww_of mj_t79 rfl
  | j + 16, h => absurd h (by omega)
theorem mj_tc5 : ∀ j, j < 16 → Cond.code (mj_y (80 + j)) (mj_cc (80 + j)) (mj_ml (80 + j)) (mj_rt (80 + j)) ∈ mj_ww
  | 0, _ => mj_ww_of mj_t80 rfl
  | 1, _ => mj_ww_of mj_t81 rfl
  | 2, _ => mj_ww_of mj_t82 rfl
  | 3, _ => mj_ww_of mj_t83 rfl
  | 4, _ => mj_ww_of mj_t84 rfl
  | 5, _ => mj_ww_of mj_t85 rfl
  | 6, _ => mj_ww_of mj_t86 rfl
  | 7, _ => mj_ww_of mj_t87 rfl
  | 8, _ => mj_ww_of mj_t88 rfl
  | 9, _ => mj_ww_of mj_t89 rfl
  | 10, _ => mj_ww_of mj_t90 rfl
  | 11, _ => mj_ww_of mj_t91 rfl
  | 12, _ => mj_ww_of mj_t92 rfl
  | 13, _ => mj_ww_of mj_t93 rfl
  | 14, _ => mj_ww_of mj_t94 rfl
  | 15, _ => mj_ww_of mj_t95 rfl
  | j + 16, h => absurd h (by omega)
theorem mj_tc6 : ∀ j, j < 16 → Cond.code (mj_y (96 + j)) (mj_cc (96 + j)) (mj_ml (96 + j)) (mj_rt (96 + j)) ∈ mj_ww
  | 0, _ => mj_ww_of mj_t96 rfl
  | 1, _ => mj_ww_of mj_t97 rfl
  | 2, _ => mj_ww_of mj_t98 rfl
  | 3, _ => mj_ww_of mj_t99 rfl
  | 4, _ => mj_ww_of mj_t100 rfl
  | 5, _ => mj_ww_of mj_t101 rfl
  | 6, _ => mj_ww_of mj_t102 rfl
  | 7, _ => mj_ww_of mj_t103 rfl
  | 8, _ => mj_ww_of mj_t104 rfl
  | 9, _ => mj_ww_of mj_t105 rfl
  | 10, _ => mj_ww_of mj_t106 rfl
  | 11, _ => mj_ww_of mj_t107 rfl
  | 12, _ => mj_ww_of mj_t108 rfl
  | 13, _ => mj_ww_of mj_t109 rfl
  | 14, _ => mj_ww_of mj_t110 rfl
  | 15, _ => mj_ww_of mj_t111 rfl
  | j + 16, h => absurd h (by omega)
theorem mj_tc7 : ∀ j, j < 16 → Cond.code (mj_y (112 + j)) (mj_cc (112 + j)) (mj_ml (112 + j)) (mj_rt (112 + j)) ∈ mj_ww
  | 0, _ => mj_ww_of mj_t112 rfl
  | 1, _ => mj_ww_of mj_t113 rfl
  | 2, _ => mj_ww_of mj_t114 rfl
  | 3, _ => mj_ww_of mj_t115 rfl
  | 4, _ => mj_ww_of mj_t116 rfl
  | 5, _ => mj_ww_of mj_t117 rfl
  | 6, _ => mj_ww_of mj_t118 rfl
  | 7, _ => mj_ww_of mj_t119 rfl
  | 8, _ => mj_ww_of mj_t120 rfl
  | 9, _ => mj_ww_of mj_t121 rfl
  | 10, _ => mj_ww_of mj_t122 rfl
  | 11, _ => mj_ww_of mj_t123 rfl
  | 12, _ => mj_ww_of mj_t124 rfl
  | 13, _ => mj_ww_of mj_t125 rfl
  | 14, _ => mj_ww_of mj_t126 rfl
  | 15, _ => mj_ww_of mj_t127 rfl
  | j + 16, h => absurd h (by omega)
theorem mj_tc8 : ∀ j, j < 16 → Cond.code (mj_y (128 + j)) (mj_cc (128 + j)) (mj_ml (128 + j)) (mj_rt (128 + j)) ∈ mj_ww
  | 0, _ => mj_ww_of mj_t128 rfl
  | 1, _ => mj_ww_of mj_t129 rfl
  | 2, _ => mj_ww_of mj_t130 rfl
  | 3, _ => mj_ww_of mj_t131 rfl
  | 4, _ => mj_ww_of mj_t132 rfl
  | 5, _ => mj_ww_of mj_t133 rfl
  | 6, _ => mj_ww_of mj_t134 rfl
  | 7, _ => mj_ww_of mj_t135 rfl
  | 8, _ => mj_ww_of mj_t136 rfl
  | 9, _ => mj_ww_of mj_t137 rfl
  | 10, _ => mj_ww_of mj_t138 rfl
  | 11, _ => mj_ww_of mj_t139 rfl
  | 12, _ => mj_ww_of mj_t140 rfl
  | 13, _ => mj_ww_of mj_t141 rfl
  | 14, _ => mj_ww_of mj_t142 rfl
  | 15, _ => mj_ww_of mj_t143 rfl
  | j + 16, h => absurd h (by omega)
theorem mj_tc9 : ∀ j, j < 16 → Cond.code (mj_y (144 + j)) (mj_cc (144 + j)) (mj_ml (144 + j)) (mj_rt (144 + j)) ∈ mj_ww
  | 0, _ => mj_ww_of mj_t144 rfl
  | 1, _ => mj_ww_of mj_t145 rfl
  | 2, _ => mj_ww_of mj_t146 rfl
  | 3, _ => mj_ww_of mj_t147 rfl
  | 4, _ => mj_ww_of mj_t148 rfl
  | 5, _ => mj_ww_of mj_t149 rfl
  | 6, _ => mj_ww_of mj_t150 rfl
  | 7, _ => mj_ww_of mj_t151 rfl
  | 8, _ => mj_ww_of mj_t152 rfl
  | 9, _ => mj_ww_of mj_t153 rfl
  | 10, _ => mj_ww_of mj_t154 rfl
  | 11, _ => mj_ww_of mj_t155 rfl
  | 12, _ => mj_ww_of mj_t156 rfl
  | 13, _ => mj_ww_of mj_t157 rfl
  | 14, _ => mj_ww_of mj_t158 rfl
  | 15, _ => mj_ww_of mj_t159 rfl
  | j + 16, h => absurd h (by omega)
theorem mj_tc10 : ∀ j, j < 16 → Cond.code (mj_y (160 + j)) (mj_cc (160 + j)) (mj_ml (160 + j)) (mj_rt (160 + j)) ∈ mj_ww
  | 0, _ => mj_ww_of mj_t160 rfl
  | 1, _ => mj_ww_of mj_t161 rfl
  | 2, _ => mj_ww_of mj_t162 rfl
  | 3, _ => mj_ww_of mj_t163 rfl
  | 4, _ => mj_ww_of mj_t164 rfl
  | 5, _ => mj_ww_of mj_t165 rfl
  | 6, _ => mj_ww_of mj_t166 rfl
  | 7, _ => mj_ww_of mj_t167 rfl
  | 8, _ => mj_ww_of mj_t168 rfl
  | 9, _ => mj_ww_of mj_t169 rfl
  | 10, _ => mj_ww_of mj_t170 rfl
  | 11, _ => mj_ww_of mj_t171 rfl
  | 12, _ => mj_ww_of mj_t172 rfl
  | 13, _ => mj_ww_of mj_t173 rfl
  | 14, _ => mj_ww_of mj_t174 rfl
  | 15, _ => mj_ww_of mj_t175 rfl
  | j + 16, h => absurd h (by omega)
theorem mj_tc11 : ∀ j, j < 16 → Cond.code (mj_y (176 + j)) (mj_cc (176 + j)) (mj_ml (176 + j)) (mj_rt (176 + j)) ∈ mj_ww
  | 0, _ => mj_ww_of mj_t176 rfl
  | 1, _ => mj_ww_of mj_t177 rfl
  | 2, _ => mj_ww_of mj_t178 rfl
  | 3, _ => mj_ww_of mj_t179 rfl
  | 4, _ => mj_ww_of mj_t180 rfl
  | 5, _ => mj_ww_of mj_t181 rfl
  | 6, _ => mj_ww_of mj_t182 rfl
  | 7, _ => mj_ww_of mj_t183 rfl
  | 8, _ => mj_ww_of mj_t184 rfl
  | 9, _ => mj_ww_of mj_t185 rfl
  | 10, _ => mj_ww_of mj_t186 rfl
  | 11, _ => mj_ww_of mj_t187 rfl
  | 12, _ => mj_ww_of mj_t188 rfl
  | 13, _ => mj_ww_of mj_t189 rfl
  | 14, _ => mj_ww_of mj_t190 rfl
  | 15, _ => mj_ww_of mj_t191 rfl
  | j + 16, h => absurd h (by omega)
theorem mj_tc12 : ∀ j, j < 1 → Cond.code (mj_y (192 + j)) (mj_cc (192 + j)) (mj_ml (192 + j)) (mj_rt (192 + j)) ∈ mj_ww
  | 0, _ => mj_ww_of mj_t192 rfl
  | j + 1, h => absurd h (by omega)
theorem mj_tca : ∀ i, i < mj_N → Cond.code (mj_y i) (mj_cc i) (mj_ml i) (mj_rt i) ∈ mj_ww := by
  intro i hi
  have hi : i < 193 := hi
  by_cases h0 : i < 16
  · have := mj_tc0 (i - 0) (by omega)
    rw [show 0 + (i - 0) = i by omega] at this
    exact this
  by_cases h1 : i < 32
  · have := mj_tc1 (i - 16) (by omega)
    rw [show 16 + (i - 16) = i by omega] at this
    exact this
  by_cases h2 : i < 48
  · have := mj_tc2 (i - 32) (by omega)
    rw [show 32 + (i - 32) = i by omega] at this
    exact this
  by_cases h3 : i < 64
  · have := mj_tc3 (i - 48) (by omega)
    rw [show 48 + (i - 48) = i by omega] at this
    exact this
  by_cases h4 : i < 80
  · have := mj_tc4 (i - 64) (by omega)
    rw [show 64 + (i - 64) = i by omega] at this
    exact this
  by_cases h5 : i < 96
  · have := mj_tc5 (i - 80) (by omega)
    rw [show 80 + (i - 80) = i by omega] at this
    exact this
  by_cases h6 : i < 112
  · have := mj_tc6 (i - 96) (by omega)
    rw [show 96 + (i - 96) = i by omega] at this
    exact this
  by_cases h7 : i < 128
  · have := mj_tc7 (i - 112) (by omega)
    rw [show 112 + (i - 112) = i by omega] at this
    exact this
  by_cases h8 : i < 144
  · have := mj_tc8 (i - 128) (by omega)
    rw [show 128 + (i - 128) = i by omega] at this
    exact this
  by_cases h9 : i < 160
  · have := mj_tc9 (i - 144) (by omega)
    rw [show 144 + (i - 144) = i by omega] at this
    exact this
  by_cases h10 : i < 176
  · have := mj_tc10 (i - 160) (by omega)
    rw [show 160 + (i - 160) = i by omega] at this
    exact this
  by_cases h11 : i < 192
  · have := mj_tc11 (i - 176) (by omega)
    rw [show 176 + (i - 176) = i by omega] at this
    exact this
  by_cases h12 : i < 193
  · have := mj_tc12 (i - 192) (by omega)
    rw [show 192 + (i - 192) = i by omega] at this
    exact this
  omega
end
